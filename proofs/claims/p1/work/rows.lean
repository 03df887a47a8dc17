section
-- ===== PART A: goes FIRST, ahead of the names: the tables' words, and 'selects' of the private methods out of them =====
/-- a private method of a class that the tables say can be made, by its rows of tables_1 -/
def lw_okq (q : MethodName × Nat) : Prop := (q.1.cls ≠ "java/lang/invoke/MethodHandle" ∧ q.1.cls ≠ "java/lang/invoke/VarHandle") ∧ Cond.instantiable q.1.cls q.2 ∈ tables_1 ∧ Cond.privateMethod q.1 ∈ tables_1 ∧ Cond.instanceMethod q.1 ∈ tables_1
theorem lw_p0 : lw_okq (⟨"ReflectModels", "isClass", "(I)Z"⟩, 15) := ⟨⟨by decide +kernel, by decide +kernel⟩, List.mem_of_getElem? (i := 12) (by decide +kernel), List.mem_of_getElem? (i := 148) (by decide +kernel), List.mem_of_getElem? (i := 149) (by decide +kernel)⟩
theorem lw_p1 : lw_okq (⟨"ReflectModels", "isMissingClass", "(I)Z"⟩, 15) := ⟨⟨by decide +kernel, by decide +kernel⟩, List.mem_of_getElem? (i := 12) (by decide +kernel), List.mem_of_getElem? (i := 166) (by decide +kernel), List.mem_of_getElem? (i := 167) (by decide +kernel)⟩
theorem lw_p2 : lw_okq (⟨"ReflectModels", "ownField", "(LReflectModels$ClassModel;I)I"⟩, 15) := ⟨⟨by decide +kernel, by decide +kernel⟩, List.mem_of_getElem? (i := 12) (by decide +kernel), List.mem_of_getElem? (i := 176) (by decide +kernel), List.mem_of_getElem? (i := 177) (by decide +kernel)⟩
theorem lw_p3 : lw_okq (⟨"ReflectModels", "addMember", "(LReflectModels$Member;)I"⟩, 15) := ⟨⟨by decide +kernel, by decide +kernel⟩, List.mem_of_getElem? (i := 12) (by decide +kernel), List.mem_of_getElem? (i := 239) (by decide +kernel), List.mem_of_getElem? (i := 240) (by decide +kernel)⟩
theorem lw_p4 : lw_okq (⟨"ReflectModels", "hasMissingClass", "(LReflectModels$Signature;)Z"⟩, 15) := ⟨⟨by decide +kernel, by decide +kernel⟩, List.mem_of_getElem? (i := 12) (by decide +kernel), List.mem_of_getElem? (i := 269) (by decide +kernel), List.mem_of_getElem? (i := 270) (by decide +kernel)⟩
theorem lw_p5 : lw_okq (⟨"ReflectModels$Signature", "isOutside", "()Z"⟩, 4) := ⟨⟨by decide +kernel, by decide +kernel⟩, List.mem_of_getElem? (i := 247) (by decide +kernel), List.mem_of_getElem? (i := 273) (by decide +kernel), List.mem_of_getElem? (i := 274) (by decide +kernel)⟩
theorem lw_p6 : lw_okq (⟨"ReflectModels", "bodySuits", "(LReflectModels$Method;)Z"⟩, 15) := ⟨⟨by decide +kernel, by decide +kernel⟩, List.mem_of_getElem? (i := 12) (by decide +kernel), List.mem_of_getElem? (i := 321) (by decide +kernel), List.mem_of_getElem? (i := 322) (by decide +kernel)⟩
theorem lw_p7 : lw_okq (⟨"ReflectModels$Signature", "startsWithInt", "()Z"⟩, 4) := ⟨⟨by decide +kernel, by decide +kernel⟩, List.mem_of_getElem? (i := 247) (by decide +kernel), List.mem_of_getElem? (i := 325) (by decide +kernel), List.mem_of_getElem? (i := 326) (by decide +kernel)⟩
theorem lw_p8 : lw_okq (⟨"ReflectModels$Signature", "startsWithClass", "()Z"⟩, 4) := ⟨⟨by decide +kernel, by decide +kernel⟩, List.mem_of_getElem? (i := 247) (by decide +kernel), List.mem_of_getElem? (i := 329) (by decide +kernel), List.mem_of_getElem? (i := 330) (by decide +kernel)⟩
theorem lw_p9 : lw_okq (⟨"ReflectModels", "fieldToRead", "(I)LReflectModels$Field;"⟩, 15) := ⟨⟨by decide +kernel, by decide +kernel⟩, List.mem_of_getElem? (i := 12) (by decide +kernel), List.mem_of_getElem? (i := 333) (by decide +kernel), List.mem_of_getElem? (i := 334) (by decide +kernel)⟩
theorem lw_p10 : lw_okq (⟨"ReflectModels", "ownMethod", "(LReflectModels$ClassModel;LReflectModels$Signature;)I"⟩, 15) := ⟨⟨by decide +kernel, by decide +kernel⟩, List.mem_of_getElem? (i := 12) (by decide +kernel), List.mem_of_getElem? (i := 337) (by decide +kernel), List.mem_of_getElem? (i := 338) (by decide +kernel)⟩
theorem lw_p11 : lw_okq (⟨"ReflectModels$Signature", "matches", "(LReflectModels$Signature;)Z"⟩, 4) := ⟨⟨by decide +kernel, by decide +kernel⟩, List.mem_of_getElem? (i := 247) (by decide +kernel), List.mem_of_getElem? (i := 341) (by decide +kernel), List.mem_of_getElem? (i := 342) (by decide +kernel)⟩
theorem lw_p12 : lw_okq (⟨"ReflectModels", "visibleField", "(LReflectModels$ClassModel;I)I"⟩, 15) := ⟨⟨by decide +kernel, by decide +kernel⟩, List.mem_of_getElem? (i := 12) (by decide +kernel), List.mem_of_getElem? (i := 353) (by decide +kernel), List.mem_of_getElem? (i := 354) (by decide +kernel)⟩
theorem lw_p13 : lw_okq (⟨"ReflectModels", "addHandle", "(I)I"⟩, 15) := ⟨⟨by decide +kernel, by decide +kernel⟩, List.mem_of_getElem? (i := 12) (by decide +kernel), List.mem_of_getElem? (i := 357) (by decide +kernel), List.mem_of_getElem? (i := 358) (by decide +kernel)⟩
theorem lw_p14 : lw_okq (⟨"ReflectModels", "failed", "(I)I"⟩, 15) := ⟨⟨by decide +kernel, by decide +kernel⟩, List.mem_of_getElem? (i := 12) (by decide +kernel), List.mem_of_getElem? (i := 361) (by decide +kernel), List.mem_of_getElem? (i := 362) (by decide +kernel)⟩
theorem lw_p15 : lw_okq (⟨"ReflectModels", "visibleMethod", "(LReflectModels$ClassModel;LReflectModels$Signature;)I"⟩, 15) := ⟨⟨by decide +kernel, by decide +kernel⟩, List.mem_of_getElem? (i := 12) (by decide +kernel), List.mem_of_getElem? (i := 387) (by decide +kernel), List.mem_of_getElem? (i := 388) (by decide +kernel)⟩
def lw_privs_1 : List (MethodName × Nat) := [(⟨"ReflectModels", "isClass", "(I)Z"⟩, 15), (⟨"ReflectModels", "isMissingClass", "(I)Z"⟩, 15), (⟨"ReflectModels", "ownField", "(LReflectModels$ClassModel;I)I"⟩, 15), (⟨"ReflectModels", "addMember", "(LReflectModels$Member;)I"⟩, 15), (⟨"ReflectModels", "hasMissingClass", "(LReflectModels$Signature;)Z"⟩, 15), (⟨"ReflectModels$Signature", "isOutside", "()Z"⟩, 4), (⟨"ReflectModels", "bodySuits", "(LReflectModels$Method;)Z"⟩, 15), (⟨"ReflectModels$Signature", "startsWithInt", "()Z"⟩, 4), (⟨"ReflectModels$Signature", "startsWithClass", "()Z"⟩, 4), (⟨"ReflectModels", "fieldToRead", "(I)LReflectModels$Field;"⟩, 15), (⟨"ReflectModels", "ownMethod", "(LReflectModels$ClassModel;LReflectModels$Signature;)I"⟩, 15), (⟨"ReflectModels$Signature", "matches", "(LReflectModels$Signature;)Z"⟩, 4), (⟨"ReflectModels", "visibleField", "(LReflectModels$ClassModel;I)I"⟩, 15), (⟨"ReflectModels", "addHandle", "(I)I"⟩, 15), (⟨"ReflectModels", "failed", "(I)I"⟩, 15), (⟨"ReflectModels", "visibleMethod", "(LReflectModels$ClassModel;LReflectModels$Signature;)I"⟩, 15)]
theorem lw_r1 : ∀ q ∈ lw_privs_1, lw_okq q := List.forall_mem_cons.mpr ⟨lw_p0, List.forall_mem_cons.mpr ⟨lw_p1, List.forall_mem_cons.mpr ⟨lw_p2, List.forall_mem_cons.mpr ⟨lw_p3, List.forall_mem_cons.mpr ⟨lw_p4, List.forall_mem_cons.mpr ⟨lw_p5, List.forall_mem_cons.mpr ⟨lw_p6, List.forall_mem_cons.mpr ⟨lw_p7, List.forall_mem_cons.mpr ⟨lw_p8, List.forall_mem_cons.mpr ⟨lw_p9, List.forall_mem_cons.mpr ⟨lw_p10, List.forall_mem_cons.mpr ⟨lw_p11, List.forall_mem_cons.mpr ⟨lw_p12, List.forall_mem_cons.mpr ⟨lw_p13, List.forall_mem_cons.mpr ⟨lw_p14, List.forall_mem_cons.mpr ⟨lw_p15, fun _ h => absurd h List.not_mem_nil⟩⟩⟩⟩⟩⟩⟩⟩⟩⟩⟩⟩⟩⟩⟩⟩
theorem lw_p16 : lw_okq (⟨"ReflectModels", "visibleMethodUpward", "(LReflectModels$ClassModel;LReflectModels$Signature;)I"⟩, 15) := ⟨⟨by decide +kernel, by decide +kernel⟩, List.mem_of_getElem? (i := 12) (by decide +kernel), List.mem_of_getElem? (i := 391) (by decide +kernel), List.mem_of_getElem? (i := 392) (by decide +kernel)⟩
theorem lw_p17 : lw_okq (⟨"ReflectModels", "isHandle", "(I)Z"⟩, 15) := ⟨⟨by decide +kernel, by decide +kernel⟩, List.mem_of_getElem? (i := 12) (by decide +kernel), List.mem_of_getElem? (i := 399) (by decide +kernel), List.mem_of_getElem? (i := 400) (by decide +kernel)⟩
theorem lw_p18 : lw_okq (⟨"ReflectModels$Value", "become", "(IJ)V"⟩, 2) := ⟨⟨by decide +kernel, by decide +kernel⟩, List.mem_of_getElem? (i := 29) (by decide +kernel), List.mem_of_getElem? (i := 409) (by decide +kernel), List.mem_of_getElem? (i := 410) (by decide +kernel)⟩
theorem lw_p19 : lw_okq (⟨"ReflectModels", "isReceiver", "(I)Z"⟩, 15) := ⟨⟨by decide +kernel, by decide +kernel⟩, List.mem_of_getElem? (i := 12) (by decide +kernel), List.mem_of_getElem? (i := 417) (by decide +kernel), List.mem_of_getElem? (i := 418) (by decide +kernel)⟩
theorem lw_p20 : lw_okq (⟨"ReflectModels", "isThing", "(I)Z"⟩, 15) := ⟨⟨by decide +kernel, by decide +kernel⟩, List.mem_of_getElem? (i := 12) (by decide +kernel), List.mem_of_getElem? (i := 421) (by decide +kernel), List.mem_of_getElem? (i := 422) (by decide +kernel)⟩
theorem lw_p21 : lw_okq (⟨"ReflectModels", "getFailure", "(LReflectModels$Handle;LReflectModels$Field;II)I"⟩, 15) := ⟨⟨by decide +kernel, by decide +kernel⟩, List.mem_of_getElem? (i := 12) (by decide +kernel), List.mem_of_getElem? (i := 425) (by decide +kernel), List.mem_of_getElem? (i := 426) (by decide +kernel)⟩
theorem lw_p22 : lw_okq (⟨"ReflectModels", "mayUse", "(LReflectModels$Handle;)Z"⟩, 15) := ⟨⟨by decide +kernel, by decide +kernel⟩, List.mem_of_getElem? (i := 12) (by decide +kernel), List.mem_of_getElem? (i := 429) (by decide +kernel), List.mem_of_getElem? (i := 430) (by decide +kernel)⟩
theorem lw_p23 : lw_okq (⟨"ReflectModels", "reachFailure", "(LReflectModels$Member;I)I"⟩, 15) := ⟨⟨by decide +kernel, by decide +kernel⟩, List.mem_of_getElem? (i := 12) (by decide +kernel), List.mem_of_getElem? (i := 433) (by decide +kernel), List.mem_of_getElem? (i := 434) (by decide +kernel)⟩
theorem lw_p24 : lw_okq (⟨"ReflectModels", "startFailure", "(LReflectModels$ClassModel;)I"⟩, 15) := ⟨⟨by decide +kernel, by decide +kernel⟩, List.mem_of_getElem? (i := 12) (by decide +kernel), List.mem_of_getElem? (i := 437) (by decide +kernel), List.mem_of_getElem? (i := 438) (by decide +kernel)⟩
theorem lw_p25 : lw_okq (⟨"ReflectModels$ClassModel", "standsUnder", "(LReflectModels$ClassModel;)Z"⟩, 12) := ⟨⟨by decide +kernel, by decide +kernel⟩, List.mem_of_getElem? (i := 43) (by decide +kernel), List.mem_of_getElem? (i := 441) (by decide +kernel), List.mem_of_getElem? (i := 442) (by decide +kernel)⟩
theorem lw_p26 : lw_okq (⟨"ReflectModels", "startAlone", "(LReflectModels$ClassModel;)I"⟩, 15) := ⟨⟨by decide +kernel, by decide +kernel⟩, List.mem_of_getElem? (i := 12) (by decide +kernel), List.mem_of_getElem? (i := 445) (by decide +kernel), List.mem_of_getElem? (i := 446) (by decide +kernel)⟩
theorem lw_p27 : lw_okq (⟨"ReflectModels", "addThing", "(LReflectModels$ClassModel;LReflectModels$ClassModel;I)I"⟩, 15) := ⟨⟨by decide +kernel, by decide +kernel⟩, List.mem_of_getElem? (i := 12) (by decide +kernel), List.mem_of_getElem? (i := 449) (by decide +kernel), List.mem_of_getElem? (i := 450) (by decide +kernel)⟩
theorem lw_p28 : lw_okq (⟨"ReflectModels", "firstSlots", "()[J"⟩, 15) := ⟨⟨by decide +kernel, by decide +kernel⟩, List.mem_of_getElem? (i := 12) (by decide +kernel), List.mem_of_getElem? (i := 454) (by decide +kernel), List.mem_of_getElem? (i := 455) (by decide +kernel)⟩
theorem lw_p29 : lw_okq (⟨"ReflectModels", "receiverFailure", "(LReflectModels$Member;I)I"⟩, 15) := ⟨⟨by decide +kernel, by decide +kernel⟩, List.mem_of_getElem? (i := 12) (by decide +kernel), List.mem_of_getElem? (i := 483) (by decide +kernel), List.mem_of_getElem? (i := 484) (by decide +kernel)⟩
theorem lw_p30 : lw_okq (⟨"ReflectModels$Thing", "isOf", "(LReflectModels$ClassModel;)Z"⟩, 5) := ⟨⟨by decide +kernel, by decide +kernel⟩, List.mem_of_getElem? (i := 452) (by decide +kernel), List.mem_of_getElem? (i := 487) (by decide +kernel), List.mem_of_getElem? (i := 488) (by decide +kernel)⟩
theorem lw_p31 : lw_okq (⟨"ReflectModels", "heldIn", "(LReflectModels$Field;I)J"⟩, 15) := ⟨⟨by decide +kernel, by decide +kernel⟩, List.mem_of_getElem? (i := 12) (by decide +kernel), List.mem_of_getElem? (i := 491) (by decide +kernel), List.mem_of_getElem? (i := 492) (by decide +kernel)⟩
def lw_privs_2 : List (MethodName × Nat) := [(⟨"ReflectModels", "visibleMethodUpward", "(LReflectModels$ClassModel;LReflectModels$Signature;)I"⟩, 15), (⟨"ReflectModels", "isHandle", "(I)Z"⟩, 15), (⟨"ReflectModels$Value", "become", "(IJ)V"⟩, 2), (⟨"ReflectModels", "isReceiver", "(I)Z"⟩, 15), (⟨"ReflectModels", "isThing", "(I)Z"⟩, 15), (⟨"ReflectModels", "getFailure", "(LReflectModels$Handle;LReflectModels$Field;II)I"⟩, 15), (⟨"ReflectModels", "mayUse", "(LReflectModels$Handle;)Z"⟩, 15), (⟨"ReflectModels", "reachFailure", "(LReflectModels$Member;I)I"⟩, 15), (⟨"ReflectModels", "startFailure", "(LReflectModels$ClassModel;)I"⟩, 15), (⟨"ReflectModels$ClassModel", "standsUnder", "(LReflectModels$ClassModel;)Z"⟩, 12), (⟨"ReflectModels", "startAlone", "(LReflectModels$ClassModel;)I"⟩, 15), (⟨"ReflectModels", "addThing", "(LReflectModels$ClassModel;LReflectModels$ClassModel;I)I"⟩, 15), (⟨"ReflectModels", "firstSlots", "()[J"⟩, 15), (⟨"ReflectModels", "receiverFailure", "(LReflectModels$Member;I)I"⟩, 15), (⟨"ReflectModels$Thing", "isOf", "(LReflectModels$ClassModel;)Z"⟩, 5), (⟨"ReflectModels", "heldIn", "(LReflectModels$Field;I)J"⟩, 15)]
theorem lw_r2 : ∀ q ∈ lw_privs_2, lw_okq q := List.forall_mem_cons.mpr ⟨lw_p16, List.forall_mem_cons.mpr ⟨lw_p17, List.forall_mem_cons.mpr ⟨lw_p18, List.forall_mem_cons.mpr ⟨lw_p19, List.forall_mem_cons.mpr ⟨lw_p20, List.forall_mem_cons.mpr ⟨lw_p21, List.forall_mem_cons.mpr ⟨lw_p22, List.forall_mem_cons.mpr ⟨lw_p23, List.forall_mem_cons.mpr ⟨lw_p24, List.forall_mem_cons.mpr ⟨lw_p25, List.forall_mem_cons.mpr ⟨lw_p26, List.forall_mem_cons.mpr ⟨lw_p27, List.forall_mem_cons.mpr ⟨lw_p28, List.forall_mem_cons.mpr ⟨lw_p29, List.forall_mem_cons.mpr ⟨lw_p30, List.forall_mem_cons.mpr ⟨lw_p31, fun _ h => absurd h List.not_mem_nil⟩⟩⟩⟩⟩⟩⟩⟩⟩⟩⟩⟩⟩⟩⟩⟩
theorem lw_p32 : lw_okq (⟨"ReflectModels", "hasSlot", "(LReflectModels$Field;I)Z"⟩, 15) := ⟨⟨by decide +kernel, by decide +kernel⟩, List.mem_of_getElem? (i := 12) (by decide +kernel), List.mem_of_getElem? (i := 495) (by decide +kernel), List.mem_of_getElem? (i := 496) (by decide +kernel)⟩
theorem lw_p33 : lw_okq (⟨"ReflectModels$Value", "load", "(IJ)V"⟩, 2) := ⟨⟨by decide +kernel, by decide +kernel⟩, List.mem_of_getElem? (i := 29) (by decide +kernel), List.mem_of_getElem? (i := 499) (by decide +kernel), List.mem_of_getElem? (i := 500) (by decide +kernel)⟩
theorem lw_p34 : lw_okq (⟨"ReflectModels$Value", "widenFor", "(I)V"⟩, 2) := ⟨⟨by decide +kernel, by decide +kernel⟩, List.mem_of_getElem? (i := 29) (by decide +kernel), List.mem_of_getElem? (i := 505) (by decide +kernel), List.mem_of_getElem? (i := 506) (by decide +kernel)⟩
theorem lw_p35 : lw_okq (⟨"ReflectModels", "setFailure", "(LReflectModels$Handle;LReflectModels$Field;I)I"⟩, 15) := ⟨⟨by decide +kernel, by decide +kernel⟩, List.mem_of_getElem? (i := 12) (by decide +kernel), List.mem_of_getElem? (i := 513) (by decide +kernel), List.mem_of_getElem? (i := 514) (by decide +kernel)⟩
theorem lw_p36 : lw_okq (⟨"ReflectModels", "fits", "(LReflectModels$Value;I)Z"⟩, 15) := ⟨⟨by decide +kernel, by decide +kernel⟩, List.mem_of_getElem? (i := 12) (by decide +kernel), List.mem_of_getElem? (i := 517) (by decide +kernel), List.mem_of_getElem? (i := 518) (by decide +kernel)⟩
theorem lw_p37 : lw_okq (⟨"ReflectModels", "isObjectOf", "(LReflectModels$Value;I)Z"⟩, 15) := ⟨⟨by decide +kernel, by decide +kernel⟩, List.mem_of_getElem? (i := 12) (by decide +kernel), List.mem_of_getElem? (i := 521) (by decide +kernel), List.mem_of_getElem? (i := 522) (by decide +kernel)⟩
theorem lw_p38 : lw_okq (⟨"ReflectModels$Value", "toHold", "()J"⟩, 2) := ⟨⟨by decide +kernel, by decide +kernel⟩, List.mem_of_getElem? (i := 29) (by decide +kernel), List.mem_of_getElem? (i := 525) (by decide +kernel), List.mem_of_getElem? (i := 526) (by decide +kernel)⟩
theorem lw_p39 : lw_okq (⟨"ReflectModels", "holdIn", "(LReflectModels$Field;IJ)V"⟩, 15) := ⟨⟨by decide +kernel, by decide +kernel⟩, List.mem_of_getElem? (i := 12) (by decide +kernel), List.mem_of_getElem? (i := 529) (by decide +kernel), List.mem_of_getElem? (i := 530) (by decide +kernel)⟩
theorem lw_p40 : lw_okq (⟨"ReflectModels", "callFailure", "(LReflectModels$Handle;LReflectModels$Method;I)I"⟩, 15) := ⟨⟨by decide +kernel, by decide +kernel⟩, List.mem_of_getElem? (i := 12) (by decide +kernel), List.mem_of_getElem? (i := 537) (by decide +kernel), List.mem_of_getElem? (i := 538) (by decide +kernel)⟩
theorem lw_p41 : lw_okq (⟨"ReflectModels", "valuesFit", "(LReflectModels$Signature;)Z"⟩, 15) := ⟨⟨by decide +kernel, by decide +kernel⟩, List.mem_of_getElem? (i := 12) (by decide +kernel), List.mem_of_getElem? (i := 541) (by decide +kernel), List.mem_of_getElem? (i := 542) (by decide +kernel)⟩
theorem lw_p42 : lw_okq (⟨"ReflectModels", "perform", "(LReflectModels$Method;I)I"⟩, 15) := ⟨⟨by decide +kernel, by decide +kernel⟩, List.mem_of_getElem? (i := 12) (by decide +kernel), List.mem_of_getElem? (i := 545) (by decide +kernel), List.mem_of_getElem? (i := 546) (by decide +kernel)⟩
theorem lw_p43 : lw_okq (⟨"ReflectModels", "isAnsweredByHandler", "(LReflectModels$Method;I)Z"⟩, 15) := ⟨⟨by decide +kernel, by decide +kernel⟩, List.mem_of_getElem? (i := 12) (by decide +kernel), List.mem_of_getElem? (i := 549) (by decide +kernel), List.mem_of_getElem? (i := 550) (by decide +kernel)⟩
theorem lw_p44 : lw_okq (⟨"ReflectModels", "askHandler", "(LReflectModels$Thing;LReflectModels$Signature;)I"⟩, 15) := ⟨⟨by decide +kernel, by decide +kernel⟩, List.mem_of_getElem? (i := 12) (by decide +kernel), List.mem_of_getElem? (i := 553) (by decide +kernel), List.mem_of_getElem? (i := 554) (by decide +kernel)⟩
theorem lw_p45 : lw_okq (⟨"ReflectModels", "echoFirst", "(LReflectModels$Signature;)V"⟩, 15) := ⟨⟨by decide +kernel, by decide +kernel⟩, List.mem_of_getElem? (i := 12) (by decide +kernel), List.mem_of_getElem? (i := 557) (by decide +kernel), List.mem_of_getElem? (i := 558) (by decide +kernel)⟩
theorem lw_p46 : lw_okq (⟨"ReflectModels", "fitOutcome", "(I)I"⟩, 15) := ⟨⟨by decide +kernel, by decide +kernel⟩, List.mem_of_getElem? (i := 12) (by decide +kernel), List.mem_of_getElem? (i := 561) (by decide +kernel), List.mem_of_getElem? (i := 562) (by decide +kernel)⟩
theorem lw_p47 : lw_okq (⟨"ReflectModels", "methodToDo", "(LReflectModels$Method;I)LReflectModels$Method;"⟩, 15) := ⟨⟨by decide +kernel, by decide +kernel⟩, List.mem_of_getElem? (i := 12) (by decide +kernel), List.mem_of_getElem? (i := 565) (by decide +kernel), List.mem_of_getElem? (i := 566) (by decide +kernel)⟩
def lw_privs_3 : List (MethodName × Nat) := [(⟨"ReflectModels", "hasSlot", "(LReflectModels$Field;I)Z"⟩, 15), (⟨"ReflectModels$Value", "load", "(IJ)V"⟩, 2), (⟨"ReflectModels$Value", "widenFor", "(I)V"⟩, 2), (⟨"ReflectModels", "setFailure", "(LReflectModels$Handle;LReflectModels$Field;I)I"⟩, 15), (⟨"ReflectModels", "fits", "(LReflectModels$Value;I)Z"⟩, 15), (⟨"ReflectModels", "isObjectOf", "(LReflectModels$Value;I)Z"⟩, 15), (⟨"ReflectModels$Value", "toHold", "()J"⟩, 2), (⟨"ReflectModels", "holdIn", "(LReflectModels$Field;IJ)V"⟩, 15), (⟨"ReflectModels", "callFailure", "(LReflectModels$Handle;LReflectModels$Method;I)I"⟩, 15), (⟨"ReflectModels", "valuesFit", "(LReflectModels$Signature;)Z"⟩, 15), (⟨"ReflectModels", "perform", "(LReflectModels$Method;I)I"⟩, 15), (⟨"ReflectModels", "isAnsweredByHandler", "(LReflectModels$Method;I)Z"⟩, 15), (⟨"ReflectModels", "askHandler", "(LReflectModels$Thing;LReflectModels$Signature;)I"⟩, 15), (⟨"ReflectModels", "echoFirst", "(LReflectModels$Signature;)V"⟩, 15), (⟨"ReflectModels", "fitOutcome", "(I)I"⟩, 15), (⟨"ReflectModels", "methodToDo", "(LReflectModels$Method;I)LReflectModels$Method;"⟩, 15)]
theorem lw_r3 : ∀ q ∈ lw_privs_3, lw_okq q := List.forall_mem_cons.mpr ⟨lw_p32, List.forall_mem_cons.mpr ⟨lw_p33, List.forall_mem_cons.mpr ⟨lw_p34, List.forall_mem_cons.mpr ⟨lw_p35, List.forall_mem_cons.mpr ⟨lw_p36, List.forall_mem_cons.mpr ⟨lw_p37, List.forall_mem_cons.mpr ⟨lw_p38, List.forall_mem_cons.mpr ⟨lw_p39, List.forall_mem_cons.mpr ⟨lw_p40, List.forall_mem_cons.mpr ⟨lw_p41, List.forall_mem_cons.mpr ⟨lw_p42, List.forall_mem_cons.mpr ⟨lw_p43, List.forall_mem_cons.mpr ⟨lw_p44, List.forall_mem_cons.mpr ⟨lw_p45, List.forall_mem_cons.mpr ⟨lw_p46, List.forall_mem_cons.mpr ⟨lw_p47, fun _ h => absurd h List.not_mem_nil⟩⟩⟩⟩⟩⟩⟩⟩⟩⟩⟩⟩⟩⟩⟩⟩
theorem lw_p48 : lw_okq (⟨"ReflectModels$Method", "canBeChosen", "()Z"⟩, 8) := ⟨⟨by decide +kernel, by decide +kernel⟩, List.mem_of_getElem? (i := 287) (by decide +kernel), List.mem_of_getElem? (i := 569) (by decide +kernel), List.mem_of_getElem? (i := 570) (by decide +kernel)⟩
theorem lw_p49 : lw_okq (⟨"ReflectModels", "runBody", "(LReflectModels$Method;I)I"⟩, 15) := ⟨⟨by decide +kernel, by decide +kernel⟩, List.mem_of_getElem? (i := 12) (by decide +kernel), List.mem_of_getElem? (i := 573) (by decide +kernel), List.mem_of_getElem? (i := 574) (by decide +kernel)⟩
theorem lw_p50 : lw_okq (⟨"ReflectModels", "divide", "()I"⟩, 15) := ⟨⟨by decide +kernel, by decide +kernel⟩, List.mem_of_getElem? (i := 12) (by decide +kernel), List.mem_of_getElem? (i := 577) (by decide +kernel), List.mem_of_getElem? (i := 578) (by decide +kernel)⟩
theorem lw_p51 : lw_okq (⟨"ReflectModels", "castFirst", "(I)I"⟩, 15) := ⟨⟨by decide +kernel, by decide +kernel⟩, List.mem_of_getElem? (i := 12) (by decide +kernel), List.mem_of_getElem? (i := 581) (by decide +kernel), List.mem_of_getElem? (i := 582) (by decide +kernel)⟩
theorem lw_p52 : lw_okq (⟨"ReflectModels", "readFieldOfFirst", "(I)I"⟩, 15) := ⟨⟨by decide +kernel, by decide +kernel⟩, List.mem_of_getElem? (i := 12) (by decide +kernel), List.mem_of_getElem? (i := 585) (by decide +kernel), List.mem_of_getElem? (i := 586) (by decide +kernel)⟩
theorem lw_p53 : lw_okq (⟨"ReflectModels", "pickItem", "(I)I"⟩, 15) := ⟨⟨by decide +kernel, by decide +kernel⟩, List.mem_of_getElem? (i := 12) (by decide +kernel), List.mem_of_getElem? (i := 589) (by decide +kernel), List.mem_of_getElem? (i := 590) (by decide +kernel)⟩
theorem lw_p54 : lw_okq (⟨"ReflectModels", "storeFirst", "(LReflectModels$Method;)I"⟩, 15) := ⟨⟨by decide +kernel, by decide +kernel⟩, List.mem_of_getElem? (i := 12) (by decide +kernel), List.mem_of_getElem? (i := 594) (by decide +kernel), List.mem_of_getElem? (i := 595) (by decide +kernel)⟩
theorem lw_p55 : lw_okq (⟨"ReflectModels$Value", "becomeGiven", "(II)V"⟩, 2) := ⟨⟨by decide +kernel, by decide +kernel⟩, List.mem_of_getElem? (i := 29) (by decide +kernel), List.mem_of_getElem? (i := 598) (by decide +kernel), List.mem_of_getElem? (i := 599) (by decide +kernel)⟩
theorem lw_p56 : lw_okq (⟨"ReflectModels", "makeFailure", "(LReflectModels$ClassModel;)I"⟩, 15) := ⟨⟨by decide +kernel, by decide +kernel⟩, List.mem_of_getElem? (i := 12) (by decide +kernel), List.mem_of_getElem? (i := 606) (by decide +kernel), List.mem_of_getElem? (i := 607) (by decide +kernel)⟩
theorem lw_p57 : lw_okq (⟨"ReflectModels", "recordFits", "(LReflectModels$ClassModel;)Z"⟩, 15) := ⟨⟨by decide +kernel, by decide +kernel⟩, List.mem_of_getElem? (i := 12) (by decide +kernel), List.mem_of_getElem? (i := 610) (by decide +kernel), List.mem_of_getElem? (i := 611) (by decide +kernel)⟩
theorem lw_p58 : lw_okq (⟨"ReflectModels", "fillRecord", "(LReflectModels$ClassModel;I)V"⟩, 15) := ⟨⟨by decide +kernel, by decide +kernel⟩, List.mem_of_getElem? (i := 12) (by decide +kernel), List.mem_of_getElem? (i := 614) (by decide +kernel), List.mem_of_getElem? (i := 615) (by decide +kernel)⟩
theorem lw_p59 : lw_okq (⟨"ReflectModelsModel", "isClass", "(I)Z"⟩, 42) := ⟨⟨by decide +kernel, by decide +kernel⟩, List.mem_of_getElem? (i := 658) (by decide +kernel), List.mem_of_getElem? (i := 797) (by decide +kernel), List.mem_of_getElem? (i := 798) (by decide +kernel)⟩
theorem lw_p60 : lw_okq (⟨"ReflectModelsModel", "isNoClass", "(I)Z"⟩, 42) := ⟨⟨by decide +kernel, by decide +kernel⟩, List.mem_of_getElem? (i := 658) (by decide +kernel), List.mem_of_getElem? (i := 813) (by decide +kernel), List.mem_of_getElem? (i := 814) (by decide +kernel)⟩
theorem lw_p61 : lw_okq (⟨"ReflectModelsModel", "hasField", "(II)Z"⟩, 42) := ⟨⟨by decide +kernel, by decide +kernel⟩, List.mem_of_getElem? (i := 658) (by decide +kernel), List.mem_of_getElem? (i := 818) (by decide +kernel), List.mem_of_getElem? (i := 819) (by decide +kernel)⟩
theorem lw_p62 : lw_okq (⟨"ReflectModelsModel", "first", "(II)V"⟩, 42) := ⟨⟨by decide +kernel, by decide +kernel⟩, List.mem_of_getElem? (i := 658) (by decide +kernel), List.mem_of_getElem? (i := 822) (by decide +kernel), List.mem_of_getElem? (i := 823) (by decide +kernel)⟩
theorem lw_p63 : lw_okq (⟨"ReflectModelsModel", "bodyMay", "(IIIIII)Z"⟩, 42) := ⟨⟨by decide +kernel, by decide +kernel⟩, List.mem_of_getElem? (i := 658) (by decide +kernel), List.mem_of_getElem? (i := 833) (by decide +kernel), List.mem_of_getElem? (i := 834) (by decide +kernel)⟩
def lw_privs_4 : List (MethodName × Nat) := [(⟨"ReflectModels$Method", "canBeChosen", "()Z"⟩, 8), (⟨"ReflectModels", "runBody", "(LReflectModels$Method;I)I"⟩, 15), (⟨"ReflectModels", "divide", "()I"⟩, 15), (⟨"ReflectModels", "castFirst", "(I)I"⟩, 15), (⟨"ReflectModels", "readFieldOfFirst", "(I)I"⟩, 15), (⟨"ReflectModels", "pickItem", "(I)I"⟩, 15), (⟨"ReflectModels", "storeFirst", "(LReflectModels$Method;)I"⟩, 15), (⟨"ReflectModels$Value", "becomeGiven", "(II)V"⟩, 2), (⟨"ReflectModels", "makeFailure", "(LReflectModels$ClassModel;)I"⟩, 15), (⟨"ReflectModels", "recordFits", "(LReflectModels$ClassModel;)Z"⟩, 15), (⟨"ReflectModels", "fillRecord", "(LReflectModels$ClassModel;I)V"⟩, 15), (⟨"ReflectModelsModel", "isClass", "(I)Z"⟩, 42), (⟨"ReflectModelsModel", "isNoClass", "(I)Z"⟩, 42), (⟨"ReflectModelsModel", "hasField", "(II)Z"⟩, 42), (⟨"ReflectModelsModel", "first", "(II)V"⟩, 42), (⟨"ReflectModelsModel", "bodyMay", "(IIIIII)Z"⟩, 42)]
theorem lw_r4 : ∀ q ∈ lw_privs_4, lw_okq q := List.forall_mem_cons.mpr ⟨lw_p48, List.forall_mem_cons.mpr ⟨lw_p49, List.forall_mem_cons.mpr ⟨lw_p50, List.forall_mem_cons.mpr ⟨lw_p51, List.forall_mem_cons.mpr ⟨lw_p52, List.forall_mem_cons.mpr ⟨lw_p53, List.forall_mem_cons.mpr ⟨lw_p54, List.forall_mem_cons.mpr ⟨lw_p55, List.forall_mem_cons.mpr ⟨lw_p56, List.forall_mem_cons.mpr ⟨lw_p57, List.forall_mem_cons.mpr ⟨lw_p58, List.forall_mem_cons.mpr ⟨lw_p59, List.forall_mem_cons.mpr ⟨lw_p60, List.forall_mem_cons.mpr ⟨lw_p61, List.forall_mem_cons.mpr ⟨lw_p62, List.forall_mem_cons.mpr ⟨lw_p63, fun _ h => absurd h List.not_mem_nil⟩⟩⟩⟩⟩⟩⟩⟩⟩⟩⟩⟩⟩⟩⟩⟩
theorem lw_p64 : lw_okq (⟨"ReflectModelsModel", "isLike", "(IIIII)Z"⟩, 42) := ⟨⟨by decide +kernel, by decide +kernel⟩, List.mem_of_getElem? (i := 658) (by decide +kernel), List.mem_of_getElem? (i := 837) (by decide +kernel), List.mem_of_getElem? (i := 838) (by decide +kernel)⟩
theorem lw_p65 : lw_okq (⟨"ReflectModelsModel", "newHandle", "(I)I"⟩, 42) := ⟨⟨by decide +kernel, by decide +kernel⟩, List.mem_of_getElem? (i := 658) (by decide +kernel), List.mem_of_getElem? (i := 849) (by decide +kernel), List.mem_of_getElem? (i := 850) (by decide +kernel)⟩
theorem lw_p66 : lw_okq (⟨"ReflectModelsModel", "fails", "(I)I"⟩, 42) := ⟨⟨by decide +kernel, by decide +kernel⟩, List.mem_of_getElem? (i := 658) (by decide +kernel), List.mem_of_getElem? (i := 853) (by decide +kernel), List.mem_of_getElem? (i := 854) (by decide +kernel)⟩
theorem lw_p67 : lw_okq (⟨"ReflectModelsModel", "methodFrom", "(IZIIII)I"⟩, 42) := ⟨⟨by decide +kernel, by decide +kernel⟩, List.mem_of_getElem? (i := 658) (by decide +kernel), List.mem_of_getElem? (i := 861) (by decide +kernel), List.mem_of_getElem? (i := 862) (by decide +kernel)⟩
theorem lw_p68 : lw_okq (⟨"ReflectModelsModel", "isHandle", "(I)Z"⟩, 42) := ⟨⟨by decide +kernel, by decide +kernel⟩, List.mem_of_getElem? (i := 658) (by decide +kernel), List.mem_of_getElem? (i := 869) (by decide +kernel), List.mem_of_getElem? (i := 870) (by decide +kernel)⟩
theorem lw_p69 : lw_okq (⟨"ReflectModelsModel", "isObject", "(J)Z"⟩, 42) := ⟨⟨by decide +kernel, by decide +kernel⟩, List.mem_of_getElem? (i := 658) (by decide +kernel), List.mem_of_getElem? (i := 877) (by decide +kernel), List.mem_of_getElem? (i := 878) (by decide +kernel)⟩
theorem lw_p70 : lw_okq (⟨"ReflectModelsModel", "isReceiver", "(I)Z"⟩, 42) := ⟨⟨by decide +kernel, by decide +kernel⟩, List.mem_of_getElem? (i := 658) (by decide +kernel), List.mem_of_getElem? (i := 886) (by decide +kernel), List.mem_of_getElem? (i := 887) (by decide +kernel)⟩
theorem lw_p71 : lw_okq (⟨"ReflectModelsModel", "gone", "()V"⟩, 42) := ⟨⟨by decide +kernel, by decide +kernel⟩, List.mem_of_getElem? (i := 658) (by decide +kernel), List.mem_of_getElem? (i := 891) (by decide +kernel), List.mem_of_getElem? (i := 892) (by decide +kernel)⟩
theorem lw_p72 : lw_okq (⟨"ReflectModelsModel", "may", "(I)Z"⟩, 42) := ⟨⟨by decide +kernel, by decide +kernel⟩, List.mem_of_getElem? (i := 658) (by decide +kernel), List.mem_of_getElem? (i := 895) (by decide +kernel), List.mem_of_getElem? (i := 896) (by decide +kernel)⟩
theorem lw_p73 : lw_okq (⟨"ReflectModelsModel", "started", "(I)I"⟩, 42) := ⟨⟨by decide +kernel, by decide +kernel⟩, List.mem_of_getElem? (i := 658) (by decide +kernel), List.mem_of_getElem? (i := 899) (by decide +kernel), List.mem_of_getElem? (i := 900) (by decide +kernel)⟩
theorem lw_p74 : lw_okq (⟨"ReflectModelsModel", "newObject", "(I)I"⟩, 42) := ⟨⟨by decide +kernel, by decide +kernel⟩, List.mem_of_getElem? (i := 658) (by decide +kernel), List.mem_of_getElem? (i := 903) (by decide +kernel), List.mem_of_getElem? (i := 904) (by decide +kernel)⟩
theorem lw_p75 : lw_okq (⟨"ReflectModelsModel", "against", "(II)I"⟩, 42) := ⟨⟨by decide +kernel, by decide +kernel⟩, List.mem_of_getElem? (i := 658) (by decide +kernel), List.mem_of_getElem? (i := 907) (by decide +kernel), List.mem_of_getElem? (i := 908) (by decide +kernel)⟩
theorem lw_p76 : lw_okq (⟨"ReflectModelsModel", "isOf", "(II)Z"⟩, 42) := ⟨⟨by decide +kernel, by decide +kernel⟩, List.mem_of_getElem? (i := 658) (by decide +kernel), List.mem_of_getElem? (i := 911) (by decide +kernel), List.mem_of_getElem? (i := 912) (by decide +kernel)⟩
theorem lw_p77 : lw_okq (⟨"ReflectModelsModel", "isUnder", "(II)Z"⟩, 42) := ⟨⟨by decide +kernel, by decide +kernel⟩, List.mem_of_getElem? (i := 658) (by decide +kernel), List.mem_of_getElem? (i := 915) (by decide +kernel), List.mem_of_getElem? (i := 916) (by decide +kernel)⟩
theorem lw_p78 : lw_okq (⟨"ReflectModelsModel", "fits", "(IJI)Z"⟩, 42) := ⟨⟨by decide +kernel, by decide +kernel⟩, List.mem_of_getElem? (i := 658) (by decide +kernel), List.mem_of_getElem? (i := 923) (by decide +kernel), List.mem_of_getElem? (i := 924) (by decide +kernel)⟩
theorem lw_p79 : lw_okq (⟨"ReflectModelsModel", "store", "(III)V"⟩, 42) := ⟨⟨by decide +kernel, by decide +kernel⟩, List.mem_of_getElem? (i := 658) (by decide +kernel), List.mem_of_getElem? (i := 927) (by decide +kernel), List.mem_of_getElem? (i := 928) (by decide +kernel)⟩
def lw_privs_5 : List (MethodName × Nat) := [(⟨"ReflectModelsModel", "isLike", "(IIIII)Z"⟩, 42), (⟨"ReflectModelsModel", "newHandle", "(I)I"⟩, 42), (⟨"ReflectModelsModel", "fails", "(I)I"⟩, 42), (⟨"ReflectModelsModel", "methodFrom", "(IZIIII)I"⟩, 42), (⟨"ReflectModelsModel", "isHandle", "(I)Z"⟩, 42), (⟨"ReflectModelsModel", "isObject", "(J)Z"⟩, 42), (⟨"ReflectModelsModel", "isReceiver", "(I)Z"⟩, 42), (⟨"ReflectModelsModel", "gone", "()V"⟩, 42), (⟨"ReflectModelsModel", "may", "(I)Z"⟩, 42), (⟨"ReflectModelsModel", "started", "(I)I"⟩, 42), (⟨"ReflectModelsModel", "newObject", "(I)I"⟩, 42), (⟨"ReflectModelsModel", "against", "(II)I"⟩, 42), (⟨"ReflectModelsModel", "isOf", "(II)Z"⟩, 42), (⟨"ReflectModelsModel", "isUnder", "(II)Z"⟩, 42), (⟨"ReflectModelsModel", "fits", "(IJI)Z"⟩, 42), (⟨"ReflectModelsModel", "store", "(III)V"⟩, 42)]
theorem lw_r5 : ∀ q ∈ lw_privs_5, lw_okq q := List.forall_mem_cons.mpr ⟨lw_p64, List.forall_mem_cons.mpr ⟨lw_p65, List.forall_mem_cons.mpr ⟨lw_p66, List.forall_mem_cons.mpr ⟨lw_p67, List.forall_mem_cons.mpr ⟨lw_p68, List.forall_mem_cons.mpr ⟨lw_p69, List.forall_mem_cons.mpr ⟨lw_p70, List.forall_mem_cons.mpr ⟨lw_p71, List.forall_mem_cons.mpr ⟨lw_p72, List.forall_mem_cons.mpr ⟨lw_p73, List.forall_mem_cons.mpr ⟨lw_p74, List.forall_mem_cons.mpr ⟨lw_p75, List.forall_mem_cons.mpr ⟨lw_p76, List.forall_mem_cons.mpr ⟨lw_p77, List.forall_mem_cons.mpr ⟨lw_p78, List.forall_mem_cons.mpr ⟨lw_p79, fun _ h => absurd h List.not_mem_nil⟩⟩⟩⟩⟩⟩⟩⟩⟩⟩⟩⟩⟩⟩⟩⟩
theorem lw_p80 : lw_okq (⟨"ReflectModelsModel", "valuesFit", "(I)Z"⟩, 42) := ⟨⟨by decide +kernel, by decide +kernel⟩, List.mem_of_getElem? (i := 658) (by decide +kernel), List.mem_of_getElem? (i := 935) (by decide +kernel), List.mem_of_getElem? (i := 936) (by decide +kernel)⟩
theorem lw_p81 : lw_okq (⟨"ReflectModelsModel", "runs", "(II)I"⟩, 42) := ⟨⟨by decide +kernel, by decide +kernel⟩, List.mem_of_getElem? (i := 658) (by decide +kernel), List.mem_of_getElem? (i := 939) (by decide +kernel), List.mem_of_getElem? (i := 940) (by decide +kernel)⟩
theorem lw_p82 : lw_okq (⟨"ReflectModelsModel", "comes", "(IIJ)I"⟩, 42) := ⟨⟨by decide +kernel, by decide +kernel⟩, List.mem_of_getElem? (i := 658) (by decide +kernel), List.mem_of_getElem? (i := 943) (by decide +kernel), List.mem_of_getElem? (i := 944) (by decide +kernel)⟩
theorem lw_p83 : lw_okq (⟨"ReflectModelsModel", "wraps", "(I)I"⟩, 42) := ⟨⟨by decide +kernel, by decide +kernel⟩, List.mem_of_getElem? (i := 658) (by decide +kernel), List.mem_of_getElem? (i := 947) (by decide +kernel), List.mem_of_getElem? (i := 948) (by decide +kernel)⟩
theorem lw_p84 : lw_okq (⟨"ReflectModelsModel", "byHandler", "(II)I"⟩, 42) := ⟨⟨by decide +kernel, by decide +kernel⟩, List.mem_of_getElem? (i := 658) (by decide +kernel), List.mem_of_getElem? (i := 951) (by decide +kernel), List.mem_of_getElem? (i := 952) (by decide +kernel)⟩
theorem lw_p85 : lw_okq (⟨"ReflectModelsModel", "recordFits", "(I)Z"⟩, 42) := ⟨⟨by decide +kernel, by decide +kernel⟩, List.mem_of_getElem? (i := 658) (by decide +kernel), List.mem_of_getElem? (i := 959) (by decide +kernel), List.mem_of_getElem? (i := 960) (by decide +kernel)⟩
def lw_privs_6 : List (MethodName × Nat) := [(⟨"ReflectModelsModel", "valuesFit", "(I)Z"⟩, 42), (⟨"ReflectModelsModel", "runs", "(II)I"⟩, 42), (⟨"ReflectModelsModel", "comes", "(IIJ)I"⟩, 42), (⟨"ReflectModelsModel", "wraps", "(I)I"⟩, 42), (⟨"ReflectModelsModel", "byHandler", "(II)I"⟩, 42), (⟨"ReflectModelsModel", "recordFits", "(I)Z"⟩, 42)]
theorem lw_r6 : ∀ q ∈ lw_privs_6, lw_okq q := List.forall_mem_cons.mpr ⟨lw_p80, List.forall_mem_cons.mpr ⟨lw_p81, List.forall_mem_cons.mpr ⟨lw_p82, List.forall_mem_cons.mpr ⟨lw_p83, List.forall_mem_cons.mpr ⟨lw_p84, List.forall_mem_cons.mpr ⟨lw_p85, fun _ h => absurd h List.not_mem_nil⟩⟩⟩⟩⟩⟩
def lw_privs : List (MethodName × Nat) := lw_privs_1 ++ (lw_privs_2 ++ (lw_privs_3 ++ (lw_privs_4 ++ (lw_privs_5 ++ (lw_privs_6)))))
def lw_tbl : List Cond := k2_sels lw_privs ++ tables_1
theorem lw_privs_ok : ∀ q ∈ lw_privs, lw_okq q := by
  show ∀ q ∈ lw_privs_1 ++ (lw_privs_2 ++ (lw_privs_3 ++ (lw_privs_4 ++ (lw_privs_5 ++ (lw_privs_6))))), lw_okq q
  exact List.forall_mem_append.mpr ⟨lw_r1, List.forall_mem_append.mpr ⟨lw_r2, List.forall_mem_append.mpr ⟨lw_r3, List.forall_mem_append.mpr ⟨lw_r4, List.forall_mem_append.mpr ⟨lw_r5, lw_r6⟩⟩⟩⟩⟩
end
section
/-! ===== BEGIN words of one list among another's, by their places ===== -/
theorem goodIn_r {big : List Cond} (ws : List Cond) (ps : List Nat) (hp : ws = ps.filterMap (fun i => big[i]?)) (h : ws.all goodWord = true) : GoodIn big ws := by
  intro w hw
  have h1 := List.all_eq_true.mp h w hw
  rw [hp] at hw
  obtain ⟨i, -, hi⟩ := List.mem_filterMap.mp hw
  have hm : w ∈ big := by first | exact List.mem_of_getElem? hi | exact List.getElem?_mem hi
  exact ⟨hm, good_of_word h1⟩
theorem goodIn_app {big a b : List Cond} (ha : GoodIn big a) (hb : GoodIn big b) : GoodIn big (a ++ b) := fun w h => (List.mem_append.mp h).elim (ha w) (hb w)
theorem goodIn_ca {big a b : List Cond} {c : Cond} (ha : GoodIn big (c :: a)) (hb : GoodIn big b) : GoodIn big (c :: (a ++ b)) := fun w h => (List.mem_cons.mp h).elim (fun e => ha w (List.mem_cons.mpr (Or.inl e))) (fun h => (List.mem_append.mp h).elim (fun h => ha w (List.mem_cons.mpr (Or.inr h))) (hb w))
theorem goodIn_sub {big ws : List Cond} (hm : ∀ w ∈ ws, w ∈ big) (h : ws.all goodWord = true) : GoodIn big ws := fun w hw => ⟨hm w hw, good_of_word (List.all_eq_true.mp h w hw)⟩
/-! ===== END ===== -/

/-! ===== BEGIN printed: names, fields, word lists, decode rows ===== -/
def RX0 : String := "ReflectModels$ClassModel"
def TX0 : u_T := fun k => match k with
  | 0 => ("ReflectModels$ClassModel", "number", "I", true)
  | 1 => ("ReflectModels$ClassModel", "above", "LReflectModels$ClassModel;", true)
  | 2 => ("ReflectModels$ClassModel", "sort", "I", true)
  | 3 => ("ReflectModels$ClassModel", "face", "LReflectModels$ClassModel;", true)
  | 4 => ("ReflectModels$ClassModel", "shut", "Z", true)
  | 5 => ("ReflectModels$ClassModel", "fails", "Z", true)
  | 6 => ("ReflectModels$ClassModel", "line", "I", true)
  | 7 => ("ReflectModels$ClassModel", "all", "I", true)
  | 8 => ("ReflectModels$ClassModel", "state", "I", false)
  | 9 => ("ReflectModels$ClassModel", "constantCount", "I", false)
  | 10 => ("ReflectModels$ClassModel", "firstConstant", "I", false)
  | _ => ("ReflectModels$ClassModel", "ownMembers", "I", false)
def tyX0 : Nat → FieldType := fun k => match k with
  | 0 => .int
  | 1 => .object "ReflectModels$ClassModel"
  | 2 => .int
  | 3 => .object "ReflectModels$ClassModel"
  | 4 => .boolean
  | 5 => .boolean
  | 6 => .int
  | 7 => .int
  | 8 => .int
  | 9 => .int
  | 10 => .int
  | _ => .int
abbrev wsX00 : List Cond := u_ws RX0 TX0 12
theorem nmX0 : ∀ a, a < 12 → ∀ b, b < 12 → a ≠ b → (TX0 a).2.1 ≠ (TX0 b).2.1 := by decide +kernel
theorem tyX0_ok : ∀ k, k < 12 → parseFieldDescriptor (TX0 k).2.2.1 = some (tyX0 k) := by decide +kernel
abbrev cX0_init : ByteArray := prog_2_method_1_code
def yX0_init : MethodName := ⟨RX0, "<init>", "(ILReflectModels$ClassModel;ILReflectModels$ClassModel;ZZ)V"⟩
abbrev cX0_standsUnder : ByteArray := prog_2_method_2_code
def yX0_standsUnder : MethodName := ⟨RX0, "standsUnder", "(LReflectModels$ClassModel;)Z"⟩
def RX1 : String := "ReflectModels$Field"
def TX1 : u_T := fun k => match k with
  | 0 => ("ReflectModels$Member", "owner", "LReflectModels$ClassModel;", true)
  | 1 => ("ReflectModels$Member", "isStatic", "Z", true)
  | 2 => ("ReflectModels$Member", "isHidden", "Z", true)
  | 3 => ("ReflectModels$Field", "name", "I", true)
  | 4 => ("ReflectModels$Field", "type", "I", true)
  | 5 => ("ReflectModels$Field", "isFinal", "Z", true)
  | 6 => ("ReflectModels$Field", "first", "J", true)
  | 7 => ("ReflectModels$Field", "slot", "I", true)
  | _ => ("ReflectModels$Field", "held", "J", false)
def tyX1 : Nat → FieldType := fun k => match k with
  | 0 => .object "ReflectModels$ClassModel"
  | 1 => .boolean
  | 2 => .boolean
  | 3 => .int
  | 4 => .int
  | 5 => .boolean
  | 6 => .long
  | 7 => .int
  | _ => .long
abbrev wsX10 : List Cond := u_ws RX1 TX1 9
theorem nmX1 : ∀ a, a < 9 → ∀ b, b < 9 → a ≠ b → (TX1 a).2.1 ≠ (TX1 b).2.1 := by decide +kernel
theorem tyX1_ok : ∀ k, k < 9 → parseFieldDescriptor (TX1 k).2.2.1 = some (tyX1 k) := by decide +kernel
abbrev cX1_init : ByteArray := prog_3_method_1_code
def yX1_init : MethodName := ⟨RX1, "<init>", "(LReflectModels$ClassModel;IIZZZI)V"⟩
def RX2 : String := "ReflectModels$Handle"
def TX2 : u_T := fun k => match k with
  | 0 => ("ReflectModels$Handle", "memberNumber", "I", true)
  | 1 => ("ReflectModels$Handle", "member", "LReflectModels$Member;", true)
  | _ => ("ReflectModels$Handle", "hasLeave", "Z", false)
def tyX2 : Nat → FieldType := fun k => match k with
  | 0 => .int
  | 1 => .object "ReflectModels$Member"
  | _ => .boolean
abbrev wsX20 : List Cond := u_ws RX2 TX2 3
theorem nmX2 : ∀ a, a < 3 → ∀ b, b < 3 → a ≠ b → (TX2 a).2.1 ≠ (TX2 b).2.1 := by decide +kernel
theorem tyX2_ok : ∀ k, k < 3 → parseFieldDescriptor (TX2 k).2.2.1 = some (tyX2 k) := by decide +kernel
abbrev cX2_init : ByteArray := prog_4_method_1_code
def yX2_init : MethodName := ⟨RX2, "<init>", "(ILReflectModels$Member;)V"⟩
def RX3 : String := "ReflectModels$Member"
def TX3 : u_T := fun k => match k with
  | _ => ("", "", "", false)
def tyX3 : Nat → FieldType := fun k => match k with
  | _ => .int
abbrev wsX30 : List Cond := u_ws RX3 TX3 0
theorem nmX3 : ∀ a, a < 0 → ∀ b, b < 0 → a ≠ b → (TX3 a).2.1 ≠ (TX3 b).2.1 := by decide +kernel
theorem tyX3_ok : ∀ k, k < 0 → parseFieldDescriptor (TX3 k).2.2.1 = some (tyX3 k) := by decide +kernel
abbrev cX3_init : ByteArray := prog_5_method_1_code
def yX3_init : MethodName := ⟨RX3, "<init>", "(LReflectModels$ClassModel;ZZ)V"⟩
def RX4 : String := "ReflectModels$Method"
def TX4 : u_T := fun k => match k with
  | 0 => ("ReflectModels$Member", "owner", "LReflectModels$ClassModel;", true)
  | 1 => ("ReflectModels$Member", "isStatic", "Z", true)
  | 2 => ("ReflectModels$Member", "isHidden", "Z", true)
  | 3 => ("ReflectModels$Method", "signature", "LReflectModels$Signature;", true)
  | 4 => ("ReflectModels$Method", "gives", "I", true)
  | 5 => ("ReflectModels$Method", "isAbstract", "Z", true)
  | 6 => ("ReflectModels$Method", "body", "I", true)
  | _ => ("ReflectModels$Method", "b", "I", true)
def tyX4 : Nat → FieldType := fun k => match k with
  | 0 => .object "ReflectModels$ClassModel"
  | 1 => .boolean
  | 2 => .boolean
  | 3 => .object "ReflectModels$Signature"
  | 4 => .int
  | 5 => .boolean
  | 6 => .int
  | _ => .int
abbrev wsX40 : List Cond := u_ws RX4 TX4 8
theorem nmX4 : ∀ a, a < 8 → ∀ b, b < 8 → a ≠ b → (TX4 a).2.1 ≠ (TX4 b).2.1 := by decide +kernel
theorem tyX4_ok : ∀ k, k < 8 → parseFieldDescriptor (TX4 k).2.2.1 = some (tyX4 k) := by decide +kernel
abbrev cX4_init : ByteArray := prog_6_method_1_code
def yX4_init : MethodName := ⟨RX4, "<init>", "(LReflectModels$ClassModel;LReflectModels$Signature;IIII)V"⟩
abbrev cX4_canBeChosen : ByteArray := prog_6_method_2_code
def yX4_canBeChosen : MethodName := ⟨RX4, "canBeChosen", "()Z"⟩
def RX5 : String := "ReflectModels$Signature"
def TX5 : u_T := fun k => match k with
  | 0 => ("ReflectModels$Signature", "name", "I", true)
  | 1 => ("ReflectModels$Signature", "n", "I", true)
  | 2 => ("ReflectModels$Signature", "first", "I", true)
  | _ => ("ReflectModels$Signature", "second", "I", true)
def tyX5 : Nat → FieldType := fun k => match k with
  | 0 => .int
  | 1 => .int
  | 2 => .int
  | _ => .int
abbrev wsX50 : List Cond := u_ws RX5 TX5 4
theorem nmX5 : ∀ a, a < 4 → ∀ b, b < 4 → a ≠ b → (TX5 a).2.1 ≠ (TX5 b).2.1 := by decide +kernel
theorem tyX5_ok : ∀ k, k < 4 → parseFieldDescriptor (TX5 k).2.2.1 = some (tyX5 k) := by decide +kernel
abbrev cX5_init : ByteArray := prog_7_method_1_code
def yX5_init : MethodName := ⟨RX5, "<init>", "(IIII)V"⟩
abbrev cX5_matches : ByteArray := prog_7_method_2_code
def yX5_matches : MethodName := ⟨RX5, "matches", "(LReflectModels$Signature;)Z"⟩
abbrev cX5_isOutside : ByteArray := prog_7_method_3_code
def yX5_isOutside : MethodName := ⟨RX5, "isOutside", "()Z"⟩
abbrev cX5_startsWithClass : ByteArray := prog_7_method_4_code
def yX5_startsWithClass : MethodName := ⟨RX5, "startsWithClass", "()Z"⟩
abbrev cX5_startsWithInt : ByteArray := prog_7_method_5_code
def yX5_startsWithInt : MethodName := ⟨RX5, "startsWithInt", "()Z"⟩
def RX6 : String := "ReflectModels$Thing"
def TX6 : u_T := fun k => match k with
  | 0 => ("ReflectModels$Thing", "model", "LReflectModels$ClassModel;", true)
  | 1 => ("ReflectModels$Thing", "handler", "I", true)
  | 2 => ("ReflectModels$Thing", "slots", "[J", true)
  | 3 => ("ReflectModels$Thing", "all", "I", true)
  | _ => ("ReflectModels$Thing", "asked", "I", false)
def tyX6 : Nat → FieldType := fun k => match k with
  | 0 => .object "ReflectModels$ClassModel"
  | 1 => .int
  | 2 => .array .long
  | 3 => .int
  | _ => .int
abbrev wsX60 : List Cond := u_ws RX6 TX6 5
theorem nmX6 : ∀ a, a < 5 → ∀ b, b < 5 → a ≠ b → (TX6 a).2.1 ≠ (TX6 b).2.1 := by decide +kernel
theorem tyX6_ok : ∀ k, k < 5 → parseFieldDescriptor (TX6 k).2.2.1 = some (tyX6 k) := by decide +kernel
abbrev cX6_init : ByteArray := prog_8_method_1_code
def yX6_init : MethodName := ⟨RX6, "<init>", "(LReflectModels$ClassModel;LReflectModels$ClassModel;I[J)V"⟩
abbrev cX6_isOf : ByteArray := prog_8_method_2_code
def yX6_isOf : MethodName := ⟨RX6, "isOf", "(LReflectModels$ClassModel;)Z"⟩
def RX7 : String := "ReflectModels$Value"
def TX7 : u_T := fun k => match k with
  | 0 => ("ReflectModels$Value", "kind", "I", false)
  | _ => ("ReflectModels$Value", "number", "J", false)
def tyX7 : Nat → FieldType := fun k => match k with
  | 0 => .int
  | _ => .long
abbrev wsX70 : List Cond := u_ws RX7 TX7 2
theorem nmX7 : ∀ a, a < 2 → ∀ b, b < 2 → a ≠ b → (TX7 a).2.1 ≠ (TX7 b).2.1 := by decide +kernel
theorem tyX7_ok : ∀ k, k < 2 → parseFieldDescriptor (TX7 k).2.2.1 = some (tyX7 k) := by decide +kernel
abbrev cX7_init : ByteArray := prog_9_method_1_code
def yX7_init : MethodName := ⟨RX7, "<init>", "()V"⟩
abbrev cX7_become : ByteArray := prog_9_method_2_code
def yX7_become : MethodName := ⟨RX7, "become", "(IJ)V"⟩
abbrev cX7_load : ByteArray := prog_9_method_3_code
def yX7_load : MethodName := ⟨RX7, "load", "(IJ)V"⟩
abbrev cX7_toHold : ByteArray := prog_9_method_4_code
def yX7_toHold : MethodName := ⟨RX7, "toHold", "()J"⟩
abbrev cX7_widenFor : ByteArray := prog_9_method_5_code
def yX7_widenFor : MethodName := ⟨RX7, "widenFor", "(I)V"⟩
abbrev cX7_becomeGiven : ByteArray := prog_9_method_6_code
def yX7_becomeGiven : MethodName := ⟨RX7, "becomeGiven", "(II)V"⟩
def RX8 : String := "ReflectModels"
def TX8 : u_T := fun k => match k with
  | 0 => ("ReflectModels", "classes", "[LReflectModels$ClassModel;", true)
  | 1 => ("ReflectModels", "classCount", "I", false)
  | 2 => ("ReflectModels", "members", "[LReflectModels$Member;", true)
  | 3 => ("ReflectModels", "memberCount", "I", false)
  | 4 => ("ReflectModels", "slotCount", "I", false)
  | 5 => ("ReflectModels", "handles", "[LReflectModels$Handle;", true)
  | 6 => ("ReflectModels", "handleCount", "I", false)
  | 7 => ("ReflectModels", "things", "[LReflectModels$Thing;", true)
  | 8 => ("ReflectModels", "thingCount", "I", false)
  | 9 => ("ReflectModels", "values", "[LReflectModels$Value;", true)
  | 10 => ("ReflectModels", "valueCount", "I", false)
  | 11 => ("ReflectModels", "callerNumber", "I", false)
  | 12 => ("ReflectModels", "outcome", "LReflectModels$Value;", true)
  | 13 => ("ReflectModels", "latestFailure", "I", false)
  | _ => ("ReflectModels", "latestCause", "I", false)
def tyX8 : Nat → FieldType := fun k => match k with
  | 0 => .array (.object "ReflectModels$ClassModel")
  | 1 => .int
  | 2 => .array (.object "ReflectModels$Member")
  | 3 => .int
  | 4 => .int
  | 5 => .array (.object "ReflectModels$Handle")
  | 6 => .int
  | 7 => .array (.object "ReflectModels$Thing")
  | 8 => .int
  | 9 => .array (.object "ReflectModels$Value")
  | 10 => .int
  | 11 => .int
  | 12 => .object "ReflectModels$Value"
  | 13 => .int
  | _ => .int
abbrev wsX80 : List Cond := u_ws RX8 TX8 15
theorem nmX8 : ∀ a, a < 15 → ∀ b, b < 15 → a ≠ b → (TX8 a).2.1 ≠ (TX8 b).2.1 := by decide +kernel
theorem tyX8_ok : ∀ k, k < 15 → parseFieldDescriptor (TX8 k).2.2.1 = some (tyX8 k) := by decide +kernel
abbrev cX8_init : ByteArray := prog_1_method_1_code
def yX8_init : MethodName := ⟨RX8, "<init>", "()V"⟩
abbrev cX8_type : ByteArray := prog_1_method_2_code
def yX8_type : MethodName := ⟨RX8, "type", "(IIIZZ)I"⟩
abbrev cX8_constants : ByteArray := prog_1_method_3_code
def yX8_constants : MethodName := ⟨RX8, "constants", "(II)I"⟩
abbrev cX8_field : ByteArray := prog_1_method_4_code
def yX8_field : MethodName := ⟨RX8, "field", "(IIIZZZ)I"⟩
abbrev cX8_method : ByteArray := prog_1_method_5_code
def yX8_method : MethodName := ⟨RX8, "method", "(IIIIIIIII)I"⟩
abbrev cX8_caller : ByteArray := prog_1_method_6_code
def yX8_caller : MethodName := ⟨RX8, "caller", "(I)I"⟩
abbrev cX8_findField : ByteArray := prog_1_method_7_code
def yX8_findField : MethodName := ⟨RX8, "findField", "(IIZ)I"⟩
abbrev cX8_findMethod : ByteArray := prog_1_method_8_code
def yX8_findMethod : MethodName := ⟨RX8, "findMethod", "(IIIIIZ)I"⟩
abbrev cX8_leave : ByteArray := prog_1_method_9_code
def yX8_leave : MethodName := ⟨RX8, "leave", "(I)I"⟩
abbrev cX8_value : ByteArray := prog_1_method_10_code
def yX8_value : MethodName := ⟨RX8, "value", "(IIJ)I"⟩
abbrev cX8_get : ByteArray := prog_1_method_11_code
def yX8_get : MethodName := ⟨RX8, "get", "(III)I"⟩
abbrev cX8_set : ByteArray := prog_1_method_12_code
def yX8_set : MethodName := ⟨RX8, "set", "(II)I"⟩
abbrev cX8_call : ByteArray := prog_1_method_13_code
def yX8_call : MethodName := ⟨RX8, "call", "(II)I"⟩
abbrev cX8_make : ByteArray := prog_1_method_14_code
def yX8_make : MethodName := ⟨RX8, "make", "(I)I"⟩
abbrev cX8_proxy : ByteArray := prog_1_method_15_code
def yX8_proxy : MethodName := ⟨RX8, "proxy", "(II)I"⟩
abbrev cX8_constant : ByteArray := prog_1_method_16_code
def yX8_constant : MethodName := ⟨RX8, "constant", "(II)I"⟩
abbrev cX8_start : ByteArray := prog_1_method_17_code
def yX8_start : MethodName := ⟨RX8, "start", "(I)I"⟩
abbrev cX8_resultKind : ByteArray := prog_1_method_18_code
def yX8_resultKind : MethodName := ⟨RX8, "resultKind", "()I"⟩
abbrev cX8_result : ByteArray := prog_1_method_19_code
def yX8_result : MethodName := ⟨RX8, "result", "()J"⟩
abbrev cX8_cause : ByteArray := prog_1_method_20_code
def yX8_cause : MethodName := ⟨RX8, "cause", "()I"⟩
abbrev cX8_about : ByteArray := prog_1_method_21_code
def yX8_about : MethodName := ⟨RX8, "about", "(II)I"⟩
abbrev cX8_is : ByteArray := prog_1_method_22_code
def yX8_is : MethodName := ⟨RX8, "is", "(II)I"⟩
abbrev cX8_handle : ByteArray := prog_1_method_23_code
def yX8_handle : MethodName := ⟨RX8, "handle", "(II)I"⟩
abbrev cX8_told : ByteArray := prog_1_method_24_code
def yX8_told : MethodName := ⟨RX8, "told", "(I)I"⟩
abbrev cX8_isClass : ByteArray := prog_1_method_25_code
def yX8_isClass : MethodName := ⟨RX8, "isClass", "(I)Z"⟩
abbrev cX8_isHandle : ByteArray := prog_1_method_26_code
def yX8_isHandle : MethodName := ⟨RX8, "isHandle", "(I)Z"⟩
abbrev cX8_isThing : ByteArray := prog_1_method_27_code
def yX8_isThing : MethodName := ⟨RX8, "isThing", "(I)Z"⟩
abbrev cX8_isReceiver : ByteArray := prog_1_method_28_code
def yX8_isReceiver : MethodName := ⟨RX8, "isReceiver", "(I)Z"⟩
abbrev cX8_isMissingClass : ByteArray := prog_1_method_29_code
def yX8_isMissingClass : MethodName := ⟨RX8, "isMissingClass", "(I)Z"⟩
abbrev cX8_hasMissingClass : ByteArray := prog_1_method_30_code
def yX8_hasMissingClass : MethodName := ⟨RX8, "hasMissingClass", "(LReflectModels$Signature;)Z"⟩
abbrev cX8_isOutsideName : ByteArray := prog_1_method_31_code
def yX8_isOutsideName : MethodName := ⟨RX8, "isOutsideName", "(I)Z"⟩
abbrev cX8_hasMark : ByteArray := prog_1_method_32_code
def yX8_hasMark : MethodName := ⟨RX8, "hasMark", "(II)Z"⟩
abbrev cX8_areOutsideMarks : ByteArray := prog_1_method_33_code
def yX8_areOutsideMarks : MethodName := ⟨RX8, "areOutsideMarks", "(I)Z"⟩
abbrev cX8_isOutsideBody : ByteArray := prog_1_method_34_code
def yX8_isOutsideBody : MethodName := ⟨RX8, "isOutsideBody", "(II)Z"⟩
abbrev cX8_mayHaveAbove : ByteArray := prog_1_method_35_code
def yX8_mayHaveAbove : MethodName := ⟨RX8, "mayHaveAbove", "(ILReflectModels$ClassModel;)Z"⟩
abbrev cX8_mayActAs : ByteArray := prog_1_method_36_code
def yX8_mayActAs : MethodName := ⟨RX8, "mayActAs", "(ILReflectModels$ClassModel;)Z"⟩
abbrev cX8_mayHaveField : ByteArray := prog_1_method_37_code
def yX8_mayHaveField : MethodName := ⟨RX8, "mayHaveField", "(LReflectModels$ClassModel;ZZ)Z"⟩
abbrev cX8_mayHaveMethod : ByteArray := prog_1_method_38_code
def yX8_mayHaveMethod : MethodName := ⟨RX8, "mayHaveMethod", "(LReflectModels$Method;)Z"⟩
abbrev cX8_bodySuits : ByteArray := prog_1_method_39_code
def yX8_bodySuits : MethodName := ⟨RX8, "bodySuits", "(LReflectModels$Method;)Z"⟩
abbrev cX8_fieldToRead : ByteArray := prog_1_method_40_code
def yX8_fieldToRead : MethodName := ⟨RX8, "fieldToRead", "(I)LReflectModels$Field;"⟩
abbrev cX8_addMember : ByteArray := prog_1_method_41_code
def yX8_addMember : MethodName := ⟨RX8, "addMember", "(LReflectModels$Member;)I"⟩
abbrev cX8_ownField : ByteArray := prog_1_method_42_code
def yX8_ownField : MethodName := ⟨RX8, "ownField", "(LReflectModels$ClassModel;I)I"⟩
abbrev cX8_ownMethod : ByteArray := prog_1_method_43_code
def yX8_ownMethod : MethodName := ⟨RX8, "ownMethod", "(LReflectModels$ClassModel;LReflectModels$Signature;)I"⟩
abbrev cX8_visibleField : ByteArray := prog_1_method_44_code
def yX8_visibleField : MethodName := ⟨RX8, "visibleField", "(LReflectModels$ClassModel;I)I"⟩
abbrev cX8_visibleMethod : ByteArray := prog_1_method_45_code
def yX8_visibleMethod : MethodName := ⟨RX8, "visibleMethod", "(LReflectModels$ClassModel;LReflectModels$Signature;)I"⟩
abbrev cX8_visibleMethodUpward : ByteArray := prog_1_method_46_code
def yX8_visibleMethodUpward : MethodName := ⟨RX8, "visibleMethodUpward", "(LReflectModels$ClassModel;LReflectModels$Signature;)I"⟩
abbrev cX8_addHandle : ByteArray := prog_1_method_47_code
def yX8_addHandle : MethodName := ⟨RX8, "addHandle", "(I)I"⟩
abbrev cX8_failed : ByteArray := prog_1_method_48_code
def yX8_failed : MethodName := ⟨RX8, "failed", "(I)I"⟩
abbrev cX8_mayUse : ByteArray := prog_1_method_49_code
def yX8_mayUse : MethodName := ⟨RX8, "mayUse", "(LReflectModels$Handle;)Z"⟩
abbrev cX8_startFailure : ByteArray := prog_1_method_50_code
def yX8_startFailure : MethodName := ⟨RX8, "startFailure", "(LReflectModels$ClassModel;)I"⟩
abbrev cX8_startAlone : ByteArray := prog_1_method_51_code
def yX8_startAlone : MethodName := ⟨RX8, "startAlone", "(LReflectModels$ClassModel;)I"⟩
abbrev cX8_receiverFailure : ByteArray := prog_1_method_52_code
def yX8_receiverFailure : MethodName := ⟨RX8, "receiverFailure", "(LReflectModels$Member;I)I"⟩
abbrev cX8_reachFailure : ByteArray := prog_1_method_53_code
def yX8_reachFailure : MethodName := ⟨RX8, "reachFailure", "(LReflectModels$Member;I)I"⟩
abbrev cX8_getFailure : ByteArray := prog_1_method_54_code
def yX8_getFailure : MethodName := ⟨RX8, "getFailure", "(LReflectModels$Handle;LReflectModels$Field;II)I"⟩
abbrev cX8_setFailure : ByteArray := prog_1_method_55_code
def yX8_setFailure : MethodName := ⟨RX8, "setFailure", "(LReflectModels$Handle;LReflectModels$Field;I)I"⟩
abbrev cX8_callFailure : ByteArray := prog_1_method_56_code
def yX8_callFailure : MethodName := ⟨RX8, "callFailure", "(LReflectModels$Handle;LReflectModels$Method;I)I"⟩
abbrev cX8_makeFailure : ByteArray := prog_1_method_57_code
def yX8_makeFailure : MethodName := ⟨RX8, "makeFailure", "(LReflectModels$ClassModel;)I"⟩
abbrev cX8_fits : ByteArray := prog_1_method_58_code
def yX8_fits : MethodName := ⟨RX8, "fits", "(LReflectModels$Value;I)Z"⟩
abbrev cX8_isObjectOf : ByteArray := prog_1_method_59_code
def yX8_isObjectOf : MethodName := ⟨RX8, "isObjectOf", "(LReflectModels$Value;I)Z"⟩
abbrev cX8_valuesFit : ByteArray := prog_1_method_60_code
def yX8_valuesFit : MethodName := ⟨RX8, "valuesFit", "(LReflectModels$Signature;)Z"⟩
abbrev cX8_recordFits : ByteArray := prog_1_method_61_code
def yX8_recordFits : MethodName := ⟨RX8, "recordFits", "(LReflectModels$ClassModel;)Z"⟩
abbrev cX8_fillRecord : ByteArray := prog_1_method_62_code
def yX8_fillRecord : MethodName := ⟨RX8, "fillRecord", "(LReflectModels$ClassModel;I)V"⟩
abbrev cX8_addThing : ByteArray := prog_1_method_63_code
def yX8_addThing : MethodName := ⟨RX8, "addThing", "(LReflectModels$ClassModel;LReflectModels$ClassModel;I)I"⟩
abbrev cX8_firstSlots : ByteArray := prog_1_method_64_code
def yX8_firstSlots : MethodName := ⟨RX8, "firstSlots", "()[J"⟩
abbrev cX8_hasSlot : ByteArray := prog_1_method_65_code
def yX8_hasSlot : MethodName := ⟨RX8, "hasSlot", "(LReflectModels$Field;I)Z"⟩
abbrev cX8_heldIn : ByteArray := prog_1_method_66_code
def yX8_heldIn : MethodName := ⟨RX8, "heldIn", "(LReflectModels$Field;I)J"⟩
abbrev cX8_holdIn : ByteArray := prog_1_method_67_code
def yX8_holdIn : MethodName := ⟨RX8, "holdIn", "(LReflectModels$Field;IJ)V"⟩
abbrev cX8_perform : ByteArray := prog_1_method_68_code
def yX8_perform : MethodName := ⟨RX8, "perform", "(LReflectModels$Method;I)I"⟩
abbrev cX8_isAnsweredByHandler : ByteArray := prog_1_method_69_code
def yX8_isAnsweredByHandler : MethodName := ⟨RX8, "isAnsweredByHandler", "(LReflectModels$Method;I)Z"⟩
abbrev cX8_askHandler : ByteArray := prog_1_method_70_code
def yX8_askHandler : MethodName := ⟨RX8, "askHandler", "(LReflectModels$Thing;LReflectModels$Signature;)I"⟩
abbrev cX8_echoFirst : ByteArray := prog_1_method_71_code
def yX8_echoFirst : MethodName := ⟨RX8, "echoFirst", "(LReflectModels$Signature;)V"⟩
abbrev cX8_methodToDo : ByteArray := prog_1_method_72_code
def yX8_methodToDo : MethodName := ⟨RX8, "methodToDo", "(LReflectModels$Method;I)LReflectModels$Method;"⟩
abbrev cX8_runBody : ByteArray := prog_1_method_73_code
def yX8_runBody : MethodName := ⟨RX8, "runBody", "(LReflectModels$Method;I)I"⟩
abbrev cX8_divide : ByteArray := prog_1_method_74_code
def yX8_divide : MethodName := ⟨RX8, "divide", "()I"⟩
abbrev cX8_castFirst : ByteArray := prog_1_method_75_code
def yX8_castFirst : MethodName := ⟨RX8, "castFirst", "(I)I"⟩
abbrev cX8_readFieldOfFirst : ByteArray := prog_1_method_76_code
def yX8_readFieldOfFirst : MethodName := ⟨RX8, "readFieldOfFirst", "(I)I"⟩
abbrev cX8_pickItem : ByteArray := prog_1_method_77_code
def yX8_pickItem : MethodName := ⟨RX8, "pickItem", "(I)I"⟩
abbrev cX8_storeFirst : ByteArray := prog_1_method_78_code
def yX8_storeFirst : MethodName := ⟨RX8, "storeFirst", "(LReflectModels$Method;)I"⟩
abbrev cX8_fitOutcome : ByteArray := prog_1_method_79_code
def yX8_fitOutcome : MethodName := ⟨RX8, "fitOutcome", "(I)I"⟩
def RX9 : String := "ReflectModelsModel"
def TX9 : u_T := fun k => match k with
  | 0 => ("ReflectModelsModel", "thrown", "I", false)
  | 1 => ("ReflectModelsModel", "classes", "I", false)
  | 2 => ("ReflectModelsModel", "above", "[I", true)
  | 3 => ("ReflectModelsModel", "sort", "[I", true)
  | 4 => ("ReflectModelsModel", "face", "[I", true)
  | 5 => ("ReflectModelsModel", "shut", "[Z", true)
  | 6 => ("ReflectModelsModel", "failing", "[Z", true)
  | 7 => ("ReflectModelsModel", "state", "[I", true)
  | 8 => ("ReflectModelsModel", "constants", "[I", true)
  | 9 => ("ReflectModelsModel", "firstConstant", "[I", true)
  | 10 => ("ReflectModelsModel", "members", "I", false)
  | 11 => ("ReflectModelsModel", "memberOf", "[I", true)
  | 12 => ("ReflectModelsModel", "isField", "[Z", true)
  | 13 => ("ReflectModelsModel", "name", "[I", true)
  | 14 => ("ReflectModelsModel", "gives", "[I", true)
  | 15 => ("ReflectModelsModel", "many", "[I", true)
  | 16 => ("ReflectModelsModel", "typeOf", "[I", true)
  | 17 => ("ReflectModelsModel", "isStatic", "[Z", true)
  | 18 => ("ReflectModelsModel", "isFinal", "[Z", true)
  | 19 => ("ReflectModelsModel", "isHidden", "[Z", true)
  | 20 => ("ReflectModelsModel", "isAbstract", "[Z", true)
  | 21 => ("ReflectModelsModel", "body", "[I", true)
  | 22 => ("ReflectModelsModel", "bodyB", "[I", true)
  | 23 => ("ReflectModelsModel", "caller", "I", false)
  | 24 => ("ReflectModelsModel", "handles", "I", false)
  | 25 => ("ReflectModelsModel", "handleOf", "[I", true)
  | 26 => ("ReflectModelsModel", "hasLeave", "[Z", true)
  | 27 => ("ReflectModelsModel", "objects", "I", false)
  | 28 => ("ReflectModelsModel", "objectClass", "[I", true)
  | 29 => ("ReflectModelsModel", "proxyFace", "[I", true)
  | 30 => ("ReflectModelsModel", "handler", "[I", true)
  | 31 => ("ReflectModelsModel", "askedTimes", "[I", true)
  | 32 => ("ReflectModelsModel", "fieldKind", "[I", true)
  | 33 => ("ReflectModelsModel", "fieldNumber", "[J", true)
  | 34 => ("ReflectModelsModel", "values", "I", false)
  | 35 => ("ReflectModelsModel", "valueKind", "[I", true)
  | 36 => ("ReflectModelsModel", "valueNumber", "[J", true)
  | 37 => ("ReflectModelsModel", "resultKind", "I", false)
  | 38 => ("ReflectModelsModel", "result", "J", false)
  | 39 => ("ReflectModelsModel", "cause", "I", false)
  | 40 => ("ReflectModelsModel", "lastFailure", "I", false)
  | _ => ("ReflectModelsModel", "chain", "[I", true)
def tyX9 : Nat → FieldType := fun k => match k with
  | 0 => .int
  | 1 => .int
  | 2 => .array .int
  | 3 => .array .int
  | 4 => .array .int
  | 5 => .array .boolean
  | 6 => .array .boolean
  | 7 => .array .int
  | 8 => .array .int
  | 9 => .array .int
  | 10 => .int
  | 11 => .array .int
  | 12 => .array .boolean
  | 13 => .array .int
  | 14 => .array .int
  | 15 => .array .int
  | 16 => .array .int
  | 17 => .array .boolean
  | 18 => .array .boolean
  | 19 => .array .boolean
  | 20 => .array .boolean
  | 21 => .array .int
  | 22 => .array .int
  | 23 => .int
  | 24 => .int
  | 25 => .array .int
  | 26 => .array .boolean
  | 27 => .int
  | 28 => .array .int
  | 29 => .array .int
  | 30 => .array .int
  | 31 => .array .int
  | 32 => .array .int
  | 33 => .array .long
  | 34 => .int
  | 35 => .array .int
  | 36 => .array .long
  | 37 => .int
  | 38 => .long
  | 39 => .int
  | 40 => .int
  | _ => .array .int
abbrev wsX90 : List Cond := u_ws RX9 TX9 42
theorem nmX9 : ∀ a, a < 42 → ∀ b, b < 42 → a ≠ b → (TX9 a).2.1 ≠ (TX9 b).2.1 := by decide +kernel
theorem tyX9_ok : ∀ k, k < 42 → parseFieldDescriptor (TX9 k).2.2.1 = some (tyX9 k) := by decide +kernel
abbrev cX9_in : ByteArray := prog_11_method_2_code
def yX9_in : MethodName := ⟨RX9, "in", "(JJJ)Z"⟩
abbrev cX9_init : ByteArray := prog_11_method_3_code
def yX9_init : MethodName := ⟨RX9, "<init>", "()V"⟩
abbrev cX9_fails : ByteArray := prog_11_method_4_code
def yX9_fails : MethodName := ⟨RX9, "fails", "(I)I"⟩
abbrev cX9_isClass : ByteArray := prog_11_method_5_code
def yX9_isClass : MethodName := ⟨RX9, "isClass", "(I)Z"⟩
abbrev cX9_isObject : ByteArray := prog_11_method_6_code
def yX9_isObject : MethodName := ⟨RX9, "isObject", "(J)Z"⟩
abbrev cX9_type : ByteArray := prog_11_method_7_code
def yX9_type : MethodName := ⟨RX9, "type", "(IIIZZ)I"⟩
abbrev cX9_constants : ByteArray := prog_11_method_8_code
def yX9_constants : MethodName := ⟨RX9, "constants", "(II)I"⟩
abbrev cX9_isNoClass : ByteArray := prog_11_method_9_code
def yX9_isNoClass : MethodName := ⟨RX9, "isNoClass", "(I)Z"⟩
abbrev cX9_hasField : ByteArray := prog_11_method_10_code
def yX9_hasField : MethodName := ⟨RX9, "hasField", "(II)Z"⟩
abbrev cX9_field : ByteArray := prog_11_method_11_code
def yX9_field : MethodName := ⟨RX9, "field", "(IIIZZZ)I"⟩
abbrev cX9_first : ByteArray := prog_11_method_12_code
def yX9_first : MethodName := ⟨RX9, "first", "(II)V"⟩
abbrev cX9_isLike : ByteArray := prog_11_method_13_code
def yX9_isLike : MethodName := ⟨RX9, "isLike", "(IIIII)Z"⟩
abbrev cX9_bodyMay : ByteArray := prog_11_method_14_code
def yX9_bodyMay : MethodName := ⟨RX9, "bodyMay", "(IIIIII)Z"⟩
abbrev cX9_method : ByteArray := prog_11_method_15_code
def yX9_method : MethodName := ⟨RX9, "method", "(IIIIIIIII)I"⟩
abbrev cX9_caller : ByteArray := prog_11_method_16_code
def yX9_caller : MethodName := ⟨RX9, "caller", "(I)I"⟩
abbrev cX9_newHandle : ByteArray := prog_11_method_17_code
def yX9_newHandle : MethodName := ⟨RX9, "newHandle", "(I)I"⟩
abbrev cX9_findField : ByteArray := prog_11_method_18_code
def yX9_findField : MethodName := ⟨RX9, "findField", "(IIZ)I"⟩
abbrev cX9_methodFrom : ByteArray := prog_11_method_19_code
def yX9_methodFrom : MethodName := ⟨RX9, "methodFrom", "(IZIIII)I"⟩
abbrev cX9_findMethod : ByteArray := prog_11_method_20_code
def yX9_findMethod : MethodName := ⟨RX9, "findMethod", "(IIIIIZ)I"⟩
abbrev cX9_isHandle : ByteArray := prog_11_method_21_code
def yX9_isHandle : MethodName := ⟨RX9, "isHandle", "(I)Z"⟩
abbrev cX9_leave : ByteArray := prog_11_method_22_code
def yX9_leave : MethodName := ⟨RX9, "leave", "(I)I"⟩
abbrev cX9_may : ByteArray := prog_11_method_23_code
def yX9_may : MethodName := ⟨RX9, "may", "(I)Z"⟩
abbrev cX9_isUnder : ByteArray := prog_11_method_24_code
def yX9_isUnder : MethodName := ⟨RX9, "isUnder", "(II)Z"⟩
abbrev cX9_isOf : ByteArray := prog_11_method_25_code
def yX9_isOf : MethodName := ⟨RX9, "isOf", "(II)Z"⟩
abbrev cX9_fits : ByteArray := prog_11_method_26_code
def yX9_fits : MethodName := ⟨RX9, "fits", "(IJI)Z"⟩
abbrev cX9_value : ByteArray := prog_11_method_27_code
def yX9_value : MethodName := ⟨RX9, "value", "(IIJ)I"⟩
abbrev cX9_newObject : ByteArray := prog_11_method_28_code
def yX9_newObject : MethodName := ⟨RX9, "newObject", "(I)I"⟩
abbrev cX9_started : ByteArray := prog_11_method_29_code
def yX9_started : MethodName := ⟨RX9, "started", "(I)I"⟩
abbrev cX9_gone : ByteArray := prog_11_method_30_code
def yX9_gone : MethodName := ⟨RX9, "gone", "()V"⟩
abbrev cX9_against : ByteArray := prog_11_method_31_code
def yX9_against : MethodName := ⟨RX9, "against", "(II)I"⟩
abbrev cX9_isReceiver : ByteArray := prog_11_method_32_code
def yX9_isReceiver : MethodName := ⟨RX9, "isReceiver", "(I)Z"⟩
abbrev cX9_get : ByteArray := prog_11_method_33_code
def yX9_get : MethodName := ⟨RX9, "get", "(III)I"⟩
abbrev cX9_store : ByteArray := prog_11_method_34_code
def yX9_store : MethodName := ⟨RX9, "store", "(III)V"⟩
abbrev cX9_set : ByteArray := prog_11_method_35_code
def yX9_set : MethodName := ⟨RX9, "set", "(II)I"⟩
abbrev cX9_valuesFit : ByteArray := prog_11_method_36_code
def yX9_valuesFit : MethodName := ⟨RX9, "valuesFit", "(I)Z"⟩
abbrev cX9_wraps : ByteArray := prog_11_method_37_code
def yX9_wraps : MethodName := ⟨RX9, "wraps", "(I)I"⟩
abbrev cX9_comes : ByteArray := prog_11_method_38_code
def yX9_comes : MethodName := ⟨RX9, "comes", "(IIJ)I"⟩
abbrev cX9_runs : ByteArray := prog_11_method_39_code
def yX9_runs : MethodName := ⟨RX9, "runs", "(II)I"⟩
abbrev cX9_byHandler : ByteArray := prog_11_method_40_code
def yX9_byHandler : MethodName := ⟨RX9, "byHandler", "(II)I"⟩
abbrev cX9_call : ByteArray := prog_11_method_41_code
def yX9_call : MethodName := ⟨RX9, "call", "(II)I"⟩
abbrev cX9_recordFits : ByteArray := prog_11_method_42_code
def yX9_recordFits : MethodName := ⟨RX9, "recordFits", "(I)Z"⟩
abbrev cX9_make : ByteArray := prog_11_method_43_code
def yX9_make : MethodName := ⟨RX9, "make", "(I)I"⟩
abbrev cX9_proxy : ByteArray := prog_11_method_44_code
def yX9_proxy : MethodName := ⟨RX9, "proxy", "(II)I"⟩
abbrev cX9_constant : ByteArray := prog_11_method_45_code
def yX9_constant : MethodName := ⟨RX9, "constant", "(II)I"⟩
abbrev cX9_start : ByteArray := prog_11_method_46_code
def yX9_start : MethodName := ⟨RX9, "start", "(I)I"⟩
abbrev cX9_resultKind : ByteArray := prog_11_method_47_code
def yX9_resultKind : MethodName := ⟨RX9, "resultKind", "()I"⟩
abbrev cX9_result : ByteArray := prog_11_method_48_code
def yX9_result : MethodName := ⟨RX9, "result", "()J"⟩
abbrev cX9_cause : ByteArray := prog_11_method_49_code
def yX9_cause : MethodName := ⟨RX9, "cause", "()I"⟩
abbrev cX9_about : ByteArray := prog_11_method_50_code
def yX9_about : MethodName := ⟨RX9, "about", "(II)I"⟩
abbrev cX9_is : ByteArray := prog_11_method_51_code
def yX9_is : MethodName := ⟨RX9, "is", "(II)I"⟩
abbrev cX9_handle : ByteArray := prog_11_method_52_code
def yX9_handle : MethodName := ⟨RX9, "handle", "(II)I"⟩
abbrev cX9_told : ByteArray := prog_11_method_53_code
def yX9_told : MethodName := ⟨RX9, "told", "(I)I"⟩
def RL : String := "ReflectModelsLaw"
abbrev cL_law : ByteArray := code
def yL_law : MethodName := ⟨RL, "law", "([I)Z"⟩
def wsX0_init : List Cond := .code yX0_init cX0_init 8 none :: ([.methodLink RX0 3 objectInit, .instanceMethod objectInit, .code objectInit ⟨#[0xb1]⟩ 1 none, .fieldLink RX0 9 "ReflectModels$ClassModel" "state" "I", .fieldLink RX0 15 "ReflectModels$ClassModel" "constantCount" "I", .fieldLink RX0 18 "ReflectModels$ClassModel" "firstConstant" "I", .fieldLink RX0 21 "ReflectModels$ClassModel" "ownMembers" "I", .fieldLink RX0 24 "ReflectModels$ClassModel" "number" "I", .fieldLink RX0 27 "ReflectModels$ClassModel" "above" "LReflectModels$ClassModel;", .fieldLink RX0 31 "ReflectModels$ClassModel" "sort" "I", .fieldLink RX0 34 "ReflectModels$ClassModel" "face" "LReflectModels$ClassModel;", .fieldLink RX0 37 "ReflectModels$ClassModel" "shut" "Z", .fieldLink RX0 41 "ReflectModels$ClassModel" "fails" "Z", .fieldLink RX0 44 "ReflectModels$ClassModel" "line" "I", .fieldLink RX0 47 "ReflectModels$ClassModel" "all" "I"] ++ wsX00)
def wsX0_standsUnder : List Cond := .code yX0_standsUnder cX0_standsUnder 2 (some .boolean) :: ([.fieldLink RX0 44 "ReflectModels$ClassModel" "line" "I", .fieldLink RX0 24 "ReflectModels$ClassModel" "number" "I"] ++ wsX00)
def wsX3_init : List Cond := .code yX3_init cX3_init 4 none :: ([.methodLink RX3 1 objectInit, .instanceMethod objectInit, .code objectInit ⟨#[0xb1]⟩ 1 none, .fieldLink RX3 7 "ReflectModels$Member" "owner" "LReflectModels$ClassModel;", .fieldLink RX3 13 "ReflectModels$Member" "isStatic" "Z", .fieldLink RX3 17 "ReflectModels$Member" "isHidden" "Z"] ++ wsX10 ++ wsX40)
def wsX1_init : List Cond := .code yX1_init cX1_init 8 none :: ([.fieldLink RX1 9 "ReflectModels$Field" "name" "I", .fieldLink RX1 15 "ReflectModels$Field" "type" "I", .fieldLink RX1 18 "ReflectModels$Field" "isFinal" "Z", .fieldLink RX1 22 "ReflectModels$Field" "slot" "I", .constantLong RX1 25 (-1), .fieldLink RX1 27 "ReflectModels$Field" "first" "J", .fieldLink RX1 31 "ReflectModels$Field" "held" "J", .instanceMethod yX3_init, .initialized RX3, .code yX3_init cX3_init 4 none, .methodLink RX3 1 objectInit, .instanceMethod objectInit, .code objectInit ⟨#[0xb1]⟩ 1 none, .fieldLink RX3 7 "ReflectModels$Member" "owner" "LReflectModels$ClassModel;", .fieldLink RX3 13 "ReflectModels$Member" "isStatic" "Z", .fieldLink RX3 17 "ReflectModels$Member" "isHidden" "Z"] ++ wsX10 ++ wsX40)
def wsX2_init : List Cond := .code yX2_init cX2_init 3 none :: ([.methodLink RX2 1 objectInit, .instanceMethod objectInit, .code objectInit ⟨#[0xb1]⟩ 1 none, .fieldLink RX2 7 "ReflectModels$Handle" "hasLeave" "Z", .fieldLink RX2 13 "ReflectModels$Handle" "memberNumber" "I", .fieldLink RX2 17 "ReflectModels$Handle" "member" "LReflectModels$Member;"] ++ wsX20)
def wsX8_hasMark : List Cond := .code yX8_hasMark cX8_hasMark 2 (some .boolean) :: ([])
def wsX4_init : List Cond := .code yX4_init cX4_init 7 none :: ([.fieldLink RX4 13 "ReflectModels$Method" "signature" "LReflectModels$Signature;", .fieldLink RX4 19 "ReflectModels$Method" "gives" "I", .fieldLink RX4 23 "ReflectModels$Method" "isAbstract" "Z", .fieldLink RX4 27 "ReflectModels$Method" "body" "I", .fieldLink RX4 30 "ReflectModels$Method" "b" "I", .static yX8_hasMark, .initialized RX8, .code yX8_hasMark cX8_hasMark 2 (some .boolean), .instanceMethod yX3_init, .initialized RX3, .code yX3_init cX3_init 4 none, .methodLink RX3 1 objectInit, .instanceMethod objectInit, .code objectInit ⟨#[0xb1]⟩ 1 none, .fieldLink RX3 7 "ReflectModels$Member" "owner" "LReflectModels$ClassModel;", .fieldLink RX3 13 "ReflectModels$Member" "isStatic" "Z", .fieldLink RX3 17 "ReflectModels$Member" "isHidden" "Z"] ++ wsX40 ++ wsX10)
def wsX4_canBeChosen : List Cond := .code yX4_canBeChosen cX4_canBeChosen 1 (some .boolean) :: ([.fieldLink RX4 33 "ReflectModels$Method" "isHidden" "Z", .sameField "ReflectModels$Method" "ReflectModels$Member" "isHidden" "Z", .fieldLink RX4 36 "ReflectModels$Method" "isStatic" "Z", .sameField "ReflectModels$Method" "ReflectModels$Member" "isStatic" "Z", .fieldLink RX4 23 "ReflectModels$Method" "isAbstract" "Z"] ++ wsX10 ++ wsX40)
def wsX5_init : List Cond := .code yX5_init cX5_init 5 none :: ([.methodLink RX5 3 objectInit, .instanceMethod objectInit, .code objectInit ⟨#[0xb1]⟩ 1 none, .fieldLink RX5 9 "ReflectModels$Signature" "name" "I", .fieldLink RX5 15 "ReflectModels$Signature" "n" "I", .fieldLink RX5 18 "ReflectModels$Signature" "first" "I", .fieldLink RX5 21 "ReflectModels$Signature" "second" "I"] ++ wsX50)
def wsX5_matches : List Cond := .code yX5_matches cX5_matches 2 (some .boolean) :: ([.fieldLink RX5 9 "ReflectModels$Signature" "name" "I", .fieldLink RX5 15 "ReflectModels$Signature" "n" "I", .fieldLink RX5 18 "ReflectModels$Signature" "first" "I", .fieldLink RX5 21 "ReflectModels$Signature" "second" "I"] ++ wsX50)
def wsX8_isOutsideName : List Cond := .code yX8_isOutsideName cX8_isOutsideName 1 (some .boolean) :: ([])
def wsX5_isOutside : List Cond := .code yX5_isOutside cX5_isOutside 1 (some .boolean) :: ([.fieldLink RX5 9 "ReflectModels$Signature" "name" "I", .fieldLink RX5 15 "ReflectModels$Signature" "n" "I", .fieldLink RX5 18 "ReflectModels$Signature" "first" "I", .fieldLink RX5 21 "ReflectModels$Signature" "second" "I", .static yX8_isOutsideName, .initialized RX8, .code yX8_isOutsideName cX8_isOutsideName 1 (some .boolean)] ++ wsX50)
def wsX5_startsWithClass : List Cond := .code yX5_startsWithClass cX5_startsWithClass 1 (some .boolean) :: ([.fieldLink RX5 15 "ReflectModels$Signature" "n" "I", .fieldLink RX5 18 "ReflectModels$Signature" "first" "I"] ++ wsX50)
def wsX5_startsWithInt : List Cond := .code yX5_startsWithInt cX5_startsWithInt 1 (some .boolean) :: ([.fieldLink RX5 15 "ReflectModels$Signature" "n" "I", .fieldLink RX5 18 "ReflectModels$Signature" "first" "I"] ++ wsX50)
def wsX6_init : List Cond := .code yX6_init cX6_init 5 none :: ([.methodLink RX6 1 objectInit, .instanceMethod objectInit, .code objectInit ⟨#[0xb1]⟩ 1 none, .fieldLink RX6 7 "ReflectModels$Thing" "asked" "I", .fieldLink RX6 13 "ReflectModels$Thing" "model" "LReflectModels$ClassModel;", .fieldLink RX6 17 "ReflectModels$Thing" "handler" "I", .fieldLink RX6 20 "ReflectModels$Thing" "slots" "[J", .fieldLink RX6 29 "ReflectModels$Thing" "all" "I"] ++ wsX60 ++ wsX00)
def wsX6_isOf : List Cond := .code yX6_isOf cX6_isOf 2 (some .boolean) :: ([.fieldLink RX6 29 "ReflectModels$Thing" "all" "I"] ++ wsX60 ++ wsX00)
def wsX7_init : List Cond := .code yX7_init cX7_init 1 none :: ([.methodLink RX7 3 objectInit, .instanceMethod objectInit, .code objectInit ⟨#[0xb1]⟩ 1 none, .fieldLink RX7 9 "ReflectModels$Value" "kind" "I", .fieldLink RX7 15 "ReflectModels$Value" "number" "J"] ++ wsX70)
def wsX7_become : List Cond := .code yX7_become cX7_become 4 none :: ([.fieldLink RX7 9 "ReflectModels$Value" "kind" "I", .fieldLink RX7 15 "ReflectModels$Value" "number" "J"] ++ wsX70)
def wsX7_load : List Cond := .code yX7_load cX7_load 4 none :: ([.constantLong RX7 23 (-1), .methodLink RX7 19 yX7_become, .instanceMethod yX7_become, .selects RX7 yX7_become yX7_become, .initialized RX7, .code yX7_become cX7_become 4 none, .fieldLink RX7 9 "ReflectModels$Value" "kind" "I", .fieldLink RX7 15 "ReflectModels$Value" "number" "J"] ++ wsX70)
def wsX7_toHold : List Cond := .code yX7_toHold cX7_toHold 1 (some .long) :: ([.fieldLink RX7 9 "ReflectModels$Value" "kind" "I", .constantLong RX7 23 (-1), .fieldLink RX7 15 "ReflectModels$Value" "number" "J"] ++ wsX70)
def wsX7_widenFor : List Cond := .code yX7_widenFor cX7_widenFor 2 none :: ([.fieldLink RX7 9 "ReflectModels$Value" "kind" "I"] ++ wsX70)
def wsX7_becomeGiven : List Cond := .code yX7_becomeGiven cX7_becomeGiven 3 none :: ([.methodLink RX7 19 yX7_become, .instanceMethod yX7_become, .selects RX7 yX7_become yX7_become, .initialized RX7, .code yX7_become cX7_become 4 none, .fieldLink RX7 9 "ReflectModels$Value" "kind" "I", .fieldLink RX7 15 "ReflectModels$Value" "number" "J"] ++ wsX70)
def wsX8_init_r1 : List Cond := [Cond.methodLink RX8 1 objectInit, Cond.instanceMethod objectInit, Cond.code objectInit ⟨#[0xb1]⟩ 1 none, Cond.classLink RX8 9 RX0, Cond.fieldLink RX8 11 "ReflectModels" "classes" "[LReflectModels$ClassModel;", Cond.fieldLink RX8 15 "ReflectModels" "classCount" "I", Cond.classLink RX8 19 RX3, Cond.fieldLink RX8 21 "ReflectModels" "members" "[LReflectModels$Member;", Cond.fieldLink RX8 25 "ReflectModels" "memberCount" "I", Cond.fieldLink RX8 28 "ReflectModels" "slotCount" "I", Cond.classLink RX8 31 RX2, Cond.fieldLink RX8 33 "ReflectModels" "handles" "[LReflectModels$Handle;", Cond.fieldLink RX8 37 "ReflectModels" "handleCount" "I", Cond.classLink RX8 40 RX6, Cond.fieldLink RX8 42 "ReflectModels" "things" "[LReflectModels$Thing;", Cond.fieldLink RX8 46 "ReflectModels" "thingCount" "I", Cond.classLink RX8 49 RX7, Cond.fieldLink RX8 51 "ReflectModels" "values" "[LReflectModels$Value;", Cond.fieldLink RX8 55 "ReflectModels" "valueCount" "I", Cond.fieldLink RX8 58 "ReflectModels" "callerNumber" "I", Cond.instantiable RX7 2, Cond.initialized RX7, Cond.fieldLink RX8 62 "ReflectModels" "outcome" "LReflectModels$Value;", Cond.fieldLink RX8 66 "ReflectModels" "latestFailure" "I"]
def wsX8_init_r2 : List Cond := [Cond.fieldLink RX8 69 "ReflectModels" "latestCause" "I", Cond.instantiable RX0 12, Cond.initialized RX0, Cond.instanceMethod yX7_init, Cond.code yX7_init cX7_init 1 none, Cond.methodLink RX7 3 objectInit, Cond.fieldLink RX7 9 "ReflectModels$Value" "kind" "I", Cond.fieldLink RX7 15 "ReflectModels$Value" "number" "J", Cond.instanceMethod yX0_init, Cond.code yX0_init cX0_init 8 none, Cond.methodLink RX0 3 objectInit, Cond.fieldLink RX0 9 "ReflectModels$ClassModel" "state" "I", Cond.fieldLink RX0 15 "ReflectModels$ClassModel" "constantCount" "I", Cond.fieldLink RX0 18 "ReflectModels$ClassModel" "firstConstant" "I", Cond.fieldLink RX0 21 "ReflectModels$ClassModel" "ownMembers" "I", Cond.fieldLink RX0 24 "ReflectModels$ClassModel" "number" "I", Cond.fieldLink RX0 27 "ReflectModels$ClassModel" "above" "LReflectModels$ClassModel;", Cond.fieldLink RX0 31 "ReflectModels$ClassModel" "sort" "I", Cond.fieldLink RX0 34 "ReflectModels$ClassModel" "face" "LReflectModels$ClassModel;", Cond.fieldLink RX0 37 "ReflectModels$ClassModel" "shut" "Z", Cond.fieldLink RX0 41 "ReflectModels$ClassModel" "fails" "Z", Cond.fieldLink RX0 44 "ReflectModels$ClassModel" "line" "I", Cond.fieldLink RX0 47 "ReflectModels$ClassModel" "all" "I"]
def wsX8_init : List Cond := .code yX8_init cX8_init 2 none :: ((wsX8_init_r1 ++ wsX8_init_r2) ++ wsX80 ++ wsX70 ++ wsX00)
def wsX8_isClass : List Cond := .code yX8_isClass cX8_isClass 2 (some .boolean) :: ([.fieldLink RX8 15 "ReflectModels" "classCount" "I"] ++ wsX80)
def wsX8_mayHaveAbove : List Cond := .code yX8_mayHaveAbove cX8_mayHaveAbove 2 (some .boolean) :: ([] ++ wsX00)
def wsX8_mayActAs : List Cond := .code yX8_mayActAs cX8_mayActAs 2 (some .boolean) :: ([] ++ wsX00)
def wsX8_type_r1 : List Cond := [Cond.fieldLink RX8 11 "ReflectModels" "classes" "[LReflectModels$ClassModel;", Cond.fieldLink RX8 15 "ReflectModels" "classCount" "I", Cond.classLink RX8 9 RX0, Cond.instantiable RX0 12, Cond.initialized RX0, Cond.methodLink RX8 75 yX8_isClass, Cond.instanceMethod yX8_isClass, Cond.selects RX8 yX8_isClass yX8_isClass, Cond.initialized RX8, Cond.code yX8_isClass cX8_isClass 2 (some .boolean), Cond.methodLink RX8 79 yX8_mayHaveAbove, Cond.static yX8_mayHaveAbove, Cond.code yX8_mayHaveAbove cX8_mayHaveAbove 2 (some .boolean), Cond.methodLink RX8 83 yX8_mayActAs, Cond.static yX8_mayActAs, Cond.code yX8_mayActAs cX8_mayActAs 2 (some .boolean), Cond.instanceMethod yX0_init, Cond.code yX0_init cX0_init 8 none, Cond.methodLink RX0 3 objectInit, Cond.instanceMethod objectInit, Cond.code objectInit ⟨#[0xb1]⟩ 1 none, Cond.fieldLink RX0 9 "ReflectModels$ClassModel" "state" "I", Cond.fieldLink RX0 15 "ReflectModels$ClassModel" "constantCount" "I", Cond.fieldLink RX0 18 "ReflectModels$ClassModel" "firstConstant" "I"]
def wsX8_type_r2 : List Cond := [Cond.fieldLink RX0 21 "ReflectModels$ClassModel" "ownMembers" "I", Cond.fieldLink RX0 24 "ReflectModels$ClassModel" "number" "I", Cond.fieldLink RX0 27 "ReflectModels$ClassModel" "above" "LReflectModels$ClassModel;", Cond.fieldLink RX0 31 "ReflectModels$ClassModel" "sort" "I", Cond.fieldLink RX0 34 "ReflectModels$ClassModel" "face" "LReflectModels$ClassModel;", Cond.fieldLink RX0 37 "ReflectModels$ClassModel" "shut" "Z", Cond.fieldLink RX0 41 "ReflectModels$ClassModel" "fails" "Z", Cond.fieldLink RX0 44 "ReflectModels$ClassModel" "line" "I", Cond.fieldLink RX0 47 "ReflectModels$ClassModel" "all" "I"]
def wsX8_type : List Cond := .code yX8_type cX8_type 7 (some .int) :: ((wsX8_type_r1 ++ wsX8_type_r2) ++ wsX80 ++ wsX00)
def wsX8_constants : List Cond := .code yX8_constants cX8_constants 4 (some .int) :: ([.fieldLink RX8 11 "ReflectModels" "classes" "[LReflectModels$ClassModel;", .methodLink RX8 75 yX8_isClass, .instanceMethod yX8_isClass, .selects RX8 yX8_isClass yX8_isClass, .initialized RX8, .code yX8_isClass cX8_isClass 2 (some .boolean), .fieldLink RX8 15 "ReflectModels" "classCount" "I"] ++ wsX80 ++ wsX00)
def wsX8_isMissingClass : List Cond := .code yX8_isMissingClass cX8_isMissingClass 2 (some .boolean) :: ([.fieldLink RX8 15 "ReflectModels" "classCount" "I"] ++ wsX80)
def wsX8_mayHaveField : List Cond := .code yX8_mayHaveField cX8_mayHaveField 3 (some .boolean) :: ([] ++ wsX00)
def wsX8_ownField : List Cond := .code yX8_ownField cX8_ownField 6 (some .int) :: ([.fieldLink RX8 25 "ReflectModels" "memberCount" "I", .fieldLink RX8 21 "ReflectModels" "members" "[LReflectModels$Member;", .classLink RX8 109 "ReflectModels$Field", .fieldLink RX8 326 "ReflectModels$Field" "owner" "LReflectModels$ClassModel;", .sameField "ReflectModels$Field" "ReflectModels$Member" "owner" "LReflectModels$ClassModel;"] ++ wsX80 ++ wsX10 ++ wsX40)
def wsX8_addMember : List Cond := .code yX8_addMember cX8_addMember 2 (some .int) :: ([.fieldLink RX8 21 "ReflectModels" "members" "[LReflectModels$Member;", .fieldLink RX8 25 "ReflectModels" "memberCount" "I", .fieldLink RX8 175 "ReflectModels$Member" "owner" "LReflectModels$ClassModel;"] ++ wsX80 ++ wsX10 ++ wsX40 ++ wsX00)
def wsX8_field_r1 : List Cond := [Cond.fieldLink RX8 11 "ReflectModels" "classes" "[LReflectModels$ClassModel;", Cond.fieldLink RX8 46 "ReflectModels" "thingCount" "I", Cond.fieldLink RX8 25 "ReflectModels" "memberCount" "I", Cond.fieldLink RX8 28 "ReflectModels" "slotCount" "I", Cond.classLink RX8 109 RX1, Cond.instantiable RX1 9, Cond.initialized RX1, Cond.methodLink RX8 75 yX8_isClass, Cond.instanceMethod yX8_isClass, Cond.selects RX8 yX8_isClass yX8_isClass, Cond.initialized RX8, Cond.code yX8_isClass cX8_isClass 2 (some .boolean), Cond.fieldLink RX8 15 "ReflectModels" "classCount" "I", Cond.methodLink RX8 95 yX8_isMissingClass, Cond.instanceMethod yX8_isMissingClass, Cond.selects RX8 yX8_isMissingClass yX8_isMissingClass, Cond.code yX8_isMissingClass cX8_isMissingClass 2 (some .boolean), Cond.methodLink RX8 98 yX8_isOutsideName, Cond.static yX8_isOutsideName, Cond.code yX8_isOutsideName cX8_isOutsideName 1 (some .boolean), Cond.methodLink RX8 101 yX8_mayHaveField, Cond.static yX8_mayHaveField, Cond.code yX8_mayHaveField cX8_mayHaveField 3 (some .boolean), Cond.methodLink RX8 105 yX8_ownField]
def wsX8_field_r2 : List Cond := [Cond.instanceMethod yX8_ownField, Cond.selects RX8 yX8_ownField yX8_ownField, Cond.code yX8_ownField cX8_ownField 6 (some .int), Cond.fieldLink RX8 21 "ReflectModels" "members" "[LReflectModels$Member;", Cond.classLink RX8 109 "ReflectModels$Field", Cond.fieldLink RX8 326 "ReflectModels$Field" "owner" "LReflectModels$ClassModel;", Cond.sameField "ReflectModels$Field" "ReflectModels$Member" "owner" "LReflectModels$ClassModel;", Cond.instanceMethod yX1_init, Cond.code yX1_init cX1_init 8 none, Cond.fieldLink RX1 9 "ReflectModels$Field" "name" "I", Cond.fieldLink RX1 15 "ReflectModels$Field" "type" "I", Cond.fieldLink RX1 18 "ReflectModels$Field" "isFinal" "Z", Cond.fieldLink RX1 22 "ReflectModels$Field" "slot" "I", Cond.constantLong RX1 25 (-1), Cond.fieldLink RX1 27 "ReflectModels$Field" "first" "J", Cond.fieldLink RX1 31 "ReflectModels$Field" "held" "J", Cond.instanceMethod yX3_init, Cond.initialized RX3, Cond.code yX3_init cX3_init 4 none, Cond.methodLink RX3 1 objectInit, Cond.instanceMethod objectInit, Cond.code objectInit ⟨#[0xb1]⟩ 1 none, Cond.fieldLink RX3 7 "ReflectModels$Member" "owner" "LReflectModels$ClassModel;", Cond.fieldLink RX3 13 "ReflectModels$Member" "isStatic" "Z"]
def wsX8_field_r3 : List Cond := [Cond.fieldLink RX3 17 "ReflectModels$Member" "isHidden" "Z", Cond.methodLink RX8 114 yX8_addMember, Cond.instanceMethod yX8_addMember, Cond.selects RX8 yX8_addMember yX8_addMember, Cond.code yX8_addMember cX8_addMember 2 (some .int), Cond.fieldLink RX8 175 "ReflectModels$Member" "owner" "LReflectModels$ClassModel;"]
def wsX8_field : List Cond := .code yX8_field cX8_field 9 (some .int) :: ((wsX8_field_r1 ++ (wsX8_field_r2 ++ wsX8_field_r3)) ++ wsX80 ++ wsX10 ++ wsX00 ++ wsX40)
def wsX8_hasMissingClass : List Cond := .code yX8_hasMissingClass cX8_hasMissingClass 2 (some .boolean) :: ([.methodLink RX8 95 yX8_isMissingClass, .instanceMethod yX8_isMissingClass, .selects RX8 yX8_isMissingClass yX8_isMissingClass, .initialized RX8, .code yX8_isMissingClass cX8_isMissingClass 2 (some .boolean), .fieldLink RX8 15 "ReflectModels" "classCount" "I"] ++ wsX50 ++ wsX80)
def wsX8_areOutsideMarks : List Cond := .code yX8_areOutsideMarks cX8_areOutsideMarks 1 (some .boolean) :: ([.methodLink RX8 293 yX8_hasMark, .static yX8_hasMark, .initialized RX8, .code yX8_hasMark cX8_hasMark 2 (some .boolean)])
def wsX8_isOutsideBody : List Cond := .code yX8_isOutsideBody cX8_isOutsideBody 2 (some .boolean) :: ([])
def wsX8_mayHaveMethod : List Cond := .code yX8_mayHaveMethod cX8_mayHaveMethod 2 (some .boolean) :: ([.fieldLink RX8 150 "ReflectModels$Method" "owner" "LReflectModels$ClassModel;", .sameField "ReflectModels$Method" "ReflectModels$Member" "owner" "LReflectModels$ClassModel;", .fieldLink RX8 299 "ReflectModels$Method" "isStatic" "Z", .sameField "ReflectModels$Method" "ReflectModels$Member" "isStatic" "Z"] ++ wsX10 ++ wsX40 ++ wsX00)
def wsX8_fieldToRead : List Cond := .code yX8_fieldToRead cX8_fieldToRead 4 (some (.object "ReflectModels$Field")) :: ([.fieldLink RX8 25 "ReflectModels" "memberCount" "I", .fieldLink RX8 21 "ReflectModels" "members" "[LReflectModels$Member;", .classLink RX8 109 "ReflectModels$Field", .fieldLink RX8 325 "ReflectModels$Field" "isStatic" "Z", .sameField "ReflectModels$Field" "ReflectModels$Member" "isStatic" "Z"] ++ wsX80 ++ wsX10 ++ wsX40)
def wsX8_bodySuits_r1 : List Cond := [Cond.fieldLink RX8 299 "ReflectModels$Method" "isStatic" "Z", Cond.sameField "ReflectModels$Method" "ReflectModels$Member" "isStatic" "Z", Cond.instanceMethod yX5_startsWithInt, Cond.initialized RX5, Cond.selects RX5 yX5_startsWithInt yX5_startsWithInt, Cond.code yX5_startsWithInt cX5_startsWithInt 1 (some .boolean), Cond.fieldLink RX5 15 "ReflectModels$Signature" "n" "I", Cond.fieldLink RX5 18 "ReflectModels$Signature" "first" "I", Cond.instanceMethod yX5_startsWithClass, Cond.selects RX5 yX5_startsWithClass yX5_startsWithClass, Cond.code yX5_startsWithClass cX5_startsWithClass 1 (some .boolean), Cond.methodLink RX8 75 yX8_isClass, Cond.instanceMethod yX8_isClass, Cond.selects RX8 yX8_isClass yX8_isClass, Cond.initialized RX8, Cond.code yX8_isClass cX8_isClass 2 (some .boolean), Cond.fieldLink RX8 15 "ReflectModels" "classCount" "I", Cond.methodLink RX8 321 yX8_fieldToRead, Cond.instanceMethod yX8_fieldToRead, Cond.selects RX8 yX8_fieldToRead yX8_fieldToRead, Cond.code yX8_fieldToRead cX8_fieldToRead 4 (some (.object "ReflectModels$Field")), Cond.fieldLink RX8 25 "ReflectModels" "memberCount" "I", Cond.fieldLink RX8 21 "ReflectModels" "members" "[LReflectModels$Member;", Cond.classLink RX8 109 "ReflectModels$Field"]
def wsX8_bodySuits_r2 : List Cond := [Cond.fieldLink RX8 325 "ReflectModels$Field" "isStatic" "Z", Cond.sameField "ReflectModels$Field" "ReflectModels$Member" "isStatic" "Z"]
def wsX8_bodySuits : List Cond := .code yX8_bodySuits cX8_bodySuits 2 (some .boolean) :: ((wsX8_bodySuits_r1 ++ wsX8_bodySuits_r2) ++ wsX40 ++ wsX50 ++ wsX10 ++ wsX80)
def wsX8_ownMethod : List Cond := .code yX8_ownMethod cX8_ownMethod 6 (some .int) :: ([.fieldLink RX8 25 "ReflectModels" "memberCount" "I", .fieldLink RX8 21 "ReflectModels" "members" "[LReflectModels$Member;", .classLink RX8 138 "ReflectModels$Method", .fieldLink RX8 150 "ReflectModels$Method" "owner" "LReflectModels$ClassModel;", .sameField "ReflectModels$Method" "ReflectModels$Member" "owner" "LReflectModels$ClassModel;", .instanceMethod yX5_matches, .initialized RX5, .selects RX5 yX5_matches yX5_matches, .code yX5_matches cX5_matches 2 (some .boolean), .fieldLink RX5 9 "ReflectModels$Signature" "name" "I", .fieldLink RX5 15 "ReflectModels$Signature" "n" "I", .fieldLink RX5 18 "ReflectModels$Signature" "first" "I", .fieldLink RX5 21 "ReflectModels$Signature" "second" "I"] ++ wsX80 ++ wsX10 ++ wsX40 ++ wsX50)
def wsX8_method_r1 : List Cond := [Cond.classLink RX8 118 RX5, Cond.instantiable RX5 4, Cond.initialized RX5, Cond.classLink RX8 138 RX4, Cond.instantiable RX4 8, Cond.initialized RX4, Cond.fieldLink RX8 11 "ReflectModels" "classes" "[LReflectModels$ClassModel;", Cond.fieldLink RX8 46 "ReflectModels" "thingCount" "I", Cond.fieldLink RX8 150 "ReflectModels$Method" "owner" "LReflectModels$ClassModel;", Cond.sameField "ReflectModels$Method" "ReflectModels$Member" "owner" "LReflectModels$ClassModel;", Cond.fieldLink RX8 25 "ReflectModels" "memberCount" "I", Cond.instanceMethod yX5_init, Cond.code yX5_init cX5_init 5 none, Cond.methodLink RX5 3 objectInit, Cond.instanceMethod objectInit, Cond.code objectInit ⟨#[0xb1]⟩ 1 none, Cond.fieldLink RX5 9 "ReflectModels$Signature" "name" "I", Cond.fieldLink RX5 15 "ReflectModels$Signature" "n" "I", Cond.fieldLink RX5 18 "ReflectModels$Signature" "first" "I", Cond.fieldLink RX5 21 "ReflectModels$Signature" "second" "I", Cond.methodLink RX8 75 yX8_isClass, Cond.instanceMethod yX8_isClass, Cond.selects RX8 yX8_isClass yX8_isClass, Cond.initialized RX8]
def wsX8_method_r2 : List Cond := [Cond.code yX8_isClass cX8_isClass 2 (some .boolean), Cond.fieldLink RX8 15 "ReflectModels" "classCount" "I", Cond.methodLink RX8 123 yX8_hasMissingClass, Cond.instanceMethod yX8_hasMissingClass, Cond.selects RX8 yX8_hasMissingClass yX8_hasMissingClass, Cond.code yX8_hasMissingClass cX8_hasMissingClass 2 (some .boolean), Cond.methodLink RX8 95 yX8_isMissingClass, Cond.instanceMethod yX8_isMissingClass, Cond.selects RX8 yX8_isMissingClass yX8_isMissingClass, Cond.code yX8_isMissingClass cX8_isMissingClass 2 (some .boolean), Cond.instanceMethod yX5_isOutside, Cond.selects RX5 yX5_isOutside yX5_isOutside, Cond.code yX5_isOutside cX5_isOutside 1 (some .boolean), Cond.static yX8_isOutsideName, Cond.code yX8_isOutsideName cX8_isOutsideName 1 (some .boolean), Cond.methodLink RX8 131 yX8_areOutsideMarks, Cond.static yX8_areOutsideMarks, Cond.code yX8_areOutsideMarks cX8_areOutsideMarks 1 (some .boolean), Cond.methodLink RX8 293 yX8_hasMark, Cond.static yX8_hasMark, Cond.code yX8_hasMark cX8_hasMark 2 (some .boolean), Cond.methodLink RX8 134 yX8_isOutsideBody, Cond.static yX8_isOutsideBody, Cond.code yX8_isOutsideBody cX8_isOutsideBody 2 (some .boolean)]
def wsX8_method_r3 : List Cond := [Cond.instanceMethod yX4_init, Cond.code yX4_init cX4_init 7 none, Cond.fieldLink RX4 13 "ReflectModels$Method" "signature" "LReflectModels$Signature;", Cond.fieldLink RX4 19 "ReflectModels$Method" "gives" "I", Cond.fieldLink RX4 23 "ReflectModels$Method" "isAbstract" "Z", Cond.fieldLink RX4 27 "ReflectModels$Method" "body" "I", Cond.fieldLink RX4 30 "ReflectModels$Method" "b" "I", Cond.instanceMethod yX3_init, Cond.initialized RX3, Cond.code yX3_init cX3_init 4 none, Cond.methodLink RX3 1 objectInit, Cond.fieldLink RX3 7 "ReflectModels$Member" "owner" "LReflectModels$ClassModel;", Cond.fieldLink RX3 13 "ReflectModels$Member" "isStatic" "Z", Cond.fieldLink RX3 17 "ReflectModels$Member" "isHidden" "Z", Cond.methodLink RX8 143 yX8_mayHaveMethod, Cond.static yX8_mayHaveMethod, Cond.code yX8_mayHaveMethod cX8_mayHaveMethod 2 (some .boolean), Cond.fieldLink RX8 299 "ReflectModels$Method" "isStatic" "Z", Cond.sameField "ReflectModels$Method" "ReflectModels$Member" "isStatic" "Z", Cond.methodLink RX8 147 yX8_bodySuits, Cond.instanceMethod yX8_bodySuits, Cond.selects RX8 yX8_bodySuits yX8_bodySuits, Cond.code yX8_bodySuits cX8_bodySuits 2 (some .boolean), Cond.instanceMethod yX5_startsWithInt]
def wsX8_method_r4 : List Cond := [Cond.selects RX5 yX5_startsWithInt yX5_startsWithInt, Cond.code yX5_startsWithInt cX5_startsWithInt 1 (some .boolean), Cond.instanceMethod yX5_startsWithClass, Cond.selects RX5 yX5_startsWithClass yX5_startsWithClass, Cond.code yX5_startsWithClass cX5_startsWithClass 1 (some .boolean), Cond.methodLink RX8 321 yX8_fieldToRead, Cond.instanceMethod yX8_fieldToRead, Cond.selects RX8 yX8_fieldToRead yX8_fieldToRead, Cond.code yX8_fieldToRead cX8_fieldToRead 4 (some (.object "ReflectModels$Field")), Cond.fieldLink RX8 21 "ReflectModels" "members" "[LReflectModels$Member;", Cond.classLink RX8 109 "ReflectModels$Field", Cond.fieldLink RX8 325 "ReflectModels$Field" "isStatic" "Z", Cond.sameField "ReflectModels$Field" "ReflectModels$Member" "isStatic" "Z", Cond.methodLink RX8 154 yX8_ownMethod, Cond.instanceMethod yX8_ownMethod, Cond.selects RX8 yX8_ownMethod yX8_ownMethod, Cond.code yX8_ownMethod cX8_ownMethod 6 (some .int), Cond.classLink RX8 138 "ReflectModels$Method", Cond.instanceMethod yX5_matches, Cond.selects RX5 yX5_matches yX5_matches, Cond.code yX5_matches cX5_matches 2 (some .boolean), Cond.methodLink RX8 114 yX8_addMember, Cond.instanceMethod yX8_addMember, Cond.selects RX8 yX8_addMember yX8_addMember]
def wsX8_method_r5 : List Cond := [Cond.code yX8_addMember cX8_addMember 2 (some .int), Cond.fieldLink RX8 175 "ReflectModels$Member" "owner" "LReflectModels$ClassModel;"]
def wsX8_method : List Cond := .code yX8_method cX8_method 12 (some .int) :: ((wsX8_method_r1 ++ (wsX8_method_r2 ++ (wsX8_method_r3 ++ (wsX8_method_r4 ++ wsX8_method_r5)))) ++ wsX50 ++ wsX40 ++ wsX80 ++ wsX10 ++ wsX00)
def wsX8_caller : List Cond := .code yX8_caller cX8_caller 3 (some .int) :: ([.fieldLink RX8 58 "ReflectModels" "callerNumber" "I", .methodLink RX8 75 yX8_isClass, .instanceMethod yX8_isClass, .selects RX8 yX8_isClass yX8_isClass, .initialized RX8, .code yX8_isClass cX8_isClass 2 (some .boolean), .fieldLink RX8 15 "ReflectModels" "classCount" "I"] ++ wsX80)
def wsX8_visibleField : List Cond := .code yX8_visibleField cX8_visibleField 5 (some .int) :: ([.fieldLink RX8 21 "ReflectModels" "members" "[LReflectModels$Member;", .fieldLink RX8 333 "ReflectModels$Member" "isHidden" "Z", .methodLink RX8 105 yX8_ownField, .instanceMethod yX8_ownField, .selects RX8 yX8_ownField yX8_ownField, .initialized RX8, .code yX8_ownField cX8_ownField 6 (some .int), .fieldLink RX8 25 "ReflectModels" "memberCount" "I", .classLink RX8 109 "ReflectModels$Field", .fieldLink RX8 326 "ReflectModels$Field" "owner" "LReflectModels$ClassModel;", .sameField "ReflectModels$Field" "ReflectModels$Member" "owner" "LReflectModels$ClassModel;"] ++ wsX80 ++ wsX10 ++ wsX40 ++ wsX00)
def wsX8_failed : List Cond := .code yX8_failed cX8_failed 2 (some .int) :: ([.fieldLink RX8 66 "ReflectModels" "latestFailure" "I"] ++ wsX80)
def wsX8_addHandle : List Cond := .code yX8_addHandle cX8_addHandle 2 (some .int) :: ([.fieldLink RX8 37 "ReflectModels" "handleCount" "I", .fieldLink RX8 33 "ReflectModels" "handles" "[LReflectModels$Handle;", .classLink RX8 31 RX2, .instantiable RX2 3, .initialized RX2, .fieldLink RX8 21 "ReflectModels" "members" "[LReflectModels$Member;", .methodLink RX8 183 yX8_failed, .instanceMethod yX8_failed, .selects RX8 yX8_failed yX8_failed, .initialized RX8, .code yX8_failed cX8_failed 2 (some .int), .fieldLink RX8 66 "ReflectModels" "latestFailure" "I", .instanceMethod yX2_init, .code yX2_init cX2_init 3 none, .methodLink RX2 1 objectInit, .instanceMethod objectInit, .code objectInit ⟨#[0xb1]⟩ 1 none, .fieldLink RX2 7 "ReflectModels$Handle" "hasLeave" "Z", .fieldLink RX2 13 "ReflectModels$Handle" "memberNumber" "I", .fieldLink RX2 17 "ReflectModels$Handle" "member" "LReflectModels$Member;"] ++ wsX80 ++ wsX20)
def wsX8_findField_r1 : List Cond := [Cond.fieldLink RX8 11 "ReflectModels" "classes" "[LReflectModels$ClassModel;", Cond.methodLink RX8 75 yX8_isClass, Cond.instanceMethod yX8_isClass, Cond.selects RX8 yX8_isClass yX8_isClass, Cond.initialized RX8, Cond.code yX8_isClass cX8_isClass 2 (some .boolean), Cond.fieldLink RX8 15 "ReflectModels" "classCount" "I", Cond.methodLink RX8 98 yX8_isOutsideName, Cond.static yX8_isOutsideName, Cond.code yX8_isOutsideName cX8_isOutsideName 1 (some .boolean), Cond.methodLink RX8 158 yX8_visibleField, Cond.instanceMethod yX8_visibleField, Cond.selects RX8 yX8_visibleField yX8_visibleField, Cond.code yX8_visibleField cX8_visibleField 5 (some .int), Cond.fieldLink RX8 21 "ReflectModels" "members" "[LReflectModels$Member;", Cond.fieldLink RX8 333 "ReflectModels$Member" "isHidden" "Z", Cond.methodLink RX8 105 yX8_ownField, Cond.instanceMethod yX8_ownField, Cond.selects RX8 yX8_ownField yX8_ownField, Cond.code yX8_ownField cX8_ownField 6 (some .int), Cond.fieldLink RX8 25 "ReflectModels" "memberCount" "I", Cond.classLink RX8 109 "ReflectModels$Field", Cond.fieldLink RX8 326 "ReflectModels$Field" "owner" "LReflectModels$ClassModel;", Cond.sameField "ReflectModels$Field" "ReflectModels$Member" "owner" "LReflectModels$ClassModel;"]
def wsX8_findField_r2 : List Cond := [Cond.methodLink RX8 161 yX8_addHandle, Cond.instanceMethod yX8_addHandle, Cond.selects RX8 yX8_addHandle yX8_addHandle, Cond.code yX8_addHandle cX8_addHandle 2 (some .int), Cond.fieldLink RX8 37 "ReflectModels" "handleCount" "I", Cond.fieldLink RX8 33 "ReflectModels" "handles" "[LReflectModels$Handle;", Cond.classLink RX8 31 RX2, Cond.instantiable RX2 3, Cond.initialized RX2, Cond.methodLink RX8 183 yX8_failed, Cond.instanceMethod yX8_failed, Cond.selects RX8 yX8_failed yX8_failed, Cond.code yX8_failed cX8_failed 2 (some .int), Cond.fieldLink RX8 66 "ReflectModels" "latestFailure" "I", Cond.instanceMethod yX2_init, Cond.code yX2_init cX2_init 3 none, Cond.methodLink RX2 1 objectInit, Cond.instanceMethod objectInit, Cond.code objectInit ⟨#[0xb1]⟩ 1 none, Cond.fieldLink RX2 7 "ReflectModels$Handle" "hasLeave" "Z", Cond.fieldLink RX2 13 "ReflectModels$Handle" "memberNumber" "I", Cond.fieldLink RX2 17 "ReflectModels$Handle" "member" "LReflectModels$Member;"]
def wsX8_findField : List Cond := .code yX8_findField cX8_findField 4 (some .int) :: ((wsX8_findField_r1 ++ wsX8_findField_r2) ++ wsX80 ++ wsX10 ++ wsX40 ++ wsX00 ++ wsX20)
def wsX8_visibleMethodUpward : List Cond := .code yX8_visibleMethodUpward cX8_visibleMethodUpward 5 (some .int) :: ([.fieldLink RX8 21 "ReflectModels" "members" "[LReflectModels$Member;", .fieldLink RX8 333 "ReflectModels$Member" "isHidden" "Z", .methodLink RX8 154 yX8_ownMethod, .instanceMethod yX8_ownMethod, .selects RX8 yX8_ownMethod yX8_ownMethod, .initialized RX8, .code yX8_ownMethod cX8_ownMethod 6 (some .int), .fieldLink RX8 25 "ReflectModels" "memberCount" "I", .classLink RX8 138 "ReflectModels$Method", .fieldLink RX8 150 "ReflectModels$Method" "owner" "LReflectModels$ClassModel;", .sameField "ReflectModels$Method" "ReflectModels$Member" "owner" "LReflectModels$ClassModel;", .instanceMethod yX5_matches, .initialized RX5, .selects RX5 yX5_matches yX5_matches, .code yX5_matches cX5_matches 2 (some .boolean), .fieldLink RX5 9 "ReflectModels$Signature" "name" "I", .fieldLink RX5 15 "ReflectModels$Signature" "n" "I", .fieldLink RX5 18 "ReflectModels$Signature" "first" "I", .fieldLink RX5 21 "ReflectModels$Signature" "second" "I"] ++ wsX80 ++ wsX10 ++ wsX40 ++ wsX00 ++ wsX50)
def wsX8_visibleMethod : List Cond := .code yX8_visibleMethod cX8_visibleMethod 5 (some .int) :: ([.methodLink RX8 336 yX8_visibleMethodUpward, .instanceMethod yX8_visibleMethodUpward, .selects RX8 yX8_visibleMethodUpward yX8_visibleMethodUpward, .initialized RX8, .code yX8_visibleMethodUpward cX8_visibleMethodUpward 5 (some .int), .fieldLink RX8 21 "ReflectModels" "members" "[LReflectModels$Member;", .fieldLink RX8 333 "ReflectModels$Member" "isHidden" "Z", .methodLink RX8 154 yX8_ownMethod, .instanceMethod yX8_ownMethod, .selects RX8 yX8_ownMethod yX8_ownMethod, .code yX8_ownMethod cX8_ownMethod 6 (some .int), .fieldLink RX8 25 "ReflectModels" "memberCount" "I", .classLink RX8 138 "ReflectModels$Method", .fieldLink RX8 150 "ReflectModels$Method" "owner" "LReflectModels$ClassModel;", .sameField "ReflectModels$Method" "ReflectModels$Member" "owner" "LReflectModels$ClassModel;", .instanceMethod yX5_matches, .initialized RX5, .selects RX5 yX5_matches yX5_matches, .code yX5_matches cX5_matches 2 (some .boolean), .fieldLink RX5 9 "ReflectModels$Signature" "name" "I", .fieldLink RX5 15 "ReflectModels$Signature" "n" "I", .fieldLink RX5 18 "ReflectModels$Signature" "first" "I", .fieldLink RX5 21 "ReflectModels$Signature" "second" "I"] ++ wsX00 ++ wsX80 ++ wsX10 ++ wsX40 ++ wsX50)
def wsX8_findMethod_r1 : List Cond := [Cond.classLink RX8 118 RX5, Cond.instantiable RX5 4, Cond.initialized RX5, Cond.fieldLink RX8 11 "ReflectModels" "classes" "[LReflectModels$ClassModel;", Cond.instanceMethod yX5_init, Cond.code yX5_init cX5_init 5 none, Cond.methodLink RX5 3 objectInit, Cond.instanceMethod objectInit, Cond.code objectInit ⟨#[0xb1]⟩ 1 none, Cond.fieldLink RX5 9 "ReflectModels$Signature" "name" "I", Cond.fieldLink RX5 15 "ReflectModels$Signature" "n" "I", Cond.fieldLink RX5 18 "ReflectModels$Signature" "first" "I", Cond.fieldLink RX5 21 "ReflectModels$Signature" "second" "I", Cond.methodLink RX8 75 yX8_isClass, Cond.instanceMethod yX8_isClass, Cond.selects RX8 yX8_isClass yX8_isClass, Cond.initialized RX8, Cond.code yX8_isClass cX8_isClass 2 (some .boolean), Cond.fieldLink RX8 15 "ReflectModels" "classCount" "I", Cond.methodLink RX8 123 yX8_hasMissingClass, Cond.instanceMethod yX8_hasMissingClass, Cond.selects RX8 yX8_hasMissingClass yX8_hasMissingClass, Cond.code yX8_hasMissingClass cX8_hasMissingClass 2 (some .boolean), Cond.methodLink RX8 95 yX8_isMissingClass]
def wsX8_findMethod_r2 : List Cond := [Cond.instanceMethod yX8_isMissingClass, Cond.selects RX8 yX8_isMissingClass yX8_isMissingClass, Cond.code yX8_isMissingClass cX8_isMissingClass 2 (some .boolean), Cond.instanceMethod yX5_isOutside, Cond.selects RX5 yX5_isOutside yX5_isOutside, Cond.code yX5_isOutside cX5_isOutside 1 (some .boolean), Cond.static yX8_isOutsideName, Cond.code yX8_isOutsideName cX8_isOutsideName 1 (some .boolean), Cond.methodLink RX8 165 yX8_visibleMethod, Cond.instanceMethod yX8_visibleMethod, Cond.selects RX8 yX8_visibleMethod yX8_visibleMethod, Cond.code yX8_visibleMethod cX8_visibleMethod 5 (some .int), Cond.methodLink RX8 336 yX8_visibleMethodUpward, Cond.instanceMethod yX8_visibleMethodUpward, Cond.selects RX8 yX8_visibleMethodUpward yX8_visibleMethodUpward, Cond.code yX8_visibleMethodUpward cX8_visibleMethodUpward 5 (some .int), Cond.fieldLink RX8 21 "ReflectModels" "members" "[LReflectModels$Member;", Cond.fieldLink RX8 333 "ReflectModels$Member" "isHidden" "Z", Cond.methodLink RX8 154 yX8_ownMethod, Cond.instanceMethod yX8_ownMethod, Cond.selects RX8 yX8_ownMethod yX8_ownMethod, Cond.code yX8_ownMethod cX8_ownMethod 6 (some .int), Cond.fieldLink RX8 25 "ReflectModels" "memberCount" "I", Cond.classLink RX8 138 "ReflectModels$Method"]
def wsX8_findMethod_r3 : List Cond := [Cond.fieldLink RX8 150 "ReflectModels$Method" "owner" "LReflectModels$ClassModel;", Cond.sameField "ReflectModels$Method" "ReflectModels$Member" "owner" "LReflectModels$ClassModel;", Cond.instanceMethod yX5_matches, Cond.selects RX5 yX5_matches yX5_matches, Cond.code yX5_matches cX5_matches 2 (some .boolean), Cond.methodLink RX8 161 yX8_addHandle, Cond.instanceMethod yX8_addHandle, Cond.selects RX8 yX8_addHandle yX8_addHandle, Cond.code yX8_addHandle cX8_addHandle 2 (some .int), Cond.fieldLink RX8 37 "ReflectModels" "handleCount" "I", Cond.fieldLink RX8 33 "ReflectModels" "handles" "[LReflectModels$Handle;", Cond.classLink RX8 31 RX2, Cond.instantiable RX2 3, Cond.initialized RX2, Cond.methodLink RX8 183 yX8_failed, Cond.instanceMethod yX8_failed, Cond.selects RX8 yX8_failed yX8_failed, Cond.code yX8_failed cX8_failed 2 (some .int), Cond.fieldLink RX8 66 "ReflectModels" "latestFailure" "I", Cond.instanceMethod yX2_init, Cond.code yX2_init cX2_init 3 none, Cond.methodLink RX2 1 objectInit, Cond.fieldLink RX2 7 "ReflectModels$Handle" "hasLeave" "Z", Cond.fieldLink RX2 13 "ReflectModels$Handle" "memberNumber" "I"]
def wsX8_findMethod_r4 : List Cond := [Cond.fieldLink RX2 17 "ReflectModels$Handle" "member" "LReflectModels$Member;"]
def wsX8_findMethod : List Cond := .code yX8_findMethod cX8_findMethod 8 (some .int) :: ((wsX8_findMethod_r1 ++ (wsX8_findMethod_r2 ++ (wsX8_findMethod_r3 ++ wsX8_findMethod_r4))) ++ wsX50 ++ wsX80 ++ wsX00 ++ wsX10 ++ wsX40 ++ wsX20)
def wsX8_isHandle : List Cond := .code yX8_isHandle cX8_isHandle 2 (some .boolean) :: ([.fieldLink RX8 37 "ReflectModels" "handleCount" "I"] ++ wsX80)
def wsX8_leave : List Cond := .code yX8_leave cX8_leave 3 (some .int) :: ([.fieldLink RX8 33 "ReflectModels" "handles" "[LReflectModels$Handle;", .fieldLink RX8 175 "ReflectModels$Member" "owner" "LReflectModels$ClassModel;", .fieldLink RX8 58 "ReflectModels" "callerNumber" "I", .methodLink RX8 168 yX8_isHandle, .instanceMethod yX8_isHandle, .selects RX8 yX8_isHandle yX8_isHandle, .initialized RX8, .code yX8_isHandle cX8_isHandle 2 (some .boolean), .fieldLink RX8 37 "ReflectModels" "handleCount" "I", .methodLink RX8 183 yX8_failed, .instanceMethod yX8_failed, .selects RX8 yX8_failed yX8_failed, .code yX8_failed cX8_failed 2 (some .int), .fieldLink RX8 66 "ReflectModels" "latestFailure" "I"] ++ wsX80 ++ wsX20 ++ wsX10 ++ wsX40 ++ wsX00)
def wsX8_value : List Cond := .code yX8_value cX8_value 5 (some .int) :: ([.fieldLink RX8 46 "ReflectModels" "thingCount" "I", .fieldLink RX8 55 "ReflectModels" "valueCount" "I", .constantLong RX8 191 (-2147483648), .constantLong RX8 193 (2147483647), .fieldLink RX8 51 "ReflectModels" "values" "[LReflectModels$Value;", .instanceMethod yX7_become, .initialized RX7, .selects RX7 yX7_become yX7_become, .code yX7_become cX7_become 4 none, .fieldLink RX7 9 "ReflectModels$Value" "kind" "I", .fieldLink RX7 15 "ReflectModels$Value" "number" "J"] ++ wsX80 ++ wsX70)
def wsX8_isThing : List Cond := .code yX8_isThing cX8_isThing 2 (some .boolean) :: ([.fieldLink RX8 46 "ReflectModels" "thingCount" "I"] ++ wsX80)
def wsX8_isReceiver : List Cond := .code yX8_isReceiver cX8_isReceiver 2 (some .boolean) :: ([.methodLink RX8 273 yX8_isThing, .instanceMethod yX8_isThing, .selects RX8 yX8_isThing yX8_isThing, .initialized RX8, .code yX8_isThing cX8_isThing 2 (some .boolean), .fieldLink RX8 46 "ReflectModels" "thingCount" "I"] ++ wsX80)
def wsX8_mayUse : List Cond := .code yX8_mayUse cX8_mayUse 3 (some .boolean) :: ([.fieldLink RX8 333 "ReflectModels$Member" "isHidden" "Z", .fieldLink RX8 175 "ReflectModels$Member" "owner" "LReflectModels$ClassModel;", .fieldLink RX8 58 "ReflectModels" "callerNumber" "I"] ++ wsX20 ++ wsX10 ++ wsX40 ++ wsX00 ++ wsX80)
def wsX8_firstSlots : List Cond := .code yX8_firstSlots cX8_firstSlots 5 (some (.array .long)) :: ([.fieldLink RX8 28 "ReflectModels" "slotCount" "I", .arrayClass .long, .fieldLink RX8 25 "ReflectModels" "memberCount" "I", .fieldLink RX8 21 "ReflectModels" "members" "[LReflectModels$Member;", .classLink RX8 109 "ReflectModels$Field", .fieldLink RX8 325 "ReflectModels$Field" "isStatic" "Z", .sameField "ReflectModels$Field" "ReflectModels$Member" "isStatic" "Z"] ++ wsX80 ++ wsX10 ++ wsX40)
def wsX8_addThing_r1 : List Cond := [Cond.fieldLink RX8 46 "ReflectModels" "thingCount" "I", Cond.fieldLink RX8 42 "ReflectModels" "things" "[LReflectModels$Thing;", Cond.classLink RX8 40 RX6, Cond.instantiable RX6 5, Cond.initialized RX6, Cond.methodLink RX8 375 yX8_firstSlots, Cond.instanceMethod yX8_firstSlots, Cond.selects RX8 yX8_firstSlots yX8_firstSlots, Cond.initialized RX8, Cond.code yX8_firstSlots cX8_firstSlots 5 (some (.array .long)), Cond.fieldLink RX8 28 "ReflectModels" "slotCount" "I", Cond.arrayClass .long, Cond.fieldLink RX8 25 "ReflectModels" "memberCount" "I", Cond.fieldLink RX8 21 "ReflectModels" "members" "[LReflectModels$Member;", Cond.classLink RX8 109 "ReflectModels$Field", Cond.fieldLink RX8 325 "ReflectModels$Field" "isStatic" "Z", Cond.sameField "ReflectModels$Field" "ReflectModels$Member" "isStatic" "Z", Cond.instanceMethod yX6_init, Cond.code yX6_init cX6_init 5 none, Cond.methodLink RX6 1 objectInit, Cond.instanceMethod objectInit, Cond.code objectInit ⟨#[0xb1]⟩ 1 none, Cond.fieldLink RX6 7 "ReflectModels$Thing" "asked" "I", Cond.fieldLink RX6 13 "ReflectModels$Thing" "model" "LReflectModels$ClassModel;"]
def wsX8_addThing_r2 : List Cond := [Cond.fieldLink RX6 17 "ReflectModels$Thing" "handler" "I", Cond.fieldLink RX6 20 "ReflectModels$Thing" "slots" "[J", Cond.fieldLink RX6 29 "ReflectModels$Thing" "all" "I"]
def wsX8_addThing : List Cond := .code yX8_addThing cX8_addThing 4 (some .int) :: ((wsX8_addThing_r1 ++ wsX8_addThing_r2) ++ wsX80 ++ wsX60 ++ wsX10 ++ wsX40 ++ wsX00)
def wsX8_startAlone_r1 : List Cond := [Cond.fieldLink RX8 46 "ReflectModels" "thingCount" "I", Cond.methodLink RX8 244 yX8_addThing, Cond.instanceMethod yX8_addThing, Cond.selects RX8 yX8_addThing yX8_addThing, Cond.initialized RX8, Cond.code yX8_addThing cX8_addThing 4 (some .int), Cond.fieldLink RX8 42 "ReflectModels" "things" "[LReflectModels$Thing;", Cond.classLink RX8 40 RX6, Cond.instantiable RX6 5, Cond.initialized RX6, Cond.methodLink RX8 375 yX8_firstSlots, Cond.instanceMethod yX8_firstSlots, Cond.selects RX8 yX8_firstSlots yX8_firstSlots, Cond.code yX8_firstSlots cX8_firstSlots 5 (some (.array .long)), Cond.fieldLink RX8 28 "ReflectModels" "slotCount" "I", Cond.arrayClass .long, Cond.fieldLink RX8 25 "ReflectModels" "memberCount" "I", Cond.fieldLink RX8 21 "ReflectModels" "members" "[LReflectModels$Member;", Cond.classLink RX8 109 "ReflectModels$Field", Cond.fieldLink RX8 325 "ReflectModels$Field" "isStatic" "Z", Cond.sameField "ReflectModels$Field" "ReflectModels$Member" "isStatic" "Z", Cond.instanceMethod yX6_init, Cond.code yX6_init cX6_init 5 none, Cond.methodLink RX6 1 objectInit]
def wsX8_startAlone_r2 : List Cond := [Cond.instanceMethod objectInit, Cond.code objectInit ⟨#[0xb1]⟩ 1 none, Cond.fieldLink RX6 7 "ReflectModels$Thing" "asked" "I", Cond.fieldLink RX6 13 "ReflectModels$Thing" "model" "LReflectModels$ClassModel;", Cond.fieldLink RX6 17 "ReflectModels$Thing" "handler" "I", Cond.fieldLink RX6 20 "ReflectModels$Thing" "slots" "[J", Cond.fieldLink RX6 29 "ReflectModels$Thing" "all" "I"]
def wsX8_startAlone : List Cond := .code yX8_startAlone cX8_startAlone 3 (some .int) :: ((wsX8_startAlone_r1 ++ wsX8_startAlone_r2) ++ wsX00 ++ wsX80 ++ wsX60 ++ wsX10 ++ wsX40)
def wsX8_startFailure_r1 : List Cond := [Cond.fieldLink RX8 15 "ReflectModels" "classCount" "I", Cond.fieldLink RX8 11 "ReflectModels" "classes" "[LReflectModels$ClassModel;", Cond.instanceMethod yX0_standsUnder, Cond.initialized RX0, Cond.selects RX0 yX0_standsUnder yX0_standsUnder, Cond.code yX0_standsUnder cX0_standsUnder 2 (some .boolean), Cond.fieldLink RX0 44 "ReflectModels$ClassModel" "line" "I", Cond.fieldLink RX0 24 "ReflectModels$ClassModel" "number" "I", Cond.methodLink RX8 345 yX8_startAlone, Cond.instanceMethod yX8_startAlone, Cond.selects RX8 yX8_startAlone yX8_startAlone, Cond.initialized RX8, Cond.code yX8_startAlone cX8_startAlone 3 (some .int), Cond.fieldLink RX8 46 "ReflectModels" "thingCount" "I", Cond.methodLink RX8 244 yX8_addThing, Cond.instanceMethod yX8_addThing, Cond.selects RX8 yX8_addThing yX8_addThing, Cond.code yX8_addThing cX8_addThing 4 (some .int), Cond.fieldLink RX8 42 "ReflectModels" "things" "[LReflectModels$Thing;", Cond.classLink RX8 40 RX6, Cond.instantiable RX6 5, Cond.initialized RX6, Cond.methodLink RX8 375 yX8_firstSlots, Cond.instanceMethod yX8_firstSlots]
def wsX8_startFailure_r2 : List Cond := [Cond.selects RX8 yX8_firstSlots yX8_firstSlots, Cond.code yX8_firstSlots cX8_firstSlots 5 (some (.array .long)), Cond.fieldLink RX8 28 "ReflectModels" "slotCount" "I", Cond.arrayClass .long, Cond.fieldLink RX8 25 "ReflectModels" "memberCount" "I", Cond.fieldLink RX8 21 "ReflectModels" "members" "[LReflectModels$Member;", Cond.classLink RX8 109 "ReflectModels$Field", Cond.fieldLink RX8 325 "ReflectModels$Field" "isStatic" "Z", Cond.sameField "ReflectModels$Field" "ReflectModels$Member" "isStatic" "Z", Cond.instanceMethod yX6_init, Cond.code yX6_init cX6_init 5 none, Cond.methodLink RX6 1 objectInit, Cond.instanceMethod objectInit, Cond.code objectInit ⟨#[0xb1]⟩ 1 none, Cond.fieldLink RX6 7 "ReflectModels$Thing" "asked" "I", Cond.fieldLink RX6 13 "ReflectModels$Thing" "model" "LReflectModels$ClassModel;", Cond.fieldLink RX6 17 "ReflectModels$Thing" "handler" "I", Cond.fieldLink RX6 20 "ReflectModels$Thing" "slots" "[J", Cond.fieldLink RX6 29 "ReflectModels$Thing" "all" "I"]
def wsX8_startFailure : List Cond := .code yX8_startFailure cX8_startFailure 4 (some .int) :: ((wsX8_startFailure_r1 ++ wsX8_startFailure_r2) ++ wsX80 ++ wsX00 ++ wsX60 ++ wsX10 ++ wsX40)
def wsX8_receiverFailure : List Cond := .code yX8_receiverFailure cX8_receiverFailure 3 (some .int) :: ([.fieldLink RX8 42 "ReflectModels" "things" "[LReflectModels$Thing;", .fieldLink RX8 175 "ReflectModels$Member" "owner" "LReflectModels$ClassModel;", .instanceMethod yX6_isOf, .initialized RX6, .selects RX6 yX6_isOf yX6_isOf, .code yX6_isOf cX6_isOf 2 (some .boolean), .fieldLink RX6 29 "ReflectModels$Thing" "all" "I"] ++ wsX80 ++ wsX10 ++ wsX40 ++ wsX60 ++ wsX00)
def wsX8_reachFailure_r1 : List Cond := [Cond.fieldLink RX8 351 "ReflectModels$Member" "isStatic" "Z", Cond.fieldLink RX8 175 "ReflectModels$Member" "owner" "LReflectModels$ClassModel;", Cond.methodLink RX8 252 yX8_startFailure, Cond.instanceMethod yX8_startFailure, Cond.selects RX8 yX8_startFailure yX8_startFailure, Cond.initialized RX8, Cond.code yX8_startFailure cX8_startFailure 4 (some .int), Cond.fieldLink RX8 15 "ReflectModels" "classCount" "I", Cond.fieldLink RX8 11 "ReflectModels" "classes" "[LReflectModels$ClassModel;", Cond.instanceMethod yX0_standsUnder, Cond.initialized RX0, Cond.selects RX0 yX0_standsUnder yX0_standsUnder, Cond.code yX0_standsUnder cX0_standsUnder 2 (some .boolean), Cond.fieldLink RX0 44 "ReflectModels$ClassModel" "line" "I", Cond.fieldLink RX0 24 "ReflectModels$ClassModel" "number" "I", Cond.methodLink RX8 345 yX8_startAlone, Cond.instanceMethod yX8_startAlone, Cond.selects RX8 yX8_startAlone yX8_startAlone, Cond.code yX8_startAlone cX8_startAlone 3 (some .int), Cond.fieldLink RX8 46 "ReflectModels" "thingCount" "I", Cond.methodLink RX8 244 yX8_addThing, Cond.instanceMethod yX8_addThing, Cond.selects RX8 yX8_addThing yX8_addThing, Cond.code yX8_addThing cX8_addThing 4 (some .int)]
def wsX8_reachFailure_r2 : List Cond := [Cond.fieldLink RX8 42 "ReflectModels" "things" "[LReflectModels$Thing;", Cond.classLink RX8 40 RX6, Cond.instantiable RX6 5, Cond.initialized RX6, Cond.methodLink RX8 375 yX8_firstSlots, Cond.instanceMethod yX8_firstSlots, Cond.selects RX8 yX8_firstSlots yX8_firstSlots, Cond.code yX8_firstSlots cX8_firstSlots 5 (some (.array .long)), Cond.fieldLink RX8 28 "ReflectModels" "slotCount" "I", Cond.arrayClass .long, Cond.fieldLink RX8 25 "ReflectModels" "memberCount" "I", Cond.fieldLink RX8 21 "ReflectModels" "members" "[LReflectModels$Member;", Cond.classLink RX8 109 "ReflectModels$Field", Cond.fieldLink RX8 325 "ReflectModels$Field" "isStatic" "Z", Cond.sameField "ReflectModels$Field" "ReflectModels$Member" "isStatic" "Z", Cond.instanceMethod yX6_init, Cond.code yX6_init cX6_init 5 none, Cond.methodLink RX6 1 objectInit, Cond.instanceMethod objectInit, Cond.code objectInit ⟨#[0xb1]⟩ 1 none, Cond.fieldLink RX6 7 "ReflectModels$Thing" "asked" "I", Cond.fieldLink RX6 13 "ReflectModels$Thing" "model" "LReflectModels$ClassModel;", Cond.fieldLink RX6 17 "ReflectModels$Thing" "handler" "I", Cond.fieldLink RX6 20 "ReflectModels$Thing" "slots" "[J"]
def wsX8_reachFailure_r3 : List Cond := [Cond.fieldLink RX6 29 "ReflectModels$Thing" "all" "I", Cond.methodLink RX8 352 yX8_receiverFailure, Cond.instanceMethod yX8_receiverFailure, Cond.selects RX8 yX8_receiverFailure yX8_receiverFailure, Cond.code yX8_receiverFailure cX8_receiverFailure 3 (some .int), Cond.instanceMethod yX6_isOf, Cond.selects RX6 yX6_isOf yX6_isOf, Cond.code yX6_isOf cX6_isOf 2 (some .boolean)]
def wsX8_reachFailure : List Cond := .code yX8_reachFailure cX8_reachFailure 3 (some .int) :: ((wsX8_reachFailure_r1 ++ (wsX8_reachFailure_r2 ++ wsX8_reachFailure_r3)) ++ wsX10 ++ wsX40 ++ wsX80 ++ wsX00 ++ wsX60)
def wsX8_getFailure_r1 : List Cond := [Cond.methodLink RX8 283 yX8_mayUse, Cond.instanceMethod yX8_mayUse, Cond.selects RX8 yX8_mayUse yX8_mayUse, Cond.initialized RX8, Cond.code yX8_mayUse cX8_mayUse 3 (some .boolean), Cond.fieldLink RX8 333 "ReflectModels$Member" "isHidden" "Z", Cond.fieldLink RX8 175 "ReflectModels$Member" "owner" "LReflectModels$ClassModel;", Cond.fieldLink RX8 58 "ReflectModels" "callerNumber" "I", Cond.methodLink RX8 356 yX8_reachFailure, Cond.instanceMethod yX8_reachFailure, Cond.selects RX8 yX8_reachFailure yX8_reachFailure, Cond.code yX8_reachFailure cX8_reachFailure 3 (some .int), Cond.fieldLink RX8 351 "ReflectModels$Member" "isStatic" "Z", Cond.methodLink RX8 252 yX8_startFailure, Cond.instanceMethod yX8_startFailure, Cond.selects RX8 yX8_startFailure yX8_startFailure, Cond.code yX8_startFailure cX8_startFailure 4 (some .int), Cond.fieldLink RX8 15 "ReflectModels" "classCount" "I", Cond.fieldLink RX8 11 "ReflectModels" "classes" "[LReflectModels$ClassModel;", Cond.instanceMethod yX0_standsUnder, Cond.initialized RX0, Cond.selects RX0 yX0_standsUnder yX0_standsUnder, Cond.code yX0_standsUnder cX0_standsUnder 2 (some .boolean), Cond.fieldLink RX0 44 "ReflectModels$ClassModel" "line" "I"]
def wsX8_getFailure_r2 : List Cond := [Cond.fieldLink RX0 24 "ReflectModels$ClassModel" "number" "I", Cond.methodLink RX8 345 yX8_startAlone, Cond.instanceMethod yX8_startAlone, Cond.selects RX8 yX8_startAlone yX8_startAlone, Cond.code yX8_startAlone cX8_startAlone 3 (some .int), Cond.fieldLink RX8 46 "ReflectModels" "thingCount" "I", Cond.methodLink RX8 244 yX8_addThing, Cond.instanceMethod yX8_addThing, Cond.selects RX8 yX8_addThing yX8_addThing, Cond.code yX8_addThing cX8_addThing 4 (some .int), Cond.fieldLink RX8 42 "ReflectModels" "things" "[LReflectModels$Thing;", Cond.classLink RX8 40 RX6, Cond.instantiable RX6 5, Cond.initialized RX6, Cond.methodLink RX8 375 yX8_firstSlots, Cond.instanceMethod yX8_firstSlots, Cond.selects RX8 yX8_firstSlots yX8_firstSlots, Cond.code yX8_firstSlots cX8_firstSlots 5 (some (.array .long)), Cond.fieldLink RX8 28 "ReflectModels" "slotCount" "I", Cond.arrayClass .long, Cond.fieldLink RX8 25 "ReflectModels" "memberCount" "I", Cond.fieldLink RX8 21 "ReflectModels" "members" "[LReflectModels$Member;", Cond.classLink RX8 109 "ReflectModels$Field", Cond.fieldLink RX8 325 "ReflectModels$Field" "isStatic" "Z"]
def wsX8_getFailure_r3 : List Cond := [Cond.sameField "ReflectModels$Field" "ReflectModels$Member" "isStatic" "Z", Cond.instanceMethod yX6_init, Cond.code yX6_init cX6_init 5 none, Cond.methodLink RX6 1 objectInit, Cond.instanceMethod objectInit, Cond.code objectInit ⟨#[0xb1]⟩ 1 none, Cond.fieldLink RX6 7 "ReflectModels$Thing" "asked" "I", Cond.fieldLink RX6 13 "ReflectModels$Thing" "model" "LReflectModels$ClassModel;", Cond.fieldLink RX6 17 "ReflectModels$Thing" "handler" "I", Cond.fieldLink RX6 20 "ReflectModels$Thing" "slots" "[J", Cond.fieldLink RX6 29 "ReflectModels$Thing" "all" "I", Cond.methodLink RX8 352 yX8_receiverFailure, Cond.instanceMethod yX8_receiverFailure, Cond.selects RX8 yX8_receiverFailure yX8_receiverFailure, Cond.code yX8_receiverFailure cX8_receiverFailure 3 (some .int), Cond.instanceMethod yX6_isOf, Cond.selects RX6 yX6_isOf yX6_isOf, Cond.code yX6_isOf cX6_isOf 2 (some .boolean)]
def wsX8_getFailure : List Cond := .code yX8_getFailure cX8_getFailure 6 (some .int) :: ((wsX8_getFailure_r1 ++ (wsX8_getFailure_r2 ++ wsX8_getFailure_r3)) ++ wsX10 ++ wsX20 ++ wsX40 ++ wsX00 ++ wsX80 ++ wsX60)
def wsX8_hasSlot : List Cond := .code yX8_hasSlot cX8_hasSlot 3 (some .boolean) :: ([.fieldLink RX8 42 "ReflectModels" "things" "[LReflectModels$Thing;", .methodLink RX8 273 yX8_isThing, .instanceMethod yX8_isThing, .selects RX8 yX8_isThing yX8_isThing, .initialized RX8, .code yX8_isThing cX8_isThing 2 (some .boolean), .fieldLink RX8 46 "ReflectModels" "thingCount" "I"] ++ wsX10 ++ wsX80 ++ wsX60)
def wsX8_heldIn : List Cond := .code yX8_heldIn cX8_heldIn 3 (some .long) :: ([.fieldLink RX8 325 "ReflectModels$Field" "isStatic" "Z", .sameField "ReflectModels$Field" "ReflectModels$Member" "isStatic" "Z", .fieldLink RX8 42 "ReflectModels" "things" "[LReflectModels$Thing;", .methodLink RX8 391 yX8_hasSlot, .instanceMethod yX8_hasSlot, .selects RX8 yX8_hasSlot yX8_hasSlot, .initialized RX8, .code yX8_hasSlot cX8_hasSlot 3 (some .boolean), .methodLink RX8 273 yX8_isThing, .instanceMethod yX8_isThing, .selects RX8 yX8_isThing yX8_isThing, .code yX8_isThing cX8_isThing 2 (some .boolean), .fieldLink RX8 46 "ReflectModels" "thingCount" "I"] ++ wsX10 ++ wsX40 ++ wsX80 ++ wsX60)
def wsX8_get_r1 : List Cond := [Cond.fieldLink RX8 33 "ReflectModels" "handles" "[LReflectModels$Handle;", Cond.classLink RX8 109 "ReflectModels$Field", Cond.fieldLink RX8 62 "ReflectModels" "outcome" "LReflectModels$Value;", Cond.methodLink RX8 168 yX8_isHandle, Cond.instanceMethod yX8_isHandle, Cond.selects RX8 yX8_isHandle yX8_isHandle, Cond.initialized RX8, Cond.code yX8_isHandle cX8_isHandle 2 (some .boolean), Cond.fieldLink RX8 37 "ReflectModels" "handleCount" "I", Cond.methodLink RX8 199 yX8_isReceiver, Cond.instanceMethod yX8_isReceiver, Cond.selects RX8 yX8_isReceiver yX8_isReceiver, Cond.code yX8_isReceiver cX8_isReceiver 2 (some .boolean), Cond.methodLink RX8 273 yX8_isThing, Cond.instanceMethod yX8_isThing, Cond.selects RX8 yX8_isThing yX8_isThing, Cond.code yX8_isThing cX8_isThing 2 (some .boolean), Cond.fieldLink RX8 46 "ReflectModels" "thingCount" "I", Cond.instanceMethod yX7_become, Cond.initialized RX7, Cond.selects RX7 yX7_become yX7_become, Cond.code yX7_become cX7_become 4 none, Cond.fieldLink RX7 9 "ReflectModels$Value" "kind" "I", Cond.fieldLink RX7 15 "ReflectModels$Value" "number" "J"]
def wsX8_get_r2 : List Cond := [Cond.methodLink RX8 202 yX8_getFailure, Cond.instanceMethod yX8_getFailure, Cond.selects RX8 yX8_getFailure yX8_getFailure, Cond.code yX8_getFailure cX8_getFailure 6 (some .int), Cond.methodLink RX8 283 yX8_mayUse, Cond.instanceMethod yX8_mayUse, Cond.selects RX8 yX8_mayUse yX8_mayUse, Cond.code yX8_mayUse cX8_mayUse 3 (some .boolean), Cond.fieldLink RX8 333 "ReflectModels$Member" "isHidden" "Z", Cond.fieldLink RX8 175 "ReflectModels$Member" "owner" "LReflectModels$ClassModel;", Cond.fieldLink RX8 58 "ReflectModels" "callerNumber" "I", Cond.methodLink RX8 356 yX8_reachFailure, Cond.instanceMethod yX8_reachFailure, Cond.selects RX8 yX8_reachFailure yX8_reachFailure, Cond.code yX8_reachFailure cX8_reachFailure 3 (some .int), Cond.fieldLink RX8 351 "ReflectModels$Member" "isStatic" "Z", Cond.methodLink RX8 252 yX8_startFailure, Cond.instanceMethod yX8_startFailure, Cond.selects RX8 yX8_startFailure yX8_startFailure, Cond.code yX8_startFailure cX8_startFailure 4 (some .int), Cond.fieldLink RX8 15 "ReflectModels" "classCount" "I", Cond.fieldLink RX8 11 "ReflectModels" "classes" "[LReflectModels$ClassModel;", Cond.instanceMethod yX0_standsUnder, Cond.initialized RX0]
def wsX8_get_r3 : List Cond := [Cond.selects RX0 yX0_standsUnder yX0_standsUnder, Cond.code yX0_standsUnder cX0_standsUnder 2 (some .boolean), Cond.fieldLink RX0 44 "ReflectModels$ClassModel" "line" "I", Cond.fieldLink RX0 24 "ReflectModels$ClassModel" "number" "I", Cond.methodLink RX8 345 yX8_startAlone, Cond.instanceMethod yX8_startAlone, Cond.selects RX8 yX8_startAlone yX8_startAlone, Cond.code yX8_startAlone cX8_startAlone 3 (some .int), Cond.methodLink RX8 244 yX8_addThing, Cond.instanceMethod yX8_addThing, Cond.selects RX8 yX8_addThing yX8_addThing, Cond.code yX8_addThing cX8_addThing 4 (some .int), Cond.fieldLink RX8 42 "ReflectModels" "things" "[LReflectModels$Thing;", Cond.classLink RX8 40 RX6, Cond.instantiable RX6 5, Cond.initialized RX6, Cond.methodLink RX8 375 yX8_firstSlots, Cond.instanceMethod yX8_firstSlots, Cond.selects RX8 yX8_firstSlots yX8_firstSlots, Cond.code yX8_firstSlots cX8_firstSlots 5 (some (.array .long)), Cond.fieldLink RX8 28 "ReflectModels" "slotCount" "I", Cond.arrayClass .long, Cond.fieldLink RX8 25 "ReflectModels" "memberCount" "I", Cond.fieldLink RX8 21 "ReflectModels" "members" "[LReflectModels$Member;"]
def wsX8_get_r4 : List Cond := [Cond.fieldLink RX8 325 "ReflectModels$Field" "isStatic" "Z", Cond.sameField "ReflectModels$Field" "ReflectModels$Member" "isStatic" "Z", Cond.instanceMethod yX6_init, Cond.code yX6_init cX6_init 5 none, Cond.methodLink RX6 1 objectInit, Cond.instanceMethod objectInit, Cond.code objectInit ⟨#[0xb1]⟩ 1 none, Cond.fieldLink RX6 7 "ReflectModels$Thing" "asked" "I", Cond.fieldLink RX6 13 "ReflectModels$Thing" "model" "LReflectModels$ClassModel;", Cond.fieldLink RX6 17 "ReflectModels$Thing" "handler" "I", Cond.fieldLink RX6 20 "ReflectModels$Thing" "slots" "[J", Cond.fieldLink RX6 29 "ReflectModels$Thing" "all" "I", Cond.methodLink RX8 352 yX8_receiverFailure, Cond.instanceMethod yX8_receiverFailure, Cond.selects RX8 yX8_receiverFailure yX8_receiverFailure, Cond.code yX8_receiverFailure cX8_receiverFailure 3 (some .int), Cond.instanceMethod yX6_isOf, Cond.selects RX6 yX6_isOf yX6_isOf, Cond.code yX6_isOf cX6_isOf 2 (some .boolean), Cond.methodLink RX8 183 yX8_failed, Cond.instanceMethod yX8_failed, Cond.selects RX8 yX8_failed yX8_failed, Cond.code yX8_failed cX8_failed 2 (some .int), Cond.fieldLink RX8 66 "ReflectModels" "latestFailure" "I"]
def wsX8_get_r5 : List Cond := [Cond.methodLink RX8 209 yX8_heldIn, Cond.instanceMethod yX8_heldIn, Cond.selects RX8 yX8_heldIn yX8_heldIn, Cond.code yX8_heldIn cX8_heldIn 3 (some .long), Cond.methodLink RX8 391 yX8_hasSlot, Cond.instanceMethod yX8_hasSlot, Cond.selects RX8 yX8_hasSlot yX8_hasSlot, Cond.code yX8_hasSlot cX8_hasSlot 3 (some .boolean), Cond.instanceMethod yX7_load, Cond.selects RX7 yX7_load yX7_load, Cond.code yX7_load cX7_load 4 none, Cond.constantLong RX7 23 (-1), Cond.methodLink RX7 19 yX7_become, Cond.instanceMethod yX7_widenFor, Cond.selects RX7 yX7_widenFor yX7_widenFor, Cond.code yX7_widenFor cX7_widenFor 2 none]
def wsX8_get : List Cond := .code yX8_get cX8_get 6 (some .int) :: ((wsX8_get_r1 ++ (wsX8_get_r2 ++ (wsX8_get_r3 ++ (wsX8_get_r4 ++ wsX8_get_r5)))) ++ wsX80 ++ wsX20 ++ wsX10 ++ wsX70 ++ wsX40 ++ wsX00 ++ wsX60)
def wsX8_isObjectOf : List Cond := .code yX8_isObjectOf cX8_isObjectOf 3 (some .boolean) :: ([.fieldLink RX8 46 "ReflectModels" "thingCount" "I", .fieldLink RX8 42 "ReflectModels" "things" "[LReflectModels$Thing;", .fieldLink RX8 11 "ReflectModels" "classes" "[LReflectModels$ClassModel;", .methodLink RX8 75 yX8_isClass, .instanceMethod yX8_isClass, .selects RX8 yX8_isClass yX8_isClass, .initialized RX8, .code yX8_isClass cX8_isClass 2 (some .boolean), .fieldLink RX8 15 "ReflectModels" "classCount" "I", .instanceMethod yX6_isOf, .initialized RX6, .selects RX6 yX6_isOf yX6_isOf, .code yX6_isOf cX6_isOf 2 (some .boolean), .fieldLink RX6 29 "ReflectModels$Thing" "all" "I"] ++ wsX70 ++ wsX80 ++ wsX60 ++ wsX00)
def wsX8_fits : List Cond := .code yX8_fits cX8_fits 3 (some .boolean) :: ([.methodLink RX8 372 yX8_isObjectOf, .instanceMethod yX8_isObjectOf, .selects RX8 yX8_isObjectOf yX8_isObjectOf, .initialized RX8, .code yX8_isObjectOf cX8_isObjectOf 3 (some .boolean), .fieldLink RX8 46 "ReflectModels" "thingCount" "I", .fieldLink RX8 42 "ReflectModels" "things" "[LReflectModels$Thing;", .fieldLink RX8 11 "ReflectModels" "classes" "[LReflectModels$ClassModel;", .methodLink RX8 75 yX8_isClass, .instanceMethod yX8_isClass, .selects RX8 yX8_isClass yX8_isClass, .code yX8_isClass cX8_isClass 2 (some .boolean), .fieldLink RX8 15 "ReflectModels" "classCount" "I", .instanceMethod yX6_isOf, .initialized RX6, .selects RX6 yX6_isOf yX6_isOf, .code yX6_isOf cX6_isOf 2 (some .boolean), .fieldLink RX6 29 "ReflectModels$Thing" "all" "I"] ++ wsX70 ++ wsX80 ++ wsX60 ++ wsX00)
def wsX8_setFailure_r1 : List Cond := [Cond.fieldLink RX8 325 "ReflectModels$Field" "isStatic" "Z", Cond.sameField "ReflectModels$Field" "ReflectModels$Member" "isStatic" "Z", Cond.fieldLink RX8 326 "ReflectModels$Field" "owner" "LReflectModels$ClassModel;", Cond.sameField "ReflectModels$Field" "ReflectModels$Member" "owner" "LReflectModels$ClassModel;", Cond.fieldLink RX8 51 "ReflectModels" "values" "[LReflectModels$Value;", Cond.methodLink RX8 283 yX8_mayUse, Cond.instanceMethod yX8_mayUse, Cond.selects RX8 yX8_mayUse yX8_mayUse, Cond.initialized RX8, Cond.code yX8_mayUse cX8_mayUse 3 (some .boolean), Cond.fieldLink RX8 333 "ReflectModels$Member" "isHidden" "Z", Cond.fieldLink RX8 175 "ReflectModels$Member" "owner" "LReflectModels$ClassModel;", Cond.fieldLink RX8 58 "ReflectModels" "callerNumber" "I", Cond.methodLink RX8 356 yX8_reachFailure, Cond.instanceMethod yX8_reachFailure, Cond.selects RX8 yX8_reachFailure yX8_reachFailure, Cond.code yX8_reachFailure cX8_reachFailure 3 (some .int), Cond.fieldLink RX8 351 "ReflectModels$Member" "isStatic" "Z", Cond.methodLink RX8 252 yX8_startFailure, Cond.instanceMethod yX8_startFailure, Cond.selects RX8 yX8_startFailure yX8_startFailure, Cond.code yX8_startFailure cX8_startFailure 4 (some .int), Cond.fieldLink RX8 15 "ReflectModels" "classCount" "I", Cond.fieldLink RX8 11 "ReflectModels" "classes" "[LReflectModels$ClassModel;"]
def wsX8_setFailure_r2 : List Cond := [Cond.instanceMethod yX0_standsUnder, Cond.initialized RX0, Cond.selects RX0 yX0_standsUnder yX0_standsUnder, Cond.code yX0_standsUnder cX0_standsUnder 2 (some .boolean), Cond.fieldLink RX0 44 "ReflectModels$ClassModel" "line" "I", Cond.fieldLink RX0 24 "ReflectModels$ClassModel" "number" "I", Cond.methodLink RX8 345 yX8_startAlone, Cond.instanceMethod yX8_startAlone, Cond.selects RX8 yX8_startAlone yX8_startAlone, Cond.code yX8_startAlone cX8_startAlone 3 (some .int), Cond.fieldLink RX8 46 "ReflectModels" "thingCount" "I", Cond.methodLink RX8 244 yX8_addThing, Cond.instanceMethod yX8_addThing, Cond.selects RX8 yX8_addThing yX8_addThing, Cond.code yX8_addThing cX8_addThing 4 (some .int), Cond.fieldLink RX8 42 "ReflectModels" "things" "[LReflectModels$Thing;", Cond.classLink RX8 40 RX6, Cond.instantiable RX6 5, Cond.initialized RX6, Cond.methodLink RX8 375 yX8_firstSlots, Cond.instanceMethod yX8_firstSlots, Cond.selects RX8 yX8_firstSlots yX8_firstSlots, Cond.code yX8_firstSlots cX8_firstSlots 5 (some (.array .long)), Cond.fieldLink RX8 28 "ReflectModels" "slotCount" "I"]
def wsX8_setFailure_r3 : List Cond := [Cond.arrayClass .long, Cond.fieldLink RX8 25 "ReflectModels" "memberCount" "I", Cond.fieldLink RX8 21 "ReflectModels" "members" "[LReflectModels$Member;", Cond.classLink RX8 109 "ReflectModels$Field", Cond.instanceMethod yX6_init, Cond.code yX6_init cX6_init 5 none, Cond.methodLink RX6 1 objectInit, Cond.instanceMethod objectInit, Cond.code objectInit ⟨#[0xb1]⟩ 1 none, Cond.fieldLink RX6 7 "ReflectModels$Thing" "asked" "I", Cond.fieldLink RX6 13 "ReflectModels$Thing" "model" "LReflectModels$ClassModel;", Cond.fieldLink RX6 17 "ReflectModels$Thing" "handler" "I", Cond.fieldLink RX6 20 "ReflectModels$Thing" "slots" "[J", Cond.fieldLink RX6 29 "ReflectModels$Thing" "all" "I", Cond.methodLink RX8 352 yX8_receiverFailure, Cond.instanceMethod yX8_receiverFailure, Cond.selects RX8 yX8_receiverFailure yX8_receiverFailure, Cond.code yX8_receiverFailure cX8_receiverFailure 3 (some .int), Cond.instanceMethod yX6_isOf, Cond.selects RX6 yX6_isOf yX6_isOf, Cond.code yX6_isOf cX6_isOf 2 (some .boolean), Cond.methodLink RX8 362 yX8_fits, Cond.instanceMethod yX8_fits, Cond.selects RX8 yX8_fits yX8_fits]
def wsX8_setFailure_r4 : List Cond := [Cond.code yX8_fits cX8_fits 3 (some .boolean), Cond.methodLink RX8 372 yX8_isObjectOf, Cond.instanceMethod yX8_isObjectOf, Cond.selects RX8 yX8_isObjectOf yX8_isObjectOf, Cond.code yX8_isObjectOf cX8_isObjectOf 3 (some .boolean), Cond.methodLink RX8 75 yX8_isClass, Cond.instanceMethod yX8_isClass, Cond.selects RX8 yX8_isClass yX8_isClass, Cond.code yX8_isClass cX8_isClass 2 (some .boolean)]
def wsX8_setFailure : List Cond := .code yX8_setFailure cX8_setFailure 6 (some .int) :: ((wsX8_setFailure_r1 ++ (wsX8_setFailure_r2 ++ (wsX8_setFailure_r3 ++ wsX8_setFailure_r4))) ++ wsX20 ++ wsX10 ++ wsX40 ++ wsX00 ++ wsX80 ++ wsX60 ++ wsX70)
def wsX8_holdIn : List Cond := .code yX8_holdIn cX8_holdIn 5 none :: ([.fieldLink RX8 325 "ReflectModels$Field" "isStatic" "Z", .sameField "ReflectModels$Field" "ReflectModels$Member" "isStatic" "Z", .fieldLink RX8 42 "ReflectModels" "things" "[LReflectModels$Thing;", .methodLink RX8 391 yX8_hasSlot, .instanceMethod yX8_hasSlot, .selects RX8 yX8_hasSlot yX8_hasSlot, .initialized RX8, .code yX8_hasSlot cX8_hasSlot 3 (some .boolean), .methodLink RX8 273 yX8_isThing, .instanceMethod yX8_isThing, .selects RX8 yX8_isThing yX8_isThing, .code yX8_isThing cX8_isThing 2 (some .boolean), .fieldLink RX8 46 "ReflectModels" "thingCount" "I"] ++ wsX10 ++ wsX40 ++ wsX80 ++ wsX60)
def wsX8_set_r1 : List Cond := [Cond.fieldLink RX8 55 "ReflectModels" "valueCount" "I", Cond.fieldLink RX8 33 "ReflectModels" "handles" "[LReflectModels$Handle;", Cond.classLink RX8 109 "ReflectModels$Field", Cond.fieldLink RX8 51 "ReflectModels" "values" "[LReflectModels$Value;", Cond.methodLink RX8 168 yX8_isHandle, Cond.instanceMethod yX8_isHandle, Cond.selects RX8 yX8_isHandle yX8_isHandle, Cond.initialized RX8, Cond.code yX8_isHandle cX8_isHandle 2 (some .boolean), Cond.fieldLink RX8 37 "ReflectModels" "handleCount" "I", Cond.methodLink RX8 199 yX8_isReceiver, Cond.instanceMethod yX8_isReceiver, Cond.selects RX8 yX8_isReceiver yX8_isReceiver, Cond.code yX8_isReceiver cX8_isReceiver 2 (some .boolean), Cond.methodLink RX8 273 yX8_isThing, Cond.instanceMethod yX8_isThing, Cond.selects RX8 yX8_isThing yX8_isThing, Cond.code yX8_isThing cX8_isThing 2 (some .boolean), Cond.fieldLink RX8 46 "ReflectModels" "thingCount" "I", Cond.methodLink RX8 220 yX8_setFailure, Cond.instanceMethod yX8_setFailure, Cond.selects RX8 yX8_setFailure yX8_setFailure, Cond.code yX8_setFailure cX8_setFailure 6 (some .int), Cond.fieldLink RX8 325 "ReflectModels$Field" "isStatic" "Z"]
def wsX8_set_r2 : List Cond := [Cond.sameField "ReflectModels$Field" "ReflectModels$Member" "isStatic" "Z", Cond.fieldLink RX8 326 "ReflectModels$Field" "owner" "LReflectModels$ClassModel;", Cond.sameField "ReflectModels$Field" "ReflectModels$Member" "owner" "LReflectModels$ClassModel;", Cond.methodLink RX8 283 yX8_mayUse, Cond.instanceMethod yX8_mayUse, Cond.selects RX8 yX8_mayUse yX8_mayUse, Cond.code yX8_mayUse cX8_mayUse 3 (some .boolean), Cond.fieldLink RX8 333 "ReflectModels$Member" "isHidden" "Z", Cond.fieldLink RX8 175 "ReflectModels$Member" "owner" "LReflectModels$ClassModel;", Cond.fieldLink RX8 58 "ReflectModels" "callerNumber" "I", Cond.methodLink RX8 356 yX8_reachFailure, Cond.instanceMethod yX8_reachFailure, Cond.selects RX8 yX8_reachFailure yX8_reachFailure, Cond.code yX8_reachFailure cX8_reachFailure 3 (some .int), Cond.fieldLink RX8 351 "ReflectModels$Member" "isStatic" "Z", Cond.methodLink RX8 252 yX8_startFailure, Cond.instanceMethod yX8_startFailure, Cond.selects RX8 yX8_startFailure yX8_startFailure, Cond.code yX8_startFailure cX8_startFailure 4 (some .int), Cond.fieldLink RX8 15 "ReflectModels" "classCount" "I", Cond.fieldLink RX8 11 "ReflectModels" "classes" "[LReflectModels$ClassModel;", Cond.instanceMethod yX0_standsUnder, Cond.initialized RX0, Cond.selects RX0 yX0_standsUnder yX0_standsUnder]
def wsX8_set_r3 : List Cond := [Cond.code yX0_standsUnder cX0_standsUnder 2 (some .boolean), Cond.fieldLink RX0 44 "ReflectModels$ClassModel" "line" "I", Cond.fieldLink RX0 24 "ReflectModels$ClassModel" "number" "I", Cond.methodLink RX8 345 yX8_startAlone, Cond.instanceMethod yX8_startAlone, Cond.selects RX8 yX8_startAlone yX8_startAlone, Cond.code yX8_startAlone cX8_startAlone 3 (some .int), Cond.methodLink RX8 244 yX8_addThing, Cond.instanceMethod yX8_addThing, Cond.selects RX8 yX8_addThing yX8_addThing, Cond.code yX8_addThing cX8_addThing 4 (some .int), Cond.fieldLink RX8 42 "ReflectModels" "things" "[LReflectModels$Thing;", Cond.classLink RX8 40 RX6, Cond.instantiable RX6 5, Cond.initialized RX6, Cond.methodLink RX8 375 yX8_firstSlots, Cond.instanceMethod yX8_firstSlots, Cond.selects RX8 yX8_firstSlots yX8_firstSlots, Cond.code yX8_firstSlots cX8_firstSlots 5 (some (.array .long)), Cond.fieldLink RX8 28 "ReflectModels" "slotCount" "I", Cond.arrayClass .long, Cond.fieldLink RX8 25 "ReflectModels" "memberCount" "I", Cond.fieldLink RX8 21 "ReflectModels" "members" "[LReflectModels$Member;", Cond.instanceMethod yX6_init]
def wsX8_set_r4 : List Cond := [Cond.code yX6_init cX6_init 5 none, Cond.methodLink RX6 1 objectInit, Cond.instanceMethod objectInit, Cond.code objectInit ⟨#[0xb1]⟩ 1 none, Cond.fieldLink RX6 7 "ReflectModels$Thing" "asked" "I", Cond.fieldLink RX6 13 "ReflectModels$Thing" "model" "LReflectModels$ClassModel;", Cond.fieldLink RX6 17 "ReflectModels$Thing" "handler" "I", Cond.fieldLink RX6 20 "ReflectModels$Thing" "slots" "[J", Cond.fieldLink RX6 29 "ReflectModels$Thing" "all" "I", Cond.methodLink RX8 352 yX8_receiverFailure, Cond.instanceMethod yX8_receiverFailure, Cond.selects RX8 yX8_receiverFailure yX8_receiverFailure, Cond.code yX8_receiverFailure cX8_receiverFailure 3 (some .int), Cond.instanceMethod yX6_isOf, Cond.selects RX6 yX6_isOf yX6_isOf, Cond.code yX6_isOf cX6_isOf 2 (some .boolean), Cond.methodLink RX8 362 yX8_fits, Cond.instanceMethod yX8_fits, Cond.selects RX8 yX8_fits yX8_fits, Cond.code yX8_fits cX8_fits 3 (some .boolean), Cond.methodLink RX8 372 yX8_isObjectOf, Cond.instanceMethod yX8_isObjectOf, Cond.selects RX8 yX8_isObjectOf yX8_isObjectOf, Cond.code yX8_isObjectOf cX8_isObjectOf 3 (some .boolean)]
def wsX8_set_r5 : List Cond := [Cond.methodLink RX8 75 yX8_isClass, Cond.instanceMethod yX8_isClass, Cond.selects RX8 yX8_isClass yX8_isClass, Cond.code yX8_isClass cX8_isClass 2 (some .boolean), Cond.methodLink RX8 183 yX8_failed, Cond.instanceMethod yX8_failed, Cond.selects RX8 yX8_failed yX8_failed, Cond.code yX8_failed cX8_failed 2 (some .int), Cond.fieldLink RX8 66 "ReflectModels" "latestFailure" "I", Cond.instanceMethod yX7_toHold, Cond.initialized RX7, Cond.selects RX7 yX7_toHold yX7_toHold, Cond.code yX7_toHold cX7_toHold 1 (some .long), Cond.fieldLink RX7 9 "ReflectModels$Value" "kind" "I", Cond.constantLong RX7 23 (-1), Cond.fieldLink RX7 15 "ReflectModels$Value" "number" "J", Cond.methodLink RX8 228 yX8_holdIn, Cond.instanceMethod yX8_holdIn, Cond.selects RX8 yX8_holdIn yX8_holdIn, Cond.code yX8_holdIn cX8_holdIn 5 none, Cond.methodLink RX8 391 yX8_hasSlot, Cond.instanceMethod yX8_hasSlot, Cond.selects RX8 yX8_hasSlot yX8_hasSlot, Cond.code yX8_hasSlot cX8_hasSlot 3 (some .boolean)]
def wsX8_set : List Cond := .code yX8_set cX8_set 5 (some .int) :: ((wsX8_set_r1 ++ (wsX8_set_r2 ++ (wsX8_set_r3 ++ (wsX8_set_r4 ++ wsX8_set_r5)))) ++ wsX80 ++ wsX20 ++ wsX10 ++ wsX40 ++ wsX00 ++ wsX60 ++ wsX70)
def wsX8_valuesFit : List Cond := .code yX8_valuesFit cX8_valuesFit 2 (some .boolean) :: ([.fieldLink RX8 55 "ReflectModels" "valueCount" "I", .fieldLink RX8 51 "ReflectModels" "values" "[LReflectModels$Value;", .methodLink RX8 362 yX8_fits, .instanceMethod yX8_fits, .selects RX8 yX8_fits yX8_fits, .initialized RX8, .code yX8_fits cX8_fits 3 (some .boolean), .methodLink RX8 372 yX8_isObjectOf, .instanceMethod yX8_isObjectOf, .selects RX8 yX8_isObjectOf yX8_isObjectOf, .code yX8_isObjectOf cX8_isObjectOf 3 (some .boolean), .fieldLink RX8 46 "ReflectModels" "thingCount" "I", .fieldLink RX8 42 "ReflectModels" "things" "[LReflectModels$Thing;", .fieldLink RX8 11 "ReflectModels" "classes" "[LReflectModels$ClassModel;", .methodLink RX8 75 yX8_isClass, .instanceMethod yX8_isClass, .selects RX8 yX8_isClass yX8_isClass, .code yX8_isClass cX8_isClass 2 (some .boolean), .fieldLink RX8 15 "ReflectModels" "classCount" "I", .instanceMethod yX6_isOf, .initialized RX6, .selects RX6 yX6_isOf yX6_isOf, .code yX6_isOf cX6_isOf 2 (some .boolean), .fieldLink RX6 29 "ReflectModels$Thing" "all" "I"] ++ wsX80 ++ wsX50 ++ wsX70 ++ wsX60 ++ wsX00)
def wsX8_callFailure_r1 : List Cond := [Cond.fieldLink RX8 299 "ReflectModels$Method" "isStatic" "Z", Cond.sameField "ReflectModels$Method" "ReflectModels$Member" "isStatic" "Z", Cond.fieldLink RX8 150 "ReflectModels$Method" "owner" "LReflectModels$ClassModel;", Cond.sameField "ReflectModels$Method" "ReflectModels$Member" "owner" "LReflectModels$ClassModel;", Cond.methodLink RX8 283 yX8_mayUse, Cond.instanceMethod yX8_mayUse, Cond.selects RX8 yX8_mayUse yX8_mayUse, Cond.initialized RX8, Cond.code yX8_mayUse cX8_mayUse 3 (some .boolean), Cond.fieldLink RX8 333 "ReflectModels$Member" "isHidden" "Z", Cond.fieldLink RX8 175 "ReflectModels$Member" "owner" "LReflectModels$ClassModel;", Cond.fieldLink RX8 58 "ReflectModels" "callerNumber" "I", Cond.methodLink RX8 366 yX8_valuesFit, Cond.instanceMethod yX8_valuesFit, Cond.selects RX8 yX8_valuesFit yX8_valuesFit, Cond.code yX8_valuesFit cX8_valuesFit 2 (some .boolean), Cond.fieldLink RX8 55 "ReflectModels" "valueCount" "I", Cond.fieldLink RX8 51 "ReflectModels" "values" "[LReflectModels$Value;", Cond.methodLink RX8 362 yX8_fits, Cond.instanceMethod yX8_fits, Cond.selects RX8 yX8_fits yX8_fits, Cond.code yX8_fits cX8_fits 3 (some .boolean), Cond.methodLink RX8 372 yX8_isObjectOf, Cond.instanceMethod yX8_isObjectOf]
def wsX8_callFailure_r2 : List Cond := [Cond.selects RX8 yX8_isObjectOf yX8_isObjectOf, Cond.code yX8_isObjectOf cX8_isObjectOf 3 (some .boolean), Cond.fieldLink RX8 46 "ReflectModels" "thingCount" "I", Cond.fieldLink RX8 42 "ReflectModels" "things" "[LReflectModels$Thing;", Cond.fieldLink RX8 11 "ReflectModels" "classes" "[LReflectModels$ClassModel;", Cond.methodLink RX8 75 yX8_isClass, Cond.instanceMethod yX8_isClass, Cond.selects RX8 yX8_isClass yX8_isClass, Cond.code yX8_isClass cX8_isClass 2 (some .boolean), Cond.fieldLink RX8 15 "ReflectModels" "classCount" "I", Cond.instanceMethod yX6_isOf, Cond.initialized RX6, Cond.selects RX6 yX6_isOf yX6_isOf, Cond.code yX6_isOf cX6_isOf 2 (some .boolean), Cond.fieldLink RX6 29 "ReflectModels$Thing" "all" "I", Cond.methodLink RX8 252 yX8_startFailure, Cond.instanceMethod yX8_startFailure, Cond.selects RX8 yX8_startFailure yX8_startFailure, Cond.code yX8_startFailure cX8_startFailure 4 (some .int), Cond.instanceMethod yX0_standsUnder, Cond.initialized RX0, Cond.selects RX0 yX0_standsUnder yX0_standsUnder, Cond.code yX0_standsUnder cX0_standsUnder 2 (some .boolean), Cond.fieldLink RX0 44 "ReflectModels$ClassModel" "line" "I"]
def wsX8_callFailure_r3 : List Cond := [Cond.fieldLink RX0 24 "ReflectModels$ClassModel" "number" "I", Cond.methodLink RX8 345 yX8_startAlone, Cond.instanceMethod yX8_startAlone, Cond.selects RX8 yX8_startAlone yX8_startAlone, Cond.code yX8_startAlone cX8_startAlone 3 (some .int), Cond.methodLink RX8 244 yX8_addThing, Cond.instanceMethod yX8_addThing, Cond.selects RX8 yX8_addThing yX8_addThing, Cond.code yX8_addThing cX8_addThing 4 (some .int), Cond.classLink RX8 40 RX6, Cond.instantiable RX6 5, Cond.methodLink RX8 375 yX8_firstSlots, Cond.instanceMethod yX8_firstSlots, Cond.selects RX8 yX8_firstSlots yX8_firstSlots, Cond.code yX8_firstSlots cX8_firstSlots 5 (some (.array .long)), Cond.fieldLink RX8 28 "ReflectModels" "slotCount" "I", Cond.arrayClass .long, Cond.fieldLink RX8 25 "ReflectModels" "memberCount" "I", Cond.fieldLink RX8 21 "ReflectModels" "members" "[LReflectModels$Member;", Cond.classLink RX8 109 "ReflectModels$Field", Cond.fieldLink RX8 325 "ReflectModels$Field" "isStatic" "Z", Cond.sameField "ReflectModels$Field" "ReflectModels$Member" "isStatic" "Z", Cond.instanceMethod yX6_init, Cond.code yX6_init cX6_init 5 none]
def wsX8_callFailure_r4 : List Cond := [Cond.methodLink RX6 1 objectInit, Cond.instanceMethod objectInit, Cond.code objectInit ⟨#[0xb1]⟩ 1 none, Cond.fieldLink RX6 7 "ReflectModels$Thing" "asked" "I", Cond.fieldLink RX6 13 "ReflectModels$Thing" "model" "LReflectModels$ClassModel;", Cond.fieldLink RX6 17 "ReflectModels$Thing" "handler" "I", Cond.fieldLink RX6 20 "ReflectModels$Thing" "slots" "[J", Cond.methodLink RX8 352 yX8_receiverFailure, Cond.instanceMethod yX8_receiverFailure, Cond.selects RX8 yX8_receiverFailure yX8_receiverFailure, Cond.code yX8_receiverFailure cX8_receiverFailure 3 (some .int)]
def wsX8_callFailure : List Cond := .code yX8_callFailure cX8_callFailure 5 (some .int) :: ((wsX8_callFailure_r1 ++ (wsX8_callFailure_r2 ++ (wsX8_callFailure_r3 ++ wsX8_callFailure_r4))) ++ wsX10 ++ wsX40 ++ wsX20 ++ wsX00 ++ wsX80 ++ wsX50 ++ wsX70 ++ wsX60)
def wsX8_isAnsweredByHandler : List Cond := .code yX8_isAnsweredByHandler cX8_isAnsweredByHandler 3 (some .boolean) :: ([.fieldLink RX8 299 "ReflectModels$Method" "isStatic" "Z", .sameField "ReflectModels$Method" "ReflectModels$Member" "isStatic" "Z", .fieldLink RX8 150 "ReflectModels$Method" "owner" "LReflectModels$ClassModel;", .sameField "ReflectModels$Method" "ReflectModels$Member" "owner" "LReflectModels$ClassModel;", .fieldLink RX8 42 "ReflectModels" "things" "[LReflectModels$Thing;", .methodLink RX8 273 yX8_isThing, .instanceMethod yX8_isThing, .selects RX8 yX8_isThing yX8_isThing, .initialized RX8, .code yX8_isThing cX8_isThing 2 (some .boolean), .fieldLink RX8 46 "ReflectModels" "thingCount" "I"] ++ wsX10 ++ wsX40 ++ wsX00 ++ wsX80 ++ wsX60)
def wsX8_echoFirst : List Cond := .code yX8_echoFirst cX8_echoFirst 2 none :: ([.fieldLink RX8 62 "ReflectModels" "outcome" "LReflectModels$Value;", .fieldLink RX8 51 "ReflectModels" "values" "[LReflectModels$Value;", .instanceMethod yX7_become, .initialized RX7, .selects RX7 yX7_become yX7_become, .code yX7_become cX7_become 4 none, .fieldLink RX7 9 "ReflectModels$Value" "kind" "I", .fieldLink RX7 15 "ReflectModels$Value" "number" "J", .instanceMethod yX7_widenFor, .selects RX7 yX7_widenFor yX7_widenFor, .code yX7_widenFor cX7_widenFor 2 none] ++ wsX50 ++ wsX80 ++ wsX70)
def wsX8_askHandler : List Cond := .code yX8_askHandler cX8_askHandler 3 (some .int) :: ([.fieldLink RX8 62 "ReflectModels" "outcome" "LReflectModels$Value;", .instanceMethod yX7_become, .initialized RX7, .selects RX7 yX7_become yX7_become, .code yX7_become cX7_become 4 none, .fieldLink RX7 9 "ReflectModels$Value" "kind" "I", .fieldLink RX7 15 "ReflectModels$Value" "number" "J", .methodLink RX8 425 yX8_echoFirst, .instanceMethod yX8_echoFirst, .selects RX8 yX8_echoFirst yX8_echoFirst, .initialized RX8, .code yX8_echoFirst cX8_echoFirst 2 none, .fieldLink RX8 51 "ReflectModels" "values" "[LReflectModels$Value;", .instanceMethod yX7_widenFor, .selects RX7 yX7_widenFor yX7_widenFor, .code yX7_widenFor cX7_widenFor 2 none] ++ wsX60 ++ wsX80 ++ wsX70 ++ wsX50)
def wsX8_fitOutcome_r1 : List Cond := [Cond.fieldLink RX8 62 "ReflectModels" "outcome" "LReflectModels$Value;", Cond.instanceMethod yX7_become, Cond.initialized RX7, Cond.selects RX7 yX7_become yX7_become, Cond.code yX7_become cX7_become 4 none, Cond.fieldLink RX7 9 "ReflectModels$Value" "kind" "I", Cond.fieldLink RX7 15 "ReflectModels$Value" "number" "J", Cond.methodLink RX8 362 yX8_fits, Cond.instanceMethod yX8_fits, Cond.selects RX8 yX8_fits yX8_fits, Cond.initialized RX8, Cond.code yX8_fits cX8_fits 3 (some .boolean), Cond.methodLink RX8 372 yX8_isObjectOf, Cond.instanceMethod yX8_isObjectOf, Cond.selects RX8 yX8_isObjectOf yX8_isObjectOf, Cond.code yX8_isObjectOf cX8_isObjectOf 3 (some .boolean), Cond.fieldLink RX8 46 "ReflectModels" "thingCount" "I", Cond.fieldLink RX8 42 "ReflectModels" "things" "[LReflectModels$Thing;", Cond.fieldLink RX8 11 "ReflectModels" "classes" "[LReflectModels$ClassModel;", Cond.methodLink RX8 75 yX8_isClass, Cond.instanceMethod yX8_isClass, Cond.selects RX8 yX8_isClass yX8_isClass, Cond.code yX8_isClass cX8_isClass 2 (some .boolean), Cond.fieldLink RX8 15 "ReflectModels" "classCount" "I"]
def wsX8_fitOutcome_r2 : List Cond := [Cond.instanceMethod yX6_isOf, Cond.initialized RX6, Cond.selects RX6 yX6_isOf yX6_isOf, Cond.code yX6_isOf cX6_isOf 2 (some .boolean), Cond.fieldLink RX6 29 "ReflectModels$Thing" "all" "I", Cond.instanceMethod yX7_widenFor, Cond.selects RX7 yX7_widenFor yX7_widenFor, Cond.code yX7_widenFor cX7_widenFor 2 none]
def wsX8_fitOutcome : List Cond := .code yX8_fitOutcome cX8_fitOutcome 2 (some .int) :: ((wsX8_fitOutcome_r1 ++ wsX8_fitOutcome_r2) ++ wsX80 ++ wsX70 ++ wsX60 ++ wsX00)
def wsX8_methodToDo_r1 : List Cond := [Cond.fieldLink RX8 429 "ReflectModels$Method" "isHidden" "Z", Cond.sameField "ReflectModels$Method" "ReflectModels$Member" "isHidden" "Z", Cond.fieldLink RX8 299 "ReflectModels$Method" "isStatic" "Z", Cond.sameField "ReflectModels$Method" "ReflectModels$Member" "isStatic" "Z", Cond.fieldLink RX8 42 "ReflectModels" "things" "[LReflectModels$Thing;", Cond.fieldLink RX8 21 "ReflectModels" "members" "[LReflectModels$Member;", Cond.classLink RX8 138 "ReflectModels$Method", Cond.methodLink RX8 273 yX8_isThing, Cond.instanceMethod yX8_isThing, Cond.selects RX8 yX8_isThing yX8_isThing, Cond.initialized RX8, Cond.code yX8_isThing cX8_isThing 2 (some .boolean), Cond.fieldLink RX8 46 "ReflectModels" "thingCount" "I", Cond.methodLink RX8 154 yX8_ownMethod, Cond.instanceMethod yX8_ownMethod, Cond.selects RX8 yX8_ownMethod yX8_ownMethod, Cond.code yX8_ownMethod cX8_ownMethod 6 (some .int), Cond.fieldLink RX8 25 "ReflectModels" "memberCount" "I", Cond.fieldLink RX8 150 "ReflectModels$Method" "owner" "LReflectModels$ClassModel;", Cond.sameField "ReflectModels$Method" "ReflectModels$Member" "owner" "LReflectModels$ClassModel;", Cond.instanceMethod yX5_matches, Cond.initialized RX5, Cond.selects RX5 yX5_matches yX5_matches, Cond.code yX5_matches cX5_matches 2 (some .boolean)]
def wsX8_methodToDo_r2 : List Cond := [Cond.fieldLink RX5 9 "ReflectModels$Signature" "name" "I", Cond.fieldLink RX5 15 "ReflectModels$Signature" "n" "I", Cond.fieldLink RX5 18 "ReflectModels$Signature" "first" "I", Cond.fieldLink RX5 21 "ReflectModels$Signature" "second" "I", Cond.instanceMethod yX4_canBeChosen, Cond.initialized RX4, Cond.selects RX4 yX4_canBeChosen yX4_canBeChosen, Cond.code yX4_canBeChosen cX4_canBeChosen 1 (some .boolean), Cond.fieldLink RX4 33 "ReflectModels$Method" "isHidden" "Z", Cond.fieldLink RX4 36 "ReflectModels$Method" "isStatic" "Z", Cond.fieldLink RX4 23 "ReflectModels$Method" "isAbstract" "Z"]
def wsX8_methodToDo : List Cond := .code yX8_methodToDo cX8_methodToDo 7 (some (.object "ReflectModels$Method")) :: ((wsX8_methodToDo_r1 ++ wsX8_methodToDo_r2) ++ wsX10 ++ wsX40 ++ wsX80 ++ wsX60 ++ wsX00 ++ wsX50)
def wsX8_divide : List Cond := .code yX8_divide cX8_divide 2 (some .int) :: ([.fieldLink RX8 51 "ReflectModels" "values" "[LReflectModels$Value;", .fieldLink RX8 62 "ReflectModels" "outcome" "LReflectModels$Value;", .instanceMethod yX7_become, .initialized RX7, .selects RX7 yX7_become yX7_become, .code yX7_become cX7_become 4 none, .fieldLink RX7 9 "ReflectModels$Value" "kind" "I", .fieldLink RX7 15 "ReflectModels$Value" "number" "J"] ++ wsX80 ++ wsX70)
def wsX8_castFirst_r1 : List Cond := [Cond.fieldLink RX8 51 "ReflectModels" "values" "[LReflectModels$Value;", Cond.fieldLink RX8 62 "ReflectModels" "outcome" "LReflectModels$Value;", Cond.methodLink RX8 362 yX8_fits, Cond.instanceMethod yX8_fits, Cond.selects RX8 yX8_fits yX8_fits, Cond.initialized RX8, Cond.code yX8_fits cX8_fits 3 (some .boolean), Cond.methodLink RX8 372 yX8_isObjectOf, Cond.instanceMethod yX8_isObjectOf, Cond.selects RX8 yX8_isObjectOf yX8_isObjectOf, Cond.code yX8_isObjectOf cX8_isObjectOf 3 (some .boolean), Cond.fieldLink RX8 46 "ReflectModels" "thingCount" "I", Cond.fieldLink RX8 42 "ReflectModels" "things" "[LReflectModels$Thing;", Cond.fieldLink RX8 11 "ReflectModels" "classes" "[LReflectModels$ClassModel;", Cond.methodLink RX8 75 yX8_isClass, Cond.instanceMethod yX8_isClass, Cond.selects RX8 yX8_isClass yX8_isClass, Cond.code yX8_isClass cX8_isClass 2 (some .boolean), Cond.fieldLink RX8 15 "ReflectModels" "classCount" "I", Cond.instanceMethod yX6_isOf, Cond.initialized RX6, Cond.selects RX6 yX6_isOf yX6_isOf, Cond.code yX6_isOf cX6_isOf 2 (some .boolean), Cond.fieldLink RX6 29 "ReflectModels$Thing" "all" "I"]
def wsX8_castFirst_r2 : List Cond := [Cond.instanceMethod yX7_become, Cond.initialized RX7, Cond.selects RX7 yX7_become yX7_become, Cond.code yX7_become cX7_become 4 none, Cond.fieldLink RX7 9 "ReflectModels$Value" "kind" "I", Cond.fieldLink RX7 15 "ReflectModels$Value" "number" "J"]
def wsX8_castFirst : List Cond := .code yX8_castFirst cX8_castFirst 2 (some .int) :: ((wsX8_castFirst_r1 ++ wsX8_castFirst_r2) ++ wsX80 ++ wsX70 ++ wsX60 ++ wsX00)
def wsX8_readFieldOfFirst_r1 : List Cond := [Cond.fieldLink RX8 51 "ReflectModels" "values" "[LReflectModels$Value;", Cond.fieldLink RX8 326 "ReflectModels$Field" "owner" "LReflectModels$ClassModel;", Cond.sameField "ReflectModels$Field" "ReflectModels$Member" "owner" "LReflectModels$ClassModel;", Cond.fieldLink RX8 62 "ReflectModels" "outcome" "LReflectModels$Value;", Cond.methodLink RX8 321 yX8_fieldToRead, Cond.instanceMethod yX8_fieldToRead, Cond.selects RX8 yX8_fieldToRead yX8_fieldToRead, Cond.initialized RX8, Cond.code yX8_fieldToRead cX8_fieldToRead 4 (some (.object "ReflectModels$Field")), Cond.fieldLink RX8 25 "ReflectModels" "memberCount" "I", Cond.fieldLink RX8 21 "ReflectModels" "members" "[LReflectModels$Member;", Cond.classLink RX8 109 "ReflectModels$Field", Cond.fieldLink RX8 325 "ReflectModels$Field" "isStatic" "Z", Cond.sameField "ReflectModels$Field" "ReflectModels$Member" "isStatic" "Z", Cond.methodLink RX8 372 yX8_isObjectOf, Cond.instanceMethod yX8_isObjectOf, Cond.selects RX8 yX8_isObjectOf yX8_isObjectOf, Cond.code yX8_isObjectOf cX8_isObjectOf 3 (some .boolean), Cond.fieldLink RX8 46 "ReflectModels" "thingCount" "I", Cond.fieldLink RX8 42 "ReflectModels" "things" "[LReflectModels$Thing;", Cond.fieldLink RX8 11 "ReflectModels" "classes" "[LReflectModels$ClassModel;", Cond.methodLink RX8 75 yX8_isClass, Cond.instanceMethod yX8_isClass, Cond.selects RX8 yX8_isClass yX8_isClass]
def wsX8_readFieldOfFirst_r2 : List Cond := [Cond.code yX8_isClass cX8_isClass 2 (some .boolean), Cond.fieldLink RX8 15 "ReflectModels" "classCount" "I", Cond.instanceMethod yX6_isOf, Cond.initialized RX6, Cond.selects RX6 yX6_isOf yX6_isOf, Cond.code yX6_isOf cX6_isOf 2 (some .boolean), Cond.fieldLink RX6 29 "ReflectModels$Thing" "all" "I", Cond.methodLink RX8 209 yX8_heldIn, Cond.instanceMethod yX8_heldIn, Cond.selects RX8 yX8_heldIn yX8_heldIn, Cond.code yX8_heldIn cX8_heldIn 3 (some .long), Cond.methodLink RX8 391 yX8_hasSlot, Cond.instanceMethod yX8_hasSlot, Cond.selects RX8 yX8_hasSlot yX8_hasSlot, Cond.code yX8_hasSlot cX8_hasSlot 3 (some .boolean), Cond.methodLink RX8 273 yX8_isThing, Cond.instanceMethod yX8_isThing, Cond.selects RX8 yX8_isThing yX8_isThing, Cond.code yX8_isThing cX8_isThing 2 (some .boolean), Cond.instanceMethod yX7_load, Cond.initialized RX7, Cond.selects RX7 yX7_load yX7_load, Cond.code yX7_load cX7_load 4 none, Cond.constantLong RX7 23 (-1)]
def wsX8_readFieldOfFirst_r3 : List Cond := [Cond.methodLink RX7 19 yX7_become, Cond.instanceMethod yX7_become, Cond.selects RX7 yX7_become yX7_become, Cond.code yX7_become cX7_become 4 none, Cond.fieldLink RX7 9 "ReflectModels$Value" "kind" "I", Cond.fieldLink RX7 15 "ReflectModels$Value" "number" "J"]
def wsX8_readFieldOfFirst : List Cond := .code yX8_readFieldOfFirst cX8_readFieldOfFirst 3 (some .int) :: ((wsX8_readFieldOfFirst_r1 ++ (wsX8_readFieldOfFirst_r2 ++ wsX8_readFieldOfFirst_r3)) ++ wsX80 ++ wsX70 ++ wsX10 ++ wsX40 ++ wsX00 ++ wsX60)
def wsX8_pickItem : List Cond := .code yX8_pickItem cX8_pickItem 4 (some .int) :: ([.fieldLink RX8 51 "ReflectModels" "values" "[LReflectModels$Value;", .constantLong RX8 457 (3), .fieldLink RX8 62 "ReflectModels" "outcome" "LReflectModels$Value;", .instanceMethod yX7_become, .initialized RX7, .selects RX7 yX7_become yX7_become, .code yX7_become cX7_become 4 none, .fieldLink RX7 9 "ReflectModels$Value" "kind" "I", .fieldLink RX7 15 "ReflectModels$Value" "number" "J"] ++ wsX80 ++ wsX70)
def wsX8_storeFirst_r1 : List Cond := [Cond.fieldLink RX8 51 "ReflectModels" "values" "[LReflectModels$Value;", Cond.fieldLink RX8 62 "ReflectModels" "outcome" "LReflectModels$Value;", Cond.methodLink RX8 362 yX8_fits, Cond.instanceMethod yX8_fits, Cond.selects RX8 yX8_fits yX8_fits, Cond.initialized RX8, Cond.code yX8_fits cX8_fits 3 (some .boolean), Cond.methodLink RX8 372 yX8_isObjectOf, Cond.instanceMethod yX8_isObjectOf, Cond.selects RX8 yX8_isObjectOf yX8_isObjectOf, Cond.code yX8_isObjectOf cX8_isObjectOf 3 (some .boolean), Cond.fieldLink RX8 46 "ReflectModels" "thingCount" "I", Cond.fieldLink RX8 42 "ReflectModels" "things" "[LReflectModels$Thing;", Cond.fieldLink RX8 11 "ReflectModels" "classes" "[LReflectModels$ClassModel;", Cond.methodLink RX8 75 yX8_isClass, Cond.instanceMethod yX8_isClass, Cond.selects RX8 yX8_isClass yX8_isClass, Cond.code yX8_isClass cX8_isClass 2 (some .boolean), Cond.fieldLink RX8 15 "ReflectModels" "classCount" "I", Cond.instanceMethod yX6_isOf, Cond.initialized RX6, Cond.selects RX6 yX6_isOf yX6_isOf, Cond.code yX6_isOf cX6_isOf 2 (some .boolean), Cond.fieldLink RX6 29 "ReflectModels$Thing" "all" "I"]
def wsX8_storeFirst_r2 : List Cond := [Cond.instanceMethod yX7_becomeGiven, Cond.initialized RX7, Cond.selects RX7 yX7_becomeGiven yX7_becomeGiven, Cond.code yX7_becomeGiven cX7_becomeGiven 3 none, Cond.methodLink RX7 19 yX7_become, Cond.instanceMethod yX7_become, Cond.selects RX7 yX7_become yX7_become, Cond.code yX7_become cX7_become 4 none, Cond.fieldLink RX7 9 "ReflectModels$Value" "kind" "I", Cond.fieldLink RX7 15 "ReflectModels$Value" "number" "J"]
def wsX8_storeFirst : List Cond := .code yX8_storeFirst cX8_storeFirst 2 (some .int) :: ((wsX8_storeFirst_r1 ++ wsX8_storeFirst_r2) ++ wsX80 ++ wsX40 ++ wsX70 ++ wsX60 ++ wsX00)
def wsX8_runBody_r1 : List Cond := [Cond.fieldLink RX8 62 "ReflectModels" "outcome" "LReflectModels$Value;", Cond.methodLink RX8 436 yX8_divide, Cond.instanceMethod yX8_divide, Cond.selects RX8 yX8_divide yX8_divide, Cond.initialized RX8, Cond.code yX8_divide cX8_divide 2 (some .int), Cond.fieldLink RX8 51 "ReflectModels" "values" "[LReflectModels$Value;", Cond.instanceMethod yX7_become, Cond.initialized RX7, Cond.selects RX7 yX7_become yX7_become, Cond.code yX7_become cX7_become 4 none, Cond.fieldLink RX7 9 "ReflectModels$Value" "kind" "I", Cond.fieldLink RX7 15 "ReflectModels$Value" "number" "J", Cond.methodLink RX8 440 yX8_castFirst, Cond.instanceMethod yX8_castFirst, Cond.selects RX8 yX8_castFirst yX8_castFirst, Cond.code yX8_castFirst cX8_castFirst 2 (some .int), Cond.methodLink RX8 362 yX8_fits, Cond.instanceMethod yX8_fits, Cond.selects RX8 yX8_fits yX8_fits, Cond.code yX8_fits cX8_fits 3 (some .boolean), Cond.methodLink RX8 372 yX8_isObjectOf, Cond.instanceMethod yX8_isObjectOf, Cond.selects RX8 yX8_isObjectOf yX8_isObjectOf]
def wsX8_runBody_r2 : List Cond := [Cond.code yX8_isObjectOf cX8_isObjectOf 3 (some .boolean), Cond.fieldLink RX8 46 "ReflectModels" "thingCount" "I", Cond.fieldLink RX8 42 "ReflectModels" "things" "[LReflectModels$Thing;", Cond.fieldLink RX8 11 "ReflectModels" "classes" "[LReflectModels$ClassModel;", Cond.methodLink RX8 75 yX8_isClass, Cond.instanceMethod yX8_isClass, Cond.selects RX8 yX8_isClass yX8_isClass, Cond.code yX8_isClass cX8_isClass 2 (some .boolean), Cond.fieldLink RX8 15 "ReflectModels" "classCount" "I", Cond.instanceMethod yX6_isOf, Cond.initialized RX6, Cond.selects RX6 yX6_isOf yX6_isOf, Cond.code yX6_isOf cX6_isOf 2 (some .boolean), Cond.fieldLink RX6 29 "ReflectModels$Thing" "all" "I", Cond.methodLink RX8 443 yX8_readFieldOfFirst, Cond.instanceMethod yX8_readFieldOfFirst, Cond.selects RX8 yX8_readFieldOfFirst yX8_readFieldOfFirst, Cond.code yX8_readFieldOfFirst cX8_readFieldOfFirst 3 (some .int), Cond.fieldLink RX8 326 "ReflectModels$Field" "owner" "LReflectModels$ClassModel;", Cond.sameField "ReflectModels$Field" "ReflectModels$Member" "owner" "LReflectModels$ClassModel;", Cond.methodLink RX8 321 yX8_fieldToRead, Cond.instanceMethod yX8_fieldToRead, Cond.selects RX8 yX8_fieldToRead yX8_fieldToRead, Cond.code yX8_fieldToRead cX8_fieldToRead 4 (some (.object "ReflectModels$Field"))]
def wsX8_runBody_r3 : List Cond := [Cond.fieldLink RX8 25 "ReflectModels" "memberCount" "I", Cond.fieldLink RX8 21 "ReflectModels" "members" "[LReflectModels$Member;", Cond.classLink RX8 109 "ReflectModels$Field", Cond.fieldLink RX8 325 "ReflectModels$Field" "isStatic" "Z", Cond.sameField "ReflectModels$Field" "ReflectModels$Member" "isStatic" "Z", Cond.methodLink RX8 209 yX8_heldIn, Cond.instanceMethod yX8_heldIn, Cond.selects RX8 yX8_heldIn yX8_heldIn, Cond.code yX8_heldIn cX8_heldIn 3 (some .long), Cond.methodLink RX8 391 yX8_hasSlot, Cond.instanceMethod yX8_hasSlot, Cond.selects RX8 yX8_hasSlot yX8_hasSlot, Cond.code yX8_hasSlot cX8_hasSlot 3 (some .boolean), Cond.methodLink RX8 273 yX8_isThing, Cond.instanceMethod yX8_isThing, Cond.selects RX8 yX8_isThing yX8_isThing, Cond.code yX8_isThing cX8_isThing 2 (some .boolean), Cond.instanceMethod yX7_load, Cond.selects RX7 yX7_load yX7_load, Cond.code yX7_load cX7_load 4 none, Cond.constantLong RX7 23 (-1), Cond.methodLink RX7 19 yX7_become, Cond.methodLink RX8 446 yX8_pickItem, Cond.instanceMethod yX8_pickItem]
def wsX8_runBody_r4 : List Cond := [Cond.selects RX8 yX8_pickItem yX8_pickItem, Cond.code yX8_pickItem cX8_pickItem 4 (some .int), Cond.constantLong RX8 457 (3), Cond.methodLink RX8 449 yX8_storeFirst, Cond.instanceMethod yX8_storeFirst, Cond.selects RX8 yX8_storeFirst yX8_storeFirst, Cond.code yX8_storeFirst cX8_storeFirst 2 (some .int), Cond.instanceMethod yX7_becomeGiven, Cond.selects RX7 yX7_becomeGiven yX7_becomeGiven, Cond.code yX7_becomeGiven cX7_becomeGiven 3 none]
def wsX8_runBody : List Cond := .code yX8_runBody cX8_runBody 3 (some .int) :: ((wsX8_runBody_r1 ++ (wsX8_runBody_r2 ++ (wsX8_runBody_r3 ++ wsX8_runBody_r4))) ++ wsX40 ++ wsX80 ++ wsX70 ++ wsX60 ++ wsX00 ++ wsX10)
def wsX8_perform_r1 : List Cond := [Cond.fieldLink RX8 42 "ReflectModels" "things" "[LReflectModels$Thing;", Cond.methodLink RX8 398 yX8_isAnsweredByHandler, Cond.instanceMethod yX8_isAnsweredByHandler, Cond.selects RX8 yX8_isAnsweredByHandler yX8_isAnsweredByHandler, Cond.initialized RX8, Cond.code yX8_isAnsweredByHandler cX8_isAnsweredByHandler 3 (some .boolean), Cond.fieldLink RX8 299 "ReflectModels$Method" "isStatic" "Z", Cond.sameField "ReflectModels$Method" "ReflectModels$Member" "isStatic" "Z", Cond.fieldLink RX8 150 "ReflectModels$Method" "owner" "LReflectModels$ClassModel;", Cond.sameField "ReflectModels$Method" "ReflectModels$Member" "owner" "LReflectModels$ClassModel;", Cond.methodLink RX8 273 yX8_isThing, Cond.instanceMethod yX8_isThing, Cond.selects RX8 yX8_isThing yX8_isThing, Cond.code yX8_isThing cX8_isThing 2 (some .boolean), Cond.fieldLink RX8 46 "ReflectModels" "thingCount" "I", Cond.methodLink RX8 402 yX8_askHandler, Cond.instanceMethod yX8_askHandler, Cond.selects RX8 yX8_askHandler yX8_askHandler, Cond.code yX8_askHandler cX8_askHandler 3 (some .int), Cond.fieldLink RX8 62 "ReflectModels" "outcome" "LReflectModels$Value;", Cond.instanceMethod yX7_become, Cond.initialized RX7, Cond.selects RX7 yX7_become yX7_become, Cond.code yX7_become cX7_become 4 none]
def wsX8_perform_r2 : List Cond := [Cond.fieldLink RX7 9 "ReflectModels$Value" "kind" "I", Cond.fieldLink RX7 15 "ReflectModels$Value" "number" "J", Cond.methodLink RX8 425 yX8_echoFirst, Cond.instanceMethod yX8_echoFirst, Cond.selects RX8 yX8_echoFirst yX8_echoFirst, Cond.code yX8_echoFirst cX8_echoFirst 2 none, Cond.fieldLink RX8 51 "ReflectModels" "values" "[LReflectModels$Value;", Cond.instanceMethod yX7_widenFor, Cond.selects RX7 yX7_widenFor yX7_widenFor, Cond.code yX7_widenFor cX7_widenFor 2 none, Cond.methodLink RX8 409 yX8_fitOutcome, Cond.instanceMethod yX8_fitOutcome, Cond.selects RX8 yX8_fitOutcome yX8_fitOutcome, Cond.code yX8_fitOutcome cX8_fitOutcome 2 (some .int), Cond.methodLink RX8 362 yX8_fits, Cond.instanceMethod yX8_fits, Cond.selects RX8 yX8_fits yX8_fits, Cond.code yX8_fits cX8_fits 3 (some .boolean), Cond.methodLink RX8 372 yX8_isObjectOf, Cond.instanceMethod yX8_isObjectOf, Cond.selects RX8 yX8_isObjectOf yX8_isObjectOf, Cond.code yX8_isObjectOf cX8_isObjectOf 3 (some .boolean), Cond.fieldLink RX8 11 "ReflectModels" "classes" "[LReflectModels$ClassModel;", Cond.methodLink RX8 75 yX8_isClass]
def wsX8_perform_r3 : List Cond := [Cond.instanceMethod yX8_isClass, Cond.selects RX8 yX8_isClass yX8_isClass, Cond.code yX8_isClass cX8_isClass 2 (some .boolean), Cond.fieldLink RX8 15 "ReflectModels" "classCount" "I", Cond.instanceMethod yX6_isOf, Cond.initialized RX6, Cond.selects RX6 yX6_isOf yX6_isOf, Cond.code yX6_isOf cX6_isOf 2 (some .boolean), Cond.fieldLink RX6 29 "ReflectModels$Thing" "all" "I", Cond.methodLink RX8 412 yX8_methodToDo, Cond.instanceMethod yX8_methodToDo, Cond.selects RX8 yX8_methodToDo yX8_methodToDo, Cond.code yX8_methodToDo cX8_methodToDo 7 (some (.object "ReflectModels$Method")), Cond.fieldLink RX8 429 "ReflectModels$Method" "isHidden" "Z", Cond.sameField "ReflectModels$Method" "ReflectModels$Member" "isHidden" "Z", Cond.fieldLink RX8 21 "ReflectModels" "members" "[LReflectModels$Member;", Cond.classLink RX8 138 "ReflectModels$Method", Cond.methodLink RX8 154 yX8_ownMethod, Cond.instanceMethod yX8_ownMethod, Cond.selects RX8 yX8_ownMethod yX8_ownMethod, Cond.code yX8_ownMethod cX8_ownMethod 6 (some .int), Cond.fieldLink RX8 25 "ReflectModels" "memberCount" "I", Cond.instanceMethod yX5_matches, Cond.initialized RX5]
def wsX8_perform_r4 : List Cond := [Cond.selects RX5 yX5_matches yX5_matches, Cond.code yX5_matches cX5_matches 2 (some .boolean), Cond.fieldLink RX5 9 "ReflectModels$Signature" "name" "I", Cond.fieldLink RX5 15 "ReflectModels$Signature" "n" "I", Cond.fieldLink RX5 18 "ReflectModels$Signature" "first" "I", Cond.fieldLink RX5 21 "ReflectModels$Signature" "second" "I", Cond.instanceMethod yX4_canBeChosen, Cond.initialized RX4, Cond.selects RX4 yX4_canBeChosen yX4_canBeChosen, Cond.code yX4_canBeChosen cX4_canBeChosen 1 (some .boolean), Cond.fieldLink RX4 33 "ReflectModels$Method" "isHidden" "Z", Cond.fieldLink RX4 36 "ReflectModels$Method" "isStatic" "Z", Cond.fieldLink RX4 23 "ReflectModels$Method" "isAbstract" "Z", Cond.methodLink RX8 416 yX8_runBody, Cond.instanceMethod yX8_runBody, Cond.selects RX8 yX8_runBody yX8_runBody, Cond.code yX8_runBody cX8_runBody 3 (some .int), Cond.methodLink RX8 436 yX8_divide, Cond.instanceMethod yX8_divide, Cond.selects RX8 yX8_divide yX8_divide, Cond.code yX8_divide cX8_divide 2 (some .int), Cond.methodLink RX8 440 yX8_castFirst, Cond.instanceMethod yX8_castFirst, Cond.selects RX8 yX8_castFirst yX8_castFirst]
def wsX8_perform_r5 : List Cond := [Cond.code yX8_castFirst cX8_castFirst 2 (some .int), Cond.methodLink RX8 443 yX8_readFieldOfFirst, Cond.instanceMethod yX8_readFieldOfFirst, Cond.selects RX8 yX8_readFieldOfFirst yX8_readFieldOfFirst, Cond.code yX8_readFieldOfFirst cX8_readFieldOfFirst 3 (some .int), Cond.fieldLink RX8 326 "ReflectModels$Field" "owner" "LReflectModels$ClassModel;", Cond.sameField "ReflectModels$Field" "ReflectModels$Member" "owner" "LReflectModels$ClassModel;", Cond.methodLink RX8 321 yX8_fieldToRead, Cond.instanceMethod yX8_fieldToRead, Cond.selects RX8 yX8_fieldToRead yX8_fieldToRead, Cond.code yX8_fieldToRead cX8_fieldToRead 4 (some (.object "ReflectModels$Field")), Cond.classLink RX8 109 "ReflectModels$Field", Cond.fieldLink RX8 325 "ReflectModels$Field" "isStatic" "Z", Cond.sameField "ReflectModels$Field" "ReflectModels$Member" "isStatic" "Z", Cond.methodLink RX8 209 yX8_heldIn, Cond.instanceMethod yX8_heldIn, Cond.selects RX8 yX8_heldIn yX8_heldIn, Cond.code yX8_heldIn cX8_heldIn 3 (some .long), Cond.methodLink RX8 391 yX8_hasSlot, Cond.instanceMethod yX8_hasSlot, Cond.selects RX8 yX8_hasSlot yX8_hasSlot, Cond.code yX8_hasSlot cX8_hasSlot 3 (some .boolean), Cond.instanceMethod yX7_load, Cond.selects RX7 yX7_load yX7_load]
def wsX8_perform_r6 : List Cond := [Cond.code yX7_load cX7_load 4 none, Cond.constantLong RX7 23 (-1), Cond.methodLink RX7 19 yX7_become, Cond.methodLink RX8 446 yX8_pickItem, Cond.instanceMethod yX8_pickItem, Cond.selects RX8 yX8_pickItem yX8_pickItem, Cond.code yX8_pickItem cX8_pickItem 4 (some .int), Cond.constantLong RX8 457 (3), Cond.methodLink RX8 449 yX8_storeFirst, Cond.instanceMethod yX8_storeFirst, Cond.selects RX8 yX8_storeFirst yX8_storeFirst, Cond.code yX8_storeFirst cX8_storeFirst 2 (some .int), Cond.instanceMethod yX7_becomeGiven, Cond.selects RX7 yX7_becomeGiven yX7_becomeGiven, Cond.code yX7_becomeGiven cX7_becomeGiven 3 none]
def wsX8_perform : List Cond := .code yX8_perform cX8_perform 5 (some .int) :: ((wsX8_perform_r1 ++ (wsX8_perform_r2 ++ (wsX8_perform_r3 ++ (wsX8_perform_r4 ++ (wsX8_perform_r5 ++ wsX8_perform_r6))))) ++ wsX80 ++ wsX40 ++ wsX10 ++ wsX00 ++ wsX60 ++ wsX70 ++ wsX50)
def wsX8_call_r1 : List Cond := [Cond.fieldLink RX8 33 "ReflectModels" "handles" "[LReflectModels$Handle;", Cond.classLink RX8 138 "ReflectModels$Method", Cond.fieldLink RX8 62 "ReflectModels" "outcome" "LReflectModels$Value;", Cond.fieldLink RX8 69 "ReflectModels" "latestCause" "I", Cond.methodLink RX8 168 yX8_isHandle, Cond.instanceMethod yX8_isHandle, Cond.selects RX8 yX8_isHandle yX8_isHandle, Cond.initialized RX8, Cond.code yX8_isHandle cX8_isHandle 2 (some .boolean), Cond.fieldLink RX8 37 "ReflectModels" "handleCount" "I", Cond.methodLink RX8 199 yX8_isReceiver, Cond.instanceMethod yX8_isReceiver, Cond.selects RX8 yX8_isReceiver yX8_isReceiver, Cond.code yX8_isReceiver cX8_isReceiver 2 (some .boolean), Cond.methodLink RX8 273 yX8_isThing, Cond.instanceMethod yX8_isThing, Cond.selects RX8 yX8_isThing yX8_isThing, Cond.code yX8_isThing cX8_isThing 2 (some .boolean), Cond.fieldLink RX8 46 "ReflectModels" "thingCount" "I", Cond.instanceMethod yX7_become, Cond.initialized RX7, Cond.selects RX7 yX7_become yX7_become, Cond.code yX7_become cX7_become 4 none, Cond.fieldLink RX7 9 "ReflectModels$Value" "kind" "I"]
def wsX8_call_r2 : List Cond := [Cond.fieldLink RX7 15 "ReflectModels$Value" "number" "J", Cond.methodLink RX8 232 yX8_callFailure, Cond.instanceMethod yX8_callFailure, Cond.selects RX8 yX8_callFailure yX8_callFailure, Cond.code yX8_callFailure cX8_callFailure 5 (some .int), Cond.fieldLink RX8 299 "ReflectModels$Method" "isStatic" "Z", Cond.sameField "ReflectModels$Method" "ReflectModels$Member" "isStatic" "Z", Cond.fieldLink RX8 150 "ReflectModels$Method" "owner" "LReflectModels$ClassModel;", Cond.sameField "ReflectModels$Method" "ReflectModels$Member" "owner" "LReflectModels$ClassModel;", Cond.methodLink RX8 283 yX8_mayUse, Cond.instanceMethod yX8_mayUse, Cond.selects RX8 yX8_mayUse yX8_mayUse, Cond.code yX8_mayUse cX8_mayUse 3 (some .boolean), Cond.fieldLink RX8 333 "ReflectModels$Member" "isHidden" "Z", Cond.fieldLink RX8 175 "ReflectModels$Member" "owner" "LReflectModels$ClassModel;", Cond.fieldLink RX8 58 "ReflectModels" "callerNumber" "I", Cond.methodLink RX8 366 yX8_valuesFit, Cond.instanceMethod yX8_valuesFit, Cond.selects RX8 yX8_valuesFit yX8_valuesFit, Cond.code yX8_valuesFit cX8_valuesFit 2 (some .boolean), Cond.fieldLink RX8 55 "ReflectModels" "valueCount" "I", Cond.fieldLink RX8 51 "ReflectModels" "values" "[LReflectModels$Value;", Cond.methodLink RX8 362 yX8_fits, Cond.instanceMethod yX8_fits]
def wsX8_call_r3 : List Cond := [Cond.selects RX8 yX8_fits yX8_fits, Cond.code yX8_fits cX8_fits 3 (some .boolean), Cond.methodLink RX8 372 yX8_isObjectOf, Cond.instanceMethod yX8_isObjectOf, Cond.selects RX8 yX8_isObjectOf yX8_isObjectOf, Cond.code yX8_isObjectOf cX8_isObjectOf 3 (some .boolean), Cond.fieldLink RX8 42 "ReflectModels" "things" "[LReflectModels$Thing;", Cond.fieldLink RX8 11 "ReflectModels" "classes" "[LReflectModels$ClassModel;", Cond.methodLink RX8 75 yX8_isClass, Cond.instanceMethod yX8_isClass, Cond.selects RX8 yX8_isClass yX8_isClass, Cond.code yX8_isClass cX8_isClass 2 (some .boolean), Cond.fieldLink RX8 15 "ReflectModels" "classCount" "I", Cond.instanceMethod yX6_isOf, Cond.initialized RX6, Cond.selects RX6 yX6_isOf yX6_isOf, Cond.code yX6_isOf cX6_isOf 2 (some .boolean), Cond.fieldLink RX6 29 "ReflectModels$Thing" "all" "I", Cond.methodLink RX8 252 yX8_startFailure, Cond.instanceMethod yX8_startFailure, Cond.selects RX8 yX8_startFailure yX8_startFailure, Cond.code yX8_startFailure cX8_startFailure 4 (some .int), Cond.instanceMethod yX0_standsUnder, Cond.initialized RX0]
def wsX8_call_r4 : List Cond := [Cond.selects RX0 yX0_standsUnder yX0_standsUnder, Cond.code yX0_standsUnder cX0_standsUnder 2 (some .boolean), Cond.fieldLink RX0 44 "ReflectModels$ClassModel" "line" "I", Cond.fieldLink RX0 24 "ReflectModels$ClassModel" "number" "I", Cond.methodLink RX8 345 yX8_startAlone, Cond.instanceMethod yX8_startAlone, Cond.selects RX8 yX8_startAlone yX8_startAlone, Cond.code yX8_startAlone cX8_startAlone 3 (some .int), Cond.methodLink RX8 244 yX8_addThing, Cond.instanceMethod yX8_addThing, Cond.selects RX8 yX8_addThing yX8_addThing, Cond.code yX8_addThing cX8_addThing 4 (some .int), Cond.classLink RX8 40 RX6, Cond.instantiable RX6 5, Cond.methodLink RX8 375 yX8_firstSlots, Cond.instanceMethod yX8_firstSlots, Cond.selects RX8 yX8_firstSlots yX8_firstSlots, Cond.code yX8_firstSlots cX8_firstSlots 5 (some (.array .long)), Cond.fieldLink RX8 28 "ReflectModels" "slotCount" "I", Cond.arrayClass .long, Cond.fieldLink RX8 25 "ReflectModels" "memberCount" "I", Cond.fieldLink RX8 21 "ReflectModels" "members" "[LReflectModels$Member;", Cond.classLink RX8 109 "ReflectModels$Field", Cond.fieldLink RX8 325 "ReflectModels$Field" "isStatic" "Z"]
def wsX8_call_r5 : List Cond := [Cond.sameField "ReflectModels$Field" "ReflectModels$Member" "isStatic" "Z", Cond.instanceMethod yX6_init, Cond.code yX6_init cX6_init 5 none, Cond.methodLink RX6 1 objectInit, Cond.instanceMethod objectInit, Cond.code objectInit ⟨#[0xb1]⟩ 1 none, Cond.fieldLink RX6 7 "ReflectModels$Thing" "asked" "I", Cond.fieldLink RX6 13 "ReflectModels$Thing" "model" "LReflectModels$ClassModel;", Cond.fieldLink RX6 17 "ReflectModels$Thing" "handler" "I", Cond.fieldLink RX6 20 "ReflectModels$Thing" "slots" "[J", Cond.methodLink RX8 352 yX8_receiverFailure, Cond.instanceMethod yX8_receiverFailure, Cond.selects RX8 yX8_receiverFailure yX8_receiverFailure, Cond.code yX8_receiverFailure cX8_receiverFailure 3 (some .int), Cond.methodLink RX8 183 yX8_failed, Cond.instanceMethod yX8_failed, Cond.selects RX8 yX8_failed yX8_failed, Cond.code yX8_failed cX8_failed 2 (some .int), Cond.fieldLink RX8 66 "ReflectModels" "latestFailure" "I", Cond.methodLink RX8 236 yX8_perform, Cond.instanceMethod yX8_perform, Cond.selects RX8 yX8_perform yX8_perform, Cond.code yX8_perform cX8_perform 5 (some .int), Cond.methodLink RX8 398 yX8_isAnsweredByHandler]
def wsX8_call_r6 : List Cond := [Cond.instanceMethod yX8_isAnsweredByHandler, Cond.selects RX8 yX8_isAnsweredByHandler yX8_isAnsweredByHandler, Cond.code yX8_isAnsweredByHandler cX8_isAnsweredByHandler 3 (some .boolean), Cond.methodLink RX8 402 yX8_askHandler, Cond.instanceMethod yX8_askHandler, Cond.selects RX8 yX8_askHandler yX8_askHandler, Cond.code yX8_askHandler cX8_askHandler 3 (some .int), Cond.methodLink RX8 425 yX8_echoFirst, Cond.instanceMethod yX8_echoFirst, Cond.selects RX8 yX8_echoFirst yX8_echoFirst, Cond.code yX8_echoFirst cX8_echoFirst 2 none, Cond.instanceMethod yX7_widenFor, Cond.selects RX7 yX7_widenFor yX7_widenFor, Cond.code yX7_widenFor cX7_widenFor 2 none, Cond.methodLink RX8 409 yX8_fitOutcome, Cond.instanceMethod yX8_fitOutcome, Cond.selects RX8 yX8_fitOutcome yX8_fitOutcome, Cond.code yX8_fitOutcome cX8_fitOutcome 2 (some .int), Cond.methodLink RX8 412 yX8_methodToDo, Cond.instanceMethod yX8_methodToDo, Cond.selects RX8 yX8_methodToDo yX8_methodToDo, Cond.code yX8_methodToDo cX8_methodToDo 7 (some (.object "ReflectModels$Method")), Cond.fieldLink RX8 429 "ReflectModels$Method" "isHidden" "Z", Cond.sameField "ReflectModels$Method" "ReflectModels$Member" "isHidden" "Z"]
def wsX8_call_r7 : List Cond := [Cond.methodLink RX8 154 yX8_ownMethod, Cond.instanceMethod yX8_ownMethod, Cond.selects RX8 yX8_ownMethod yX8_ownMethod, Cond.code yX8_ownMethod cX8_ownMethod 6 (some .int), Cond.instanceMethod yX5_matches, Cond.initialized RX5, Cond.selects RX5 yX5_matches yX5_matches, Cond.code yX5_matches cX5_matches 2 (some .boolean), Cond.fieldLink RX5 9 "ReflectModels$Signature" "name" "I", Cond.fieldLink RX5 15 "ReflectModels$Signature" "n" "I", Cond.fieldLink RX5 18 "ReflectModels$Signature" "first" "I", Cond.fieldLink RX5 21 "ReflectModels$Signature" "second" "I", Cond.instanceMethod yX4_canBeChosen, Cond.initialized RX4, Cond.selects RX4 yX4_canBeChosen yX4_canBeChosen, Cond.code yX4_canBeChosen cX4_canBeChosen 1 (some .boolean), Cond.fieldLink RX4 33 "ReflectModels$Method" "isHidden" "Z", Cond.fieldLink RX4 36 "ReflectModels$Method" "isStatic" "Z", Cond.fieldLink RX4 23 "ReflectModels$Method" "isAbstract" "Z", Cond.methodLink RX8 416 yX8_runBody, Cond.instanceMethod yX8_runBody, Cond.selects RX8 yX8_runBody yX8_runBody, Cond.code yX8_runBody cX8_runBody 3 (some .int), Cond.methodLink RX8 436 yX8_divide]
def wsX8_call_r8 : List Cond := [Cond.instanceMethod yX8_divide, Cond.selects RX8 yX8_divide yX8_divide, Cond.code yX8_divide cX8_divide 2 (some .int), Cond.methodLink RX8 440 yX8_castFirst, Cond.instanceMethod yX8_castFirst, Cond.selects RX8 yX8_castFirst yX8_castFirst, Cond.code yX8_castFirst cX8_castFirst 2 (some .int), Cond.methodLink RX8 443 yX8_readFieldOfFirst, Cond.instanceMethod yX8_readFieldOfFirst, Cond.selects RX8 yX8_readFieldOfFirst yX8_readFieldOfFirst, Cond.code yX8_readFieldOfFirst cX8_readFieldOfFirst 3 (some .int), Cond.fieldLink RX8 326 "ReflectModels$Field" "owner" "LReflectModels$ClassModel;", Cond.sameField "ReflectModels$Field" "ReflectModels$Member" "owner" "LReflectModels$ClassModel;", Cond.methodLink RX8 321 yX8_fieldToRead, Cond.instanceMethod yX8_fieldToRead, Cond.selects RX8 yX8_fieldToRead yX8_fieldToRead, Cond.code yX8_fieldToRead cX8_fieldToRead 4 (some (.object "ReflectModels$Field")), Cond.methodLink RX8 209 yX8_heldIn, Cond.instanceMethod yX8_heldIn, Cond.selects RX8 yX8_heldIn yX8_heldIn, Cond.code yX8_heldIn cX8_heldIn 3 (some .long), Cond.methodLink RX8 391 yX8_hasSlot, Cond.instanceMethod yX8_hasSlot, Cond.selects RX8 yX8_hasSlot yX8_hasSlot]
def wsX8_call_r9 : List Cond := [Cond.code yX8_hasSlot cX8_hasSlot 3 (some .boolean), Cond.instanceMethod yX7_load, Cond.selects RX7 yX7_load yX7_load, Cond.code yX7_load cX7_load 4 none, Cond.constantLong RX7 23 (-1), Cond.methodLink RX7 19 yX7_become, Cond.methodLink RX8 446 yX8_pickItem, Cond.instanceMethod yX8_pickItem, Cond.selects RX8 yX8_pickItem yX8_pickItem, Cond.code yX8_pickItem cX8_pickItem 4 (some .int), Cond.constantLong RX8 457 (3), Cond.methodLink RX8 449 yX8_storeFirst, Cond.instanceMethod yX8_storeFirst, Cond.selects RX8 yX8_storeFirst yX8_storeFirst, Cond.code yX8_storeFirst cX8_storeFirst 2 (some .int), Cond.instanceMethod yX7_becomeGiven, Cond.selects RX7 yX7_becomeGiven yX7_becomeGiven, Cond.code yX7_becomeGiven cX7_becomeGiven 3 none]
def wsX8_call : List Cond := .code yX8_call cX8_call 6 (some .int) :: ((wsX8_call_r1 ++ (wsX8_call_r2 ++ (wsX8_call_r3 ++ (wsX8_call_r4 ++ (wsX8_call_r5 ++ (wsX8_call_r6 ++ (wsX8_call_r7 ++ (wsX8_call_r8 ++ wsX8_call_r9)))))))) ++ wsX80 ++ wsX20 ++ wsX70 ++ wsX10 ++ wsX40 ++ wsX00 ++ wsX50 ++ wsX60)
def wsX8_recordFits_r1 : List Cond := [Cond.fieldLink RX8 25 "ReflectModels" "memberCount" "I", Cond.fieldLink RX8 21 "ReflectModels" "members" "[LReflectModels$Member;", Cond.classLink RX8 109 "ReflectModels$Field", Cond.fieldLink RX8 326 "ReflectModels$Field" "owner" "LReflectModels$ClassModel;", Cond.sameField "ReflectModels$Field" "ReflectModels$Member" "owner" "LReflectModels$ClassModel;", Cond.fieldLink RX8 55 "ReflectModels" "valueCount" "I", Cond.fieldLink RX8 51 "ReflectModels" "values" "[LReflectModels$Value;", Cond.methodLink RX8 362 yX8_fits, Cond.instanceMethod yX8_fits, Cond.selects RX8 yX8_fits yX8_fits, Cond.initialized RX8, Cond.code yX8_fits cX8_fits 3 (some .boolean), Cond.methodLink RX8 372 yX8_isObjectOf, Cond.instanceMethod yX8_isObjectOf, Cond.selects RX8 yX8_isObjectOf yX8_isObjectOf, Cond.code yX8_isObjectOf cX8_isObjectOf 3 (some .boolean), Cond.fieldLink RX8 46 "ReflectModels" "thingCount" "I", Cond.fieldLink RX8 42 "ReflectModels" "things" "[LReflectModels$Thing;", Cond.fieldLink RX8 11 "ReflectModels" "classes" "[LReflectModels$ClassModel;", Cond.methodLink RX8 75 yX8_isClass, Cond.instanceMethod yX8_isClass, Cond.selects RX8 yX8_isClass yX8_isClass, Cond.code yX8_isClass cX8_isClass 2 (some .boolean), Cond.fieldLink RX8 15 "ReflectModels" "classCount" "I"]
def wsX8_recordFits_r2 : List Cond := [Cond.instanceMethod yX6_isOf, Cond.initialized RX6, Cond.selects RX6 yX6_isOf yX6_isOf, Cond.code yX6_isOf cX6_isOf 2 (some .boolean), Cond.fieldLink RX6 29 "ReflectModels$Thing" "all" "I"]
def wsX8_recordFits : List Cond := .code yX8_recordFits cX8_recordFits 6 (some .boolean) :: ((wsX8_recordFits_r1 ++ wsX8_recordFits_r2) ++ wsX80 ++ wsX10 ++ wsX40 ++ wsX70 ++ wsX60 ++ wsX00)
def wsX8_makeFailure_r1 : List Cond := [Cond.fieldLink RX8 55 "ReflectModels" "valueCount" "I", Cond.methodLink RX8 369 yX8_recordFits, Cond.instanceMethod yX8_recordFits, Cond.selects RX8 yX8_recordFits yX8_recordFits, Cond.initialized RX8, Cond.code yX8_recordFits cX8_recordFits 6 (some .boolean), Cond.fieldLink RX8 25 "ReflectModels" "memberCount" "I", Cond.fieldLink RX8 21 "ReflectModels" "members" "[LReflectModels$Member;", Cond.classLink RX8 109 "ReflectModels$Field", Cond.fieldLink RX8 326 "ReflectModels$Field" "owner" "LReflectModels$ClassModel;", Cond.sameField "ReflectModels$Field" "ReflectModels$Member" "owner" "LReflectModels$ClassModel;", Cond.fieldLink RX8 51 "ReflectModels" "values" "[LReflectModels$Value;", Cond.methodLink RX8 362 yX8_fits, Cond.instanceMethod yX8_fits, Cond.selects RX8 yX8_fits yX8_fits, Cond.code yX8_fits cX8_fits 3 (some .boolean), Cond.methodLink RX8 372 yX8_isObjectOf, Cond.instanceMethod yX8_isObjectOf, Cond.selects RX8 yX8_isObjectOf yX8_isObjectOf, Cond.code yX8_isObjectOf cX8_isObjectOf 3 (some .boolean), Cond.fieldLink RX8 46 "ReflectModels" "thingCount" "I", Cond.fieldLink RX8 42 "ReflectModels" "things" "[LReflectModels$Thing;", Cond.fieldLink RX8 11 "ReflectModels" "classes" "[LReflectModels$ClassModel;", Cond.methodLink RX8 75 yX8_isClass]
def wsX8_makeFailure_r2 : List Cond := [Cond.instanceMethod yX8_isClass, Cond.selects RX8 yX8_isClass yX8_isClass, Cond.code yX8_isClass cX8_isClass 2 (some .boolean), Cond.fieldLink RX8 15 "ReflectModels" "classCount" "I", Cond.instanceMethod yX6_isOf, Cond.initialized RX6, Cond.selects RX6 yX6_isOf yX6_isOf, Cond.code yX6_isOf cX6_isOf 2 (some .boolean), Cond.fieldLink RX6 29 "ReflectModels$Thing" "all" "I", Cond.methodLink RX8 252 yX8_startFailure, Cond.instanceMethod yX8_startFailure, Cond.selects RX8 yX8_startFailure yX8_startFailure, Cond.code yX8_startFailure cX8_startFailure 4 (some .int), Cond.instanceMethod yX0_standsUnder, Cond.initialized RX0, Cond.selects RX0 yX0_standsUnder yX0_standsUnder, Cond.code yX0_standsUnder cX0_standsUnder 2 (some .boolean), Cond.fieldLink RX0 44 "ReflectModels$ClassModel" "line" "I", Cond.fieldLink RX0 24 "ReflectModels$ClassModel" "number" "I", Cond.methodLink RX8 345 yX8_startAlone, Cond.instanceMethod yX8_startAlone, Cond.selects RX8 yX8_startAlone yX8_startAlone, Cond.code yX8_startAlone cX8_startAlone 3 (some .int), Cond.methodLink RX8 244 yX8_addThing]
def wsX8_makeFailure_r3 : List Cond := [Cond.instanceMethod yX8_addThing, Cond.selects RX8 yX8_addThing yX8_addThing, Cond.code yX8_addThing cX8_addThing 4 (some .int), Cond.classLink RX8 40 RX6, Cond.instantiable RX6 5, Cond.methodLink RX8 375 yX8_firstSlots, Cond.instanceMethod yX8_firstSlots, Cond.selects RX8 yX8_firstSlots yX8_firstSlots, Cond.code yX8_firstSlots cX8_firstSlots 5 (some (.array .long)), Cond.fieldLink RX8 28 "ReflectModels" "slotCount" "I", Cond.arrayClass .long, Cond.fieldLink RX8 325 "ReflectModels$Field" "isStatic" "Z", Cond.sameField "ReflectModels$Field" "ReflectModels$Member" "isStatic" "Z", Cond.instanceMethod yX6_init, Cond.code yX6_init cX6_init 5 none, Cond.methodLink RX6 1 objectInit, Cond.instanceMethod objectInit, Cond.code objectInit ⟨#[0xb1]⟩ 1 none, Cond.fieldLink RX6 7 "ReflectModels$Thing" "asked" "I", Cond.fieldLink RX6 13 "ReflectModels$Thing" "model" "LReflectModels$ClassModel;", Cond.fieldLink RX6 17 "ReflectModels$Thing" "handler" "I", Cond.fieldLink RX6 20 "ReflectModels$Thing" "slots" "[J"]
def wsX8_makeFailure : List Cond := .code yX8_makeFailure cX8_makeFailure 3 (some .int) :: ((wsX8_makeFailure_r1 ++ (wsX8_makeFailure_r2 ++ wsX8_makeFailure_r3)) ++ wsX00 ++ wsX80 ++ wsX10 ++ wsX40 ++ wsX70 ++ wsX60)
def wsX8_fillRecord_r1 : List Cond := [Cond.fieldLink RX8 25 "ReflectModels" "memberCount" "I", Cond.fieldLink RX8 55 "ReflectModels" "valueCount" "I", Cond.fieldLink RX8 21 "ReflectModels" "members" "[LReflectModels$Member;", Cond.classLink RX8 109 "ReflectModels$Field", Cond.fieldLink RX8 326 "ReflectModels$Field" "owner" "LReflectModels$ClassModel;", Cond.sameField "ReflectModels$Field" "ReflectModels$Member" "owner" "LReflectModels$ClassModel;", Cond.fieldLink RX8 51 "ReflectModels" "values" "[LReflectModels$Value;", Cond.instanceMethod yX7_toHold, Cond.initialized RX7, Cond.selects RX7 yX7_toHold yX7_toHold, Cond.code yX7_toHold cX7_toHold 1 (some .long), Cond.fieldLink RX7 9 "ReflectModels$Value" "kind" "I", Cond.constantLong RX7 23 (-1), Cond.fieldLink RX7 15 "ReflectModels$Value" "number" "J", Cond.methodLink RX8 228 yX8_holdIn, Cond.instanceMethod yX8_holdIn, Cond.selects RX8 yX8_holdIn yX8_holdIn, Cond.initialized RX8, Cond.code yX8_holdIn cX8_holdIn 5 none, Cond.fieldLink RX8 325 "ReflectModels$Field" "isStatic" "Z", Cond.sameField "ReflectModels$Field" "ReflectModels$Member" "isStatic" "Z", Cond.fieldLink RX8 42 "ReflectModels" "things" "[LReflectModels$Thing;", Cond.methodLink RX8 391 yX8_hasSlot, Cond.instanceMethod yX8_hasSlot]
def wsX8_fillRecord_r2 : List Cond := [Cond.selects RX8 yX8_hasSlot yX8_hasSlot, Cond.code yX8_hasSlot cX8_hasSlot 3 (some .boolean), Cond.methodLink RX8 273 yX8_isThing, Cond.instanceMethod yX8_isThing, Cond.selects RX8 yX8_isThing yX8_isThing, Cond.code yX8_isThing cX8_isThing 2 (some .boolean), Cond.fieldLink RX8 46 "ReflectModels" "thingCount" "I"]
def wsX8_fillRecord : List Cond := .code yX8_fillRecord cX8_fillRecord 7 none :: ((wsX8_fillRecord_r1 ++ wsX8_fillRecord_r2) ++ wsX80 ++ wsX10 ++ wsX40 ++ wsX70 ++ wsX60)
def wsX8_make_r1 : List Cond := [Cond.fieldLink RX8 46 "ReflectModels" "thingCount" "I", Cond.fieldLink RX8 11 "ReflectModels" "classes" "[LReflectModels$ClassModel;", Cond.methodLink RX8 75 yX8_isClass, Cond.instanceMethod yX8_isClass, Cond.selects RX8 yX8_isClass yX8_isClass, Cond.initialized RX8, Cond.code yX8_isClass cX8_isClass 2 (some .boolean), Cond.fieldLink RX8 15 "ReflectModels" "classCount" "I", Cond.methodLink RX8 240 yX8_makeFailure, Cond.instanceMethod yX8_makeFailure, Cond.selects RX8 yX8_makeFailure yX8_makeFailure, Cond.code yX8_makeFailure cX8_makeFailure 3 (some .int), Cond.fieldLink RX8 55 "ReflectModels" "valueCount" "I", Cond.methodLink RX8 369 yX8_recordFits, Cond.instanceMethod yX8_recordFits, Cond.selects RX8 yX8_recordFits yX8_recordFits, Cond.code yX8_recordFits cX8_recordFits 6 (some .boolean), Cond.fieldLink RX8 25 "ReflectModels" "memberCount" "I", Cond.fieldLink RX8 21 "ReflectModels" "members" "[LReflectModels$Member;", Cond.classLink RX8 109 "ReflectModels$Field", Cond.fieldLink RX8 326 "ReflectModels$Field" "owner" "LReflectModels$ClassModel;", Cond.sameField "ReflectModels$Field" "ReflectModels$Member" "owner" "LReflectModels$ClassModel;", Cond.fieldLink RX8 51 "ReflectModels" "values" "[LReflectModels$Value;", Cond.methodLink RX8 362 yX8_fits]
def wsX8_make_r2 : List Cond := [Cond.instanceMethod yX8_fits, Cond.selects RX8 yX8_fits yX8_fits, Cond.code yX8_fits cX8_fits 3 (some .boolean), Cond.methodLink RX8 372 yX8_isObjectOf, Cond.instanceMethod yX8_isObjectOf, Cond.selects RX8 yX8_isObjectOf yX8_isObjectOf, Cond.code yX8_isObjectOf cX8_isObjectOf 3 (some .boolean), Cond.fieldLink RX8 42 "ReflectModels" "things" "[LReflectModels$Thing;", Cond.instanceMethod yX6_isOf, Cond.initialized RX6, Cond.selects RX6 yX6_isOf yX6_isOf, Cond.code yX6_isOf cX6_isOf 2 (some .boolean), Cond.fieldLink RX6 29 "ReflectModels$Thing" "all" "I", Cond.methodLink RX8 252 yX8_startFailure, Cond.instanceMethod yX8_startFailure, Cond.selects RX8 yX8_startFailure yX8_startFailure, Cond.code yX8_startFailure cX8_startFailure 4 (some .int), Cond.instanceMethod yX0_standsUnder, Cond.initialized RX0, Cond.selects RX0 yX0_standsUnder yX0_standsUnder, Cond.code yX0_standsUnder cX0_standsUnder 2 (some .boolean), Cond.fieldLink RX0 44 "ReflectModels$ClassModel" "line" "I", Cond.fieldLink RX0 24 "ReflectModels$ClassModel" "number" "I", Cond.methodLink RX8 345 yX8_startAlone]
def wsX8_make_r3 : List Cond := [Cond.instanceMethod yX8_startAlone, Cond.selects RX8 yX8_startAlone yX8_startAlone, Cond.code yX8_startAlone cX8_startAlone 3 (some .int), Cond.methodLink RX8 244 yX8_addThing, Cond.instanceMethod yX8_addThing, Cond.selects RX8 yX8_addThing yX8_addThing, Cond.code yX8_addThing cX8_addThing 4 (some .int), Cond.classLink RX8 40 RX6, Cond.instantiable RX6 5, Cond.methodLink RX8 375 yX8_firstSlots, Cond.instanceMethod yX8_firstSlots, Cond.selects RX8 yX8_firstSlots yX8_firstSlots, Cond.code yX8_firstSlots cX8_firstSlots 5 (some (.array .long)), Cond.fieldLink RX8 28 "ReflectModels" "slotCount" "I", Cond.arrayClass .long, Cond.fieldLink RX8 325 "ReflectModels$Field" "isStatic" "Z", Cond.sameField "ReflectModels$Field" "ReflectModels$Member" "isStatic" "Z", Cond.instanceMethod yX6_init, Cond.code yX6_init cX6_init 5 none, Cond.methodLink RX6 1 objectInit, Cond.instanceMethod objectInit, Cond.code objectInit ⟨#[0xb1]⟩ 1 none, Cond.fieldLink RX6 7 "ReflectModels$Thing" "asked" "I", Cond.fieldLink RX6 13 "ReflectModels$Thing" "model" "LReflectModels$ClassModel;"]
def wsX8_make_r4 : List Cond := [Cond.fieldLink RX6 17 "ReflectModels$Thing" "handler" "I", Cond.fieldLink RX6 20 "ReflectModels$Thing" "slots" "[J", Cond.methodLink RX8 183 yX8_failed, Cond.instanceMethod yX8_failed, Cond.selects RX8 yX8_failed yX8_failed, Cond.code yX8_failed cX8_failed 2 (some .int), Cond.fieldLink RX8 66 "ReflectModels" "latestFailure" "I", Cond.methodLink RX8 248 yX8_fillRecord, Cond.instanceMethod yX8_fillRecord, Cond.selects RX8 yX8_fillRecord yX8_fillRecord, Cond.code yX8_fillRecord cX8_fillRecord 7 none, Cond.instanceMethod yX7_toHold, Cond.initialized RX7, Cond.selects RX7 yX7_toHold yX7_toHold, Cond.code yX7_toHold cX7_toHold 1 (some .long), Cond.fieldLink RX7 9 "ReflectModels$Value" "kind" "I", Cond.constantLong RX7 23 (-1), Cond.fieldLink RX7 15 "ReflectModels$Value" "number" "J", Cond.methodLink RX8 228 yX8_holdIn, Cond.instanceMethod yX8_holdIn, Cond.selects RX8 yX8_holdIn yX8_holdIn, Cond.code yX8_holdIn cX8_holdIn 5 none, Cond.methodLink RX8 391 yX8_hasSlot, Cond.instanceMethod yX8_hasSlot]
def wsX8_make_r5 : List Cond := [Cond.selects RX8 yX8_hasSlot yX8_hasSlot, Cond.code yX8_hasSlot cX8_hasSlot 3 (some .boolean), Cond.methodLink RX8 273 yX8_isThing, Cond.instanceMethod yX8_isThing, Cond.selects RX8 yX8_isThing yX8_isThing, Cond.code yX8_isThing cX8_isThing 2 (some .boolean)]
def wsX8_make : List Cond := .code yX8_make cX8_make 4 (some .int) :: ((wsX8_make_r1 ++ (wsX8_make_r2 ++ (wsX8_make_r3 ++ (wsX8_make_r4 ++ wsX8_make_r5)))) ++ wsX80 ++ wsX00 ++ wsX10 ++ wsX40 ++ wsX70 ++ wsX60)
def wsX8_proxy_r1 : List Cond := [Cond.fieldLink RX8 11 "ReflectModels" "classes" "[LReflectModels$ClassModel;", Cond.fieldLink RX8 46 "ReflectModels" "thingCount" "I", Cond.methodLink RX8 75 yX8_isClass, Cond.instanceMethod yX8_isClass, Cond.selects RX8 yX8_isClass yX8_isClass, Cond.initialized RX8, Cond.code yX8_isClass cX8_isClass 2 (some .boolean), Cond.fieldLink RX8 15 "ReflectModels" "classCount" "I", Cond.methodLink RX8 244 yX8_addThing, Cond.instanceMethod yX8_addThing, Cond.selects RX8 yX8_addThing yX8_addThing, Cond.code yX8_addThing cX8_addThing 4 (some .int), Cond.fieldLink RX8 42 "ReflectModels" "things" "[LReflectModels$Thing;", Cond.classLink RX8 40 RX6, Cond.instantiable RX6 5, Cond.initialized RX6, Cond.methodLink RX8 375 yX8_firstSlots, Cond.instanceMethod yX8_firstSlots, Cond.selects RX8 yX8_firstSlots yX8_firstSlots, Cond.code yX8_firstSlots cX8_firstSlots 5 (some (.array .long)), Cond.fieldLink RX8 28 "ReflectModels" "slotCount" "I", Cond.arrayClass .long, Cond.fieldLink RX8 25 "ReflectModels" "memberCount" "I", Cond.fieldLink RX8 21 "ReflectModels" "members" "[LReflectModels$Member;"]
def wsX8_proxy_r2 : List Cond := [Cond.classLink RX8 109 "ReflectModels$Field", Cond.fieldLink RX8 325 "ReflectModels$Field" "isStatic" "Z", Cond.sameField "ReflectModels$Field" "ReflectModels$Member" "isStatic" "Z", Cond.instanceMethod yX6_init, Cond.code yX6_init cX6_init 5 none, Cond.methodLink RX6 1 objectInit, Cond.instanceMethod objectInit, Cond.code objectInit ⟨#[0xb1]⟩ 1 none, Cond.fieldLink RX6 7 "ReflectModels$Thing" "asked" "I", Cond.fieldLink RX6 13 "ReflectModels$Thing" "model" "LReflectModels$ClassModel;", Cond.fieldLink RX6 17 "ReflectModels$Thing" "handler" "I", Cond.fieldLink RX6 20 "ReflectModels$Thing" "slots" "[J", Cond.fieldLink RX6 29 "ReflectModels$Thing" "all" "I"]
def wsX8_proxy : List Cond := .code yX8_proxy cX8_proxy 3 (some .int) :: ((wsX8_proxy_r1 ++ wsX8_proxy_r2) ++ wsX80 ++ wsX00 ++ wsX60 ++ wsX10 ++ wsX40)
def wsX8_constant_r1 : List Cond := [Cond.fieldLink RX8 11 "ReflectModels" "classes" "[LReflectModels$ClassModel;", Cond.methodLink RX8 75 yX8_isClass, Cond.instanceMethod yX8_isClass, Cond.selects RX8 yX8_isClass yX8_isClass, Cond.initialized RX8, Cond.code yX8_isClass cX8_isClass 2 (some .boolean), Cond.fieldLink RX8 15 "ReflectModels" "classCount" "I", Cond.methodLink RX8 252 yX8_startFailure, Cond.instanceMethod yX8_startFailure, Cond.selects RX8 yX8_startFailure yX8_startFailure, Cond.code yX8_startFailure cX8_startFailure 4 (some .int), Cond.instanceMethod yX0_standsUnder, Cond.initialized RX0, Cond.selects RX0 yX0_standsUnder yX0_standsUnder, Cond.code yX0_standsUnder cX0_standsUnder 2 (some .boolean), Cond.fieldLink RX0 44 "ReflectModels$ClassModel" "line" "I", Cond.fieldLink RX0 24 "ReflectModels$ClassModel" "number" "I", Cond.methodLink RX8 345 yX8_startAlone, Cond.instanceMethod yX8_startAlone, Cond.selects RX8 yX8_startAlone yX8_startAlone, Cond.code yX8_startAlone cX8_startAlone 3 (some .int), Cond.fieldLink RX8 46 "ReflectModels" "thingCount" "I", Cond.methodLink RX8 244 yX8_addThing, Cond.instanceMethod yX8_addThing]
def wsX8_constant_r2 : List Cond := [Cond.selects RX8 yX8_addThing yX8_addThing, Cond.code yX8_addThing cX8_addThing 4 (some .int), Cond.fieldLink RX8 42 "ReflectModels" "things" "[LReflectModels$Thing;", Cond.classLink RX8 40 RX6, Cond.instantiable RX6 5, Cond.initialized RX6, Cond.methodLink RX8 375 yX8_firstSlots, Cond.instanceMethod yX8_firstSlots, Cond.selects RX8 yX8_firstSlots yX8_firstSlots, Cond.code yX8_firstSlots cX8_firstSlots 5 (some (.array .long)), Cond.fieldLink RX8 28 "ReflectModels" "slotCount" "I", Cond.arrayClass .long, Cond.fieldLink RX8 25 "ReflectModels" "memberCount" "I", Cond.fieldLink RX8 21 "ReflectModels" "members" "[LReflectModels$Member;", Cond.classLink RX8 109 "ReflectModels$Field", Cond.fieldLink RX8 325 "ReflectModels$Field" "isStatic" "Z", Cond.sameField "ReflectModels$Field" "ReflectModels$Member" "isStatic" "Z", Cond.instanceMethod yX6_init, Cond.code yX6_init cX6_init 5 none, Cond.methodLink RX6 1 objectInit, Cond.instanceMethod objectInit, Cond.code objectInit ⟨#[0xb1]⟩ 1 none, Cond.fieldLink RX6 7 "ReflectModels$Thing" "asked" "I", Cond.fieldLink RX6 13 "ReflectModels$Thing" "model" "LReflectModels$ClassModel;"]
def wsX8_constant_r3 : List Cond := [Cond.fieldLink RX6 17 "ReflectModels$Thing" "handler" "I", Cond.fieldLink RX6 20 "ReflectModels$Thing" "slots" "[J", Cond.fieldLink RX6 29 "ReflectModels$Thing" "all" "I", Cond.methodLink RX8 183 yX8_failed, Cond.instanceMethod yX8_failed, Cond.selects RX8 yX8_failed yX8_failed, Cond.code yX8_failed cX8_failed 2 (some .int), Cond.fieldLink RX8 66 "ReflectModels" "latestFailure" "I"]
def wsX8_constant : List Cond := .code yX8_constant cX8_constant 5 (some .int) :: ((wsX8_constant_r1 ++ (wsX8_constant_r2 ++ wsX8_constant_r3)) ++ wsX80 ++ wsX00 ++ wsX60 ++ wsX10 ++ wsX40)
def wsX8_start_r1 : List Cond := [Cond.fieldLink RX8 11 "ReflectModels" "classes" "[LReflectModels$ClassModel;", Cond.methodLink RX8 75 yX8_isClass, Cond.instanceMethod yX8_isClass, Cond.selects RX8 yX8_isClass yX8_isClass, Cond.initialized RX8, Cond.code yX8_isClass cX8_isClass 2 (some .boolean), Cond.fieldLink RX8 15 "ReflectModels" "classCount" "I", Cond.methodLink RX8 252 yX8_startFailure, Cond.instanceMethod yX8_startFailure, Cond.selects RX8 yX8_startFailure yX8_startFailure, Cond.code yX8_startFailure cX8_startFailure 4 (some .int), Cond.instanceMethod yX0_standsUnder, Cond.initialized RX0, Cond.selects RX0 yX0_standsUnder yX0_standsUnder, Cond.code yX0_standsUnder cX0_standsUnder 2 (some .boolean), Cond.fieldLink RX0 44 "ReflectModels$ClassModel" "line" "I", Cond.fieldLink RX0 24 "ReflectModels$ClassModel" "number" "I", Cond.methodLink RX8 345 yX8_startAlone, Cond.instanceMethod yX8_startAlone, Cond.selects RX8 yX8_startAlone yX8_startAlone, Cond.code yX8_startAlone cX8_startAlone 3 (some .int), Cond.fieldLink RX8 46 "ReflectModels" "thingCount" "I", Cond.methodLink RX8 244 yX8_addThing, Cond.instanceMethod yX8_addThing]
def wsX8_start_r2 : List Cond := [Cond.selects RX8 yX8_addThing yX8_addThing, Cond.code yX8_addThing cX8_addThing 4 (some .int), Cond.fieldLink RX8 42 "ReflectModels" "things" "[LReflectModels$Thing;", Cond.classLink RX8 40 RX6, Cond.instantiable RX6 5, Cond.initialized RX6, Cond.methodLink RX8 375 yX8_firstSlots, Cond.instanceMethod yX8_firstSlots, Cond.selects RX8 yX8_firstSlots yX8_firstSlots, Cond.code yX8_firstSlots cX8_firstSlots 5 (some (.array .long)), Cond.fieldLink RX8 28 "ReflectModels" "slotCount" "I", Cond.arrayClass .long, Cond.fieldLink RX8 25 "ReflectModels" "memberCount" "I", Cond.fieldLink RX8 21 "ReflectModels" "members" "[LReflectModels$Member;", Cond.classLink RX8 109 "ReflectModels$Field", Cond.fieldLink RX8 325 "ReflectModels$Field" "isStatic" "Z", Cond.sameField "ReflectModels$Field" "ReflectModels$Member" "isStatic" "Z", Cond.instanceMethod yX6_init, Cond.code yX6_init cX6_init 5 none, Cond.methodLink RX6 1 objectInit, Cond.instanceMethod objectInit, Cond.code objectInit ⟨#[0xb1]⟩ 1 none, Cond.fieldLink RX6 7 "ReflectModels$Thing" "asked" "I", Cond.fieldLink RX6 13 "ReflectModels$Thing" "model" "LReflectModels$ClassModel;"]
def wsX8_start_r3 : List Cond := [Cond.fieldLink RX6 17 "ReflectModels$Thing" "handler" "I", Cond.fieldLink RX6 20 "ReflectModels$Thing" "slots" "[J", Cond.fieldLink RX6 29 "ReflectModels$Thing" "all" "I", Cond.methodLink RX8 183 yX8_failed, Cond.instanceMethod yX8_failed, Cond.selects RX8 yX8_failed yX8_failed, Cond.code yX8_failed cX8_failed 2 (some .int), Cond.fieldLink RX8 66 "ReflectModels" "latestFailure" "I"]
def wsX8_start : List Cond := .code yX8_start cX8_start 3 (some .int) :: ((wsX8_start_r1 ++ (wsX8_start_r2 ++ wsX8_start_r3)) ++ wsX80 ++ wsX00 ++ wsX60 ++ wsX10 ++ wsX40)
def wsX8_resultKind : List Cond := .code yX8_resultKind cX8_resultKind 1 (some .int) :: ([.fieldLink RX8 62 "ReflectModels" "outcome" "LReflectModels$Value;"] ++ wsX80 ++ wsX70)
def wsX8_result : List Cond := .code yX8_result cX8_result 1 (some .long) :: ([.fieldLink RX8 62 "ReflectModels" "outcome" "LReflectModels$Value;"] ++ wsX80 ++ wsX70)
def wsX8_cause : List Cond := .code yX8_cause cX8_cause 1 (some .int) :: ([.fieldLink RX8 69 "ReflectModels" "latestCause" "I"] ++ wsX80)
def wsX8_about : List Cond := .code yX8_about cX8_about 4 (some .int) :: ([.fieldLink RX8 11 "ReflectModels" "classes" "[LReflectModels$ClassModel;", .methodLink RX8 75 yX8_isClass, .instanceMethod yX8_isClass, .selects RX8 yX8_isClass yX8_isClass, .initialized RX8, .code yX8_isClass cX8_isClass 2 (some .boolean), .fieldLink RX8 15 "ReflectModels" "classCount" "I"] ++ wsX80 ++ wsX00)
def wsX8_is : List Cond := .code yX8_is cX8_is 3 (some .int) :: ([.fieldLink RX8 42 "ReflectModels" "things" "[LReflectModels$Thing;", .fieldLink RX8 11 "ReflectModels" "classes" "[LReflectModels$ClassModel;", .methodLink RX8 273 yX8_isThing, .instanceMethod yX8_isThing, .selects RX8 yX8_isThing yX8_isThing, .initialized RX8, .code yX8_isThing cX8_isThing 2 (some .boolean), .fieldLink RX8 46 "ReflectModels" "thingCount" "I", .methodLink RX8 75 yX8_isClass, .instanceMethod yX8_isClass, .selects RX8 yX8_isClass yX8_isClass, .code yX8_isClass cX8_isClass 2 (some .boolean), .fieldLink RX8 15 "ReflectModels" "classCount" "I", .instanceMethod yX6_isOf, .initialized RX6, .selects RX6 yX6_isOf yX6_isOf, .code yX6_isOf cX6_isOf 2 (some .boolean), .fieldLink RX6 29 "ReflectModels$Thing" "all" "I"] ++ wsX80 ++ wsX60 ++ wsX00)
def wsX8_handle : List Cond := .code yX8_handle cX8_handle 3 (some .int) :: ([.fieldLink RX8 33 "ReflectModels" "handles" "[LReflectModels$Handle;", .methodLink RX8 168 yX8_isHandle, .instanceMethod yX8_isHandle, .selects RX8 yX8_isHandle yX8_isHandle, .initialized RX8, .code yX8_isHandle cX8_isHandle 2 (some .boolean), .fieldLink RX8 37 "ReflectModels" "handleCount" "I", .methodLink RX8 283 yX8_mayUse, .instanceMethod yX8_mayUse, .selects RX8 yX8_mayUse yX8_mayUse, .code yX8_mayUse cX8_mayUse 3 (some .boolean), .fieldLink RX8 333 "ReflectModels$Member" "isHidden" "Z", .fieldLink RX8 175 "ReflectModels$Member" "owner" "LReflectModels$ClassModel;", .fieldLink RX8 58 "ReflectModels" "callerNumber" "I"] ++ wsX80 ++ wsX20 ++ wsX10 ++ wsX40 ++ wsX00)
def wsX8_told : List Cond := .code yX8_told cX8_told 2 (some .int) :: ([.fieldLink RX8 15 "ReflectModels" "classCount" "I", .fieldLink RX8 25 "ReflectModels" "memberCount" "I", .fieldLink RX8 37 "ReflectModels" "handleCount" "I", .fieldLink RX8 46 "ReflectModels" "thingCount" "I", .fieldLink RX8 55 "ReflectModels" "valueCount" "I", .fieldLink RX8 66 "ReflectModels" "latestFailure" "I"] ++ wsX80)
def wsX9_in : List Cond := .code yX9_in cX9_in 6 (some .boolean) :: ([])
def wsX9_init_r1 : List Cond := [Cond.methodLink RX9 7 objectInit, Cond.instanceMethod objectInit, Cond.code objectInit ⟨#[0xb1]⟩ 1 none, Cond.fieldLink RX9 13 "ReflectModelsModel" "classes" "I", Cond.arrayClass .int, Cond.fieldLink RX9 16 "ReflectModelsModel" "above" "[I", Cond.fieldLink RX9 20 "ReflectModelsModel" "sort" "[I", Cond.fieldLink RX9 23 "ReflectModelsModel" "face" "[I", Cond.arrayClass .boolean, Cond.fieldLink RX9 26 "ReflectModelsModel" "shut" "[Z", Cond.fieldLink RX9 30 "ReflectModelsModel" "failing" "[Z", Cond.fieldLink RX9 33 "ReflectModelsModel" "state" "[I", Cond.fieldLink RX9 36 "ReflectModelsModel" "constants" "[I", Cond.fieldLink RX9 39 "ReflectModelsModel" "firstConstant" "[I", Cond.fieldLink RX9 42 "ReflectModelsModel" "memberOf" "[I", Cond.fieldLink RX9 45 "ReflectModelsModel" "isField" "[Z", Cond.fieldLink RX9 48 "ReflectModelsModel" "name" "[I", Cond.fieldLink RX9 51 "ReflectModelsModel" "gives" "[I", Cond.fieldLink RX9 54 "ReflectModelsModel" "many" "[I", Cond.fieldLink RX9 57 "ReflectModelsModel" "typeOf" "[I", Cond.fieldLink RX9 60 "ReflectModelsModel" "isStatic" "[Z", Cond.fieldLink RX9 63 "ReflectModelsModel" "isFinal" "[Z", Cond.fieldLink RX9 66 "ReflectModelsModel" "isHidden" "[Z", Cond.fieldLink RX9 69 "ReflectModelsModel" "isAbstract" "[Z"]
def wsX9_init_r2 : List Cond := [Cond.fieldLink RX9 72 "ReflectModelsModel" "body" "[I", Cond.fieldLink RX9 75 "ReflectModelsModel" "bodyB" "[I", Cond.fieldLink RX9 78 "ReflectModelsModel" "handleOf" "[I", Cond.fieldLink RX9 81 "ReflectModelsModel" "hasLeave" "[Z", Cond.fieldLink RX9 84 "ReflectModelsModel" "objectClass" "[I", Cond.fieldLink RX9 87 "ReflectModelsModel" "proxyFace" "[I", Cond.fieldLink RX9 90 "ReflectModelsModel" "handler" "[I", Cond.fieldLink RX9 93 "ReflectModelsModel" "askedTimes" "[I", Cond.fieldLink RX9 96 "ReflectModelsModel" "fieldKind" "[I", Cond.arrayClass .long, Cond.fieldLink RX9 99 "ReflectModelsModel" "fieldNumber" "[J", Cond.fieldLink RX9 103 "ReflectModelsModel" "valueKind" "[I", Cond.fieldLink RX9 106 "ReflectModelsModel" "valueNumber" "[J", Cond.fieldLink RX9 109 "ReflectModelsModel" "chain" "[I"]
def wsX9_init : List Cond := .code yX9_init cX9_init 1 none :: ((wsX9_init_r1 ++ wsX9_init_r2) ++ wsX90)
def wsX9_fails : List Cond := .code yX9_fails cX9_fails 2 (some .int) :: ([.fieldLink RX9 112 "ReflectModelsModel" "lastFailure" "I"] ++ wsX90)
def wsX9_isClass : List Cond := .code yX9_isClass cX9_isClass 2 (some .boolean) :: ([.fieldLink RX9 13 "ReflectModelsModel" "classes" "I", .methodLink RX9 115 yX9_in, .static yX9_in, .initialized RX9, .code yX9_in cX9_in 6 (some .boolean)] ++ wsX90)
def wsX9_isObject : List Cond := .code yX9_isObject cX9_isObject 3 (some .boolean) :: ([.fieldLink RX9 119 "ReflectModelsModel" "objects" "I", .methodLink RX9 115 yX9_in, .static yX9_in, .initialized RX9, .code yX9_in cX9_in 6 (some .boolean)] ++ wsX90)
def wsX9_type : List Cond := .code yX9_type cX9_type 9 (some .int) :: ([.fieldLink RX9 1 "ReflectModelsModel" "thrown" "I", .constantLong RX9 126 (4), .fieldLink RX9 20 "ReflectModelsModel" "sort" "[I", .fieldLink RX9 13 "ReflectModelsModel" "classes" "I", .fieldLink RX9 16 "ReflectModelsModel" "above" "[I", .fieldLink RX9 23 "ReflectModelsModel" "face" "[I", .fieldLink RX9 26 "ReflectModelsModel" "shut" "[Z", .fieldLink RX9 30 "ReflectModelsModel" "failing" "[Z", .methodLink RX9 122 yX9_isClass, .instanceMethod yX9_isClass, .selects RX9 yX9_isClass yX9_isClass, .initialized RX9, .code yX9_isClass cX9_isClass 2 (some .boolean), .methodLink RX9 115 yX9_in, .static yX9_in, .code yX9_in cX9_in 6 (some .boolean)] ++ wsX90)
def wsX9_constants : List Cond := .code yX9_constants cX9_constants 3 (some .int) :: ([.fieldLink RX9 1 "ReflectModelsModel" "thrown" "I", .constantLong RX9 126 (4), .fieldLink RX9 20 "ReflectModelsModel" "sort" "[I", .fieldLink RX9 36 "ReflectModelsModel" "constants" "[I", .fieldLink RX9 33 "ReflectModelsModel" "state" "[I", .methodLink RX9 122 yX9_isClass, .instanceMethod yX9_isClass, .selects RX9 yX9_isClass yX9_isClass, .initialized RX9, .code yX9_isClass cX9_isClass 2 (some .boolean), .fieldLink RX9 13 "ReflectModelsModel" "classes" "I", .methodLink RX9 115 yX9_in, .static yX9_in, .code yX9_in cX9_in 6 (some .boolean)] ++ wsX90)
def wsX9_isNoClass : List Cond := .code yX9_isNoClass cX9_isNoClass 2 (some .boolean) :: ([.methodLink RX9 122 yX9_isClass, .instanceMethod yX9_isClass, .selects RX9 yX9_isClass yX9_isClass, .initialized RX9, .code yX9_isClass cX9_isClass 2 (some .boolean), .fieldLink RX9 13 "ReflectModelsModel" "classes" "I", .methodLink RX9 115 yX9_in, .static yX9_in, .code yX9_in cX9_in 6 (some .boolean)] ++ wsX90)
def wsX9_hasField : List Cond := .code yX9_hasField cX9_hasField 4 (some .boolean) :: ([.fieldLink RX9 128 "ReflectModelsModel" "members" "I", .fieldLink RX9 42 "ReflectModelsModel" "memberOf" "[I", .fieldLink RX9 45 "ReflectModelsModel" "isField" "[Z", .fieldLink RX9 48 "ReflectModelsModel" "name" "[I"] ++ wsX90)
def wsX9_first : List Cond := .code yX9_first cX9_first 3 none :: ([.fieldLink RX9 96 "ReflectModelsModel" "fieldKind" "[I", .fieldLink RX9 51 "ReflectModelsModel" "gives" "[I", .fieldLink RX9 99 "ReflectModelsModel" "fieldNumber" "[J"] ++ wsX90)
def wsX9_field_r1 : List Cond := [Cond.fieldLink RX9 1 "ReflectModelsModel" "thrown" "I", Cond.constantLong RX9 134 (19), Cond.fieldLink RX9 20 "ReflectModelsModel" "sort" "[I", Cond.fieldLink RX9 119 "ReflectModelsModel" "objects" "I", Cond.fieldLink RX9 128 "ReflectModelsModel" "members" "I", Cond.fieldLink RX9 42 "ReflectModelsModel" "memberOf" "[I", Cond.fieldLink RX9 45 "ReflectModelsModel" "isField" "[Z", Cond.fieldLink RX9 48 "ReflectModelsModel" "name" "[I", Cond.fieldLink RX9 51 "ReflectModelsModel" "gives" "[I", Cond.fieldLink RX9 60 "ReflectModelsModel" "isStatic" "[Z", Cond.fieldLink RX9 63 "ReflectModelsModel" "isFinal" "[Z", Cond.fieldLink RX9 66 "ReflectModelsModel" "isHidden" "[Z", Cond.methodLink RX9 122 yX9_isClass, Cond.instanceMethod yX9_isClass, Cond.selects RX9 yX9_isClass yX9_isClass, Cond.initialized RX9, Cond.code yX9_isClass cX9_isClass 2 (some .boolean), Cond.fieldLink RX9 13 "ReflectModelsModel" "classes" "I", Cond.methodLink RX9 115 yX9_in, Cond.static yX9_in, Cond.code yX9_in cX9_in 6 (some .boolean), Cond.methodLink RX9 131 yX9_isNoClass, Cond.instanceMethod yX9_isNoClass, Cond.selects RX9 yX9_isNoClass yX9_isNoClass]
def wsX9_field_r2 : List Cond := [Cond.code yX9_isNoClass cX9_isNoClass 2 (some .boolean), Cond.methodLink RX9 136 yX9_hasField, Cond.instanceMethod yX9_hasField, Cond.selects RX9 yX9_hasField yX9_hasField, Cond.code yX9_hasField cX9_hasField 4 (some .boolean), Cond.methodLink RX9 140 yX9_first, Cond.instanceMethod yX9_first, Cond.selects RX9 yX9_first yX9_first, Cond.code yX9_first cX9_first 3 none, Cond.fieldLink RX9 96 "ReflectModelsModel" "fieldKind" "[I", Cond.fieldLink RX9 99 "ReflectModelsModel" "fieldNumber" "[J"]
def wsX9_field : List Cond := .code yX9_field cX9_field 9 (some .int) :: ((wsX9_field_r1 ++ wsX9_field_r2) ++ wsX90)
def wsX9_isLike : List Cond := .code yX9_isLike cX9_isLike 6 (some .boolean) :: ([.fieldLink RX9 45 "ReflectModelsModel" "isField" "[Z", .fieldLink RX9 48 "ReflectModelsModel" "name" "[I", .fieldLink RX9 54 "ReflectModelsModel" "many" "[I", .fieldLink RX9 57 "ReflectModelsModel" "typeOf" "[I"] ++ wsX90)
def wsX9_bodyMay : List Cond := .code yX9_bodyMay cX9_bodyMay 7 (some .boolean) :: ([.fieldLink RX9 128 "ReflectModelsModel" "members" "I", .fieldLink RX9 45 "ReflectModelsModel" "isField" "[Z", .fieldLink RX9 60 "ReflectModelsModel" "isStatic" "[Z", .methodLink RX9 122 yX9_isClass, .instanceMethod yX9_isClass, .selects RX9 yX9_isClass yX9_isClass, .initialized RX9, .code yX9_isClass cX9_isClass 2 (some .boolean), .fieldLink RX9 13 "ReflectModelsModel" "classes" "I", .methodLink RX9 115 yX9_in, .static yX9_in, .code yX9_in cX9_in 6 (some .boolean)] ++ wsX90)
def wsX9_method_r1 : List Cond := [Cond.fieldLink RX9 1 "ReflectModelsModel" "thrown" "I", Cond.constantLong RX9 134 (19), Cond.constantLong RX9 144 (2), Cond.constantLong RX9 146 (7), Cond.constantLong RX9 148 (99), Cond.fieldLink RX9 20 "ReflectModelsModel" "sort" "[I", Cond.fieldLink RX9 128 "ReflectModelsModel" "members" "I", Cond.fieldLink RX9 42 "ReflectModelsModel" "memberOf" "[I", Cond.fieldLink RX9 119 "ReflectModelsModel" "objects" "I", Cond.fieldLink RX9 45 "ReflectModelsModel" "isField" "[Z", Cond.fieldLink RX9 48 "ReflectModelsModel" "name" "[I", Cond.fieldLink RX9 54 "ReflectModelsModel" "many" "[I", Cond.fieldLink RX9 57 "ReflectModelsModel" "typeOf" "[I", Cond.fieldLink RX9 51 "ReflectModelsModel" "gives" "[I", Cond.fieldLink RX9 60 "ReflectModelsModel" "isStatic" "[Z", Cond.fieldLink RX9 69 "ReflectModelsModel" "isAbstract" "[Z", Cond.fieldLink RX9 66 "ReflectModelsModel" "isHidden" "[Z", Cond.fieldLink RX9 72 "ReflectModelsModel" "body" "[I", Cond.fieldLink RX9 75 "ReflectModelsModel" "bodyB" "[I", Cond.methodLink RX9 122 yX9_isClass, Cond.instanceMethod yX9_isClass, Cond.selects RX9 yX9_isClass yX9_isClass, Cond.initialized RX9, Cond.code yX9_isClass cX9_isClass 2 (some .boolean)]
def wsX9_method_r2 : List Cond := [Cond.fieldLink RX9 13 "ReflectModelsModel" "classes" "I", Cond.methodLink RX9 115 yX9_in, Cond.static yX9_in, Cond.code yX9_in cX9_in 6 (some .boolean), Cond.methodLink RX9 131 yX9_isNoClass, Cond.instanceMethod yX9_isNoClass, Cond.selects RX9 yX9_isNoClass yX9_isNoClass, Cond.code yX9_isNoClass cX9_isNoClass 2 (some .boolean), Cond.methodLink RX9 150 yX9_bodyMay, Cond.instanceMethod yX9_bodyMay, Cond.selects RX9 yX9_bodyMay yX9_bodyMay, Cond.code yX9_bodyMay cX9_bodyMay 7 (some .boolean), Cond.methodLink RX9 154 yX9_isLike, Cond.instanceMethod yX9_isLike, Cond.selects RX9 yX9_isLike yX9_isLike, Cond.code yX9_isLike cX9_isLike 6 (some .boolean)]
def wsX9_method : List Cond := .code yX9_method cX9_method 14 (some .int) :: ((wsX9_method_r1 ++ wsX9_method_r2) ++ wsX90)
def wsX9_caller : List Cond := .code yX9_caller cX9_caller 3 (some .int) :: ([.fieldLink RX9 1 "ReflectModelsModel" "thrown" "I", .fieldLink RX9 158 "ReflectModelsModel" "caller" "I", .methodLink RX9 122 yX9_isClass, .instanceMethod yX9_isClass, .selects RX9 yX9_isClass yX9_isClass, .initialized RX9, .code yX9_isClass cX9_isClass 2 (some .boolean), .fieldLink RX9 13 "ReflectModelsModel" "classes" "I", .methodLink RX9 115 yX9_in, .static yX9_in, .code yX9_in cX9_in 6 (some .boolean)] ++ wsX90)
def wsX9_newHandle : List Cond := .code yX9_newHandle cX9_newHandle 2 (some .int) :: ([.fieldLink RX9 165 "ReflectModelsModel" "handles" "I", .fieldLink RX9 78 "ReflectModelsModel" "handleOf" "[I", .fieldLink RX9 81 "ReflectModelsModel" "hasLeave" "[Z", .methodLink RX9 161 yX9_fails, .instanceMethod yX9_fails, .selects RX9 yX9_fails yX9_fails, .initialized RX9, .code yX9_fails cX9_fails 2 (some .int), .fieldLink RX9 112 "ReflectModelsModel" "lastFailure" "I"] ++ wsX90)
def wsX9_findField_r1 : List Cond := [Cond.fieldLink RX9 1 "ReflectModelsModel" "thrown" "I", Cond.constantLong RX9 134 (19), Cond.fieldLink RX9 128 "ReflectModelsModel" "members" "I", Cond.fieldLink RX9 42 "ReflectModelsModel" "memberOf" "[I", Cond.fieldLink RX9 45 "ReflectModelsModel" "isField" "[Z", Cond.fieldLink RX9 48 "ReflectModelsModel" "name" "[I", Cond.fieldLink RX9 66 "ReflectModelsModel" "isHidden" "[Z", Cond.fieldLink RX9 16 "ReflectModelsModel" "above" "[I", Cond.methodLink RX9 122 yX9_isClass, Cond.instanceMethod yX9_isClass, Cond.selects RX9 yX9_isClass yX9_isClass, Cond.initialized RX9, Cond.code yX9_isClass cX9_isClass 2 (some .boolean), Cond.fieldLink RX9 13 "ReflectModelsModel" "classes" "I", Cond.methodLink RX9 115 yX9_in, Cond.static yX9_in, Cond.code yX9_in cX9_in 6 (some .boolean), Cond.methodLink RX9 168 yX9_newHandle, Cond.instanceMethod yX9_newHandle, Cond.selects RX9 yX9_newHandle yX9_newHandle, Cond.code yX9_newHandle cX9_newHandle 2 (some .int), Cond.fieldLink RX9 165 "ReflectModelsModel" "handles" "I", Cond.fieldLink RX9 78 "ReflectModelsModel" "handleOf" "[I", Cond.fieldLink RX9 81 "ReflectModelsModel" "hasLeave" "[Z"]
def wsX9_findField_r2 : List Cond := [Cond.methodLink RX9 161 yX9_fails, Cond.instanceMethod yX9_fails, Cond.selects RX9 yX9_fails yX9_fails, Cond.code yX9_fails cX9_fails 2 (some .int), Cond.fieldLink RX9 112 "ReflectModelsModel" "lastFailure" "I"]
def wsX9_findField : List Cond := .code yX9_findField cX9_findField 7 (some .int) :: ((wsX9_findField_r1 ++ wsX9_findField_r2) ++ wsX90)
def wsX9_methodFrom : List Cond := .code yX9_methodFrom cX9_methodFrom 9 (some .int) :: ([.fieldLink RX9 128 "ReflectModelsModel" "members" "I", .fieldLink RX9 42 "ReflectModelsModel" "memberOf" "[I", .fieldLink RX9 66 "ReflectModelsModel" "isHidden" "[Z", .fieldLink RX9 16 "ReflectModelsModel" "above" "[I", .methodLink RX9 154 yX9_isLike, .instanceMethod yX9_isLike, .selects RX9 yX9_isLike yX9_isLike, .initialized RX9, .code yX9_isLike cX9_isLike 6 (some .boolean), .fieldLink RX9 45 "ReflectModelsModel" "isField" "[Z", .fieldLink RX9 48 "ReflectModelsModel" "name" "[I", .fieldLink RX9 54 "ReflectModelsModel" "many" "[I", .fieldLink RX9 57 "ReflectModelsModel" "typeOf" "[I"] ++ wsX90)
def wsX9_findMethod_r1 : List Cond := [Cond.fieldLink RX9 1 "ReflectModelsModel" "thrown" "I", Cond.constantLong RX9 134 (19), Cond.constantLong RX9 144 (2), Cond.fieldLink RX9 23 "ReflectModelsModel" "face" "[I", Cond.fieldLink RX9 16 "ReflectModelsModel" "above" "[I", Cond.methodLink RX9 122 yX9_isClass, Cond.instanceMethod yX9_isClass, Cond.selects RX9 yX9_isClass yX9_isClass, Cond.initialized RX9, Cond.code yX9_isClass cX9_isClass 2 (some .boolean), Cond.fieldLink RX9 13 "ReflectModelsModel" "classes" "I", Cond.methodLink RX9 115 yX9_in, Cond.static yX9_in, Cond.code yX9_in cX9_in 6 (some .boolean), Cond.methodLink RX9 131 yX9_isNoClass, Cond.instanceMethod yX9_isNoClass, Cond.selects RX9 yX9_isNoClass yX9_isNoClass, Cond.code yX9_isNoClass cX9_isNoClass 2 (some .boolean), Cond.methodLink RX9 171 yX9_methodFrom, Cond.instanceMethod yX9_methodFrom, Cond.selects RX9 yX9_methodFrom yX9_methodFrom, Cond.code yX9_methodFrom cX9_methodFrom 9 (some .int), Cond.fieldLink RX9 128 "ReflectModelsModel" "members" "I", Cond.fieldLink RX9 42 "ReflectModelsModel" "memberOf" "[I"]
def wsX9_findMethod_r2 : List Cond := [Cond.fieldLink RX9 66 "ReflectModelsModel" "isHidden" "[Z", Cond.methodLink RX9 154 yX9_isLike, Cond.instanceMethod yX9_isLike, Cond.selects RX9 yX9_isLike yX9_isLike, Cond.code yX9_isLike cX9_isLike 6 (some .boolean), Cond.fieldLink RX9 45 "ReflectModelsModel" "isField" "[Z", Cond.fieldLink RX9 48 "ReflectModelsModel" "name" "[I", Cond.fieldLink RX9 54 "ReflectModelsModel" "many" "[I", Cond.fieldLink RX9 57 "ReflectModelsModel" "typeOf" "[I", Cond.methodLink RX9 168 yX9_newHandle, Cond.instanceMethod yX9_newHandle, Cond.selects RX9 yX9_newHandle yX9_newHandle, Cond.code yX9_newHandle cX9_newHandle 2 (some .int), Cond.fieldLink RX9 165 "ReflectModelsModel" "handles" "I", Cond.fieldLink RX9 78 "ReflectModelsModel" "handleOf" "[I", Cond.fieldLink RX9 81 "ReflectModelsModel" "hasLeave" "[Z", Cond.methodLink RX9 161 yX9_fails, Cond.instanceMethod yX9_fails, Cond.selects RX9 yX9_fails yX9_fails, Cond.code yX9_fails cX9_fails 2 (some .int), Cond.fieldLink RX9 112 "ReflectModelsModel" "lastFailure" "I"]
def wsX9_findMethod : List Cond := .code yX9_findMethod cX9_findMethod 9 (some .int) :: ((wsX9_findMethod_r1 ++ wsX9_findMethod_r2) ++ wsX90)
def wsX9_isHandle : List Cond := .code yX9_isHandle cX9_isHandle 2 (some .boolean) :: ([.fieldLink RX9 165 "ReflectModelsModel" "handles" "I", .methodLink RX9 115 yX9_in, .static yX9_in, .initialized RX9, .code yX9_in cX9_in 6 (some .boolean)] ++ wsX90)
def wsX9_leave : List Cond := .code yX9_leave cX9_leave 3 (some .int) :: ([.fieldLink RX9 1 "ReflectModelsModel" "thrown" "I", .fieldLink RX9 42 "ReflectModelsModel" "memberOf" "[I", .fieldLink RX9 78 "ReflectModelsModel" "handleOf" "[I", .fieldLink RX9 26 "ReflectModelsModel" "shut" "[Z", .fieldLink RX9 158 "ReflectModelsModel" "caller" "I", .fieldLink RX9 81 "ReflectModelsModel" "hasLeave" "[Z", .methodLink RX9 175 yX9_isHandle, .instanceMethod yX9_isHandle, .selects RX9 yX9_isHandle yX9_isHandle, .initialized RX9, .code yX9_isHandle cX9_isHandle 2 (some .boolean), .fieldLink RX9 165 "ReflectModelsModel" "handles" "I", .methodLink RX9 115 yX9_in, .static yX9_in, .code yX9_in cX9_in 6 (some .boolean), .methodLink RX9 161 yX9_fails, .instanceMethod yX9_fails, .selects RX9 yX9_fails yX9_fails, .code yX9_fails cX9_fails 2 (some .int), .fieldLink RX9 112 "ReflectModelsModel" "lastFailure" "I"] ++ wsX90)
def wsX9_may : List Cond := .code yX9_may cX9_may 3 (some .boolean) :: ([.fieldLink RX9 78 "ReflectModelsModel" "handleOf" "[I", .fieldLink RX9 66 "ReflectModelsModel" "isHidden" "[Z", .fieldLink RX9 42 "ReflectModelsModel" "memberOf" "[I", .fieldLink RX9 158 "ReflectModelsModel" "caller" "I", .fieldLink RX9 81 "ReflectModelsModel" "hasLeave" "[Z"] ++ wsX90)
def wsX9_isUnder : List Cond := .code yX9_isUnder cX9_isUnder 4 (some .boolean) :: ([.fieldLink RX9 16 "ReflectModelsModel" "above" "[I"] ++ wsX90)
def wsX9_isOf : List Cond := .code yX9_isOf cX9_isOf 4 (some .boolean) :: ([.fieldLink RX9 87 "ReflectModelsModel" "proxyFace" "[I", .fieldLink RX9 84 "ReflectModelsModel" "objectClass" "[I", .fieldLink RX9 23 "ReflectModelsModel" "face" "[I", .fieldLink RX9 16 "ReflectModelsModel" "above" "[I", .methodLink RX9 178 yX9_isUnder, .instanceMethod yX9_isUnder, .selects RX9 yX9_isUnder yX9_isUnder, .initialized RX9, .code yX9_isUnder cX9_isUnder 4 (some .boolean)] ++ wsX90)
def wsX9_fits : List Cond := .code yX9_fits cX9_fits 5 (some .boolean) :: ([.methodLink RX9 181 yX9_isOf, .instanceMethod yX9_isOf, .selects RX9 yX9_isOf yX9_isOf, .initialized RX9, .code yX9_isOf cX9_isOf 4 (some .boolean), .fieldLink RX9 87 "ReflectModelsModel" "proxyFace" "[I", .fieldLink RX9 84 "ReflectModelsModel" "objectClass" "[I", .fieldLink RX9 23 "ReflectModelsModel" "face" "[I", .fieldLink RX9 16 "ReflectModelsModel" "above" "[I", .methodLink RX9 178 yX9_isUnder, .instanceMethod yX9_isUnder, .selects RX9 yX9_isUnder yX9_isUnder, .code yX9_isUnder cX9_isUnder 4 (some .boolean)] ++ wsX90)
def wsX9_value : List Cond := .code yX9_value cX9_value 5 (some .int) :: ([.fieldLink RX9 1 "ReflectModelsModel" "thrown" "I", .fieldLink RX9 188 "ReflectModelsModel" "values" "I", .constantLong RX9 144 (2), .constantLong RX9 191 (3), .fieldLink RX9 103 "ReflectModelsModel" "valueKind" "[I", .fieldLink RX9 106 "ReflectModelsModel" "valueNumber" "[J", .methodLink RX9 184 yX9_isObject, .instanceMethod yX9_isObject, .selects RX9 yX9_isObject yX9_isObject, .initialized RX9, .code yX9_isObject cX9_isObject 3 (some .boolean), .fieldLink RX9 119 "ReflectModelsModel" "objects" "I", .methodLink RX9 115 yX9_in, .static yX9_in, .code yX9_in cX9_in 6 (some .boolean)] ++ wsX90)
def wsX9_newObject : List Cond := .code yX9_newObject cX9_newObject 4 (some .int) :: ([.fieldLink RX9 119 "ReflectModelsModel" "objects" "I", .fieldLink RX9 84 "ReflectModelsModel" "objectClass" "[I", .fieldLink RX9 87 "ReflectModelsModel" "proxyFace" "[I", .fieldLink RX9 93 "ReflectModelsModel" "askedTimes" "[I", .fieldLink RX9 128 "ReflectModelsModel" "members" "I", .fieldLink RX9 45 "ReflectModelsModel" "isField" "[Z", .methodLink RX9 140 yX9_first, .instanceMethod yX9_first, .selects RX9 yX9_first yX9_first, .initialized RX9, .code yX9_first cX9_first 3 none, .fieldLink RX9 96 "ReflectModelsModel" "fieldKind" "[I", .fieldLink RX9 51 "ReflectModelsModel" "gives" "[I", .fieldLink RX9 99 "ReflectModelsModel" "fieldNumber" "[J"] ++ wsX90)
def wsX9_started : List Cond := .code yX9_started cX9_started 9 (some .int) :: ([.fieldLink RX9 33 "ReflectModelsModel" "state" "[I", .fieldLink RX9 109 "ReflectModelsModel" "chain" "[I", .fieldLink RX9 16 "ReflectModelsModel" "above" "[I", .fieldLink RX9 30 "ReflectModelsModel" "failing" "[Z", .fieldLink RX9 36 "ReflectModelsModel" "constants" "[I", .fieldLink RX9 39 "ReflectModelsModel" "firstConstant" "[I", .fieldLink RX9 119 "ReflectModelsModel" "objects" "I", .methodLink RX9 193 yX9_newObject, .instanceMethod yX9_newObject, .selects RX9 yX9_newObject yX9_newObject, .initialized RX9, .code yX9_newObject cX9_newObject 4 (some .int), .fieldLink RX9 84 "ReflectModelsModel" "objectClass" "[I", .fieldLink RX9 87 "ReflectModelsModel" "proxyFace" "[I", .fieldLink RX9 93 "ReflectModelsModel" "askedTimes" "[I", .fieldLink RX9 128 "ReflectModelsModel" "members" "I", .fieldLink RX9 45 "ReflectModelsModel" "isField" "[Z", .methodLink RX9 140 yX9_first, .instanceMethod yX9_first, .selects RX9 yX9_first yX9_first, .code yX9_first cX9_first 3 none, .fieldLink RX9 96 "ReflectModelsModel" "fieldKind" "[I", .fieldLink RX9 51 "ReflectModelsModel" "gives" "[I", .fieldLink RX9 99 "ReflectModelsModel" "fieldNumber" "[J"] ++ wsX90)
def wsX9_gone : List Cond := .code yX9_gone cX9_gone 1 none :: ([.fieldLink RX9 196 "ReflectModelsModel" "resultKind" "I", .fieldLink RX9 199 "ReflectModelsModel" "result" "J"] ++ wsX90)
def wsX9_against : List Cond := .code yX9_against cX9_against 3 (some .int) :: ([.methodLink RX9 181 yX9_isOf, .instanceMethod yX9_isOf, .selects RX9 yX9_isOf yX9_isOf, .initialized RX9, .code yX9_isOf cX9_isOf 4 (some .boolean), .fieldLink RX9 87 "ReflectModelsModel" "proxyFace" "[I", .fieldLink RX9 84 "ReflectModelsModel" "objectClass" "[I", .fieldLink RX9 23 "ReflectModelsModel" "face" "[I", .fieldLink RX9 16 "ReflectModelsModel" "above" "[I", .methodLink RX9 178 yX9_isUnder, .instanceMethod yX9_isUnder, .selects RX9 yX9_isUnder yX9_isUnder, .code yX9_isUnder cX9_isUnder 4 (some .boolean)] ++ wsX90)
def wsX9_isReceiver : List Cond := .code yX9_isReceiver cX9_isReceiver 2 (some .boolean) :: ([.methodLink RX9 184 yX9_isObject, .instanceMethod yX9_isObject, .selects RX9 yX9_isObject yX9_isObject, .initialized RX9, .code yX9_isObject cX9_isObject 3 (some .boolean), .fieldLink RX9 119 "ReflectModelsModel" "objects" "I", .methodLink RX9 115 yX9_in, .static yX9_in, .code yX9_in cX9_in 6 (some .boolean)] ++ wsX90)
def wsX9_get_r1 : List Cond := [Cond.fieldLink RX9 1 "ReflectModelsModel" "thrown" "I", Cond.constantLong RX9 206 (-2), Cond.fieldLink RX9 78 "ReflectModelsModel" "handleOf" "[I", Cond.fieldLink RX9 45 "ReflectModelsModel" "isField" "[Z", Cond.fieldLink RX9 51 "ReflectModelsModel" "gives" "[I", Cond.fieldLink RX9 60 "ReflectModelsModel" "isStatic" "[Z", Cond.fieldLink RX9 42 "ReflectModelsModel" "memberOf" "[I", Cond.fieldLink RX9 96 "ReflectModelsModel" "fieldKind" "[I", Cond.fieldLink RX9 196 "ReflectModelsModel" "resultKind" "I", Cond.fieldLink RX9 99 "ReflectModelsModel" "fieldNumber" "[J", Cond.fieldLink RX9 199 "ReflectModelsModel" "result" "J", Cond.methodLink RX9 175 yX9_isHandle, Cond.instanceMethod yX9_isHandle, Cond.selects RX9 yX9_isHandle yX9_isHandle, Cond.initialized RX9, Cond.code yX9_isHandle cX9_isHandle 2 (some .boolean), Cond.fieldLink RX9 165 "ReflectModelsModel" "handles" "I", Cond.methodLink RX9 115 yX9_in, Cond.static yX9_in, Cond.code yX9_in cX9_in 6 (some .boolean), Cond.methodLink RX9 203 yX9_isReceiver, Cond.instanceMethod yX9_isReceiver, Cond.selects RX9 yX9_isReceiver yX9_isReceiver, Cond.code yX9_isReceiver cX9_isReceiver 2 (some .boolean)]
def wsX9_get_r2 : List Cond := [Cond.methodLink RX9 184 yX9_isObject, Cond.instanceMethod yX9_isObject, Cond.selects RX9 yX9_isObject yX9_isObject, Cond.code yX9_isObject cX9_isObject 3 (some .boolean), Cond.fieldLink RX9 119 "ReflectModelsModel" "objects" "I", Cond.methodLink RX9 208 yX9_gone, Cond.instanceMethod yX9_gone, Cond.selects RX9 yX9_gone yX9_gone, Cond.code yX9_gone cX9_gone 1 none, Cond.methodLink RX9 211 yX9_may, Cond.instanceMethod yX9_may, Cond.selects RX9 yX9_may yX9_may, Cond.code yX9_may cX9_may 3 (some .boolean), Cond.fieldLink RX9 66 "ReflectModelsModel" "isHidden" "[Z", Cond.fieldLink RX9 158 "ReflectModelsModel" "caller" "I", Cond.fieldLink RX9 81 "ReflectModelsModel" "hasLeave" "[Z", Cond.methodLink RX9 214 yX9_started, Cond.instanceMethod yX9_started, Cond.selects RX9 yX9_started yX9_started, Cond.code yX9_started cX9_started 9 (some .int), Cond.fieldLink RX9 33 "ReflectModelsModel" "state" "[I", Cond.fieldLink RX9 109 "ReflectModelsModel" "chain" "[I", Cond.fieldLink RX9 16 "ReflectModelsModel" "above" "[I", Cond.fieldLink RX9 30 "ReflectModelsModel" "failing" "[Z"]
def wsX9_get_r3 : List Cond := [Cond.fieldLink RX9 36 "ReflectModelsModel" "constants" "[I", Cond.fieldLink RX9 39 "ReflectModelsModel" "firstConstant" "[I", Cond.methodLink RX9 193 yX9_newObject, Cond.instanceMethod yX9_newObject, Cond.selects RX9 yX9_newObject yX9_newObject, Cond.code yX9_newObject cX9_newObject 4 (some .int), Cond.fieldLink RX9 84 "ReflectModelsModel" "objectClass" "[I", Cond.fieldLink RX9 87 "ReflectModelsModel" "proxyFace" "[I", Cond.fieldLink RX9 93 "ReflectModelsModel" "askedTimes" "[I", Cond.fieldLink RX9 128 "ReflectModelsModel" "members" "I", Cond.methodLink RX9 140 yX9_first, Cond.instanceMethod yX9_first, Cond.selects RX9 yX9_first yX9_first, Cond.code yX9_first cX9_first 3 none, Cond.methodLink RX9 217 yX9_against, Cond.instanceMethod yX9_against, Cond.selects RX9 yX9_against yX9_against, Cond.code yX9_against cX9_against 3 (some .int), Cond.methodLink RX9 181 yX9_isOf, Cond.instanceMethod yX9_isOf, Cond.selects RX9 yX9_isOf yX9_isOf, Cond.code yX9_isOf cX9_isOf 4 (some .boolean), Cond.fieldLink RX9 23 "ReflectModelsModel" "face" "[I", Cond.methodLink RX9 178 yX9_isUnder]
def wsX9_get_r4 : List Cond := [Cond.instanceMethod yX9_isUnder, Cond.selects RX9 yX9_isUnder yX9_isUnder, Cond.code yX9_isUnder cX9_isUnder 4 (some .boolean), Cond.methodLink RX9 161 yX9_fails, Cond.instanceMethod yX9_fails, Cond.selects RX9 yX9_fails yX9_fails, Cond.code yX9_fails cX9_fails 2 (some .int), Cond.fieldLink RX9 112 "ReflectModelsModel" "lastFailure" "I"]
def wsX9_get : List Cond := .code yX9_get cX9_get 7 (some .int) :: ((wsX9_get_r1 ++ (wsX9_get_r2 ++ (wsX9_get_r3 ++ wsX9_get_r4))) ++ wsX90)
def wsX9_store : List Cond := .code yX9_store cX9_store 4 none :: ([.fieldLink RX9 96 "ReflectModelsModel" "fieldKind" "[I", .fieldLink RX9 51 "ReflectModelsModel" "gives" "[I", .fieldLink RX9 103 "ReflectModelsModel" "valueKind" "[I", .fieldLink RX9 99 "ReflectModelsModel" "fieldNumber" "[J", .fieldLink RX9 106 "ReflectModelsModel" "valueNumber" "[J"] ++ wsX90)
def wsX9_set_r1 : List Cond := [Cond.fieldLink RX9 1 "ReflectModelsModel" "thrown" "I", Cond.fieldLink RX9 78 "ReflectModelsModel" "handleOf" "[I", Cond.fieldLink RX9 45 "ReflectModelsModel" "isField" "[Z", Cond.fieldLink RX9 188 "ReflectModelsModel" "values" "I", Cond.fieldLink RX9 60 "ReflectModelsModel" "isStatic" "[Z", Cond.fieldLink RX9 42 "ReflectModelsModel" "memberOf" "[I", Cond.fieldLink RX9 63 "ReflectModelsModel" "isFinal" "[Z", Cond.fieldLink RX9 20 "ReflectModelsModel" "sort" "[I", Cond.fieldLink RX9 81 "ReflectModelsModel" "hasLeave" "[Z", Cond.fieldLink RX9 103 "ReflectModelsModel" "valueKind" "[I", Cond.fieldLink RX9 106 "ReflectModelsModel" "valueNumber" "[J", Cond.fieldLink RX9 51 "ReflectModelsModel" "gives" "[I", Cond.methodLink RX9 175 yX9_isHandle, Cond.instanceMethod yX9_isHandle, Cond.selects RX9 yX9_isHandle yX9_isHandle, Cond.initialized RX9, Cond.code yX9_isHandle cX9_isHandle 2 (some .boolean), Cond.fieldLink RX9 165 "ReflectModelsModel" "handles" "I", Cond.methodLink RX9 115 yX9_in, Cond.static yX9_in, Cond.code yX9_in cX9_in 6 (some .boolean), Cond.methodLink RX9 203 yX9_isReceiver, Cond.instanceMethod yX9_isReceiver, Cond.selects RX9 yX9_isReceiver yX9_isReceiver]
def wsX9_set_r2 : List Cond := [Cond.code yX9_isReceiver cX9_isReceiver 2 (some .boolean), Cond.methodLink RX9 184 yX9_isObject, Cond.instanceMethod yX9_isObject, Cond.selects RX9 yX9_isObject yX9_isObject, Cond.code yX9_isObject cX9_isObject 3 (some .boolean), Cond.fieldLink RX9 119 "ReflectModelsModel" "objects" "I", Cond.methodLink RX9 211 yX9_may, Cond.instanceMethod yX9_may, Cond.selects RX9 yX9_may yX9_may, Cond.code yX9_may cX9_may 3 (some .boolean), Cond.fieldLink RX9 66 "ReflectModelsModel" "isHidden" "[Z", Cond.fieldLink RX9 158 "ReflectModelsModel" "caller" "I", Cond.methodLink RX9 214 yX9_started, Cond.instanceMethod yX9_started, Cond.selects RX9 yX9_started yX9_started, Cond.code yX9_started cX9_started 9 (some .int), Cond.fieldLink RX9 33 "ReflectModelsModel" "state" "[I", Cond.fieldLink RX9 109 "ReflectModelsModel" "chain" "[I", Cond.fieldLink RX9 16 "ReflectModelsModel" "above" "[I", Cond.fieldLink RX9 30 "ReflectModelsModel" "failing" "[Z", Cond.fieldLink RX9 36 "ReflectModelsModel" "constants" "[I", Cond.fieldLink RX9 39 "ReflectModelsModel" "firstConstant" "[I", Cond.methodLink RX9 193 yX9_newObject, Cond.instanceMethod yX9_newObject]
def wsX9_set_r3 : List Cond := [Cond.selects RX9 yX9_newObject yX9_newObject, Cond.code yX9_newObject cX9_newObject 4 (some .int), Cond.fieldLink RX9 84 "ReflectModelsModel" "objectClass" "[I", Cond.fieldLink RX9 87 "ReflectModelsModel" "proxyFace" "[I", Cond.fieldLink RX9 93 "ReflectModelsModel" "askedTimes" "[I", Cond.fieldLink RX9 128 "ReflectModelsModel" "members" "I", Cond.methodLink RX9 140 yX9_first, Cond.instanceMethod yX9_first, Cond.selects RX9 yX9_first yX9_first, Cond.code yX9_first cX9_first 3 none, Cond.fieldLink RX9 96 "ReflectModelsModel" "fieldKind" "[I", Cond.fieldLink RX9 99 "ReflectModelsModel" "fieldNumber" "[J", Cond.methodLink RX9 217 yX9_against, Cond.instanceMethod yX9_against, Cond.selects RX9 yX9_against yX9_against, Cond.code yX9_against cX9_against 3 (some .int), Cond.methodLink RX9 181 yX9_isOf, Cond.instanceMethod yX9_isOf, Cond.selects RX9 yX9_isOf yX9_isOf, Cond.code yX9_isOf cX9_isOf 4 (some .boolean), Cond.fieldLink RX9 23 "ReflectModelsModel" "face" "[I", Cond.methodLink RX9 178 yX9_isUnder, Cond.instanceMethod yX9_isUnder, Cond.selects RX9 yX9_isUnder yX9_isUnder]
def wsX9_set_r4 : List Cond := [Cond.code yX9_isUnder cX9_isUnder 4 (some .boolean), Cond.methodLink RX9 221 yX9_fits, Cond.instanceMethod yX9_fits, Cond.selects RX9 yX9_fits yX9_fits, Cond.code yX9_fits cX9_fits 5 (some .boolean), Cond.methodLink RX9 161 yX9_fails, Cond.instanceMethod yX9_fails, Cond.selects RX9 yX9_fails yX9_fails, Cond.code yX9_fails cX9_fails 2 (some .int), Cond.fieldLink RX9 112 "ReflectModelsModel" "lastFailure" "I", Cond.methodLink RX9 225 yX9_store, Cond.instanceMethod yX9_store, Cond.selects RX9 yX9_store yX9_store, Cond.code yX9_store cX9_store 4 none]
def wsX9_set : List Cond := .code yX9_set cX9_set 6 (some .int) :: ((wsX9_set_r1 ++ (wsX9_set_r2 ++ (wsX9_set_r3 ++ wsX9_set_r4))) ++ wsX90)
def wsX9_valuesFit : List Cond := .code yX9_valuesFit cX9_valuesFit 4 (some .boolean) :: ([.fieldLink RX9 188 "ReflectModelsModel" "values" "I", .fieldLink RX9 54 "ReflectModelsModel" "many" "[I", .fieldLink RX9 103 "ReflectModelsModel" "valueKind" "[I", .fieldLink RX9 106 "ReflectModelsModel" "valueNumber" "[J", .fieldLink RX9 57 "ReflectModelsModel" "typeOf" "[I", .methodLink RX9 221 yX9_fits, .instanceMethod yX9_fits, .selects RX9 yX9_fits yX9_fits, .initialized RX9, .code yX9_fits cX9_fits 5 (some .boolean), .methodLink RX9 181 yX9_isOf, .instanceMethod yX9_isOf, .selects RX9 yX9_isOf yX9_isOf, .code yX9_isOf cX9_isOf 4 (some .boolean), .fieldLink RX9 87 "ReflectModelsModel" "proxyFace" "[I", .fieldLink RX9 84 "ReflectModelsModel" "objectClass" "[I", .fieldLink RX9 23 "ReflectModelsModel" "face" "[I", .fieldLink RX9 16 "ReflectModelsModel" "above" "[I", .methodLink RX9 178 yX9_isUnder, .instanceMethod yX9_isUnder, .selects RX9 yX9_isUnder yX9_isUnder, .code yX9_isUnder cX9_isUnder 4 (some .boolean)] ++ wsX90)
def wsX9_wraps : List Cond := .code yX9_wraps cX9_wraps 2 (some .int) :: ([.fieldLink RX9 229 "ReflectModelsModel" "cause" "I", .methodLink RX9 208 yX9_gone, .instanceMethod yX9_gone, .selects RX9 yX9_gone yX9_gone, .initialized RX9, .code yX9_gone cX9_gone 1 none, .fieldLink RX9 196 "ReflectModelsModel" "resultKind" "I", .fieldLink RX9 199 "ReflectModelsModel" "result" "J", .methodLink RX9 161 yX9_fails, .instanceMethod yX9_fails, .selects RX9 yX9_fails yX9_fails, .code yX9_fails cX9_fails 2 (some .int), .fieldLink RX9 112 "ReflectModelsModel" "lastFailure" "I"] ++ wsX90)
def wsX9_comes_r1 : List Cond := [Cond.fieldLink RX9 51 "ReflectModelsModel" "gives" "[I", Cond.fieldLink RX9 196 "ReflectModelsModel" "resultKind" "I", Cond.fieldLink RX9 199 "ReflectModelsModel" "result" "J", Cond.methodLink RX9 208 yX9_gone, Cond.instanceMethod yX9_gone, Cond.selects RX9 yX9_gone yX9_gone, Cond.initialized RX9, Cond.code yX9_gone cX9_gone 1 none, Cond.methodLink RX9 221 yX9_fits, Cond.instanceMethod yX9_fits, Cond.selects RX9 yX9_fits yX9_fits, Cond.code yX9_fits cX9_fits 5 (some .boolean), Cond.methodLink RX9 181 yX9_isOf, Cond.instanceMethod yX9_isOf, Cond.selects RX9 yX9_isOf yX9_isOf, Cond.code yX9_isOf cX9_isOf 4 (some .boolean), Cond.fieldLink RX9 87 "ReflectModelsModel" "proxyFace" "[I", Cond.fieldLink RX9 84 "ReflectModelsModel" "objectClass" "[I", Cond.fieldLink RX9 23 "ReflectModelsModel" "face" "[I", Cond.fieldLink RX9 16 "ReflectModelsModel" "above" "[I", Cond.methodLink RX9 178 yX9_isUnder, Cond.instanceMethod yX9_isUnder, Cond.selects RX9 yX9_isUnder yX9_isUnder, Cond.code yX9_isUnder cX9_isUnder 4 (some .boolean)]
def wsX9_comes_r2 : List Cond := [Cond.methodLink RX9 232 yX9_wraps, Cond.instanceMethod yX9_wraps, Cond.selects RX9 yX9_wraps yX9_wraps, Cond.code yX9_wraps cX9_wraps 2 (some .int), Cond.fieldLink RX9 229 "ReflectModelsModel" "cause" "I", Cond.methodLink RX9 161 yX9_fails, Cond.instanceMethod yX9_fails, Cond.selects RX9 yX9_fails yX9_fails, Cond.code yX9_fails cX9_fails 2 (some .int), Cond.fieldLink RX9 112 "ReflectModelsModel" "lastFailure" "I"]
def wsX9_comes : List Cond := .code yX9_comes cX9_comes 6 (some .int) :: ((wsX9_comes_r1 ++ wsX9_comes_r2) ++ wsX90)
def wsX9_runs_r1 : List Cond := [Cond.fieldLink RX9 75 "ReflectModelsModel" "bodyB" "[I", Cond.fieldLink RX9 103 "ReflectModelsModel" "valueKind" "[I", Cond.fieldLink RX9 106 "ReflectModelsModel" "valueNumber" "[J", Cond.fieldLink RX9 72 "ReflectModelsModel" "body" "[I", Cond.fieldLink RX9 51 "ReflectModelsModel" "gives" "[I", Cond.fieldLink RX9 42 "ReflectModelsModel" "memberOf" "[I", Cond.fieldLink RX9 96 "ReflectModelsModel" "fieldKind" "[I", Cond.fieldLink RX9 99 "ReflectModelsModel" "fieldNumber" "[J", Cond.constantLong RX9 144 (2), Cond.methodLink RX9 235 yX9_comes, Cond.instanceMethod yX9_comes, Cond.selects RX9 yX9_comes yX9_comes, Cond.initialized RX9, Cond.code yX9_comes cX9_comes 6 (some .int), Cond.fieldLink RX9 196 "ReflectModelsModel" "resultKind" "I", Cond.fieldLink RX9 199 "ReflectModelsModel" "result" "J", Cond.methodLink RX9 208 yX9_gone, Cond.instanceMethod yX9_gone, Cond.selects RX9 yX9_gone yX9_gone, Cond.code yX9_gone cX9_gone 1 none, Cond.methodLink RX9 221 yX9_fits, Cond.instanceMethod yX9_fits, Cond.selects RX9 yX9_fits yX9_fits, Cond.code yX9_fits cX9_fits 5 (some .boolean)]
def wsX9_runs_r2 : List Cond := [Cond.methodLink RX9 181 yX9_isOf, Cond.instanceMethod yX9_isOf, Cond.selects RX9 yX9_isOf yX9_isOf, Cond.code yX9_isOf cX9_isOf 4 (some .boolean), Cond.fieldLink RX9 87 "ReflectModelsModel" "proxyFace" "[I", Cond.fieldLink RX9 84 "ReflectModelsModel" "objectClass" "[I", Cond.fieldLink RX9 23 "ReflectModelsModel" "face" "[I", Cond.fieldLink RX9 16 "ReflectModelsModel" "above" "[I", Cond.methodLink RX9 178 yX9_isUnder, Cond.instanceMethod yX9_isUnder, Cond.selects RX9 yX9_isUnder yX9_isUnder, Cond.code yX9_isUnder cX9_isUnder 4 (some .boolean), Cond.methodLink RX9 232 yX9_wraps, Cond.instanceMethod yX9_wraps, Cond.selects RX9 yX9_wraps yX9_wraps, Cond.code yX9_wraps cX9_wraps 2 (some .int), Cond.fieldLink RX9 229 "ReflectModelsModel" "cause" "I", Cond.methodLink RX9 161 yX9_fails, Cond.instanceMethod yX9_fails, Cond.selects RX9 yX9_fails yX9_fails, Cond.code yX9_fails cX9_fails 2 (some .int), Cond.fieldLink RX9 112 "ReflectModelsModel" "lastFailure" "I", Cond.methodLink RX9 115 yX9_in, Cond.static yX9_in]
def wsX9_runs_r3 : List Cond := [Cond.code yX9_in cX9_in 6 (some .boolean)]
def wsX9_runs : List Cond := .code yX9_runs cX9_runs 7 (some .int) :: ((wsX9_runs_r1 ++ (wsX9_runs_r2 ++ wsX9_runs_r3)) ++ wsX90)
def wsX9_byHandler_r1 : List Cond := [Cond.fieldLink RX9 90 "ReflectModelsModel" "handler" "[I", Cond.fieldLink RX9 93 "ReflectModelsModel" "askedTimes" "[I", Cond.fieldLink RX9 188 "ReflectModelsModel" "values" "I", Cond.fieldLink RX9 57 "ReflectModelsModel" "typeOf" "[I", Cond.fieldLink RX9 103 "ReflectModelsModel" "valueKind" "[I", Cond.fieldLink RX9 106 "ReflectModelsModel" "valueNumber" "[J", Cond.methodLink RX9 232 yX9_wraps, Cond.instanceMethod yX9_wraps, Cond.selects RX9 yX9_wraps yX9_wraps, Cond.initialized RX9, Cond.code yX9_wraps cX9_wraps 2 (some .int), Cond.fieldLink RX9 229 "ReflectModelsModel" "cause" "I", Cond.methodLink RX9 208 yX9_gone, Cond.instanceMethod yX9_gone, Cond.selects RX9 yX9_gone yX9_gone, Cond.code yX9_gone cX9_gone 1 none, Cond.fieldLink RX9 196 "ReflectModelsModel" "resultKind" "I", Cond.fieldLink RX9 199 "ReflectModelsModel" "result" "J", Cond.methodLink RX9 161 yX9_fails, Cond.instanceMethod yX9_fails, Cond.selects RX9 yX9_fails yX9_fails, Cond.code yX9_fails cX9_fails 2 (some .int), Cond.fieldLink RX9 112 "ReflectModelsModel" "lastFailure" "I", Cond.methodLink RX9 235 yX9_comes]
def wsX9_byHandler_r2 : List Cond := [Cond.instanceMethod yX9_comes, Cond.selects RX9 yX9_comes yX9_comes, Cond.code yX9_comes cX9_comes 6 (some .int), Cond.fieldLink RX9 51 "ReflectModelsModel" "gives" "[I", Cond.methodLink RX9 221 yX9_fits, Cond.instanceMethod yX9_fits, Cond.selects RX9 yX9_fits yX9_fits, Cond.code yX9_fits cX9_fits 5 (some .boolean), Cond.methodLink RX9 181 yX9_isOf, Cond.instanceMethod yX9_isOf, Cond.selects RX9 yX9_isOf yX9_isOf, Cond.code yX9_isOf cX9_isOf 4 (some .boolean), Cond.fieldLink RX9 87 "ReflectModelsModel" "proxyFace" "[I", Cond.fieldLink RX9 84 "ReflectModelsModel" "objectClass" "[I", Cond.fieldLink RX9 23 "ReflectModelsModel" "face" "[I", Cond.fieldLink RX9 16 "ReflectModelsModel" "above" "[I", Cond.methodLink RX9 178 yX9_isUnder, Cond.instanceMethod yX9_isUnder, Cond.selects RX9 yX9_isUnder yX9_isUnder, Cond.code yX9_isUnder cX9_isUnder 4 (some .boolean)]
def wsX9_byHandler : List Cond := .code yX9_byHandler cX9_byHandler 4 (some .int) :: ((wsX9_byHandler_r1 ++ wsX9_byHandler_r2) ++ wsX90)
def wsX9_call_r1 : List Cond := [Cond.fieldLink RX9 1 "ReflectModelsModel" "thrown" "I", Cond.fieldLink RX9 78 "ReflectModelsModel" "handleOf" "[I", Cond.fieldLink RX9 45 "ReflectModelsModel" "isField" "[Z", Cond.fieldLink RX9 60 "ReflectModelsModel" "isStatic" "[Z", Cond.fieldLink RX9 42 "ReflectModelsModel" "memberOf" "[I", Cond.fieldLink RX9 66 "ReflectModelsModel" "isHidden" "[Z", Cond.fieldLink RX9 87 "ReflectModelsModel" "proxyFace" "[I", Cond.fieldLink RX9 20 "ReflectModelsModel" "sort" "[I", Cond.fieldLink RX9 84 "ReflectModelsModel" "objectClass" "[I", Cond.fieldLink RX9 128 "ReflectModelsModel" "members" "I", Cond.fieldLink RX9 48 "ReflectModelsModel" "name" "[I", Cond.fieldLink RX9 54 "ReflectModelsModel" "many" "[I", Cond.fieldLink RX9 57 "ReflectModelsModel" "typeOf" "[I", Cond.fieldLink RX9 69 "ReflectModelsModel" "isAbstract" "[Z", Cond.fieldLink RX9 196 "ReflectModelsModel" "resultKind" "I", Cond.fieldLink RX9 199 "ReflectModelsModel" "result" "J", Cond.fieldLink RX9 16 "ReflectModelsModel" "above" "[I", Cond.methodLink RX9 175 yX9_isHandle, Cond.instanceMethod yX9_isHandle, Cond.selects RX9 yX9_isHandle yX9_isHandle, Cond.initialized RX9, Cond.code yX9_isHandle cX9_isHandle 2 (some .boolean), Cond.fieldLink RX9 165 "ReflectModelsModel" "handles" "I", Cond.methodLink RX9 115 yX9_in]
def wsX9_call_r2 : List Cond := [Cond.static yX9_in, Cond.code yX9_in cX9_in 6 (some .boolean), Cond.methodLink RX9 203 yX9_isReceiver, Cond.instanceMethod yX9_isReceiver, Cond.selects RX9 yX9_isReceiver yX9_isReceiver, Cond.code yX9_isReceiver cX9_isReceiver 2 (some .boolean), Cond.methodLink RX9 184 yX9_isObject, Cond.instanceMethod yX9_isObject, Cond.selects RX9 yX9_isObject yX9_isObject, Cond.code yX9_isObject cX9_isObject 3 (some .boolean), Cond.fieldLink RX9 119 "ReflectModelsModel" "objects" "I", Cond.methodLink RX9 208 yX9_gone, Cond.instanceMethod yX9_gone, Cond.selects RX9 yX9_gone yX9_gone, Cond.code yX9_gone cX9_gone 1 none, Cond.methodLink RX9 211 yX9_may, Cond.instanceMethod yX9_may, Cond.selects RX9 yX9_may yX9_may, Cond.code yX9_may cX9_may 3 (some .boolean), Cond.fieldLink RX9 158 "ReflectModelsModel" "caller" "I", Cond.fieldLink RX9 81 "ReflectModelsModel" "hasLeave" "[Z", Cond.methodLink RX9 239 yX9_valuesFit, Cond.instanceMethod yX9_valuesFit, Cond.selects RX9 yX9_valuesFit yX9_valuesFit]
def wsX9_call_r3 : List Cond := [Cond.code yX9_valuesFit cX9_valuesFit 4 (some .boolean), Cond.fieldLink RX9 188 "ReflectModelsModel" "values" "I", Cond.fieldLink RX9 103 "ReflectModelsModel" "valueKind" "[I", Cond.fieldLink RX9 106 "ReflectModelsModel" "valueNumber" "[J", Cond.methodLink RX9 221 yX9_fits, Cond.instanceMethod yX9_fits, Cond.selects RX9 yX9_fits yX9_fits, Cond.code yX9_fits cX9_fits 5 (some .boolean), Cond.methodLink RX9 181 yX9_isOf, Cond.instanceMethod yX9_isOf, Cond.selects RX9 yX9_isOf yX9_isOf, Cond.code yX9_isOf cX9_isOf 4 (some .boolean), Cond.fieldLink RX9 23 "ReflectModelsModel" "face" "[I", Cond.methodLink RX9 178 yX9_isUnder, Cond.instanceMethod yX9_isUnder, Cond.selects RX9 yX9_isUnder yX9_isUnder, Cond.code yX9_isUnder cX9_isUnder 4 (some .boolean), Cond.methodLink RX9 214 yX9_started, Cond.instanceMethod yX9_started, Cond.selects RX9 yX9_started yX9_started, Cond.code yX9_started cX9_started 9 (some .int), Cond.fieldLink RX9 33 "ReflectModelsModel" "state" "[I", Cond.fieldLink RX9 109 "ReflectModelsModel" "chain" "[I", Cond.fieldLink RX9 30 "ReflectModelsModel" "failing" "[Z"]
def wsX9_call_r4 : List Cond := [Cond.fieldLink RX9 36 "ReflectModelsModel" "constants" "[I", Cond.fieldLink RX9 39 "ReflectModelsModel" "firstConstant" "[I", Cond.methodLink RX9 193 yX9_newObject, Cond.instanceMethod yX9_newObject, Cond.selects RX9 yX9_newObject yX9_newObject, Cond.code yX9_newObject cX9_newObject 4 (some .int), Cond.fieldLink RX9 93 "ReflectModelsModel" "askedTimes" "[I", Cond.methodLink RX9 140 yX9_first, Cond.instanceMethod yX9_first, Cond.selects RX9 yX9_first yX9_first, Cond.code yX9_first cX9_first 3 none, Cond.fieldLink RX9 96 "ReflectModelsModel" "fieldKind" "[I", Cond.fieldLink RX9 51 "ReflectModelsModel" "gives" "[I", Cond.fieldLink RX9 99 "ReflectModelsModel" "fieldNumber" "[J", Cond.methodLink RX9 217 yX9_against, Cond.instanceMethod yX9_against, Cond.selects RX9 yX9_against yX9_against, Cond.code yX9_against cX9_against 3 (some .int), Cond.methodLink RX9 161 yX9_fails, Cond.instanceMethod yX9_fails, Cond.selects RX9 yX9_fails yX9_fails, Cond.code yX9_fails cX9_fails 2 (some .int), Cond.fieldLink RX9 112 "ReflectModelsModel" "lastFailure" "I", Cond.methodLink RX9 242 yX9_runs]
def wsX9_call_r5 : List Cond := [Cond.instanceMethod yX9_runs, Cond.selects RX9 yX9_runs yX9_runs, Cond.code yX9_runs cX9_runs 7 (some .int), Cond.fieldLink RX9 75 "ReflectModelsModel" "bodyB" "[I", Cond.fieldLink RX9 72 "ReflectModelsModel" "body" "[I", Cond.constantLong RX9 144 (2), Cond.methodLink RX9 235 yX9_comes, Cond.instanceMethod yX9_comes, Cond.selects RX9 yX9_comes yX9_comes, Cond.code yX9_comes cX9_comes 6 (some .int), Cond.methodLink RX9 232 yX9_wraps, Cond.instanceMethod yX9_wraps, Cond.selects RX9 yX9_wraps yX9_wraps, Cond.code yX9_wraps cX9_wraps 2 (some .int), Cond.fieldLink RX9 229 "ReflectModelsModel" "cause" "I", Cond.methodLink RX9 245 yX9_byHandler, Cond.instanceMethod yX9_byHandler, Cond.selects RX9 yX9_byHandler yX9_byHandler, Cond.code yX9_byHandler cX9_byHandler 4 (some .int), Cond.fieldLink RX9 90 "ReflectModelsModel" "handler" "[I", Cond.methodLink RX9 154 yX9_isLike, Cond.instanceMethod yX9_isLike, Cond.selects RX9 yX9_isLike yX9_isLike, Cond.code yX9_isLike cX9_isLike 6 (some .boolean)]
def wsX9_call : List Cond := .code yX9_call cX9_call 8 (some .int) :: ((wsX9_call_r1 ++ (wsX9_call_r2 ++ (wsX9_call_r3 ++ (wsX9_call_r4 ++ wsX9_call_r5)))) ++ wsX90)
def wsX9_recordFits : List Cond := .code yX9_recordFits cX9_recordFits 5 (some .boolean) :: ([.fieldLink RX9 128 "ReflectModelsModel" "members" "I", .fieldLink RX9 42 "ReflectModelsModel" "memberOf" "[I", .fieldLink RX9 45 "ReflectModelsModel" "isField" "[Z", .fieldLink RX9 188 "ReflectModelsModel" "values" "I", .fieldLink RX9 103 "ReflectModelsModel" "valueKind" "[I", .fieldLink RX9 106 "ReflectModelsModel" "valueNumber" "[J", .fieldLink RX9 51 "ReflectModelsModel" "gives" "[I", .methodLink RX9 221 yX9_fits, .instanceMethod yX9_fits, .selects RX9 yX9_fits yX9_fits, .initialized RX9, .code yX9_fits cX9_fits 5 (some .boolean), .methodLink RX9 181 yX9_isOf, .instanceMethod yX9_isOf, .selects RX9 yX9_isOf yX9_isOf, .code yX9_isOf cX9_isOf 4 (some .boolean), .fieldLink RX9 87 "ReflectModelsModel" "proxyFace" "[I", .fieldLink RX9 84 "ReflectModelsModel" "objectClass" "[I", .fieldLink RX9 23 "ReflectModelsModel" "face" "[I", .fieldLink RX9 16 "ReflectModelsModel" "above" "[I", .methodLink RX9 178 yX9_isUnder, .instanceMethod yX9_isUnder, .selects RX9 yX9_isUnder yX9_isUnder, .code yX9_isUnder cX9_isUnder 4 (some .boolean)] ++ wsX90)
def wsX9_make_r1 : List Cond := [Cond.fieldLink RX9 1 "ReflectModelsModel" "thrown" "I", Cond.fieldLink RX9 119 "ReflectModelsModel" "objects" "I", Cond.fieldLink RX9 20 "ReflectModelsModel" "sort" "[I", Cond.fieldLink RX9 188 "ReflectModelsModel" "values" "I", Cond.fieldLink RX9 128 "ReflectModelsModel" "members" "I", Cond.fieldLink RX9 42 "ReflectModelsModel" "memberOf" "[I", Cond.fieldLink RX9 45 "ReflectModelsModel" "isField" "[Z", Cond.methodLink RX9 122 yX9_isClass, Cond.instanceMethod yX9_isClass, Cond.selects RX9 yX9_isClass yX9_isClass, Cond.initialized RX9, Cond.code yX9_isClass cX9_isClass 2 (some .boolean), Cond.fieldLink RX9 13 "ReflectModelsModel" "classes" "I", Cond.methodLink RX9 115 yX9_in, Cond.static yX9_in, Cond.code yX9_in cX9_in 6 (some .boolean), Cond.methodLink RX9 248 yX9_recordFits, Cond.instanceMethod yX9_recordFits, Cond.selects RX9 yX9_recordFits yX9_recordFits, Cond.code yX9_recordFits cX9_recordFits 5 (some .boolean), Cond.fieldLink RX9 103 "ReflectModelsModel" "valueKind" "[I", Cond.fieldLink RX9 106 "ReflectModelsModel" "valueNumber" "[J", Cond.fieldLink RX9 51 "ReflectModelsModel" "gives" "[I", Cond.methodLink RX9 221 yX9_fits]
def wsX9_make_r2 : List Cond := [Cond.instanceMethod yX9_fits, Cond.selects RX9 yX9_fits yX9_fits, Cond.code yX9_fits cX9_fits 5 (some .boolean), Cond.methodLink RX9 181 yX9_isOf, Cond.instanceMethod yX9_isOf, Cond.selects RX9 yX9_isOf yX9_isOf, Cond.code yX9_isOf cX9_isOf 4 (some .boolean), Cond.fieldLink RX9 87 "ReflectModelsModel" "proxyFace" "[I", Cond.fieldLink RX9 84 "ReflectModelsModel" "objectClass" "[I", Cond.fieldLink RX9 23 "ReflectModelsModel" "face" "[I", Cond.fieldLink RX9 16 "ReflectModelsModel" "above" "[I", Cond.methodLink RX9 178 yX9_isUnder, Cond.instanceMethod yX9_isUnder, Cond.selects RX9 yX9_isUnder yX9_isUnder, Cond.code yX9_isUnder cX9_isUnder 4 (some .boolean), Cond.methodLink RX9 214 yX9_started, Cond.instanceMethod yX9_started, Cond.selects RX9 yX9_started yX9_started, Cond.code yX9_started cX9_started 9 (some .int), Cond.fieldLink RX9 33 "ReflectModelsModel" "state" "[I", Cond.fieldLink RX9 109 "ReflectModelsModel" "chain" "[I", Cond.fieldLink RX9 30 "ReflectModelsModel" "failing" "[Z", Cond.fieldLink RX9 36 "ReflectModelsModel" "constants" "[I", Cond.fieldLink RX9 39 "ReflectModelsModel" "firstConstant" "[I"]
def wsX9_make_r3 : List Cond := [Cond.methodLink RX9 193 yX9_newObject, Cond.instanceMethod yX9_newObject, Cond.selects RX9 yX9_newObject yX9_newObject, Cond.code yX9_newObject cX9_newObject 4 (some .int), Cond.fieldLink RX9 93 "ReflectModelsModel" "askedTimes" "[I", Cond.methodLink RX9 140 yX9_first, Cond.instanceMethod yX9_first, Cond.selects RX9 yX9_first yX9_first, Cond.code yX9_first cX9_first 3 none, Cond.fieldLink RX9 96 "ReflectModelsModel" "fieldKind" "[I", Cond.fieldLink RX9 99 "ReflectModelsModel" "fieldNumber" "[J", Cond.methodLink RX9 161 yX9_fails, Cond.instanceMethod yX9_fails, Cond.selects RX9 yX9_fails yX9_fails, Cond.code yX9_fails cX9_fails 2 (some .int), Cond.fieldLink RX9 112 "ReflectModelsModel" "lastFailure" "I", Cond.methodLink RX9 225 yX9_store, Cond.instanceMethod yX9_store, Cond.selects RX9 yX9_store yX9_store, Cond.code yX9_store cX9_store 4 none]
def wsX9_make : List Cond := .code yX9_make cX9_make 6 (some .int) :: ((wsX9_make_r1 ++ (wsX9_make_r2 ++ wsX9_make_r3)) ++ wsX90)
def wsX9_proxy_r1 : List Cond := [Cond.fieldLink RX9 1 "ReflectModelsModel" "thrown" "I", Cond.constantLong RX9 191 (3), Cond.fieldLink RX9 20 "ReflectModelsModel" "sort" "[I", Cond.fieldLink RX9 119 "ReflectModelsModel" "objects" "I", Cond.fieldLink RX9 87 "ReflectModelsModel" "proxyFace" "[I", Cond.fieldLink RX9 90 "ReflectModelsModel" "handler" "[I", Cond.methodLink RX9 122 yX9_isClass, Cond.instanceMethod yX9_isClass, Cond.selects RX9 yX9_isClass yX9_isClass, Cond.initialized RX9, Cond.code yX9_isClass cX9_isClass 2 (some .boolean), Cond.fieldLink RX9 13 "ReflectModelsModel" "classes" "I", Cond.methodLink RX9 115 yX9_in, Cond.static yX9_in, Cond.code yX9_in cX9_in 6 (some .boolean), Cond.methodLink RX9 193 yX9_newObject, Cond.instanceMethod yX9_newObject, Cond.selects RX9 yX9_newObject yX9_newObject, Cond.code yX9_newObject cX9_newObject 4 (some .int), Cond.fieldLink RX9 84 "ReflectModelsModel" "objectClass" "[I", Cond.fieldLink RX9 93 "ReflectModelsModel" "askedTimes" "[I", Cond.fieldLink RX9 128 "ReflectModelsModel" "members" "I", Cond.fieldLink RX9 45 "ReflectModelsModel" "isField" "[Z", Cond.methodLink RX9 140 yX9_first]
def wsX9_proxy_r2 : List Cond := [Cond.instanceMethod yX9_first, Cond.selects RX9 yX9_first yX9_first, Cond.code yX9_first cX9_first 3 none, Cond.fieldLink RX9 96 "ReflectModelsModel" "fieldKind" "[I", Cond.fieldLink RX9 51 "ReflectModelsModel" "gives" "[I", Cond.fieldLink RX9 99 "ReflectModelsModel" "fieldNumber" "[J"]
def wsX9_proxy : List Cond := .code yX9_proxy cX9_proxy 4 (some .int) :: ((wsX9_proxy_r1 ++ wsX9_proxy_r2) ++ wsX90)
def wsX9_constant_r1 : List Cond := [Cond.fieldLink RX9 1 "ReflectModelsModel" "thrown" "I", Cond.fieldLink RX9 20 "ReflectModelsModel" "sort" "[I", Cond.fieldLink RX9 36 "ReflectModelsModel" "constants" "[I", Cond.fieldLink RX9 39 "ReflectModelsModel" "firstConstant" "[I", Cond.methodLink RX9 122 yX9_isClass, Cond.instanceMethod yX9_isClass, Cond.selects RX9 yX9_isClass yX9_isClass, Cond.initialized RX9, Cond.code yX9_isClass cX9_isClass 2 (some .boolean), Cond.fieldLink RX9 13 "ReflectModelsModel" "classes" "I", Cond.methodLink RX9 115 yX9_in, Cond.static yX9_in, Cond.code yX9_in cX9_in 6 (some .boolean), Cond.methodLink RX9 214 yX9_started, Cond.instanceMethod yX9_started, Cond.selects RX9 yX9_started yX9_started, Cond.code yX9_started cX9_started 9 (some .int), Cond.fieldLink RX9 33 "ReflectModelsModel" "state" "[I", Cond.fieldLink RX9 109 "ReflectModelsModel" "chain" "[I", Cond.fieldLink RX9 16 "ReflectModelsModel" "above" "[I", Cond.fieldLink RX9 30 "ReflectModelsModel" "failing" "[Z", Cond.fieldLink RX9 119 "ReflectModelsModel" "objects" "I", Cond.methodLink RX9 193 yX9_newObject, Cond.instanceMethod yX9_newObject]
def wsX9_constant_r2 : List Cond := [Cond.selects RX9 yX9_newObject yX9_newObject, Cond.code yX9_newObject cX9_newObject 4 (some .int), Cond.fieldLink RX9 84 "ReflectModelsModel" "objectClass" "[I", Cond.fieldLink RX9 87 "ReflectModelsModel" "proxyFace" "[I", Cond.fieldLink RX9 93 "ReflectModelsModel" "askedTimes" "[I", Cond.fieldLink RX9 128 "ReflectModelsModel" "members" "I", Cond.fieldLink RX9 45 "ReflectModelsModel" "isField" "[Z", Cond.methodLink RX9 140 yX9_first, Cond.instanceMethod yX9_first, Cond.selects RX9 yX9_first yX9_first, Cond.code yX9_first cX9_first 3 none, Cond.fieldLink RX9 96 "ReflectModelsModel" "fieldKind" "[I", Cond.fieldLink RX9 51 "ReflectModelsModel" "gives" "[I", Cond.fieldLink RX9 99 "ReflectModelsModel" "fieldNumber" "[J", Cond.methodLink RX9 161 yX9_fails, Cond.instanceMethod yX9_fails, Cond.selects RX9 yX9_fails yX9_fails, Cond.code yX9_fails cX9_fails 2 (some .int), Cond.fieldLink RX9 112 "ReflectModelsModel" "lastFailure" "I"]
def wsX9_constant : List Cond := .code yX9_constant cX9_constant 4 (some .int) :: ((wsX9_constant_r1 ++ wsX9_constant_r2) ++ wsX90)
def wsX9_start_r1 : List Cond := [Cond.fieldLink RX9 1 "ReflectModelsModel" "thrown" "I", Cond.methodLink RX9 122 yX9_isClass, Cond.instanceMethod yX9_isClass, Cond.selects RX9 yX9_isClass yX9_isClass, Cond.initialized RX9, Cond.code yX9_isClass cX9_isClass 2 (some .boolean), Cond.fieldLink RX9 13 "ReflectModelsModel" "classes" "I", Cond.methodLink RX9 115 yX9_in, Cond.static yX9_in, Cond.code yX9_in cX9_in 6 (some .boolean), Cond.methodLink RX9 214 yX9_started, Cond.instanceMethod yX9_started, Cond.selects RX9 yX9_started yX9_started, Cond.code yX9_started cX9_started 9 (some .int), Cond.fieldLink RX9 33 "ReflectModelsModel" "state" "[I", Cond.fieldLink RX9 109 "ReflectModelsModel" "chain" "[I", Cond.fieldLink RX9 16 "ReflectModelsModel" "above" "[I", Cond.fieldLink RX9 30 "ReflectModelsModel" "failing" "[Z", Cond.fieldLink RX9 36 "ReflectModelsModel" "constants" "[I", Cond.fieldLink RX9 39 "ReflectModelsModel" "firstConstant" "[I", Cond.fieldLink RX9 119 "ReflectModelsModel" "objects" "I", Cond.methodLink RX9 193 yX9_newObject, Cond.instanceMethod yX9_newObject, Cond.selects RX9 yX9_newObject yX9_newObject]
def wsX9_start_r2 : List Cond := [Cond.code yX9_newObject cX9_newObject 4 (some .int), Cond.fieldLink RX9 84 "ReflectModelsModel" "objectClass" "[I", Cond.fieldLink RX9 87 "ReflectModelsModel" "proxyFace" "[I", Cond.fieldLink RX9 93 "ReflectModelsModel" "askedTimes" "[I", Cond.fieldLink RX9 128 "ReflectModelsModel" "members" "I", Cond.fieldLink RX9 45 "ReflectModelsModel" "isField" "[Z", Cond.methodLink RX9 140 yX9_first, Cond.instanceMethod yX9_first, Cond.selects RX9 yX9_first yX9_first, Cond.code yX9_first cX9_first 3 none, Cond.fieldLink RX9 96 "ReflectModelsModel" "fieldKind" "[I", Cond.fieldLink RX9 51 "ReflectModelsModel" "gives" "[I", Cond.fieldLink RX9 99 "ReflectModelsModel" "fieldNumber" "[J", Cond.methodLink RX9 161 yX9_fails, Cond.instanceMethod yX9_fails, Cond.selects RX9 yX9_fails yX9_fails, Cond.code yX9_fails cX9_fails 2 (some .int), Cond.fieldLink RX9 112 "ReflectModelsModel" "lastFailure" "I"]
def wsX9_start : List Cond := .code yX9_start cX9_start 3 (some .int) :: ((wsX9_start_r1 ++ wsX9_start_r2) ++ wsX90)
def wsX9_resultKind : List Cond := .code yX9_resultKind cX9_resultKind 1 (some .int) :: ([.fieldLink RX9 1 "ReflectModelsModel" "thrown" "I", .fieldLink RX9 196 "ReflectModelsModel" "resultKind" "I"] ++ wsX90)
def wsX9_result : List Cond := .code yX9_result cX9_result 1 (some .long) :: ([.fieldLink RX9 1 "ReflectModelsModel" "thrown" "I", .fieldLink RX9 199 "ReflectModelsModel" "result" "J"] ++ wsX90)
def wsX9_cause : List Cond := .code yX9_cause cX9_cause 1 (some .int) :: ([.fieldLink RX9 1 "ReflectModelsModel" "thrown" "I", .fieldLink RX9 229 "ReflectModelsModel" "cause" "I"] ++ wsX90)
def wsX9_about : List Cond := .code yX9_about cX9_about 5 (some .int) :: ([.fieldLink RX9 1 "ReflectModelsModel" "thrown" "I", .fieldLink RX9 128 "ReflectModelsModel" "members" "I", .fieldLink RX9 42 "ReflectModelsModel" "memberOf" "[I", .fieldLink RX9 20 "ReflectModelsModel" "sort" "[I", .fieldLink RX9 16 "ReflectModelsModel" "above" "[I", .fieldLink RX9 23 "ReflectModelsModel" "face" "[I", .fieldLink RX9 33 "ReflectModelsModel" "state" "[I", .methodLink RX9 122 yX9_isClass, .instanceMethod yX9_isClass, .selects RX9 yX9_isClass yX9_isClass, .initialized RX9, .code yX9_isClass cX9_isClass 2 (some .boolean), .fieldLink RX9 13 "ReflectModelsModel" "classes" "I", .methodLink RX9 115 yX9_in, .static yX9_in, .code yX9_in cX9_in 6 (some .boolean)] ++ wsX90)
def wsX9_is_r1 : List Cond := [Cond.fieldLink RX9 1 "ReflectModelsModel" "thrown" "I", Cond.methodLink RX9 184 yX9_isObject, Cond.instanceMethod yX9_isObject, Cond.selects RX9 yX9_isObject yX9_isObject, Cond.initialized RX9, Cond.code yX9_isObject cX9_isObject 3 (some .boolean), Cond.fieldLink RX9 119 "ReflectModelsModel" "objects" "I", Cond.methodLink RX9 115 yX9_in, Cond.static yX9_in, Cond.code yX9_in cX9_in 6 (some .boolean), Cond.methodLink RX9 122 yX9_isClass, Cond.instanceMethod yX9_isClass, Cond.selects RX9 yX9_isClass yX9_isClass, Cond.code yX9_isClass cX9_isClass 2 (some .boolean), Cond.fieldLink RX9 13 "ReflectModelsModel" "classes" "I", Cond.methodLink RX9 181 yX9_isOf, Cond.instanceMethod yX9_isOf, Cond.selects RX9 yX9_isOf yX9_isOf, Cond.code yX9_isOf cX9_isOf 4 (some .boolean), Cond.fieldLink RX9 87 "ReflectModelsModel" "proxyFace" "[I", Cond.fieldLink RX9 84 "ReflectModelsModel" "objectClass" "[I", Cond.fieldLink RX9 23 "ReflectModelsModel" "face" "[I", Cond.fieldLink RX9 16 "ReflectModelsModel" "above" "[I", Cond.methodLink RX9 178 yX9_isUnder]
def wsX9_is_r2 : List Cond := [Cond.instanceMethod yX9_isUnder, Cond.selects RX9 yX9_isUnder yX9_isUnder, Cond.code yX9_isUnder cX9_isUnder 4 (some .boolean)]
def wsX9_is : List Cond := .code yX9_is cX9_is 3 (some .int) :: ((wsX9_is_r1 ++ wsX9_is_r2) ++ wsX90)
def wsX9_handle : List Cond := .code yX9_handle cX9_handle 3 (some .int) :: ([.fieldLink RX9 1 "ReflectModelsModel" "thrown" "I", .fieldLink RX9 78 "ReflectModelsModel" "handleOf" "[I", .fieldLink RX9 81 "ReflectModelsModel" "hasLeave" "[Z", .methodLink RX9 175 yX9_isHandle, .instanceMethod yX9_isHandle, .selects RX9 yX9_isHandle yX9_isHandle, .initialized RX9, .code yX9_isHandle cX9_isHandle 2 (some .boolean), .fieldLink RX9 165 "ReflectModelsModel" "handles" "I", .methodLink RX9 115 yX9_in, .static yX9_in, .code yX9_in cX9_in 6 (some .boolean), .methodLink RX9 211 yX9_may, .instanceMethod yX9_may, .selects RX9 yX9_may yX9_may, .code yX9_may cX9_may 3 (some .boolean), .fieldLink RX9 66 "ReflectModelsModel" "isHidden" "[Z", .fieldLink RX9 42 "ReflectModelsModel" "memberOf" "[I", .fieldLink RX9 158 "ReflectModelsModel" "caller" "I"] ++ wsX90)
def wsX9_told : List Cond := .code yX9_told cX9_told 2 (some .int) :: ([.fieldLink RX9 1 "ReflectModelsModel" "thrown" "I", .fieldLink RX9 13 "ReflectModelsModel" "classes" "I", .fieldLink RX9 128 "ReflectModelsModel" "members" "I", .fieldLink RX9 165 "ReflectModelsModel" "handles" "I", .fieldLink RX9 119 "ReflectModelsModel" "objects" "I", .fieldLink RX9 188 "ReflectModelsModel" "values" "I", .fieldLink RX9 112 "ReflectModelsModel" "lastFailure" "I"] ++ wsX90)
def wsL_law_r1 : List Cond := [Cond.classLink RL 7 RX8, Cond.instantiable RX8 15, Cond.initialized RX8, Cond.classLink RL 10 RX9, Cond.instantiable RX9 42, Cond.initialized RX9, Cond.constantLong RL 52 (4294967295), Cond.methodLink RL 9 yX8_init, Cond.instanceMethod yX8_init, Cond.code yX8_init cX8_init 2 none, Cond.methodLink RX8 1 objectInit, Cond.instanceMethod objectInit, Cond.code objectInit ⟨#[0xb1]⟩ 1 none, Cond.classLink RX8 9 RX0, Cond.fieldLink RX8 11 "ReflectModels" "classes" "[LReflectModels$ClassModel;", Cond.fieldLink RX8 15 "ReflectModels" "classCount" "I", Cond.classLink RX8 19 RX3, Cond.fieldLink RX8 21 "ReflectModels" "members" "[LReflectModels$Member;", Cond.fieldLink RX8 25 "ReflectModels" "memberCount" "I", Cond.fieldLink RX8 28 "ReflectModels" "slotCount" "I", Cond.classLink RX8 31 RX2, Cond.fieldLink RX8 33 "ReflectModels" "handles" "[LReflectModels$Handle;", Cond.fieldLink RX8 37 "ReflectModels" "handleCount" "I", Cond.classLink RX8 40 RX6]
def wsL_law_r2 : List Cond := [Cond.fieldLink RX8 42 "ReflectModels" "things" "[LReflectModels$Thing;", Cond.fieldLink RX8 46 "ReflectModels" "thingCount" "I", Cond.classLink RX8 49 RX7, Cond.fieldLink RX8 51 "ReflectModels" "values" "[LReflectModels$Value;", Cond.fieldLink RX8 55 "ReflectModels" "valueCount" "I", Cond.fieldLink RX8 58 "ReflectModels" "callerNumber" "I", Cond.instantiable RX7 2, Cond.initialized RX7, Cond.fieldLink RX8 62 "ReflectModels" "outcome" "LReflectModels$Value;", Cond.fieldLink RX8 66 "ReflectModels" "latestFailure" "I", Cond.fieldLink RX8 69 "ReflectModels" "latestCause" "I", Cond.instantiable RX0 12, Cond.initialized RX0, Cond.instanceMethod yX7_init, Cond.code yX7_init cX7_init 1 none, Cond.methodLink RX7 3 objectInit, Cond.fieldLink RX7 9 "ReflectModels$Value" "kind" "I", Cond.fieldLink RX7 15 "ReflectModels$Value" "number" "J", Cond.instanceMethod yX0_init, Cond.code yX0_init cX0_init 8 none, Cond.methodLink RX0 3 objectInit, Cond.fieldLink RX0 9 "ReflectModels$ClassModel" "state" "I", Cond.fieldLink RX0 15 "ReflectModels$ClassModel" "constantCount" "I", Cond.fieldLink RX0 18 "ReflectModels$ClassModel" "firstConstant" "I"]
def wsL_law_r3 : List Cond := [Cond.fieldLink RX0 21 "ReflectModels$ClassModel" "ownMembers" "I", Cond.fieldLink RX0 24 "ReflectModels$ClassModel" "number" "I", Cond.fieldLink RX0 27 "ReflectModels$ClassModel" "above" "LReflectModels$ClassModel;", Cond.fieldLink RX0 31 "ReflectModels$ClassModel" "sort" "I", Cond.fieldLink RX0 34 "ReflectModels$ClassModel" "face" "LReflectModels$ClassModel;", Cond.fieldLink RX0 37 "ReflectModels$ClassModel" "shut" "Z", Cond.fieldLink RX0 41 "ReflectModels$ClassModel" "fails" "Z", Cond.fieldLink RX0 44 "ReflectModels$ClassModel" "line" "I", Cond.fieldLink RX0 47 "ReflectModels$ClassModel" "all" "I", Cond.methodLink RL 12 yX9_init, Cond.instanceMethod yX9_init, Cond.code yX9_init cX9_init 1 none, Cond.methodLink RX9 7 objectInit, Cond.fieldLink RX9 13 "ReflectModelsModel" "classes" "I", Cond.arrayClass .int, Cond.fieldLink RX9 16 "ReflectModelsModel" "above" "[I", Cond.fieldLink RX9 20 "ReflectModelsModel" "sort" "[I", Cond.fieldLink RX9 23 "ReflectModelsModel" "face" "[I", Cond.arrayClass .boolean, Cond.fieldLink RX9 26 "ReflectModelsModel" "shut" "[Z", Cond.fieldLink RX9 30 "ReflectModelsModel" "failing" "[Z", Cond.fieldLink RX9 33 "ReflectModelsModel" "state" "[I", Cond.fieldLink RX9 36 "ReflectModelsModel" "constants" "[I", Cond.fieldLink RX9 39 "ReflectModelsModel" "firstConstant" "[I"]
def wsL_law_r4 : List Cond := [Cond.fieldLink RX9 42 "ReflectModelsModel" "memberOf" "[I", Cond.fieldLink RX9 45 "ReflectModelsModel" "isField" "[Z", Cond.fieldLink RX9 48 "ReflectModelsModel" "name" "[I", Cond.fieldLink RX9 51 "ReflectModelsModel" "gives" "[I", Cond.fieldLink RX9 54 "ReflectModelsModel" "many" "[I", Cond.fieldLink RX9 57 "ReflectModelsModel" "typeOf" "[I", Cond.fieldLink RX9 60 "ReflectModelsModel" "isStatic" "[Z", Cond.fieldLink RX9 63 "ReflectModelsModel" "isFinal" "[Z", Cond.fieldLink RX9 66 "ReflectModelsModel" "isHidden" "[Z", Cond.fieldLink RX9 69 "ReflectModelsModel" "isAbstract" "[Z", Cond.fieldLink RX9 72 "ReflectModelsModel" "body" "[I", Cond.fieldLink RX9 75 "ReflectModelsModel" "bodyB" "[I", Cond.fieldLink RX9 78 "ReflectModelsModel" "handleOf" "[I", Cond.fieldLink RX9 81 "ReflectModelsModel" "hasLeave" "[Z", Cond.fieldLink RX9 84 "ReflectModelsModel" "objectClass" "[I", Cond.fieldLink RX9 87 "ReflectModelsModel" "proxyFace" "[I", Cond.fieldLink RX9 90 "ReflectModelsModel" "handler" "[I", Cond.fieldLink RX9 93 "ReflectModelsModel" "askedTimes" "[I", Cond.fieldLink RX9 96 "ReflectModelsModel" "fieldKind" "[I", Cond.arrayClass .long, Cond.fieldLink RX9 99 "ReflectModelsModel" "fieldNumber" "[J", Cond.fieldLink RX9 103 "ReflectModelsModel" "valueKind" "[I", Cond.fieldLink RX9 106 "ReflectModelsModel" "valueNumber" "[J", Cond.fieldLink RX9 109 "ReflectModelsModel" "chain" "[I"]
def wsL_law_r5 : List Cond := [Cond.methodLink RL 13 yX8_type, Cond.instanceMethod yX8_type, Cond.selects RX8 yX8_type yX8_type, Cond.code yX8_type cX8_type 7 (some .int), Cond.methodLink RX8 75 yX8_isClass, Cond.instanceMethod yX8_isClass, Cond.selects RX8 yX8_isClass yX8_isClass, Cond.code yX8_isClass cX8_isClass 2 (some .boolean), Cond.methodLink RX8 79 yX8_mayHaveAbove, Cond.static yX8_mayHaveAbove, Cond.code yX8_mayHaveAbove cX8_mayHaveAbove 2 (some .boolean), Cond.methodLink RX8 83 yX8_mayActAs, Cond.static yX8_mayActAs, Cond.code yX8_mayActAs cX8_mayActAs 2 (some .boolean), Cond.methodLink RL 17 yX9_type, Cond.instanceMethod yX9_type, Cond.selects RX9 yX9_type yX9_type, Cond.code yX9_type cX9_type 9 (some .int), Cond.fieldLink RX9 1 "ReflectModelsModel" "thrown" "I", Cond.constantLong RX9 126 (4), Cond.methodLink RX9 122 yX9_isClass, Cond.instanceMethod yX9_isClass, Cond.selects RX9 yX9_isClass yX9_isClass, Cond.code yX9_isClass cX9_isClass 2 (some .boolean)]
def wsL_law_r6 : List Cond := [Cond.methodLink RX9 115 yX9_in, Cond.static yX9_in, Cond.code yX9_in cX9_in 6 (some .boolean), Cond.methodLink RL 18 yX8_constants, Cond.instanceMethod yX8_constants, Cond.selects RX8 yX8_constants yX8_constants, Cond.code yX8_constants cX8_constants 4 (some .int), Cond.methodLink RL 22 yX9_constants, Cond.instanceMethod yX9_constants, Cond.selects RX9 yX9_constants yX9_constants, Cond.code yX9_constants cX9_constants 3 (some .int), Cond.methodLink RL 23 yX8_field, Cond.instanceMethod yX8_field, Cond.selects RX8 yX8_field yX8_field, Cond.code yX8_field cX8_field 9 (some .int), Cond.classLink RX8 109 RX1, Cond.instantiable RX1 9, Cond.initialized RX1, Cond.methodLink RX8 95 yX8_isMissingClass, Cond.instanceMethod yX8_isMissingClass, Cond.selects RX8 yX8_isMissingClass yX8_isMissingClass, Cond.code yX8_isMissingClass cX8_isMissingClass 2 (some .boolean), Cond.methodLink RX8 98 yX8_isOutsideName, Cond.static yX8_isOutsideName]
def wsL_law_r7 : List Cond := [Cond.code yX8_isOutsideName cX8_isOutsideName 1 (some .boolean), Cond.methodLink RX8 101 yX8_mayHaveField, Cond.static yX8_mayHaveField, Cond.code yX8_mayHaveField cX8_mayHaveField 3 (some .boolean), Cond.methodLink RX8 105 yX8_ownField, Cond.instanceMethod yX8_ownField, Cond.selects RX8 yX8_ownField yX8_ownField, Cond.code yX8_ownField cX8_ownField 6 (some .int), Cond.classLink RX8 109 "ReflectModels$Field", Cond.fieldLink RX8 326 "ReflectModels$Field" "owner" "LReflectModels$ClassModel;", Cond.sameField "ReflectModels$Field" "ReflectModels$Member" "owner" "LReflectModels$ClassModel;", Cond.instanceMethod yX1_init, Cond.code yX1_init cX1_init 8 none, Cond.fieldLink RX1 9 "ReflectModels$Field" "name" "I", Cond.fieldLink RX1 15 "ReflectModels$Field" "type" "I", Cond.fieldLink RX1 18 "ReflectModels$Field" "isFinal" "Z", Cond.fieldLink RX1 22 "ReflectModels$Field" "slot" "I", Cond.constantLong RX1 25 (-1), Cond.fieldLink RX1 27 "ReflectModels$Field" "first" "J", Cond.fieldLink RX1 31 "ReflectModels$Field" "held" "J", Cond.instanceMethod yX3_init, Cond.initialized RX3, Cond.code yX3_init cX3_init 4 none, Cond.methodLink RX3 1 objectInit]
def wsL_law_r8 : List Cond := [Cond.fieldLink RX3 7 "ReflectModels$Member" "owner" "LReflectModels$ClassModel;", Cond.fieldLink RX3 13 "ReflectModels$Member" "isStatic" "Z", Cond.fieldLink RX3 17 "ReflectModels$Member" "isHidden" "Z", Cond.methodLink RX8 114 yX8_addMember, Cond.instanceMethod yX8_addMember, Cond.selects RX8 yX8_addMember yX8_addMember, Cond.code yX8_addMember cX8_addMember 2 (some .int), Cond.fieldLink RX8 175 "ReflectModels$Member" "owner" "LReflectModels$ClassModel;", Cond.methodLink RL 27 yX9_field, Cond.instanceMethod yX9_field, Cond.selects RX9 yX9_field yX9_field, Cond.code yX9_field cX9_field 9 (some .int), Cond.constantLong RX9 134 (19), Cond.fieldLink RX9 119 "ReflectModelsModel" "objects" "I", Cond.fieldLink RX9 128 "ReflectModelsModel" "members" "I", Cond.methodLink RX9 131 yX9_isNoClass, Cond.instanceMethod yX9_isNoClass, Cond.selects RX9 yX9_isNoClass yX9_isNoClass, Cond.code yX9_isNoClass cX9_isNoClass 2 (some .boolean), Cond.methodLink RX9 136 yX9_hasField, Cond.instanceMethod yX9_hasField, Cond.selects RX9 yX9_hasField yX9_hasField, Cond.code yX9_hasField cX9_hasField 4 (some .boolean), Cond.methodLink RX9 140 yX9_first]
def wsL_law_r9 : List Cond := [Cond.instanceMethod yX9_first, Cond.selects RX9 yX9_first yX9_first, Cond.code yX9_first cX9_first 3 none, Cond.methodLink RL 28 yX8_method, Cond.instanceMethod yX8_method, Cond.selects RX8 yX8_method yX8_method, Cond.code yX8_method cX8_method 12 (some .int), Cond.classLink RX8 118 RX5, Cond.instantiable RX5 4, Cond.initialized RX5, Cond.classLink RX8 138 RX4, Cond.instantiable RX4 8, Cond.initialized RX4, Cond.fieldLink RX8 150 "ReflectModels$Method" "owner" "LReflectModels$ClassModel;", Cond.sameField "ReflectModels$Method" "ReflectModels$Member" "owner" "LReflectModels$ClassModel;", Cond.instanceMethod yX5_init, Cond.code yX5_init cX5_init 5 none, Cond.methodLink RX5 3 objectInit, Cond.fieldLink RX5 9 "ReflectModels$Signature" "name" "I", Cond.fieldLink RX5 15 "ReflectModels$Signature" "n" "I", Cond.fieldLink RX5 18 "ReflectModels$Signature" "first" "I", Cond.fieldLink RX5 21 "ReflectModels$Signature" "second" "I", Cond.methodLink RX8 123 yX8_hasMissingClass, Cond.instanceMethod yX8_hasMissingClass]
def wsL_law_r10 : List Cond := [Cond.selects RX8 yX8_hasMissingClass yX8_hasMissingClass, Cond.code yX8_hasMissingClass cX8_hasMissingClass 2 (some .boolean), Cond.instanceMethod yX5_isOutside, Cond.selects RX5 yX5_isOutside yX5_isOutside, Cond.code yX5_isOutside cX5_isOutside 1 (some .boolean), Cond.methodLink RX8 131 yX8_areOutsideMarks, Cond.static yX8_areOutsideMarks, Cond.code yX8_areOutsideMarks cX8_areOutsideMarks 1 (some .boolean), Cond.methodLink RX8 293 yX8_hasMark, Cond.static yX8_hasMark, Cond.code yX8_hasMark cX8_hasMark 2 (some .boolean), Cond.methodLink RX8 134 yX8_isOutsideBody, Cond.static yX8_isOutsideBody, Cond.code yX8_isOutsideBody cX8_isOutsideBody 2 (some .boolean), Cond.instanceMethod yX4_init, Cond.code yX4_init cX4_init 7 none, Cond.fieldLink RX4 13 "ReflectModels$Method" "signature" "LReflectModels$Signature;", Cond.fieldLink RX4 19 "ReflectModels$Method" "gives" "I", Cond.fieldLink RX4 23 "ReflectModels$Method" "isAbstract" "Z", Cond.fieldLink RX4 27 "ReflectModels$Method" "body" "I", Cond.fieldLink RX4 30 "ReflectModels$Method" "b" "I", Cond.methodLink RX8 143 yX8_mayHaveMethod, Cond.static yX8_mayHaveMethod, Cond.code yX8_mayHaveMethod cX8_mayHaveMethod 2 (some .boolean)]
def wsL_law_r11 : List Cond := [Cond.fieldLink RX8 299 "ReflectModels$Method" "isStatic" "Z", Cond.sameField "ReflectModels$Method" "ReflectModels$Member" "isStatic" "Z", Cond.methodLink RX8 147 yX8_bodySuits, Cond.instanceMethod yX8_bodySuits, Cond.selects RX8 yX8_bodySuits yX8_bodySuits, Cond.code yX8_bodySuits cX8_bodySuits 2 (some .boolean), Cond.instanceMethod yX5_startsWithInt, Cond.selects RX5 yX5_startsWithInt yX5_startsWithInt, Cond.code yX5_startsWithInt cX5_startsWithInt 1 (some .boolean), Cond.instanceMethod yX5_startsWithClass, Cond.selects RX5 yX5_startsWithClass yX5_startsWithClass, Cond.code yX5_startsWithClass cX5_startsWithClass 1 (some .boolean), Cond.methodLink RX8 321 yX8_fieldToRead, Cond.instanceMethod yX8_fieldToRead, Cond.selects RX8 yX8_fieldToRead yX8_fieldToRead, Cond.code yX8_fieldToRead cX8_fieldToRead 4 (some (.object "ReflectModels$Field")), Cond.fieldLink RX8 325 "ReflectModels$Field" "isStatic" "Z", Cond.sameField "ReflectModels$Field" "ReflectModels$Member" "isStatic" "Z", Cond.methodLink RX8 154 yX8_ownMethod, Cond.instanceMethod yX8_ownMethod, Cond.selects RX8 yX8_ownMethod yX8_ownMethod, Cond.code yX8_ownMethod cX8_ownMethod 6 (some .int), Cond.classLink RX8 138 "ReflectModels$Method", Cond.instanceMethod yX5_matches]
def wsL_law_r12 : List Cond := [Cond.selects RX5 yX5_matches yX5_matches, Cond.code yX5_matches cX5_matches 2 (some .boolean), Cond.methodLink RL 32 yX9_method, Cond.instanceMethod yX9_method, Cond.selects RX9 yX9_method yX9_method, Cond.code yX9_method cX9_method 14 (some .int), Cond.constantLong RX9 144 (2), Cond.constantLong RX9 146 (7), Cond.constantLong RX9 148 (99), Cond.methodLink RX9 150 yX9_bodyMay, Cond.instanceMethod yX9_bodyMay, Cond.selects RX9 yX9_bodyMay yX9_bodyMay, Cond.code yX9_bodyMay cX9_bodyMay 7 (some .boolean), Cond.methodLink RX9 154 yX9_isLike, Cond.instanceMethod yX9_isLike, Cond.selects RX9 yX9_isLike yX9_isLike, Cond.code yX9_isLike cX9_isLike 6 (some .boolean), Cond.methodLink RL 33 yX8_caller, Cond.instanceMethod yX8_caller, Cond.selects RX8 yX8_caller yX8_caller, Cond.code yX8_caller cX8_caller 3 (some .int), Cond.methodLink RL 37 yX9_caller, Cond.instanceMethod yX9_caller, Cond.selects RX9 yX9_caller yX9_caller]
def wsL_law_r13 : List Cond := [Cond.code yX9_caller cX9_caller 3 (some .int), Cond.fieldLink RX9 158 "ReflectModelsModel" "caller" "I", Cond.methodLink RL 38 yX8_findField, Cond.instanceMethod yX8_findField, Cond.selects RX8 yX8_findField yX8_findField, Cond.code yX8_findField cX8_findField 4 (some .int), Cond.methodLink RX8 158 yX8_visibleField, Cond.instanceMethod yX8_visibleField, Cond.selects RX8 yX8_visibleField yX8_visibleField, Cond.code yX8_visibleField cX8_visibleField 5 (some .int), Cond.fieldLink RX8 333 "ReflectModels$Member" "isHidden" "Z", Cond.methodLink RX8 161 yX8_addHandle, Cond.instanceMethod yX8_addHandle, Cond.selects RX8 yX8_addHandle yX8_addHandle, Cond.code yX8_addHandle cX8_addHandle 2 (some .int), Cond.instantiable RX2 3, Cond.initialized RX2, Cond.methodLink RX8 183 yX8_failed, Cond.instanceMethod yX8_failed, Cond.selects RX8 yX8_failed yX8_failed, Cond.code yX8_failed cX8_failed 2 (some .int), Cond.instanceMethod yX2_init, Cond.code yX2_init cX2_init 3 none, Cond.methodLink RX2 1 objectInit]
def wsL_law_r14 : List Cond := [Cond.fieldLink RX2 7 "ReflectModels$Handle" "hasLeave" "Z", Cond.fieldLink RX2 13 "ReflectModels$Handle" "memberNumber" "I", Cond.fieldLink RX2 17 "ReflectModels$Handle" "member" "LReflectModels$Member;", Cond.methodLink RL 42 yX9_findField, Cond.instanceMethod yX9_findField, Cond.selects RX9 yX9_findField yX9_findField, Cond.code yX9_findField cX9_findField 7 (some .int), Cond.methodLink RX9 168 yX9_newHandle, Cond.instanceMethod yX9_newHandle, Cond.selects RX9 yX9_newHandle yX9_newHandle, Cond.code yX9_newHandle cX9_newHandle 2 (some .int), Cond.fieldLink RX9 165 "ReflectModelsModel" "handles" "I", Cond.methodLink RX9 161 yX9_fails, Cond.instanceMethod yX9_fails, Cond.selects RX9 yX9_fails yX9_fails, Cond.code yX9_fails cX9_fails 2 (some .int), Cond.fieldLink RX9 112 "ReflectModelsModel" "lastFailure" "I", Cond.methodLink RL 43 yX8_findMethod, Cond.instanceMethod yX8_findMethod, Cond.selects RX8 yX8_findMethod yX8_findMethod, Cond.code yX8_findMethod cX8_findMethod 8 (some .int), Cond.methodLink RX8 165 yX8_visibleMethod, Cond.instanceMethod yX8_visibleMethod, Cond.selects RX8 yX8_visibleMethod yX8_visibleMethod]
def wsL_law_r15 : List Cond := [Cond.code yX8_visibleMethod cX8_visibleMethod 5 (some .int), Cond.methodLink RX8 336 yX8_visibleMethodUpward, Cond.instanceMethod yX8_visibleMethodUpward, Cond.selects RX8 yX8_visibleMethodUpward yX8_visibleMethodUpward, Cond.code yX8_visibleMethodUpward cX8_visibleMethodUpward 5 (some .int), Cond.methodLink RL 47 yX9_findMethod, Cond.instanceMethod yX9_findMethod, Cond.selects RX9 yX9_findMethod yX9_findMethod, Cond.code yX9_findMethod cX9_findMethod 9 (some .int), Cond.methodLink RX9 171 yX9_methodFrom, Cond.instanceMethod yX9_methodFrom, Cond.selects RX9 yX9_methodFrom yX9_methodFrom, Cond.code yX9_methodFrom cX9_methodFrom 9 (some .int), Cond.methodLink RL 48 yX8_leave, Cond.instanceMethod yX8_leave, Cond.selects RX8 yX8_leave yX8_leave, Cond.code yX8_leave cX8_leave 3 (some .int), Cond.methodLink RX8 168 yX8_isHandle, Cond.instanceMethod yX8_isHandle, Cond.selects RX8 yX8_isHandle yX8_isHandle, Cond.code yX8_isHandle cX8_isHandle 2 (some .boolean), Cond.methodLink RL 51 yX9_leave, Cond.instanceMethod yX9_leave, Cond.selects RX9 yX9_leave yX9_leave]
def wsL_law_r16 : List Cond := [Cond.code yX9_leave cX9_leave 3 (some .int), Cond.methodLink RX9 175 yX9_isHandle, Cond.instanceMethod yX9_isHandle, Cond.selects RX9 yX9_isHandle yX9_isHandle, Cond.code yX9_isHandle cX9_isHandle 2 (some .boolean), Cond.methodLink RL 54 yX8_value, Cond.instanceMethod yX8_value, Cond.selects RX8 yX8_value yX8_value, Cond.code yX8_value cX8_value 5 (some .int), Cond.constantLong RX8 191 (-2147483648), Cond.constantLong RX8 193 (2147483647), Cond.instanceMethod yX7_become, Cond.selects RX7 yX7_become yX7_become, Cond.code yX7_become cX7_become 4 none, Cond.methodLink RL 58 yX9_value, Cond.instanceMethod yX9_value, Cond.selects RX9 yX9_value yX9_value, Cond.code yX9_value cX9_value 5 (some .int), Cond.fieldLink RX9 188 "ReflectModelsModel" "values" "I", Cond.constantLong RX9 191 (3), Cond.methodLink RX9 184 yX9_isObject, Cond.instanceMethod yX9_isObject, Cond.selects RX9 yX9_isObject yX9_isObject, Cond.code yX9_isObject cX9_isObject 3 (some .boolean)]
def wsL_law_r17 : List Cond := [Cond.methodLink RL 59 yX8_get, Cond.instanceMethod yX8_get, Cond.selects RX8 yX8_get yX8_get, Cond.code yX8_get cX8_get 6 (some .int), Cond.methodLink RX8 199 yX8_isReceiver, Cond.instanceMethod yX8_isReceiver, Cond.selects RX8 yX8_isReceiver yX8_isReceiver, Cond.code yX8_isReceiver cX8_isReceiver 2 (some .boolean), Cond.methodLink RX8 273 yX8_isThing, Cond.instanceMethod yX8_isThing, Cond.selects RX8 yX8_isThing yX8_isThing, Cond.code yX8_isThing cX8_isThing 2 (some .boolean), Cond.methodLink RX8 202 yX8_getFailure, Cond.instanceMethod yX8_getFailure, Cond.selects RX8 yX8_getFailure yX8_getFailure, Cond.code yX8_getFailure cX8_getFailure 6 (some .int), Cond.methodLink RX8 283 yX8_mayUse, Cond.instanceMethod yX8_mayUse, Cond.selects RX8 yX8_mayUse yX8_mayUse, Cond.code yX8_mayUse cX8_mayUse 3 (some .boolean), Cond.methodLink RX8 356 yX8_reachFailure, Cond.instanceMethod yX8_reachFailure, Cond.selects RX8 yX8_reachFailure yX8_reachFailure, Cond.code yX8_reachFailure cX8_reachFailure 3 (some .int)]
def wsL_law_r18 : List Cond := [Cond.fieldLink RX8 351 "ReflectModels$Member" "isStatic" "Z", Cond.methodLink RX8 252 yX8_startFailure, Cond.instanceMethod yX8_startFailure, Cond.selects RX8 yX8_startFailure yX8_startFailure, Cond.code yX8_startFailure cX8_startFailure 4 (some .int), Cond.instanceMethod yX0_standsUnder, Cond.selects RX0 yX0_standsUnder yX0_standsUnder, Cond.code yX0_standsUnder cX0_standsUnder 2 (some .boolean), Cond.methodLink RX8 345 yX8_startAlone, Cond.instanceMethod yX8_startAlone, Cond.selects RX8 yX8_startAlone yX8_startAlone, Cond.code yX8_startAlone cX8_startAlone 3 (some .int), Cond.methodLink RX8 244 yX8_addThing, Cond.instanceMethod yX8_addThing, Cond.selects RX8 yX8_addThing yX8_addThing, Cond.code yX8_addThing cX8_addThing 4 (some .int), Cond.instantiable RX6 5, Cond.initialized RX6, Cond.methodLink RX8 375 yX8_firstSlots, Cond.instanceMethod yX8_firstSlots, Cond.selects RX8 yX8_firstSlots yX8_firstSlots, Cond.code yX8_firstSlots cX8_firstSlots 5 (some (.array .long)), Cond.instanceMethod yX6_init, Cond.code yX6_init cX6_init 5 none]
def wsL_law_r19 : List Cond := [Cond.methodLink RX6 1 objectInit, Cond.fieldLink RX6 7 "ReflectModels$Thing" "asked" "I", Cond.fieldLink RX6 13 "ReflectModels$Thing" "model" "LReflectModels$ClassModel;", Cond.fieldLink RX6 17 "ReflectModels$Thing" "handler" "I", Cond.fieldLink RX6 20 "ReflectModels$Thing" "slots" "[J", Cond.fieldLink RX6 29 "ReflectModels$Thing" "all" "I", Cond.methodLink RX8 352 yX8_receiverFailure, Cond.instanceMethod yX8_receiverFailure, Cond.selects RX8 yX8_receiverFailure yX8_receiverFailure, Cond.code yX8_receiverFailure cX8_receiverFailure 3 (some .int), Cond.instanceMethod yX6_isOf, Cond.selects RX6 yX6_isOf yX6_isOf, Cond.code yX6_isOf cX6_isOf 2 (some .boolean), Cond.methodLink RX8 209 yX8_heldIn, Cond.instanceMethod yX8_heldIn, Cond.selects RX8 yX8_heldIn yX8_heldIn, Cond.code yX8_heldIn cX8_heldIn 3 (some .long), Cond.methodLink RX8 391 yX8_hasSlot, Cond.instanceMethod yX8_hasSlot, Cond.selects RX8 yX8_hasSlot yX8_hasSlot, Cond.code yX8_hasSlot cX8_hasSlot 3 (some .boolean), Cond.instanceMethod yX7_load, Cond.selects RX7 yX7_load yX7_load, Cond.code yX7_load cX7_load 4 none]
def wsL_law_r20 : List Cond := [Cond.constantLong RX7 23 (-1), Cond.methodLink RX7 19 yX7_become, Cond.instanceMethod yX7_widenFor, Cond.selects RX7 yX7_widenFor yX7_widenFor, Cond.code yX7_widenFor cX7_widenFor 2 none, Cond.methodLink RL 63 yX9_get, Cond.instanceMethod yX9_get, Cond.selects RX9 yX9_get yX9_get, Cond.code yX9_get cX9_get 7 (some .int), Cond.constantLong RX9 206 (-2), Cond.fieldLink RX9 196 "ReflectModelsModel" "resultKind" "I", Cond.fieldLink RX9 199 "ReflectModelsModel" "result" "J", Cond.methodLink RX9 203 yX9_isReceiver, Cond.instanceMethod yX9_isReceiver, Cond.selects RX9 yX9_isReceiver yX9_isReceiver, Cond.code yX9_isReceiver cX9_isReceiver 2 (some .boolean), Cond.methodLink RX9 208 yX9_gone, Cond.instanceMethod yX9_gone, Cond.selects RX9 yX9_gone yX9_gone, Cond.code yX9_gone cX9_gone 1 none, Cond.methodLink RX9 211 yX9_may, Cond.instanceMethod yX9_may, Cond.selects RX9 yX9_may yX9_may, Cond.code yX9_may cX9_may 3 (some .boolean)]
def wsL_law_r21 : List Cond := [Cond.methodLink RX9 214 yX9_started, Cond.instanceMethod yX9_started, Cond.selects RX9 yX9_started yX9_started, Cond.code yX9_started cX9_started 9 (some .int), Cond.methodLink RX9 193 yX9_newObject, Cond.instanceMethod yX9_newObject, Cond.selects RX9 yX9_newObject yX9_newObject, Cond.code yX9_newObject cX9_newObject 4 (some .int), Cond.methodLink RX9 217 yX9_against, Cond.instanceMethod yX9_against, Cond.selects RX9 yX9_against yX9_against, Cond.code yX9_against cX9_against 3 (some .int), Cond.methodLink RX9 181 yX9_isOf, Cond.instanceMethod yX9_isOf, Cond.selects RX9 yX9_isOf yX9_isOf, Cond.code yX9_isOf cX9_isOf 4 (some .boolean), Cond.methodLink RX9 178 yX9_isUnder, Cond.instanceMethod yX9_isUnder, Cond.selects RX9 yX9_isUnder yX9_isUnder, Cond.code yX9_isUnder cX9_isUnder 4 (some .boolean), Cond.methodLink RL 64 yX8_set, Cond.instanceMethod yX8_set, Cond.selects RX8 yX8_set yX8_set, Cond.code yX8_set cX8_set 5 (some .int)]
def wsL_law_r22 : List Cond := [Cond.methodLink RX8 220 yX8_setFailure, Cond.instanceMethod yX8_setFailure, Cond.selects RX8 yX8_setFailure yX8_setFailure, Cond.code yX8_setFailure cX8_setFailure 6 (some .int), Cond.methodLink RX8 362 yX8_fits, Cond.instanceMethod yX8_fits, Cond.selects RX8 yX8_fits yX8_fits, Cond.code yX8_fits cX8_fits 3 (some .boolean), Cond.methodLink RX8 372 yX8_isObjectOf, Cond.instanceMethod yX8_isObjectOf, Cond.selects RX8 yX8_isObjectOf yX8_isObjectOf, Cond.code yX8_isObjectOf cX8_isObjectOf 3 (some .boolean), Cond.instanceMethod yX7_toHold, Cond.selects RX7 yX7_toHold yX7_toHold, Cond.code yX7_toHold cX7_toHold 1 (some .long), Cond.methodLink RX8 228 yX8_holdIn, Cond.instanceMethod yX8_holdIn, Cond.selects RX8 yX8_holdIn yX8_holdIn, Cond.code yX8_holdIn cX8_holdIn 5 none, Cond.methodLink RL 67 yX9_set, Cond.instanceMethod yX9_set, Cond.selects RX9 yX9_set yX9_set, Cond.code yX9_set cX9_set 6 (some .int), Cond.methodLink RX9 221 yX9_fits]
def wsL_law_r23 : List Cond := [Cond.instanceMethod yX9_fits, Cond.selects RX9 yX9_fits yX9_fits, Cond.code yX9_fits cX9_fits 5 (some .boolean), Cond.methodLink RX9 225 yX9_store, Cond.instanceMethod yX9_store, Cond.selects RX9 yX9_store yX9_store, Cond.code yX9_store cX9_store 4 none, Cond.methodLink RL 68 yX8_call, Cond.instanceMethod yX8_call, Cond.selects RX8 yX8_call yX8_call, Cond.code yX8_call cX8_call 6 (some .int), Cond.methodLink RX8 232 yX8_callFailure, Cond.instanceMethod yX8_callFailure, Cond.selects RX8 yX8_callFailure yX8_callFailure, Cond.code yX8_callFailure cX8_callFailure 5 (some .int), Cond.methodLink RX8 366 yX8_valuesFit, Cond.instanceMethod yX8_valuesFit, Cond.selects RX8 yX8_valuesFit yX8_valuesFit, Cond.code yX8_valuesFit cX8_valuesFit 2 (some .boolean), Cond.methodLink RX8 236 yX8_perform, Cond.instanceMethod yX8_perform, Cond.selects RX8 yX8_perform yX8_perform, Cond.code yX8_perform cX8_perform 5 (some .int), Cond.methodLink RX8 398 yX8_isAnsweredByHandler]
def wsL_law_r24 : List Cond := [Cond.instanceMethod yX8_isAnsweredByHandler, Cond.selects RX8 yX8_isAnsweredByHandler yX8_isAnsweredByHandler, Cond.code yX8_isAnsweredByHandler cX8_isAnsweredByHandler 3 (some .boolean), Cond.methodLink RX8 402 yX8_askHandler, Cond.instanceMethod yX8_askHandler, Cond.selects RX8 yX8_askHandler yX8_askHandler, Cond.code yX8_askHandler cX8_askHandler 3 (some .int), Cond.methodLink RX8 425 yX8_echoFirst, Cond.instanceMethod yX8_echoFirst, Cond.selects RX8 yX8_echoFirst yX8_echoFirst, Cond.code yX8_echoFirst cX8_echoFirst 2 none, Cond.methodLink RX8 409 yX8_fitOutcome, Cond.instanceMethod yX8_fitOutcome, Cond.selects RX8 yX8_fitOutcome yX8_fitOutcome, Cond.code yX8_fitOutcome cX8_fitOutcome 2 (some .int), Cond.methodLink RX8 412 yX8_methodToDo, Cond.instanceMethod yX8_methodToDo, Cond.selects RX8 yX8_methodToDo yX8_methodToDo, Cond.code yX8_methodToDo cX8_methodToDo 7 (some (.object "ReflectModels$Method")), Cond.fieldLink RX8 429 "ReflectModels$Method" "isHidden" "Z", Cond.sameField "ReflectModels$Method" "ReflectModels$Member" "isHidden" "Z", Cond.instanceMethod yX4_canBeChosen, Cond.selects RX4 yX4_canBeChosen yX4_canBeChosen, Cond.code yX4_canBeChosen cX4_canBeChosen 1 (some .boolean)]
def wsL_law_r25 : List Cond := [Cond.fieldLink RX4 33 "ReflectModels$Method" "isHidden" "Z", Cond.fieldLink RX4 36 "ReflectModels$Method" "isStatic" "Z", Cond.methodLink RX8 416 yX8_runBody, Cond.instanceMethod yX8_runBody, Cond.selects RX8 yX8_runBody yX8_runBody, Cond.code yX8_runBody cX8_runBody 3 (some .int), Cond.methodLink RX8 436 yX8_divide, Cond.instanceMethod yX8_divide, Cond.selects RX8 yX8_divide yX8_divide, Cond.code yX8_divide cX8_divide 2 (some .int), Cond.methodLink RX8 440 yX8_castFirst, Cond.instanceMethod yX8_castFirst, Cond.selects RX8 yX8_castFirst yX8_castFirst, Cond.code yX8_castFirst cX8_castFirst 2 (some .int), Cond.methodLink RX8 443 yX8_readFieldOfFirst, Cond.instanceMethod yX8_readFieldOfFirst, Cond.selects RX8 yX8_readFieldOfFirst yX8_readFieldOfFirst, Cond.code yX8_readFieldOfFirst cX8_readFieldOfFirst 3 (some .int), Cond.methodLink RX8 446 yX8_pickItem, Cond.instanceMethod yX8_pickItem, Cond.selects RX8 yX8_pickItem yX8_pickItem, Cond.code yX8_pickItem cX8_pickItem 4 (some .int), Cond.constantLong RX8 457 (3), Cond.methodLink RX8 449 yX8_storeFirst]
def wsL_law_r26 : List Cond := [Cond.instanceMethod yX8_storeFirst, Cond.selects RX8 yX8_storeFirst yX8_storeFirst, Cond.code yX8_storeFirst cX8_storeFirst 2 (some .int), Cond.instanceMethod yX7_becomeGiven, Cond.selects RX7 yX7_becomeGiven yX7_becomeGiven, Cond.code yX7_becomeGiven cX7_becomeGiven 3 none, Cond.methodLink RL 71 yX9_call, Cond.instanceMethod yX9_call, Cond.selects RX9 yX9_call yX9_call, Cond.code yX9_call cX9_call 8 (some .int), Cond.methodLink RX9 239 yX9_valuesFit, Cond.instanceMethod yX9_valuesFit, Cond.selects RX9 yX9_valuesFit yX9_valuesFit, Cond.code yX9_valuesFit cX9_valuesFit 4 (some .boolean), Cond.methodLink RX9 242 yX9_runs, Cond.instanceMethod yX9_runs, Cond.selects RX9 yX9_runs yX9_runs, Cond.code yX9_runs cX9_runs 7 (some .int), Cond.methodLink RX9 235 yX9_comes, Cond.instanceMethod yX9_comes, Cond.selects RX9 yX9_comes yX9_comes, Cond.code yX9_comes cX9_comes 6 (some .int), Cond.methodLink RX9 232 yX9_wraps, Cond.instanceMethod yX9_wraps]
def wsL_law_r27 : List Cond := [Cond.selects RX9 yX9_wraps yX9_wraps, Cond.code yX9_wraps cX9_wraps 2 (some .int), Cond.fieldLink RX9 229 "ReflectModelsModel" "cause" "I", Cond.methodLink RX9 245 yX9_byHandler, Cond.instanceMethod yX9_byHandler, Cond.selects RX9 yX9_byHandler yX9_byHandler, Cond.code yX9_byHandler cX9_byHandler 4 (some .int), Cond.methodLink RL 72 yX8_make, Cond.instanceMethod yX8_make, Cond.selects RX8 yX8_make yX8_make, Cond.code yX8_make cX8_make 4 (some .int), Cond.methodLink RX8 240 yX8_makeFailure, Cond.instanceMethod yX8_makeFailure, Cond.selects RX8 yX8_makeFailure yX8_makeFailure, Cond.code yX8_makeFailure cX8_makeFailure 3 (some .int), Cond.methodLink RX8 369 yX8_recordFits, Cond.instanceMethod yX8_recordFits, Cond.selects RX8 yX8_recordFits yX8_recordFits, Cond.code yX8_recordFits cX8_recordFits 6 (some .boolean), Cond.methodLink RX8 248 yX8_fillRecord, Cond.instanceMethod yX8_fillRecord, Cond.selects RX8 yX8_fillRecord yX8_fillRecord, Cond.code yX8_fillRecord cX8_fillRecord 7 none, Cond.methodLink RL 75 yX9_make]
def wsL_law_r28 : List Cond := [Cond.instanceMethod yX9_make, Cond.selects RX9 yX9_make yX9_make, Cond.code yX9_make cX9_make 6 (some .int), Cond.methodLink RX9 248 yX9_recordFits, Cond.instanceMethod yX9_recordFits, Cond.selects RX9 yX9_recordFits yX9_recordFits, Cond.code yX9_recordFits cX9_recordFits 5 (some .boolean), Cond.methodLink RL 76 yX8_proxy, Cond.instanceMethod yX8_proxy, Cond.selects RX8 yX8_proxy yX8_proxy, Cond.code yX8_proxy cX8_proxy 3 (some .int), Cond.methodLink RL 79 yX9_proxy, Cond.instanceMethod yX9_proxy, Cond.selects RX9 yX9_proxy yX9_proxy, Cond.code yX9_proxy cX9_proxy 4 (some .int), Cond.methodLink RL 80 yX8_constant, Cond.instanceMethod yX8_constant, Cond.selects RX8 yX8_constant yX8_constant, Cond.code yX8_constant cX8_constant 5 (some .int), Cond.methodLink RL 83 yX9_constant, Cond.instanceMethod yX9_constant, Cond.selects RX9 yX9_constant yX9_constant, Cond.code yX9_constant cX9_constant 4 (some .int), Cond.methodLink RL 84 yX8_start]
def wsL_law_r29 : List Cond := [Cond.instanceMethod yX8_start, Cond.selects RX8 yX8_start yX8_start, Cond.code yX8_start cX8_start 3 (some .int), Cond.methodLink RL 87 yX9_start, Cond.instanceMethod yX9_start, Cond.selects RX9 yX9_start yX9_start, Cond.code yX9_start cX9_start 3 (some .int), Cond.methodLink RL 88 yX8_resultKind, Cond.instanceMethod yX8_resultKind, Cond.selects RX8 yX8_resultKind yX8_resultKind, Cond.code yX8_resultKind cX8_resultKind 1 (some .int), Cond.methodLink RL 92 yX9_resultKind, Cond.instanceMethod yX9_resultKind, Cond.selects RX9 yX9_resultKind yX9_resultKind, Cond.code yX9_resultKind cX9_resultKind 1 (some .int), Cond.methodLink RL 93 yX8_result, Cond.instanceMethod yX8_result, Cond.selects RX8 yX8_result yX8_result, Cond.code yX8_result cX8_result 1 (some .long), Cond.methodLink RL 97 yX9_result, Cond.instanceMethod yX9_result, Cond.selects RX9 yX9_result yX9_result, Cond.code yX9_result cX9_result 1 (some .long), Cond.methodLink RL 98 yX8_cause]
def wsL_law_r30 : List Cond := [Cond.instanceMethod yX8_cause, Cond.selects RX8 yX8_cause yX8_cause, Cond.code yX8_cause cX8_cause 1 (some .int), Cond.methodLink RL 101 yX9_cause, Cond.instanceMethod yX9_cause, Cond.selects RX9 yX9_cause yX9_cause, Cond.code yX9_cause cX9_cause 1 (some .int), Cond.methodLink RL 102 yX8_about, Cond.instanceMethod yX8_about, Cond.selects RX8 yX8_about yX8_about, Cond.code yX8_about cX8_about 4 (some .int), Cond.methodLink RL 105 yX9_about, Cond.instanceMethod yX9_about, Cond.selects RX9 yX9_about yX9_about, Cond.code yX9_about cX9_about 5 (some .int), Cond.methodLink RL 106 yX8_is, Cond.instanceMethod yX8_is, Cond.selects RX8 yX8_is yX8_is, Cond.code yX8_is cX8_is 3 (some .int), Cond.methodLink RL 109 yX9_is, Cond.instanceMethod yX9_is, Cond.selects RX9 yX9_is yX9_is, Cond.code yX9_is cX9_is 3 (some .int), Cond.methodLink RL 110 yX8_handle]
def wsL_law_r31 : List Cond := [Cond.instanceMethod yX8_handle, Cond.selects RX8 yX8_handle yX8_handle, Cond.code yX8_handle cX8_handle 3 (some .int), Cond.methodLink RL 113 yX9_handle, Cond.instanceMethod yX9_handle, Cond.selects RX9 yX9_handle yX9_handle, Cond.code yX9_handle cX9_handle 3 (some .int), Cond.methodLink RL 114 yX8_told, Cond.instanceMethod yX8_told, Cond.selects RX8 yX8_told yX8_told, Cond.code yX8_told cX8_told 2 (some .int), Cond.methodLink RL 117 yX9_told, Cond.instanceMethod yX9_told, Cond.selects RX9 yX9_told yX9_told, Cond.code yX9_told cX9_told 2 (some .int)]
def wsL_law : List Cond := (wsL_law_r1 ++ (wsL_law_r2 ++ (wsL_law_r3 ++ (wsL_law_r4 ++ (wsL_law_r5 ++ (wsL_law_r6 ++ (wsL_law_r7 ++ (wsL_law_r8 ++ (wsL_law_r9 ++ (wsL_law_r10 ++ (wsL_law_r11 ++ (wsL_law_r12 ++ (wsL_law_r13 ++ (wsL_law_r14 ++ (wsL_law_r15 ++ (wsL_law_r16 ++ (wsL_law_r17 ++ (wsL_law_r18 ++ (wsL_law_r19 ++ (wsL_law_r20 ++ (wsL_law_r21 ++ (wsL_law_r22 ++ (wsL_law_r23 ++ (wsL_law_r24 ++ (wsL_law_r25 ++ (wsL_law_r26 ++ (wsL_law_r27 ++ (wsL_law_r28 ++ (wsL_law_r29 ++ (wsL_law_r30 ++ wsL_law_r31)))))))))))))))))))))))))))))) ++ wsX80 ++ wsX90 ++ wsX70 ++ wsX00 ++ wsX10 ++ wsX40 ++ wsX50 ++ wsX20 ++ wsX60 ++ ([] : List Cond)
abbrev vwCl : List vw_C := [(RX0, TX0, 12), (RX1, TX1, 9), (RX2, TX2, 3), (RX4, TX4, 8), (RX5, TX5, 4), (RX6, TX6, 5), (RX7, TX7, 2), (RX8, TX8, 15), (RX9, TX9, 42)]
end
section
set_option maxRecDepth 20000 in
theorem ggX1_init_X3_init : GoodIn wsX1_init wsX3_init := goodIn_r _ [10, 11, 12, 13, 14, 15, 16, 17, 18, 19, 20, 21, 22, 23, 24, 25, 26, 27, 28, 29, 30, 31, 32, 33] (by decide +kernel) (by decide +kernel)
set_option maxRecDepth 20000 in
theorem gX1_init_X3_init_n3 : GoodIn wsX1_init (wsX3_init) := ggX1_init_X3_init
set_option maxRecDepth 20000 in
theorem ggX5_isOutside_X8_isOutsideName : GoodIn wsX5_isOutside wsX8_isOutsideName := goodIn_r _ [7] (by decide +kernel) (by decide +kernel)
set_option maxRecDepth 20000 in
theorem gX5_isOutside_X8_isOutsideName_n24 : GoodIn wsX5_isOutside (wsX8_isOutsideName) := ggX5_isOutside_X8_isOutsideName
set_option maxRecDepth 20000 in
theorem ggX8_init_X7_init : GoodIn wsX8_init wsX7_init := goodIn_r _ [29, 30, 2, 3, 31, 32, 63, 64] (by decide +kernel) (by decide +kernel)
set_option maxRecDepth 20000 in
theorem gX8_init_X7_init_n61 : GoodIn wsX8_init (wsX7_init) := ggX8_init_X7_init
set_option maxRecDepth 20000 in
theorem ggX8_init_X0_init : GoodIn wsX8_init wsX0_init := goodIn_r _ [34, 35, 2, 3, 36, 37, 38, 39, 40, 41, 42, 43, 44, 45, 46, 47, 65, 66, 67, 68, 69, 70, 71, 72, 73, 74, 75, 76] (by decide +kernel) (by decide +kernel)
set_option maxRecDepth 20000 in
theorem gX8_init_X0_init_n72 : GoodIn wsX8_init (wsX0_init) := ggX8_init_X0_init
set_option maxRecDepth 20000 in
theorem ggX8_type_X8_isClass : GoodIn wsX8_type wsX8_isClass := goodIn_r _ [10, 2, 34, 35, 36, 37, 38, 39, 40, 41, 42, 43, 44, 45, 46, 47, 48] (by decide +kernel) (by decide +kernel)
set_option maxRecDepth 20000 in
theorem gX8_type_X8_isClass : GoodIn wsX8_type (wsV RX8 75 RX8 yX8_isClass wsX8_isClass) := goodIn_app (goodIn_of _ (by decide +kernel)) ggX8_type_X8_isClass
set_option maxRecDepth 20000 in
theorem ggX8_type_X8_mayHaveAbove : GoodIn wsX8_type wsX8_mayHaveAbove := goodIn_r _ [13, 49, 50, 51, 52, 53, 54, 55, 56, 57, 58, 59, 60] (by decide +kernel) (by decide +kernel)
set_option maxRecDepth 20000 in
theorem gX8_type_X8_mayHaveAbove : GoodIn wsX8_type (va_wsS RX8 79 yX8_mayHaveAbove wsX8_mayHaveAbove) := goodIn_app (goodIn_of _ (by decide +kernel)) ggX8_type_X8_mayHaveAbove
set_option maxRecDepth 20000 in
theorem ggX8_type_X8_mayActAs : GoodIn wsX8_type wsX8_mayActAs := goodIn_r _ [16, 49, 50, 51, 52, 53, 54, 55, 56, 57, 58, 59, 60] (by decide +kernel) (by decide +kernel)
set_option maxRecDepth 20000 in
theorem gX8_type_X8_mayActAs : GoodIn wsX8_type (va_wsS RX8 83 yX8_mayActAs wsX8_mayActAs) := goodIn_app (goodIn_of _ (by decide +kernel)) ggX8_type_X8_mayActAs
set_option maxRecDepth 20000 in
theorem ggX8_type_X0_init : GoodIn wsX8_type wsX0_init := goodIn_r _ [18, 19, 20, 21, 22, 23, 24, 25, 26, 27, 28, 29, 30, 31, 32, 33, 49, 50, 51, 52, 53, 54, 55, 56, 57, 58, 59, 60] (by decide +kernel) (by decide +kernel)
set_option maxRecDepth 20000 in
theorem gX8_type_X0_init_n72 : GoodIn wsX8_type (wsX0_init) := ggX8_type_X0_init
set_option maxRecDepth 20000 in
theorem ggX8_constants_X8_isClass : GoodIn wsX8_constants wsX8_isClass := goodIn_r _ [6, 7, 8, 9, 10, 11, 12, 13, 14, 15, 16, 17, 18, 19, 20, 21, 22] (by decide +kernel) (by decide +kernel)
set_option maxRecDepth 20000 in
theorem gX8_constants_X8_isClass : GoodIn wsX8_constants (wsV RX8 75 RX8 yX8_isClass wsX8_isClass) := goodIn_app (goodIn_of _ (by decide +kernel)) ggX8_constants_X8_isClass
set_option maxRecDepth 20000 in
theorem ggX8_field_X8_isClass : GoodIn wsX8_field wsX8_isClass := goodIn_r _ [12, 13, 55, 56, 57, 58, 59, 60, 61, 62, 63, 64, 65, 66, 67, 68, 69] (by decide +kernel) (by decide +kernel)
set_option maxRecDepth 20000 in
theorem gX8_field_X8_isClass : GoodIn wsX8_field (wsV RX8 75 RX8 yX8_isClass wsX8_isClass) := goodIn_app (goodIn_of _ (by decide +kernel)) ggX8_field_X8_isClass
set_option maxRecDepth 20000 in
theorem ggX8_field_X8_isMissingClass : GoodIn wsX8_field wsX8_isMissingClass := goodIn_r _ [17, 13, 55, 56, 57, 58, 59, 60, 61, 62, 63, 64, 65, 66, 67, 68, 69] (by decide +kernel) (by decide +kernel)
set_option maxRecDepth 20000 in
theorem gX8_field_X8_isMissingClass : GoodIn wsX8_field (wsV RX8 95 RX8 yX8_isMissingClass wsX8_isMissingClass) := goodIn_app (goodIn_of _ (by decide +kernel)) ggX8_field_X8_isMissingClass
set_option maxRecDepth 20000 in
theorem ggX8_field_X8_isOutsideName : GoodIn wsX8_field wsX8_isOutsideName := goodIn_r _ [20] (by decide +kernel) (by decide +kernel)
set_option maxRecDepth 20000 in
theorem gX8_field_X8_isOutsideName : GoodIn wsX8_field (va_wsS RX8 98 yX8_isOutsideName wsX8_isOutsideName) := goodIn_app (goodIn_of _ (by decide +kernel)) ggX8_field_X8_isOutsideName
set_option maxRecDepth 20000 in
theorem ggX8_field_X8_mayHaveField : GoodIn wsX8_field wsX8_mayHaveField := goodIn_r _ [23, 79, 80, 81, 82, 83, 84, 85, 86, 87, 88, 89, 90] (by decide +kernel) (by decide +kernel)
set_option maxRecDepth 20000 in
theorem gX8_field_X8_mayHaveField : GoodIn wsX8_field (va_wsS RX8 101 yX8_mayHaveField wsX8_mayHaveField) := goodIn_app (goodIn_of _ (by decide +kernel)) ggX8_field_X8_mayHaveField
set_option maxRecDepth 20000 in
theorem ggX8_field_X8_ownField : GoodIn wsX8_field wsX8_ownField := goodIn_r _ [27, 3, 28, 29, 30, 31, 55, 56, 57, 58, 59, 60, 61, 62, 63, 64, 65, 66, 67, 68, 69, 70, 71, 72, 73, 74, 75, 76, 77, 78, 91, 92, 93, 94, 95, 96, 97, 98] (by decide +kernel) (by decide +kernel)
set_option maxRecDepth 20000 in
theorem gX8_field_X8_ownField : GoodIn wsX8_field (wsV RX8 105 RX8 yX8_ownField wsX8_ownField) := goodIn_app (goodIn_of _ (by decide +kernel)) ggX8_field_X8_ownField
set_option maxRecDepth 20000 in
theorem ggX8_field_X1_init : GoodIn wsX8_field wsX1_init := goodIn_r _ [33, 34, 35, 36, 37, 38, 39, 40, 41, 42, 43, 44, 45, 46, 47, 48, 49, 70, 71, 72, 73, 74, 75, 76, 77, 78, 91, 92, 93, 94, 95, 96, 97, 98] (by decide +kernel) (by decide +kernel)
set_option maxRecDepth 20000 in
theorem gX8_field_X1_init_n111 : GoodIn wsX8_field (wsX1_init) := ggX8_field_X1_init
set_option maxRecDepth 20000 in
theorem ggX8_field_X8_addMember : GoodIn wsX8_field wsX8_addMember := goodIn_r _ [53, 28, 3, 54, 55, 56, 57, 58, 59, 60, 61, 62, 63, 64, 65, 66, 67, 68, 69, 70, 71, 72, 73, 74, 75, 76, 77, 78, 91, 92, 93, 94, 95, 96, 97, 98, 79, 80, 81, 82, 83, 84, 85, 86, 87, 88, 89, 90] (by decide +kernel) (by decide +kernel)
set_option maxRecDepth 20000 in
theorem gX8_field_X8_addMember : GoodIn wsX8_field (wsV RX8 114 RX8 yX8_addMember wsX8_addMember) := goodIn_app (goodIn_of _ (by decide +kernel)) ggX8_field_X8_addMember
set_option maxRecDepth 20000 in
theorem ggX8_caller_X8_isClass : GoodIn wsX8_caller wsX8_isClass := goodIn_r _ [6, 7, 8, 9, 10, 11, 12, 13, 14, 15, 16, 17, 18, 19, 20, 21, 22] (by decide +kernel) (by decide +kernel)
set_option maxRecDepth 20000 in
theorem gX8_caller_X8_isClass : GoodIn wsX8_caller (wsV RX8 75 RX8 yX8_isClass wsX8_isClass) := goodIn_app (goodIn_of _ (by decide +kernel)) ggX8_caller_X8_isClass
set_option maxRecDepth 20000 in
theorem ggX8_findField_X8_isClass : GoodIn wsX8_findField wsX8_isClass := goodIn_r _ [6, 7, 47, 48, 49, 50, 51, 52, 53, 54, 55, 56, 57, 58, 59, 60, 61] (by decide +kernel) (by decide +kernel)
set_option maxRecDepth 20000 in
theorem gX8_findField_X8_isClass : GoodIn wsX8_findField (wsV RX8 75 RX8 yX8_isClass wsX8_isClass) := goodIn_app (goodIn_of _ (by decide +kernel)) ggX8_findField_X8_isClass
set_option maxRecDepth 20000 in
theorem ggX8_findField_X8_isOutsideName : GoodIn wsX8_findField wsX8_isOutsideName := goodIn_r _ [10] (by decide +kernel) (by decide +kernel)
set_option maxRecDepth 20000 in
theorem gX8_findField_X8_isOutsideName : GoodIn wsX8_findField (va_wsS RX8 98 yX8_isOutsideName wsX8_isOutsideName) := goodIn_app (goodIn_of _ (by decide +kernel)) ggX8_findField_X8_isOutsideName
set_option maxRecDepth 20000 in
theorem ggX8_findField_X8_visibleField : GoodIn wsX8_findField wsX8_visibleField := goodIn_r _ [14, 15, 16, 17, 18, 19, 5, 20, 21, 22, 23, 24, 47, 48, 49, 50, 51, 52, 53, 54, 55, 56, 57, 58, 59, 60, 61, 62, 63, 64, 65, 66, 67, 68, 69, 70, 71, 72, 73, 74, 75, 76, 77, 78, 79, 80, 81, 82, 83, 84, 85, 86, 87, 88, 89, 90] (by decide +kernel) (by decide +kernel)
set_option maxRecDepth 20000 in
theorem gX8_findField_X8_visibleField : GoodIn wsX8_findField (wsV RX8 158 RX8 yX8_visibleField wsX8_visibleField) := goodIn_app (goodIn_of _ (by decide +kernel)) ggX8_findField_X8_visibleField
set_option maxRecDepth 20000 in
theorem ggX8_findField_X8_ownField : GoodIn wsX8_findField wsX8_ownField := goodIn_r _ [20, 21, 15, 22, 23, 24, 47, 48, 49, 50, 51, 52, 53, 54, 55, 56, 57, 58, 59, 60, 61, 62, 63, 64, 65, 66, 67, 68, 69, 70, 71, 72, 73, 74, 75, 76, 77, 78] (by decide +kernel) (by decide +kernel)
set_option maxRecDepth 20000 in
theorem gX8_findField_X8_ownField : GoodIn wsX8_findField (wsV RX8 105 RX8 yX8_ownField wsX8_ownField) := goodIn_app (goodIn_of _ (by decide +kernel)) ggX8_findField_X8_ownField
set_option maxRecDepth 20000 in
theorem ggX8_findField_X8_addHandle : GoodIn wsX8_findField wsX8_addHandle := goodIn_r _ [28, 29, 30, 31, 32, 33, 15, 34, 35, 36, 5, 37, 38, 39, 40, 41, 42, 43, 44, 45, 46, 47, 48, 49, 50, 51, 52, 53, 54, 55, 56, 57, 58, 59, 60, 61, 91, 92, 93] (by decide +kernel) (by decide +kernel)
set_option maxRecDepth 20000 in
theorem gX8_findField_X8_addHandle : GoodIn wsX8_findField (wsV RX8 161 RX8 yX8_addHandle wsX8_addHandle) := goodIn_app (goodIn_of _ (by decide +kernel)) ggX8_findField_X8_addHandle
set_option maxRecDepth 20000 in
theorem ggX8_findMethod_X5_init : GoodIn wsX8_findMethod wsX5_init := goodIn_r _ [6, 7, 8, 9, 10, 11, 12, 13, 74, 75, 76, 77] (by decide +kernel) (by decide +kernel)
set_option maxRecDepth 20000 in
theorem gX8_findMethod_X5_init_n120 : GoodIn wsX8_findMethod (wsX5_init) := ggX8_findMethod_X5_init
set_option maxRecDepth 20000 in
theorem ggX8_findMethod_X8_isClass : GoodIn wsX8_findMethod wsX8_isClass := goodIn_r _ [18, 19, 78, 79, 80, 81, 82, 83, 84, 85, 86, 87, 88, 89, 90, 91, 92] (by decide +kernel) (by decide +kernel)
set_option maxRecDepth 20000 in
theorem gX8_findMethod_X8_isClass : GoodIn wsX8_findMethod (wsV RX8 75 RX8 yX8_isClass wsX8_isClass) := goodIn_app (goodIn_of _ (by decide +kernel)) ggX8_findMethod_X8_isClass
set_option maxRecDepth 20000 in
theorem ggX8_findMethod_X8_hasMissingClass : GoodIn wsX8_findMethod wsX8_hasMissingClass := goodIn_r _ [23, 24, 25, 26, 17, 27, 19, 74, 75, 76, 77, 78, 79, 80, 81, 82, 83, 84, 85, 86, 87, 88, 89, 90, 91, 92] (by decide +kernel) (by decide +kernel)
set_option maxRecDepth 20000 in
theorem gX8_findMethod_X8_hasMissingClass : GoodIn wsX8_findMethod (wsV RX8 123 RX8 yX8_hasMissingClass wsX8_hasMissingClass) := goodIn_app (goodIn_of _ (by decide +kernel)) ggX8_findMethod_X8_hasMissingClass
set_option maxRecDepth 20000 in
theorem ggX8_findMethod_X5_isOutside : GoodIn wsX8_findMethod wsX5_isOutside := goodIn_r _ [30, 10, 11, 12, 13, 31, 17, 32, 74, 75, 76, 77] (by decide +kernel) (by decide +kernel)
set_option maxRecDepth 20000 in
theorem gX8_findMethod_X5_isOutside_n127 : GoodIn wsX8_findMethod (wsX5_isOutside) := ggX8_findMethod_X5_isOutside
set_option maxRecDepth 20000 in
theorem ggX8_findMethod_X8_visibleMethod : GoodIn wsX8_findMethod wsX8_visibleMethod := goodIn_r _ [36, 37, 38, 39, 17, 40, 41, 42, 43, 44, 45, 46, 47, 48, 49, 50, 51, 3, 52, 53, 10, 11, 12, 13, 93, 94, 95, 96, 97, 98, 99, 100, 101, 102, 103, 104, 78, 79, 80, 81, 82, 83, 84, 85, 86, 87, 88, 89, 90, 91, 92, 105, 106, 107, 108, 109, 110, 111, 112, 113, 114, 115, 116, 117, 118, 119, 120, 121, 74, 75, 76, 77] (by decide +kernel) (by decide +kernel)
set_option maxRecDepth 20000 in
theorem gX8_findMethod_X8_visibleMethod : GoodIn wsX8_findMethod (wsV RX8 165 RX8 yX8_visibleMethod wsX8_visibleMethod) := goodIn_app (goodIn_of _ (by decide +kernel)) ggX8_findMethod_X8_visibleMethod
set_option maxRecDepth 20000 in
theorem ggX8_findMethod_X8_ownMethod : GoodIn wsX8_findMethod wsX8_ownMethod := goodIn_r _ [46, 47, 41, 48, 49, 50, 51, 3, 52, 53, 10, 11, 12, 13, 78, 79, 80, 81, 82, 83, 84, 85, 86, 87, 88, 89, 90, 91, 92, 105, 106, 107, 108, 109, 110, 111, 112, 113, 114, 115, 116, 117, 118, 119, 120, 121, 74, 75, 76, 77] (by decide +kernel) (by decide +kernel)
set_option maxRecDepth 20000 in
theorem gX8_findMethod_X8_ownMethod : GoodIn wsX8_findMethod (wsV RX8 154 RX8 yX8_ownMethod wsX8_ownMethod) := goodIn_app (goodIn_of _ (by decide +kernel)) ggX8_findMethod_X8_ownMethod
set_option maxRecDepth 20000 in
theorem ggX8_findMethod_X8_addHandle : GoodIn wsX8_findMethod wsX8_addHandle := goodIn_r _ [57, 58, 59, 60, 61, 62, 41, 63, 64, 65, 17, 66, 67, 68, 69, 70, 8, 9, 71, 72, 73, 78, 79, 80, 81, 82, 83, 84, 85, 86, 87, 88, 89, 90, 91, 92, 122, 123, 124] (by decide +kernel) (by decide +kernel)
set_option maxRecDepth 20000 in
theorem gX8_findMethod_X8_addHandle : GoodIn wsX8_findMethod (wsV RX8 161 RX8 yX8_addHandle wsX8_addHandle) := goodIn_app (goodIn_of _ (by decide +kernel)) ggX8_findMethod_X8_addHandle
set_option maxRecDepth 20000 in
theorem ggX8_leave_X8_isHandle : GoodIn wsX8_leave wsX8_isHandle := goodIn_r _ [8, 9, 15, 16, 17, 18, 19, 20, 21, 22, 23, 24, 25, 26, 27, 28, 29] (by decide +kernel) (by decide +kernel)
set_option maxRecDepth 20000 in
theorem gX8_leave_X8_isHandle : GoodIn wsX8_leave (wsV RX8 168 RX8 yX8_isHandle wsX8_isHandle) := goodIn_app (goodIn_of _ (by decide +kernel)) ggX8_leave_X8_isHandle
set_option maxRecDepth 20000 in
theorem ggX8_get_X8_isHandle : GoodIn wsX8_get wsX8_isHandle := goodIn_r _ [8, 9, 113, 114, 115, 116, 117, 118, 119, 120, 121, 122, 123, 124, 125, 126, 127] (by decide +kernel) (by decide +kernel)
set_option maxRecDepth 20000 in
theorem gX8_get_X8_isHandle : GoodIn wsX8_get (wsV RX8 168 RX8 yX8_isHandle wsX8_isHandle) := goodIn_app (goodIn_of _ (by decide +kernel)) ggX8_get_X8_isHandle
set_option maxRecDepth 20000 in
theorem ggX8_set_X8_isHandle : GoodIn wsX8_set wsX8_isHandle := goodIn_r _ [9, 10, 121, 122, 123, 124, 125, 126, 127, 128, 129, 130, 131, 132, 133, 134, 135] (by decide +kernel) (by decide +kernel)
set_option maxRecDepth 20000 in
theorem gX8_set_X8_isHandle : GoodIn wsX8_set (wsV RX8 168 RX8 yX8_isHandle wsX8_isHandle) := goodIn_app (goodIn_of _ (by decide +kernel)) ggX8_set_X8_isHandle
set_option maxRecDepth 20000 in
theorem ggX8_call_X8_isHandle : GoodIn wsX8_call wsX8_isHandle := goodIn_r _ [9, 10, 211, 212, 213, 214, 215, 216, 217, 218, 219, 220, 221, 222, 223, 224, 225] (by decide +kernel) (by decide +kernel)
set_option maxRecDepth 20000 in
theorem gX8_call_X8_isHandle : GoodIn wsX8_call (wsV RX8 168 RX8 yX8_isHandle wsX8_isHandle) := goodIn_app (goodIn_of _ (by decide +kernel)) ggX8_call_X8_isHandle
set_option maxRecDepth 20000 in
theorem ggX8_proxy_X8_isClass : GoodIn wsX8_proxy wsX8_isClass := goodIn_r _ [7, 8, 38, 39, 40, 41, 42, 43, 44, 45, 46, 47, 48, 49, 50, 51, 52] (by decide +kernel) (by decide +kernel)
set_option maxRecDepth 20000 in
theorem gX8_proxy_X8_isClass : GoodIn wsX8_proxy (wsV RX8 75 RX8 yX8_isClass wsX8_isClass) := goodIn_app (goodIn_of _ (by decide +kernel)) ggX8_proxy_X8_isClass
set_option maxRecDepth 20000 in
theorem ggX8_constant_X8_isClass : GoodIn wsX8_constant wsX8_isClass := goodIn_r _ [6, 7, 57, 58, 59, 60, 61, 62, 63, 64, 65, 66, 67, 68, 69, 70, 71] (by decide +kernel) (by decide +kernel)
set_option maxRecDepth 20000 in
theorem gX8_constant_X8_isClass : GoodIn wsX8_constant (wsV RX8 75 RX8 yX8_isClass wsX8_isClass) := goodIn_app (goodIn_of _ (by decide +kernel)) ggX8_constant_X8_isClass
set_option maxRecDepth 20000 in
theorem ggX8_about_X8_isClass : GoodIn wsX8_about wsX8_isClass := goodIn_r _ [6, 7, 8, 9, 10, 11, 12, 13, 14, 15, 16, 17, 18, 19, 20, 21, 22] (by decide +kernel) (by decide +kernel)
set_option maxRecDepth 20000 in
theorem gX8_about_X8_isClass : GoodIn wsX8_about (wsV RX8 75 RX8 yX8_isClass wsX8_isClass) := goodIn_app (goodIn_of _ (by decide +kernel)) ggX8_about_X8_isClass
set_option maxRecDepth 20000 in
theorem ggX8_is_X8_isThing : GoodIn wsX8_is wsX8_isThing := goodIn_r _ [7, 8, 19, 20, 21, 22, 23, 24, 25, 26, 27, 28, 29, 30, 31, 32, 33] (by decide +kernel) (by decide +kernel)
set_option maxRecDepth 20000 in
theorem gX8_is_X8_isThing : GoodIn wsX8_is (wsV RX8 273 RX8 yX8_isThing wsX8_isThing) := goodIn_app (goodIn_of _ (by decide +kernel)) ggX8_is_X8_isThing
set_option maxRecDepth 20000 in
theorem ggX8_handle_X8_isHandle : GoodIn wsX8_handle wsX8_isHandle := goodIn_r _ [6, 7, 15, 16, 17, 18, 19, 20, 21, 22, 23, 24, 25, 26, 27, 28, 29] (by decide +kernel) (by decide +kernel)
set_option maxRecDepth 20000 in
theorem gX8_handle_X8_isHandle : GoodIn wsX8_handle (wsV RX8 168 RX8 yX8_isHandle wsX8_isHandle) := goodIn_app (goodIn_of _ (by decide +kernel)) ggX8_handle_X8_isHandle
set_option maxRecDepth 20000 in
theorem ggX8_hasMissingClass_X8_isMissingClass : GoodIn wsX8_hasMissingClass wsX8_isMissingClass := goodIn_r _ [5, 6, 11, 12, 13, 14, 15, 16, 17, 18, 19, 20, 21, 22, 23, 24, 25] (by decide +kernel) (by decide +kernel)
set_option maxRecDepth 20000 in
theorem gX8_hasMissingClass_X8_isMissingClass : GoodIn wsX8_hasMissingClass (wsV RX8 95 RX8 yX8_isMissingClass wsX8_isMissingClass) := goodIn_app (goodIn_of _ (by decide +kernel)) ggX8_hasMissingClass_X8_isMissingClass
set_option maxRecDepth 20000 in
theorem ggX8_visibleField_X8_ownField : GoodIn wsX8_visibleField wsX8_ownField := goodIn_r _ [7, 8, 1, 9, 10, 11, 12, 13, 14, 15, 16, 17, 18, 19, 20, 21, 22, 23, 24, 25, 26, 27, 28, 29, 30, 31, 32, 33, 34, 35, 36, 37, 38, 39, 40, 41, 42, 43] (by decide +kernel) (by decide +kernel)
set_option maxRecDepth 20000 in
theorem gX8_visibleField_X8_ownField : GoodIn wsX8_visibleField (wsV RX8 105 RX8 yX8_ownField wsX8_ownField) := goodIn_app (goodIn_of _ (by decide +kernel)) ggX8_visibleField_X8_ownField
set_option maxRecDepth 20000 in
theorem ggX8_visibleMethod_X8_visibleMethodUpward : GoodIn wsX8_visibleMethod wsX8_visibleMethodUpward := goodIn_r _ [5, 6, 7, 8, 9, 10, 4, 11, 12, 13, 14, 15, 16, 17, 18, 19, 20, 21, 22, 23, 36, 37, 38, 39, 40, 41, 42, 43, 44, 45, 46, 47, 48, 49, 50, 51, 52, 53, 54, 55, 56, 57, 58, 59, 60, 61, 62, 63, 64, 65, 66, 67, 24, 25, 26, 27, 28, 29, 30, 31, 32, 33, 34, 35, 68, 69, 70, 71] (by decide +kernel) (by decide +kernel)
set_option maxRecDepth 20000 in
theorem gX8_visibleMethod_X8_visibleMethodUpward : GoodIn wsX8_visibleMethod (wsV RX8 336 RX8 yX8_visibleMethodUpward wsX8_visibleMethodUpward) := goodIn_app (goodIn_of _ (by decide +kernel)) ggX8_visibleMethod_X8_visibleMethodUpward
set_option maxRecDepth 20000 in
theorem ggX8_visibleMethodUpward_X8_ownMethod : GoodIn wsX8_visibleMethodUpward wsX8_ownMethod := goodIn_r _ [7, 8, 1, 9, 10, 11, 12, 13, 14, 15, 16, 17, 18, 19, 20, 21, 22, 23, 24, 25, 26, 27, 28, 29, 30, 31, 32, 33, 34, 35, 36, 37, 38, 39, 40, 41, 42, 43, 44, 45, 46, 47, 48, 49, 50, 51, 64, 65, 66, 67] (by decide +kernel) (by decide +kernel)
set_option maxRecDepth 20000 in
theorem gX8_visibleMethodUpward_X8_ownMethod : GoodIn wsX8_visibleMethodUpward (wsV RX8 154 RX8 yX8_ownMethod wsX8_ownMethod) := goodIn_app (goodIn_of _ (by decide +kernel)) ggX8_visibleMethodUpward_X8_ownMethod
set_option maxRecDepth 20000 in
theorem ggX8_addHandle_X8_failed : GoodIn wsX8_addHandle wsX8_failed := goodIn_r _ [11, 12, 21, 22, 23, 24, 25, 26, 27, 28, 29, 30, 31, 32, 33, 34, 35] (by decide +kernel) (by decide +kernel)
set_option maxRecDepth 20000 in
theorem gX8_addHandle_X8_failed : GoodIn wsX8_addHandle (wsV RX8 183 RX8 yX8_failed wsX8_failed) := goodIn_app (goodIn_of _ (by decide +kernel)) ggX8_addHandle_X8_failed
theorem inX0_init_0 : ∀ w ∈ u_ws RX0 TX0 12, w ∈ wsX0_init := by decide +kernel
theorem inX1_init_1 : ∀ w ∈ u_ws RX1 TX1 9, w ∈ wsX1_init := by decide +kernel
theorem inX3_init_1 : ∀ w ∈ u_ws RX1 TX1 9, w ∈ wsX3_init := by decide +kernel
theorem inX3_init_4 : ∀ w ∈ u_ws RX4 TX4 8, w ∈ wsX3_init := by decide +kernel
theorem inX5_init_5 : ∀ w ∈ u_ws RX5 TX5 4, w ∈ wsX5_init := by decide +kernel
theorem inX5_isOutside_5 : ∀ w ∈ u_ws RX5 TX5 4, w ∈ wsX5_isOutside := by decide +kernel
theorem inX5_startsWithClass_5 : ∀ w ∈ u_ws RX5 TX5 4, w ∈ wsX5_startsWithClass := by decide +kernel
theorem inX5_startsWithInt_5 : ∀ w ∈ u_ws RX5 TX5 4, w ∈ wsX5_startsWithInt := by decide +kernel
theorem inX7_init_7 : ∀ w ∈ u_ws RX7 TX7 2, w ∈ wsX7_init := by decide +kernel
theorem inX8_about_0 : ∀ w ∈ u_ws RX0 TX0 12, w ∈ wsX8_about := by decide +kernel
theorem inX8_about_8 : ∀ w ∈ u_ws RX8 TX8 15, w ∈ wsX8_about := by decide +kernel
theorem inX8_addMember_0 : ∀ w ∈ u_ws RX0 TX0 12, w ∈ wsX8_addMember := by decide +kernel
theorem inX8_addMember_1 : ∀ w ∈ u_ws RX1 TX1 9, w ∈ wsX8_addMember := by decide +kernel
theorem inX8_addMember_4 : ∀ w ∈ u_ws RX4 TX4 8, w ∈ wsX8_addMember := by decide +kernel
theorem inX8_addMember_8 : ∀ w ∈ u_ws RX8 TX8 15, w ∈ wsX8_addMember := by decide +kernel
theorem inX8_caller_8 : ∀ w ∈ u_ws RX8 TX8 15, w ∈ wsX8_caller := by decide +kernel
theorem inX8_cause_8 : ∀ w ∈ u_ws RX8 TX8 15, w ∈ wsX8_cause := by decide +kernel
theorem inX8_constant_0 : ∀ w ∈ u_ws RX0 TX0 12, w ∈ wsX8_constant := by decide +kernel
theorem inX8_constant_8 : ∀ w ∈ u_ws RX8 TX8 15, w ∈ wsX8_constant := by decide +kernel
theorem inX8_constants_0 : ∀ w ∈ u_ws RX0 TX0 12, w ∈ wsX8_constants := by decide +kernel
theorem inX8_constants_8 : ∀ w ∈ u_ws RX8 TX8 15, w ∈ wsX8_constants := by decide +kernel
theorem inX8_failed_8 : ∀ w ∈ u_ws RX8 TX8 15, w ∈ wsX8_failed := by decide +kernel
theorem inX8_field_1 : ∀ w ∈ u_ws RX1 TX1 9, w ∈ wsX8_field := by decide +kernel
theorem inX8_field_8 : ∀ w ∈ u_ws RX8 TX8 15, w ∈ wsX8_field := by decide +kernel
theorem inX8_findField_8 : ∀ w ∈ u_ws RX8 TX8 15, w ∈ wsX8_findField := by decide +kernel
theorem inX8_findMethod_5 : ∀ w ∈ u_ws RX5 TX5 4, w ∈ wsX8_findMethod := by decide +kernel
theorem inX8_findMethod_8 : ∀ w ∈ u_ws RX8 TX8 15, w ∈ wsX8_findMethod := by decide +kernel
theorem inX8_hasMissingClass_5 : ∀ w ∈ u_ws RX5 TX5 4, w ∈ wsX8_hasMissingClass := by decide +kernel
theorem inX8_init_0 : ∀ w ∈ u_ws RX0 TX0 12, w ∈ wsX8_init := by decide +kernel
theorem inX8_init_7 : ∀ w ∈ u_ws RX7 TX7 2, w ∈ wsX8_init := by decide +kernel
theorem inX8_init_8 : ∀ w ∈ u_ws RX8 TX8 15, w ∈ wsX8_init := by decide +kernel
theorem inX8_isClass_8 : ∀ w ∈ u_ws RX8 TX8 15, w ∈ wsX8_isClass := by decide +kernel
theorem inX8_isHandle_8 : ∀ w ∈ u_ws RX8 TX8 15, w ∈ wsX8_isHandle := by decide +kernel
theorem inX8_isMissingClass_8 : ∀ w ∈ u_ws RX8 TX8 15, w ∈ wsX8_isMissingClass := by decide +kernel
theorem inX8_isThing_8 : ∀ w ∈ u_ws RX8 TX8 15, w ∈ wsX8_isThing := by decide +kernel
theorem inX8_mayActAs_0 : ∀ w ∈ u_ws RX0 TX0 12, w ∈ wsX8_mayActAs := by decide +kernel
theorem inX8_mayHaveAbove_0 : ∀ w ∈ u_ws RX0 TX0 12, w ∈ wsX8_mayHaveAbove := by decide +kernel
theorem inX8_mayHaveField_0 : ∀ w ∈ u_ws RX0 TX0 12, w ∈ wsX8_mayHaveField := by decide +kernel
theorem inX8_ownField_8 : ∀ w ∈ u_ws RX8 TX8 15, w ∈ wsX8_ownField := by decide +kernel
theorem inX8_ownMethod_8 : ∀ w ∈ u_ws RX8 TX8 15, w ∈ wsX8_ownMethod := by decide +kernel
theorem inX8_proxy_0 : ∀ w ∈ u_ws RX0 TX0 12, w ∈ wsX8_proxy := by decide +kernel
theorem inX8_proxy_8 : ∀ w ∈ u_ws RX8 TX8 15, w ∈ wsX8_proxy := by decide +kernel
theorem inX8_result_7 : ∀ w ∈ u_ws RX7 TX7 2, w ∈ wsX8_result := by decide +kernel
theorem inX8_result_8 : ∀ w ∈ u_ws RX8 TX8 15, w ∈ wsX8_result := by decide +kernel
theorem inX8_resultKind_7 : ∀ w ∈ u_ws RX7 TX7 2, w ∈ wsX8_resultKind := by decide +kernel
theorem inX8_resultKind_8 : ∀ w ∈ u_ws RX8 TX8 15, w ∈ wsX8_resultKind := by decide +kernel
theorem inX8_told_8 : ∀ w ∈ u_ws RX8 TX8 15, w ∈ wsX8_told := by decide +kernel
theorem inX8_type_0 : ∀ w ∈ u_ws RX0 TX0 12, w ∈ wsX8_type := by decide +kernel
theorem inX8_type_8 : ∀ w ∈ u_ws RX8 TX8 15, w ∈ wsX8_type := by decide +kernel
theorem inX8_visibleField_0 : ∀ w ∈ u_ws RX0 TX0 12, w ∈ wsX8_visibleField := by decide +kernel
theorem inX8_visibleMethod_0 : ∀ w ∈ u_ws RX0 TX0 12, w ∈ wsX8_visibleMethod := by decide +kernel
theorem inX8_visibleMethodUpward_0 : ∀ w ∈ u_ws RX0 TX0 12, w ∈ wsX8_visibleMethodUpward := by decide +kernel
theorem df_X0 : ∀ j, j < 12 → defaultValue (tyX0 j) = vp_V [.int 0, .null, .int 0, .null, .int 0, .int 0, .int 0, .int 0, .int 0, .int 0, .int 0, .int 0] j := by
  intro j hj
  have h : j = 0 ∨ j = 1 ∨ j = 2 ∨ j = 3 ∨ j = 4 ∨ j = 5 ∨ j = 6 ∨ j = 7 ∨ j = 8 ∨ j = 9 ∨ j = 10 ∨ j = 11 := by omega
  rcases h with rfl | rfl | rfl | rfl | rfl | rfl | rfl | rfl | rfl | rfl | rfl | rfl <;> rfl
theorem df_X1 : ∀ j, j < 9 → defaultValue (tyX1 j) = vp_V [.null, .int 0, .int 0, .int 0, .int 0, .int 0, .long 0, .int 0, .long 0] j := by
  intro j hj
  have h : j = 0 ∨ j = 1 ∨ j = 2 ∨ j = 3 ∨ j = 4 ∨ j = 5 ∨ j = 6 ∨ j = 7 ∨ j = 8 := by omega
  rcases h with rfl | rfl | rfl | rfl | rfl | rfl | rfl | rfl | rfl <;> rfl
theorem df_X5 : ∀ j, j < 4 → defaultValue (tyX5 j) = vp_V [.int 0, .int 0, .int 0, .int 0] j := by
  intro j hj
  have h : j = 0 ∨ j = 1 ∨ j = 2 ∨ j = 3 := by omega
  rcases h with rfl | rfl | rfl | rfl <;> rfl
theorem df_X7 : ∀ j, j < 2 → defaultValue (tyX7 j) = vp_V [.int 0, .long 0] j := by
  intro j hj
  have h : j = 0 ∨ j = 1 := by omega
  rcases h with rfl | rfl <;> rfl
end
section
theorem dX0_init_0 : decode cX0_init 0 = .ok (.aload_n 0, 1) := by decide +kernel
theorem dX0_init_1 : decode cX0_init 1 = .ok (.invokespecial 3, 3) := by decide +kernel
theorem dX0_init_4 : decode cX0_init 4 = .ok (.aload_n 0, 1) := by decide +kernel
theorem dX0_init_5 : decode cX0_init 5 = .ok (.iconst 0, 1) := by decide +kernel
theorem dX0_init_6 : decode cX0_init 6 = .ok (.putfield 9, 3) := by decide +kernel
theorem dX0_init_9 : decode cX0_init 9 = .ok (.aload_n 0, 1) := by decide +kernel
theorem dX0_init_10 : decode cX0_init 10 = .ok (.iconst 0, 1) := by decide +kernel
theorem dX0_init_11 : decode cX0_init 11 = .ok (.putfield 15, 3) := by decide +kernel
theorem dX0_init_14 : decode cX0_init 14 = .ok (.aload_n 0, 1) := by decide +kernel
theorem dX0_init_15 : decode cX0_init 15 = .ok (.iconst 0, 1) := by decide +kernel
theorem dX0_init_16 : decode cX0_init 16 = .ok (.putfield 18, 3) := by decide +kernel
theorem dX0_init_19 : decode cX0_init 19 = .ok (.aload_n 0, 1) := by decide +kernel
theorem dX0_init_20 : decode cX0_init 20 = .ok (.iconst 0, 1) := by decide +kernel
theorem dX0_init_21 : decode cX0_init 21 = .ok (.putfield 21, 3) := by decide +kernel
theorem dX0_init_24 : decode cX0_init 24 = .ok (.aload_n 0, 1) := by decide +kernel
theorem dX0_init_25 : decode cX0_init 25 = .ok (.iload_n 1, 1) := by decide +kernel
theorem dX0_init_26 : decode cX0_init 26 = .ok (.putfield 24, 3) := by decide +kernel
theorem dX0_init_29 : decode cX0_init 29 = .ok (.aload_n 0, 1) := by decide +kernel
theorem dX0_init_30 : decode cX0_init 30 = .ok (.aload_n 2, 1) := by decide +kernel
theorem dX0_init_31 : decode cX0_init 31 = .ok (.putfield 27, 3) := by decide +kernel
theorem dX0_init_34 : decode cX0_init 34 = .ok (.aload_n 0, 1) := by decide +kernel
theorem dX0_init_35 : decode cX0_init 35 = .ok (.iload_n 3, 1) := by decide +kernel
theorem dX0_init_36 : decode cX0_init 36 = .ok (.putfield 31, 3) := by decide +kernel
theorem dX0_init_39 : decode cX0_init 39 = .ok (.aload_n 0, 1) := by decide +kernel
theorem dX0_init_40 : decode cX0_init 40 = .ok (.aload 4, 2) := by decide +kernel
theorem dX0_init_42 : decode cX0_init 42 = .ok (.putfield 34, 3) := by decide +kernel
theorem dX0_init_45 : decode cX0_init 45 = .ok (.aload_n 0, 1) := by decide +kernel
theorem dX0_init_46 : decode cX0_init 46 = .ok (.iload 5, 2) := by decide +kernel
theorem dX0_init_48 : decode cX0_init 48 = .ok (.putfield 37, 3) := by decide +kernel
theorem dX0_init_51 : decode cX0_init 51 = .ok (.aload_n 0, 1) := by decide +kernel
theorem dX0_init_52 : decode cX0_init 52 = .ok (.iload 6, 2) := by decide +kernel
theorem dX0_init_54 : decode cX0_init 54 = .ok (.putfield 41, 3) := by decide +kernel
theorem dX0_init_57 : decode cX0_init 57 = .ok (.iconst 1, 1) := by decide +kernel
theorem dX0_init_58 : decode cX0_init 58 = .ok (.iload_n 1, 1) := by decide +kernel
theorem dX0_init_59 : decode cX0_init 59 = .ok (.ishl, 1) := by decide +kernel
theorem dX0_init_60 : decode cX0_init 60 = .ok (.istore 7, 2) := by decide +kernel
theorem dX0_init_62 : decode cX0_init 62 = .ok (.aload_n 0, 1) := by decide +kernel
theorem dX0_init_63 : decode cX0_init 63 = .ok (.iload 7, 2) := by decide +kernel
theorem dX0_init_65 : decode cX0_init 65 = .ok (.aload_n 2, 1) := by decide +kernel
theorem dX0_init_66 : decode cX0_init 66 = .ok (.ifnonnull 7, 3) := by decide +kernel
theorem dX0_init_69 : decode cX0_init 69 = .ok (.iconst 0, 1) := by decide +kernel
theorem dX0_init_70 : decode cX0_init 70 = .ok (.goto 7, 3) := by decide +kernel
theorem dX0_init_73 : decode cX0_init 73 = .ok (.aload_n 2, 1) := by decide +kernel
theorem dX0_init_74 : decode cX0_init 74 = .ok (.getfield 44, 3) := by decide +kernel
theorem dX0_init_77 : decode cX0_init 77 = .ok (.ior, 1) := by decide +kernel
theorem dX0_init_78 : decode cX0_init 78 = .ok (.putfield 44, 3) := by decide +kernel
theorem dX0_init_81 : decode cX0_init 81 = .ok (.aload_n 0, 1) := by decide +kernel
theorem dX0_init_82 : decode cX0_init 82 = .ok (.iload 7, 2) := by decide +kernel
theorem dX0_init_84 : decode cX0_init 84 = .ok (.aload_n 2, 1) := by decide +kernel
theorem dX0_init_85 : decode cX0_init 85 = .ok (.ifnonnull 7, 3) := by decide +kernel
theorem dX0_init_88 : decode cX0_init 88 = .ok (.iconst 0, 1) := by decide +kernel
theorem dX0_init_89 : decode cX0_init 89 = .ok (.goto 7, 3) := by decide +kernel
theorem dX0_init_92 : decode cX0_init 92 = .ok (.aload_n 2, 1) := by decide +kernel
theorem dX0_init_93 : decode cX0_init 93 = .ok (.getfield 47, 3) := by decide +kernel
theorem dX0_init_96 : decode cX0_init 96 = .ok (.ior, 1) := by decide +kernel
theorem dX0_init_97 : decode cX0_init 97 = .ok (.aload 4, 2) := by decide +kernel
theorem dX0_init_99 : decode cX0_init 99 = .ok (.ifnonnull 7, 3) := by decide +kernel
theorem dX0_init_102 : decode cX0_init 102 = .ok (.iconst 0, 1) := by decide +kernel
theorem dX0_init_103 : decode cX0_init 103 = .ok (.goto 8, 3) := by decide +kernel
theorem dX0_init_111 : decode cX0_init 111 = .ok (.ior, 1) := by decide +kernel
theorem dX0_init_112 : decode cX0_init 112 = .ok (.putfield 47, 3) := by decide +kernel
theorem dX0_init_115 : decode cX0_init 115 = .ok (.return_, 1) := by decide +kernel
theorem dX1_init_0 : decode cX1_init 0 = .ok (.aload_n 0, 1) := by decide +kernel
theorem dX1_init_1 : decode cX1_init 1 = .ok (.aload_n 1, 1) := by decide +kernel
theorem dX1_init_2 : decode cX1_init 2 = .ok (.iload 4, 2) := by decide +kernel
theorem dX1_init_4 : decode cX1_init 4 = .ok (.iload 6, 2) := by decide +kernel
theorem dX1_init_6 : decode cX1_init 6 = .ok (.invokespecial 3, 3) := by decide +kernel
theorem dX1_init_9 : decode cX1_init 9 = .ok (.aload_n 0, 1) := by decide +kernel
theorem dX1_init_10 : decode cX1_init 10 = .ok (.iload_n 2, 1) := by decide +kernel
theorem dX1_init_11 : decode cX1_init 11 = .ok (.putfield 9, 3) := by decide +kernel
theorem dX1_init_14 : decode cX1_init 14 = .ok (.aload_n 0, 1) := by decide +kernel
theorem dX1_init_15 : decode cX1_init 15 = .ok (.iload_n 3, 1) := by decide +kernel
theorem dX1_init_16 : decode cX1_init 16 = .ok (.putfield 15, 3) := by decide +kernel
theorem dX1_init_19 : decode cX1_init 19 = .ok (.aload_n 0, 1) := by decide +kernel
theorem dX1_init_20 : decode cX1_init 20 = .ok (.iload 5, 2) := by decide +kernel
theorem dX1_init_22 : decode cX1_init 22 = .ok (.putfield 18, 3) := by decide +kernel
theorem dX1_init_25 : decode cX1_init 25 = .ok (.aload_n 0, 1) := by decide +kernel
theorem dX1_init_26 : decode cX1_init 26 = .ok (.iload 7, 2) := by decide +kernel
theorem dX1_init_28 : decode cX1_init 28 = .ok (.putfield 22, 3) := by decide +kernel
theorem dX1_init_31 : decode cX1_init 31 = .ok (.aload_n 0, 1) := by decide +kernel
theorem dX1_init_32 : decode cX1_init 32 = .ok (.iload_n 3, 1) := by decide +kernel
theorem dX1_init_33 : decode cX1_init 33 = .ok (.ifCond .lt 9, 3) := by decide +kernel
theorem dX1_init_36 : decode cX1_init 36 = .ok (.ldc2_w 25, 3) := by decide +kernel
theorem dX1_init_39 : decode cX1_init 39 = .ok (.goto 4, 3) := by decide +kernel
theorem dX1_init_42 : decode cX1_init 42 = .ok (.lconst 0, 1) := by decide +kernel
theorem dX1_init_43 : decode cX1_init 43 = .ok (.putfield 27, 3) := by decide +kernel
theorem dX1_init_46 : decode cX1_init 46 = .ok (.aload_n 0, 1) := by decide +kernel
theorem dX1_init_47 : decode cX1_init 47 = .ok (.aload_n 0, 1) := by decide +kernel
theorem dX1_init_48 : decode cX1_init 48 = .ok (.getfield 27, 3) := by decide +kernel
theorem dX1_init_51 : decode cX1_init 51 = .ok (.putfield 31, 3) := by decide +kernel
theorem dX1_init_54 : decode cX1_init 54 = .ok (.return_, 1) := by decide +kernel
theorem dX3_init_0 : decode cX3_init 0 = .ok (.aload_n 0, 1) := by decide +kernel
theorem dX3_init_1 : decode cX3_init 1 = .ok (.invokespecial 1, 3) := by decide +kernel
theorem dX3_init_4 : decode cX3_init 4 = .ok (.aload_n 0, 1) := by decide +kernel
theorem dX3_init_5 : decode cX3_init 5 = .ok (.aload_n 1, 1) := by decide +kernel
theorem dX3_init_6 : decode cX3_init 6 = .ok (.putfield 7, 3) := by decide +kernel
theorem dX3_init_9 : decode cX3_init 9 = .ok (.aload_n 0, 1) := by decide +kernel
theorem dX3_init_10 : decode cX3_init 10 = .ok (.iload_n 2, 1) := by decide +kernel
theorem dX3_init_11 : decode cX3_init 11 = .ok (.putfield 13, 3) := by decide +kernel
theorem dX3_init_14 : decode cX3_init 14 = .ok (.aload_n 0, 1) := by decide +kernel
theorem dX3_init_15 : decode cX3_init 15 = .ok (.iload_n 3, 1) := by decide +kernel
theorem dX3_init_16 : decode cX3_init 16 = .ok (.putfield 17, 3) := by decide +kernel
theorem dX3_init_19 : decode cX3_init 19 = .ok (.return_, 1) := by decide +kernel
theorem dX5_init_0 : decode cX5_init 0 = .ok (.aload_n 0, 1) := by decide +kernel
theorem dX5_init_1 : decode cX5_init 1 = .ok (.invokespecial 3, 3) := by decide +kernel
theorem dX5_init_4 : decode cX5_init 4 = .ok (.aload_n 0, 1) := by decide +kernel
theorem dX5_init_5 : decode cX5_init 5 = .ok (.iload_n 1, 1) := by decide +kernel
theorem dX5_init_6 : decode cX5_init 6 = .ok (.putfield 9, 3) := by decide +kernel
theorem dX5_init_9 : decode cX5_init 9 = .ok (.aload_n 0, 1) := by decide +kernel
theorem dX5_init_10 : decode cX5_init 10 = .ok (.iload_n 2, 1) := by decide +kernel
theorem dX5_init_11 : decode cX5_init 11 = .ok (.putfield 15, 3) := by decide +kernel
theorem dX5_init_14 : decode cX5_init 14 = .ok (.aload_n 0, 1) := by decide +kernel
theorem dX5_init_15 : decode cX5_init 15 = .ok (.iload_n 2, 1) := by decide +kernel
theorem dX5_init_16 : decode cX5_init 16 = .ok (.ifCond .le 7, 3) := by decide +kernel
theorem dX5_init_19 : decode cX5_init 19 = .ok (.iload_n 3, 1) := by decide +kernel
theorem dX5_init_20 : decode cX5_init 20 = .ok (.goto 4, 3) := by decide +kernel
theorem dX5_init_23 : decode cX5_init 23 = .ok (.iconst (-1), 1) := by decide +kernel
theorem dX5_init_24 : decode cX5_init 24 = .ok (.putfield 18, 3) := by decide +kernel
theorem dX5_init_27 : decode cX5_init 27 = .ok (.aload_n 0, 1) := by decide +kernel
theorem dX5_init_28 : decode cX5_init 28 = .ok (.iload_n 2, 1) := by decide +kernel
theorem dX5_init_29 : decode cX5_init 29 = .ok (.iconst 1, 1) := by decide +kernel
theorem dX5_init_30 : decode cX5_init 30 = .ok (.if_icmp .le 8, 3) := by decide +kernel
theorem dX5_init_33 : decode cX5_init 33 = .ok (.iload 4, 2) := by decide +kernel
theorem dX5_init_35 : decode cX5_init 35 = .ok (.goto 4, 3) := by decide +kernel
theorem dX5_init_38 : decode cX5_init 38 = .ok (.iconst (-1), 1) := by decide +kernel
theorem dX5_init_39 : decode cX5_init 39 = .ok (.putfield 21, 3) := by decide +kernel
theorem dX5_init_42 : decode cX5_init 42 = .ok (.return_, 1) := by decide +kernel
theorem dX5_isOutside_0 : decode cX5_isOutside 0 = .ok (.aload_n 0, 1) := by decide +kernel
theorem dX5_isOutside_1 : decode cX5_isOutside 1 = .ok (.getfield 9, 3) := by decide +kernel
theorem dX5_isOutside_4 : decode cX5_isOutside 4 = .ok (.invokestatic 24, 3) := by decide +kernel
theorem dX5_isOutside_7 : decode cX5_isOutside 7 = .ok (.ifCond .ne 36, 3) := by decide +kernel
theorem dX5_isOutside_10 : decode cX5_isOutside 10 = .ok (.aload_n 0, 1) := by decide +kernel
theorem dX5_isOutside_11 : decode cX5_isOutside 11 = .ok (.getfield 15, 3) := by decide +kernel
theorem dX5_isOutside_14 : decode cX5_isOutside 14 = .ok (.ifCond .lt 29, 3) := by decide +kernel
theorem dX5_isOutside_17 : decode cX5_isOutside 17 = .ok (.aload_n 0, 1) := by decide +kernel
theorem dX5_isOutside_18 : decode cX5_isOutside 18 = .ok (.getfield 15, 3) := by decide +kernel
theorem dX5_isOutside_21 : decode cX5_isOutside 21 = .ok (.iconst 2, 1) := by decide +kernel
theorem dX5_isOutside_22 : decode cX5_isOutside 22 = .ok (.if_icmp .gt 21, 3) := by decide +kernel
theorem dX5_isOutside_25 : decode cX5_isOutside 25 = .ok (.aload_n 0, 1) := by decide +kernel
theorem dX5_isOutside_26 : decode cX5_isOutside 26 = .ok (.getfield 18, 3) := by decide +kernel
theorem dX5_isOutside_29 : decode cX5_isOutside 29 = .ok (.bipush (-2), 2) := by decide +kernel
theorem dX5_isOutside_31 : decode cX5_isOutside 31 = .ok (.if_icmp .lt 12, 3) := by decide +kernel
theorem dX5_isOutside_34 : decode cX5_isOutside 34 = .ok (.aload_n 0, 1) := by decide +kernel
theorem dX5_isOutside_35 : decode cX5_isOutside 35 = .ok (.getfield 21, 3) := by decide +kernel
theorem dX5_isOutside_38 : decode cX5_isOutside 38 = .ok (.bipush (-2), 2) := by decide +kernel
theorem dX5_isOutside_40 : decode cX5_isOutside 40 = .ok (.if_icmp .ge 7, 3) := by decide +kernel
theorem dX5_isOutside_43 : decode cX5_isOutside 43 = .ok (.iconst 1, 1) := by decide +kernel
theorem dX5_isOutside_44 : decode cX5_isOutside 44 = .ok (.goto 4, 3) := by decide +kernel
theorem dX5_isOutside_47 : decode cX5_isOutside 47 = .ok (.iconst 0, 1) := by decide +kernel
theorem dX5_isOutside_48 : decode cX5_isOutside 48 = .ok (.ireturn, 1) := by decide +kernel
theorem dX5_startsWithClass_0 : decode cX5_startsWithClass 0 = .ok (.aload_n 0, 1) := by decide +kernel
theorem dX5_startsWithClass_1 : decode cX5_startsWithClass 1 = .ok (.getfield 15, 3) := by decide +kernel
theorem dX5_startsWithClass_4 : decode cX5_startsWithClass 4 = .ok (.ifCond .le 14, 3) := by decide +kernel
theorem dX5_startsWithClass_7 : decode cX5_startsWithClass 7 = .ok (.aload_n 0, 1) := by decide +kernel
theorem dX5_startsWithClass_8 : decode cX5_startsWithClass 8 = .ok (.getfield 18, 3) := by decide +kernel
theorem dX5_startsWithClass_11 : decode cX5_startsWithClass 11 = .ok (.ifCond .lt 7, 3) := by decide +kernel
theorem dX5_startsWithClass_14 : decode cX5_startsWithClass 14 = .ok (.iconst 1, 1) := by decide +kernel
theorem dX5_startsWithClass_15 : decode cX5_startsWithClass 15 = .ok (.goto 4, 3) := by decide +kernel
theorem dX5_startsWithClass_18 : decode cX5_startsWithClass 18 = .ok (.iconst 0, 1) := by decide +kernel
theorem dX5_startsWithClass_19 : decode cX5_startsWithClass 19 = .ok (.ireturn, 1) := by decide +kernel
theorem dX5_startsWithInt_0 : decode cX5_startsWithInt 0 = .ok (.aload_n 0, 1) := by decide +kernel
theorem dX5_startsWithInt_1 : decode cX5_startsWithInt 1 = .ok (.getfield 15, 3) := by decide +kernel
theorem dX5_startsWithInt_4 : decode cX5_startsWithInt 4 = .ok (.ifCond .le 15, 3) := by decide +kernel
theorem dX5_startsWithInt_7 : decode cX5_startsWithInt 7 = .ok (.aload_n 0, 1) := by decide +kernel
theorem dX5_startsWithInt_8 : decode cX5_startsWithInt 8 = .ok (.getfield 18, 3) := by decide +kernel
theorem dX5_startsWithInt_11 : decode cX5_startsWithInt 11 = .ok (.iconst (-1), 1) := by decide +kernel
theorem dX5_startsWithInt_12 : decode cX5_startsWithInt 12 = .ok (.if_icmp .ne 7, 3) := by decide +kernel
theorem dX5_startsWithInt_15 : decode cX5_startsWithInt 15 = .ok (.iconst 1, 1) := by decide +kernel
theorem dX5_startsWithInt_16 : decode cX5_startsWithInt 16 = .ok (.goto 4, 3) := by decide +kernel
theorem dX5_startsWithInt_19 : decode cX5_startsWithInt 19 = .ok (.iconst 0, 1) := by decide +kernel
theorem dX5_startsWithInt_20 : decode cX5_startsWithInt 20 = .ok (.ireturn, 1) := by decide +kernel
theorem dX7_init_0 : decode cX7_init 0 = .ok (.aload_n 0, 1) := by decide +kernel
theorem dX7_init_1 : decode cX7_init 1 = .ok (.invokespecial 3, 3) := by decide +kernel
theorem dX7_init_4 : decode cX7_init 4 = .ok (.aload_n 0, 1) := by decide +kernel
theorem dX7_init_5 : decode cX7_init 5 = .ok (.iconst 0, 1) := by decide +kernel
theorem dX7_init_6 : decode cX7_init 6 = .ok (.putfield 9, 3) := by decide +kernel
theorem dX7_init_9 : decode cX7_init 9 = .ok (.aload_n 0, 1) := by decide +kernel
theorem dX7_init_10 : decode cX7_init 10 = .ok (.lconst 0, 1) := by decide +kernel
theorem dX7_init_11 : decode cX7_init 11 = .ok (.putfield 15, 3) := by decide +kernel
theorem dX7_init_14 : decode cX7_init 14 = .ok (.return_, 1) := by decide +kernel
theorem dX8_init_0 : decode cX8_init 0 = .ok (.aload_n 0, 1) := by decide +kernel
theorem dX8_init_1 : decode cX8_init 1 = .ok (.invokespecial 1, 3) := by decide +kernel
theorem dX8_init_4 : decode cX8_init 4 = .ok (.aload_n 0, 1) := by decide +kernel
theorem dX8_init_5 : decode cX8_init 5 = .ok (.bipush 16, 2) := by decide +kernel
theorem dX8_init_7 : decode cX8_init 7 = .ok (.anewarray 9, 3) := by decide +kernel
theorem dX8_init_10 : decode cX8_init 10 = .ok (.putfield 11, 3) := by decide +kernel
theorem dX8_init_13 : decode cX8_init 13 = .ok (.aload_n 0, 1) := by decide +kernel
theorem dX8_init_14 : decode cX8_init 14 = .ok (.iconst 1, 1) := by decide +kernel
theorem dX8_init_15 : decode cX8_init 15 = .ok (.putfield 15, 3) := by decide +kernel
theorem dX8_init_18 : decode cX8_init 18 = .ok (.aload_n 0, 1) := by decide +kernel
theorem dX8_init_19 : decode cX8_init 19 = .ok (.bipush 40, 2) := by decide +kernel
theorem dX8_init_21 : decode cX8_init 21 = .ok (.anewarray 19, 3) := by decide +kernel
theorem dX8_init_24 : decode cX8_init 24 = .ok (.putfield 21, 3) := by decide +kernel
theorem dX8_init_27 : decode cX8_init 27 = .ok (.aload_n 0, 1) := by decide +kernel
theorem dX8_init_28 : decode cX8_init 28 = .ok (.iconst 0, 1) := by decide +kernel
theorem dX8_init_29 : decode cX8_init 29 = .ok (.putfield 25, 3) := by decide +kernel
theorem dX8_init_32 : decode cX8_init 32 = .ok (.aload_n 0, 1) := by decide +kernel
theorem dX8_init_33 : decode cX8_init 33 = .ok (.iconst 0, 1) := by decide +kernel
theorem dX8_init_34 : decode cX8_init 34 = .ok (.putfield 28, 3) := by decide +kernel
theorem dX8_init_37 : decode cX8_init 37 = .ok (.aload_n 0, 1) := by decide +kernel
theorem dX8_init_38 : decode cX8_init 38 = .ok (.bipush 60, 2) := by decide +kernel
theorem dX8_init_40 : decode cX8_init 40 = .ok (.anewarray 31, 3) := by decide +kernel
theorem dX8_init_43 : decode cX8_init 43 = .ok (.putfield 33, 3) := by decide +kernel
theorem dX8_init_46 : decode cX8_init 46 = .ok (.aload_n 0, 1) := by decide +kernel
theorem dX8_init_47 : decode cX8_init 47 = .ok (.iconst 0, 1) := by decide +kernel
theorem dX8_init_48 : decode cX8_init 48 = .ok (.putfield 37, 3) := by decide +kernel
theorem dX8_init_51 : decode cX8_init 51 = .ok (.aload_n 0, 1) := by decide +kernel
theorem dX8_init_52 : decode cX8_init 52 = .ok (.bipush 124, 2) := by decide +kernel
theorem dX8_init_54 : decode cX8_init 54 = .ok (.anewarray 40, 3) := by decide +kernel
theorem dX8_init_57 : decode cX8_init 57 = .ok (.putfield 42, 3) := by decide +kernel
theorem dX8_init_60 : decode cX8_init 60 = .ok (.aload_n 0, 1) := by decide +kernel
theorem dX8_init_61 : decode cX8_init 61 = .ok (.iconst 0, 1) := by decide +kernel
theorem dX8_init_62 : decode cX8_init 62 = .ok (.putfield 46, 3) := by decide +kernel
theorem dX8_init_65 : decode cX8_init 65 = .ok (.aload_n 0, 1) := by decide +kernel
theorem dX8_init_66 : decode cX8_init 66 = .ok (.iconst 3, 1) := by decide +kernel
theorem dX8_init_67 : decode cX8_init 67 = .ok (.anewarray 49, 3) := by decide +kernel
theorem dX8_init_70 : decode cX8_init 70 = .ok (.putfield 51, 3) := by decide +kernel
theorem dX8_init_73 : decode cX8_init 73 = .ok (.aload_n 0, 1) := by decide +kernel
theorem dX8_init_74 : decode cX8_init 74 = .ok (.iconst 0, 1) := by decide +kernel
theorem dX8_init_75 : decode cX8_init 75 = .ok (.putfield 55, 3) := by decide +kernel
theorem dX8_init_78 : decode cX8_init 78 = .ok (.aload_n 0, 1) := by decide +kernel
theorem dX8_init_79 : decode cX8_init 79 = .ok (.iconst 0, 1) := by decide +kernel
theorem dX8_init_80 : decode cX8_init 80 = .ok (.putfield 58, 3) := by decide +kernel
theorem dX8_init_83 : decode cX8_init 83 = .ok (.aload_n 0, 1) := by decide +kernel
theorem dX8_init_84 : decode cX8_init 84 = .ok (.new 49, 3) := by decide +kernel
theorem dX8_init_87 : decode cX8_init 87 = .ok (.dup, 1) := by decide +kernel
theorem dX8_init_88 : decode cX8_init 88 = .ok (.invokespecial 61, 3) := by decide +kernel
theorem dX8_init_91 : decode cX8_init 91 = .ok (.putfield 62, 3) := by decide +kernel
theorem dX8_init_94 : decode cX8_init 94 = .ok (.aload_n 0, 1) := by decide +kernel
theorem dX8_init_95 : decode cX8_init 95 = .ok (.iconst 0, 1) := by decide +kernel
theorem dX8_init_96 : decode cX8_init 96 = .ok (.putfield 66, 3) := by decide +kernel
theorem dX8_init_99 : decode cX8_init 99 = .ok (.aload_n 0, 1) := by decide +kernel
theorem dX8_init_100 : decode cX8_init 100 = .ok (.iconst 0, 1) := by decide +kernel
theorem dX8_init_101 : decode cX8_init 101 = .ok (.putfield 69, 3) := by decide +kernel
theorem dX8_init_104 : decode cX8_init 104 = .ok (.aload_n 0, 1) := by decide +kernel
theorem dX8_init_105 : decode cX8_init 105 = .ok (.getfield 11, 3) := by decide +kernel
theorem dX8_init_108 : decode cX8_init 108 = .ok (.iconst 0, 1) := by decide +kernel
theorem dX8_init_109 : decode cX8_init 109 = .ok (.new 9, 3) := by decide +kernel
theorem dX8_init_112 : decode cX8_init 112 = .ok (.dup, 1) := by decide +kernel
theorem dX8_init_113 : decode cX8_init 113 = .ok (.iconst 0, 1) := by decide +kernel
theorem dX8_init_114 : decode cX8_init 114 = .ok (.aconst_null, 1) := by decide +kernel
theorem dX8_init_115 : decode cX8_init 115 = .ok (.iconst 0, 1) := by decide +kernel
theorem dX8_init_116 : decode cX8_init 116 = .ok (.aconst_null, 1) := by decide +kernel
theorem dX8_init_117 : decode cX8_init 117 = .ok (.iconst 0, 1) := by decide +kernel
theorem dX8_init_118 : decode cX8_init 118 = .ok (.iconst 0, 1) := by decide +kernel
theorem dX8_init_119 : decode cX8_init 119 = .ok (.invokespecial 72, 3) := by decide +kernel
theorem dX8_init_122 : decode cX8_init 122 = .ok (.aastore, 1) := by decide +kernel
theorem dX8_init_123 : decode cX8_init 123 = .ok (.iconst 0, 1) := by decide +kernel
theorem dX8_init_124 : decode cX8_init 124 = .ok (.istore_n 1, 1) := by decide +kernel
theorem dX8_init_125 : decode cX8_init 125 = .ok (.iload_n 1, 1) := by decide +kernel
theorem dX8_init_126 : decode cX8_init 126 = .ok (.iconst 3, 1) := by decide +kernel
theorem dX8_init_127 : decode cX8_init 127 = .ok (.if_icmp .ge 22, 3) := by decide +kernel
theorem dX8_init_130 : decode cX8_init 130 = .ok (.aload_n 0, 1) := by decide +kernel
theorem dX8_init_131 : decode cX8_init 131 = .ok (.getfield 51, 3) := by decide +kernel
theorem dX8_init_134 : decode cX8_init 134 = .ok (.iload_n 1, 1) := by decide +kernel
theorem dX8_init_135 : decode cX8_init 135 = .ok (.new 49, 3) := by decide +kernel
theorem dX8_init_138 : decode cX8_init 138 = .ok (.dup, 1) := by decide +kernel
theorem dX8_init_139 : decode cX8_init 139 = .ok (.invokespecial 61, 3) := by decide +kernel
theorem dX8_init_142 : decode cX8_init 142 = .ok (.aastore, 1) := by decide +kernel
theorem dX8_init_143 : decode cX8_init 143 = .ok (.iinc 1 1, 3) := by decide +kernel
theorem dX8_init_146 : decode cX8_init 146 = .ok (.goto (-21), 3) := by decide +kernel
theorem dX8_init_149 : decode cX8_init 149 = .ok (.return_, 1) := by decide +kernel
theorem dX8_type_0 : decode cX8_type 0 = .ok (.aload_n 0, 1) := by decide +kernel
theorem dX8_type_1 : decode cX8_type 1 = .ok (.iload_n 1, 1) := by decide +kernel
theorem dX8_type_2 : decode cX8_type 2 = .ok (.invokevirtual 75, 3) := by decide +kernel
theorem dX8_type_5 : decode cX8_type 5 = .ok (.ifCond .eq 16, 3) := by decide +kernel
theorem dX8_type_8 : decode cX8_type 8 = .ok (.iload_n 3, 1) := by decide +kernel
theorem dX8_type_9 : decode cX8_type 9 = .ok (.iconst (-1), 1) := by decide +kernel
theorem dX8_type_10 : decode cX8_type 10 = .ok (.if_icmp .eq 14, 3) := by decide +kernel
theorem dX8_type_13 : decode cX8_type 13 = .ok (.aload_n 0, 1) := by decide +kernel
theorem dX8_type_14 : decode cX8_type 14 = .ok (.iload_n 3, 1) := by decide +kernel
theorem dX8_type_15 : decode cX8_type 15 = .ok (.invokevirtual 75, 3) := by decide +kernel
theorem dX8_type_18 : decode cX8_type 18 = .ok (.ifCond .ne 6, 3) := by decide +kernel
theorem dX8_type_21 : decode cX8_type 21 = .ok (.bipush (-2), 2) := by decide +kernel
theorem dX8_type_23 : decode cX8_type 23 = .ok (.ireturn, 1) := by decide +kernel
theorem dX8_type_24 : decode cX8_type 24 = .ok (.iload_n 2, 1) := by decide +kernel
theorem dX8_type_25 : decode cX8_type 25 = .ok (.ifCond .lt 8, 3) := by decide +kernel
theorem dX8_type_28 : decode cX8_type 28 = .ok (.iload_n 2, 1) := by decide +kernel
theorem dX8_type_29 : decode cX8_type 29 = .ok (.iconst 4, 1) := by decide +kernel
theorem dX8_type_30 : decode cX8_type 30 = .ok (.if_icmp .le 6, 3) := by decide +kernel
theorem dX8_type_33 : decode cX8_type 33 = .ok (.bipush (-3), 2) := by decide +kernel
theorem dX8_type_35 : decode cX8_type 35 = .ok (.ireturn, 1) := by decide +kernel
theorem dX8_type_36 : decode cX8_type 36 = .ok (.iload_n 3, 1) := by decide +kernel
theorem dX8_type_37 : decode cX8_type 37 = .ok (.iconst (-1), 1) := by decide +kernel
theorem dX8_type_38 : decode cX8_type 38 = .ok (.if_icmp .ne 7, 3) := by decide +kernel
theorem dX8_type_41 : decode cX8_type 41 = .ok (.aconst_null, 1) := by decide +kernel
theorem dX8_type_42 : decode cX8_type 42 = .ok (.goto 9, 3) := by decide +kernel
theorem dX8_type_45 : decode cX8_type 45 = .ok (.aload_n 0, 1) := by decide +kernel
theorem dX8_type_46 : decode cX8_type 46 = .ok (.getfield 11, 3) := by decide +kernel
theorem dX8_type_49 : decode cX8_type 49 = .ok (.iload_n 3, 1) := by decide +kernel
theorem dX8_type_50 : decode cX8_type 50 = .ok (.aaload, 1) := by decide +kernel
theorem dX8_type_51 : decode cX8_type 51 = .ok (.astore 6, 2) := by decide +kernel
theorem dX8_type_53 : decode cX8_type 53 = .ok (.iload_n 2, 1) := by decide +kernel
theorem dX8_type_54 : decode cX8_type 54 = .ok (.aload_n 0, 1) := by decide +kernel
theorem dX8_type_55 : decode cX8_type 55 = .ok (.getfield 11, 3) := by decide +kernel
theorem dX8_type_58 : decode cX8_type 58 = .ok (.iload_n 1, 1) := by decide +kernel
theorem dX8_type_59 : decode cX8_type 59 = .ok (.aaload, 1) := by decide +kernel
theorem dX8_type_60 : decode cX8_type 60 = .ok (.invokestatic 79, 3) := by decide +kernel
theorem dX8_type_63 : decode cX8_type 63 = .ok (.ifCond .eq 12, 3) := by decide +kernel
theorem dX8_type_66 : decode cX8_type 66 = .ok (.iload_n 2, 1) := by decide +kernel
theorem dX8_type_67 : decode cX8_type 67 = .ok (.aload 6, 2) := by decide +kernel
theorem dX8_type_69 : decode cX8_type 69 = .ok (.invokestatic 83, 3) := by decide +kernel
theorem dX8_type_72 : decode cX8_type 72 = .ok (.ifCond .ne 6, 3) := by decide +kernel
theorem dX8_type_75 : decode cX8_type 75 = .ok (.bipush (-4), 2) := by decide +kernel
theorem dX8_type_77 : decode cX8_type 77 = .ok (.ireturn, 1) := by decide +kernel
theorem dX8_type_78 : decode cX8_type 78 = .ok (.aload_n 0, 1) := by decide +kernel
theorem dX8_type_79 : decode cX8_type 79 = .ok (.getfield 15, 3) := by decide +kernel
theorem dX8_type_82 : decode cX8_type 82 = .ok (.bipush 16, 2) := by decide +kernel
theorem dX8_type_84 : decode cX8_type 84 = .ok (.if_icmp .lt 6, 3) := by decide +kernel
theorem dX8_type_90 : decode cX8_type 90 = .ok (.aload_n 0, 1) := by decide +kernel
theorem dX8_type_91 : decode cX8_type 91 = .ok (.getfield 11, 3) := by decide +kernel
theorem dX8_type_94 : decode cX8_type 94 = .ok (.aload_n 0, 1) := by decide +kernel
theorem dX8_type_95 : decode cX8_type 95 = .ok (.getfield 15, 3) := by decide +kernel
theorem dX8_type_98 : decode cX8_type 98 = .ok (.new 9, 3) := by decide +kernel
theorem dX8_type_101 : decode cX8_type 101 = .ok (.dup, 1) := by decide +kernel
theorem dX8_type_102 : decode cX8_type 102 = .ok (.aload_n 0, 1) := by decide +kernel
theorem dX8_type_103 : decode cX8_type 103 = .ok (.getfield 15, 3) := by decide +kernel
theorem dX8_type_106 : decode cX8_type 106 = .ok (.aload_n 0, 1) := by decide +kernel
theorem dX8_type_107 : decode cX8_type 107 = .ok (.getfield 11, 3) := by decide +kernel
theorem dX8_type_110 : decode cX8_type 110 = .ok (.iload_n 1, 1) := by decide +kernel
theorem dX8_type_111 : decode cX8_type 111 = .ok (.aaload, 1) := by decide +kernel
theorem dX8_type_112 : decode cX8_type 112 = .ok (.iload_n 2, 1) := by decide +kernel
theorem dX8_type_113 : decode cX8_type 113 = .ok (.aload 6, 2) := by decide +kernel
theorem dX8_type_115 : decode cX8_type 115 = .ok (.iload 4, 2) := by decide +kernel
theorem dX8_type_117 : decode cX8_type 117 = .ok (.iload 5, 2) := by decide +kernel
theorem dX8_type_119 : decode cX8_type 119 = .ok (.invokespecial 72, 3) := by decide +kernel
theorem dX8_type_122 : decode cX8_type 122 = .ok (.aastore, 1) := by decide +kernel
theorem dX8_type_123 : decode cX8_type 123 = .ok (.aload_n 0, 1) := by decide +kernel
theorem dX8_type_124 : decode cX8_type 124 = .ok (.dup, 1) := by decide +kernel
theorem dX8_type_125 : decode cX8_type 125 = .ok (.getfield 15, 3) := by decide +kernel
theorem dX8_type_128 : decode cX8_type 128 = .ok (.iconst 1, 1) := by decide +kernel
theorem dX8_type_129 : decode cX8_type 129 = .ok (.iadd, 1) := by decide +kernel
theorem dX8_type_130 : decode cX8_type 130 = .ok (.putfield 15, 3) := by decide +kernel
theorem dX8_type_133 : decode cX8_type 133 = .ok (.aload_n 0, 1) := by decide +kernel
theorem dX8_type_134 : decode cX8_type 134 = .ok (.getfield 15, 3) := by decide +kernel
theorem dX8_type_137 : decode cX8_type 137 = .ok (.iconst 1, 1) := by decide +kernel
theorem dX8_type_138 : decode cX8_type 138 = .ok (.isub, 1) := by decide +kernel
theorem dX8_type_139 : decode cX8_type 139 = .ok (.ireturn, 1) := by decide +kernel
theorem dX8_constants_0 : decode cX8_constants 0 = .ok (.aload_n 0, 1) := by decide +kernel
theorem dX8_constants_1 : decode cX8_constants 1 = .ok (.iload_n 1, 1) := by decide +kernel
theorem dX8_constants_2 : decode cX8_constants 2 = .ok (.invokevirtual 75, 3) := by decide +kernel
theorem dX8_constants_5 : decode cX8_constants 5 = .ok (.ifCond .ne 6, 3) := by decide +kernel
theorem dX8_constants_8 : decode cX8_constants 8 = .ok (.bipush (-2), 2) := by decide +kernel
theorem dX8_constants_10 : decode cX8_constants 10 = .ok (.ireturn, 1) := by decide +kernel
theorem dX8_constants_11 : decode cX8_constants 11 = .ok (.iload_n 2, 1) := by decide +kernel
theorem dX8_constants_12 : decode cX8_constants 12 = .ok (.iconst 1, 1) := by decide +kernel
theorem dX8_constants_13 : decode cX8_constants 13 = .ok (.if_icmp .lt 8, 3) := by decide +kernel
theorem dX8_constants_16 : decode cX8_constants 16 = .ok (.iload_n 2, 1) := by decide +kernel
theorem dX8_constants_17 : decode cX8_constants 17 = .ok (.iconst 4, 1) := by decide +kernel
theorem dX8_constants_18 : decode cX8_constants 18 = .ok (.if_icmp .le 6, 3) := by decide +kernel
theorem dX8_constants_21 : decode cX8_constants 21 = .ok (.bipush (-3), 2) := by decide +kernel
theorem dX8_constants_23 : decode cX8_constants 23 = .ok (.ireturn, 1) := by decide +kernel
theorem dX8_constants_24 : decode cX8_constants 24 = .ok (.aload_n 0, 1) := by decide +kernel
theorem dX8_constants_25 : decode cX8_constants 25 = .ok (.getfield 11, 3) := by decide +kernel
theorem dX8_constants_28 : decode cX8_constants 28 = .ok (.iload_n 1, 1) := by decide +kernel
theorem dX8_constants_29 : decode cX8_constants 29 = .ok (.aaload, 1) := by decide +kernel
theorem dX8_constants_30 : decode cX8_constants 30 = .ok (.astore_n 3, 1) := by decide +kernel
theorem dX8_constants_31 : decode cX8_constants 31 = .ok (.aload_n 3, 1) := by decide +kernel
theorem dX8_constants_32 : decode cX8_constants 32 = .ok (.getfield 86, 3) := by decide +kernel
theorem dX8_constants_35 : decode cX8_constants 35 = .ok (.iconst 4, 1) := by decide +kernel
theorem dX8_constants_36 : decode cX8_constants 36 = .ok (.if_icmp .ne 17, 3) := by decide +kernel
theorem dX8_constants_53 : decode cX8_constants 53 = .ok (.bipush (-4), 2) := by decide +kernel
theorem dX8_constants_55 : decode cX8_constants 55 = .ok (.ireturn, 1) := by decide +kernel
theorem dX8_field_0 : decode cX8_field 0 = .ok (.aload_n 0, 1) := by decide +kernel
theorem dX8_field_1 : decode cX8_field 1 = .ok (.iload_n 1, 1) := by decide +kernel
theorem dX8_field_2 : decode cX8_field 2 = .ok (.invokevirtual 75, 3) := by decide +kernel
theorem dX8_field_5 : decode cX8_field 5 = .ok (.ifCond .eq 11, 3) := by decide +kernel
theorem dX8_field_8 : decode cX8_field 8 = .ok (.aload_n 0, 1) := by decide +kernel
theorem dX8_field_9 : decode cX8_field 9 = .ok (.iload_n 3, 1) := by decide +kernel
theorem dX8_field_10 : decode cX8_field 10 = .ok (.invokevirtual 95, 3) := by decide +kernel
theorem dX8_field_13 : decode cX8_field 13 = .ok (.ifCond .eq 6, 3) := by decide +kernel
theorem dX8_field_16 : decode cX8_field 16 = .ok (.bipush (-2), 2) := by decide +kernel
theorem dX8_field_18 : decode cX8_field 18 = .ok (.ireturn, 1) := by decide +kernel
theorem dX8_field_19 : decode cX8_field 19 = .ok (.iload_n 2, 1) := by decide +kernel
theorem dX8_field_20 : decode cX8_field 20 = .ok (.invokestatic 98, 3) := by decide +kernel
theorem dX8_field_23 : decode cX8_field 23 = .ok (.ifCond .ne 9, 3) := by decide +kernel
theorem dX8_field_26 : decode cX8_field 26 = .ok (.iload_n 3, 1) := by decide +kernel
theorem dX8_field_27 : decode cX8_field 27 = .ok (.bipush (-2), 2) := by decide +kernel
theorem dX8_field_29 : decode cX8_field 29 = .ok (.if_icmp .ge 6, 3) := by decide +kernel
theorem dX8_field_32 : decode cX8_field 32 = .ok (.bipush (-3), 2) := by decide +kernel
theorem dX8_field_34 : decode cX8_field 34 = .ok (.ireturn, 1) := by decide +kernel
theorem dX8_field_35 : decode cX8_field 35 = .ok (.aload_n 0, 1) := by decide +kernel
theorem dX8_field_36 : decode cX8_field 36 = .ok (.getfield 11, 3) := by decide +kernel
theorem dX8_field_39 : decode cX8_field 39 = .ok (.iload_n 1, 1) := by decide +kernel
theorem dX8_field_40 : decode cX8_field 40 = .ok (.aaload, 1) := by decide +kernel
theorem dX8_field_41 : decode cX8_field 41 = .ok (.astore 7, 2) := by decide +kernel
theorem dX8_field_43 : decode cX8_field 43 = .ok (.aload_n 0, 1) := by decide +kernel
theorem dX8_field_44 : decode cX8_field 44 = .ok (.getfield 46, 3) := by decide +kernel
theorem dX8_field_47 : decode cX8_field 47 = .ok (.ifCond .gt 26, 3) := by decide +kernel
theorem dX8_field_50 : decode cX8_field 50 = .ok (.aload 7, 2) := by decide +kernel
theorem dX8_field_52 : decode cX8_field 52 = .ok (.iload 4, 2) := by decide +kernel
theorem dX8_field_54 : decode cX8_field 54 = .ok (.iload 5, 2) := by decide +kernel
theorem dX8_field_56 : decode cX8_field 56 = .ok (.invokestatic 101, 3) := by decide +kernel
theorem dX8_field_59 : decode cX8_field 59 = .ok (.ifCond .eq 14, 3) := by decide +kernel
theorem dX8_field_62 : decode cX8_field 62 = .ok (.aload_n 0, 1) := by decide +kernel
theorem dX8_field_63 : decode cX8_field 63 = .ok (.aload 7, 2) := by decide +kernel
theorem dX8_field_65 : decode cX8_field 65 = .ok (.iload_n 2, 1) := by decide +kernel
theorem dX8_field_66 : decode cX8_field 66 = .ok (.invokevirtual 105, 3) := by decide +kernel
theorem dX8_field_69 : decode cX8_field 69 = .ok (.iconst (-1), 1) := by decide +kernel
theorem dX8_field_70 : decode cX8_field 70 = .ok (.if_icmp .eq 6, 3) := by decide +kernel
theorem dX8_field_73 : decode cX8_field 73 = .ok (.bipush (-4), 2) := by decide +kernel
theorem dX8_field_75 : decode cX8_field 75 = .ok (.ireturn, 1) := by decide +kernel
theorem dX8_field_76 : decode cX8_field 76 = .ok (.aload_n 0, 1) := by decide +kernel
theorem dX8_field_77 : decode cX8_field 77 = .ok (.getfield 25, 3) := by decide +kernel
theorem dX8_field_80 : decode cX8_field 80 = .ok (.bipush 40, 2) := by decide +kernel
theorem dX8_field_82 : decode cX8_field 82 = .ok (.if_icmp .lt 6, 3) := by decide +kernel
theorem dX8_field_88 : decode cX8_field 88 = .ok (.iload 4, 2) := by decide +kernel
theorem dX8_field_90 : decode cX8_field 90 = .ok (.ifCond .eq 7, 3) := by decide +kernel
theorem dX8_field_93 : decode cX8_field 93 = .ok (.iconst (-1), 1) := by decide +kernel
theorem dX8_field_94 : decode cX8_field 94 = .ok (.goto 7, 3) := by decide +kernel
theorem dX8_field_101 : decode cX8_field 101 = .ok (.istore 8, 2) := by decide +kernel
theorem dX8_field_103 : decode cX8_field 103 = .ok (.iload 4, 2) := by decide +kernel
theorem dX8_field_105 : decode cX8_field 105 = .ok (.ifCond .ne 13, 3) := by decide +kernel
theorem dX8_field_118 : decode cX8_field 118 = .ok (.aload_n 0, 1) := by decide +kernel
theorem dX8_field_119 : decode cX8_field 119 = .ok (.new 109, 3) := by decide +kernel
theorem dX8_field_122 : decode cX8_field 122 = .ok (.dup, 1) := by decide +kernel
theorem dX8_field_123 : decode cX8_field 123 = .ok (.aload 7, 2) := by decide +kernel
theorem dX8_field_125 : decode cX8_field 125 = .ok (.iload_n 2, 1) := by decide +kernel
theorem dX8_field_126 : decode cX8_field 126 = .ok (.iload_n 3, 1) := by decide +kernel
theorem dX8_field_127 : decode cX8_field 127 = .ok (.iload 4, 2) := by decide +kernel
theorem dX8_field_129 : decode cX8_field 129 = .ok (.iload 5, 2) := by decide +kernel
theorem dX8_field_131 : decode cX8_field 131 = .ok (.iload 6, 2) := by decide +kernel
theorem dX8_field_133 : decode cX8_field 133 = .ok (.iload 8, 2) := by decide +kernel
theorem dX8_field_135 : decode cX8_field 135 = .ok (.invokespecial 111, 3) := by decide +kernel
theorem dX8_field_138 : decode cX8_field 138 = .ok (.invokevirtual 114, 3) := by decide +kernel
theorem dX8_field_141 : decode cX8_field 141 = .ok (.ireturn, 1) := by decide +kernel
theorem dX8_caller_0 : decode cX8_caller 0 = .ok (.aload_n 0, 1) := by decide +kernel
theorem dX8_caller_1 : decode cX8_caller 1 = .ok (.iload_n 1, 1) := by decide +kernel
theorem dX8_caller_2 : decode cX8_caller 2 = .ok (.invokevirtual 75, 3) := by decide +kernel
theorem dX8_caller_5 : decode cX8_caller 5 = .ok (.ifCond .ne 6, 3) := by decide +kernel
theorem dX8_caller_8 : decode cX8_caller 8 = .ok (.bipush (-2), 2) := by decide +kernel
theorem dX8_caller_10 : decode cX8_caller 10 = .ok (.ireturn, 1) := by decide +kernel
theorem dX8_caller_11 : decode cX8_caller 11 = .ok (.aload_n 0, 1) := by decide +kernel
theorem dX8_caller_12 : decode cX8_caller 12 = .ok (.getfield 58, 3) := by decide +kernel
theorem dX8_caller_15 : decode cX8_caller 15 = .ok (.istore_n 2, 1) := by decide +kernel
theorem dX8_caller_16 : decode cX8_caller 16 = .ok (.aload_n 0, 1) := by decide +kernel
theorem dX8_caller_17 : decode cX8_caller 17 = .ok (.iload_n 1, 1) := by decide +kernel
theorem dX8_caller_18 : decode cX8_caller 18 = .ok (.putfield 58, 3) := by decide +kernel
theorem dX8_caller_21 : decode cX8_caller 21 = .ok (.iload_n 2, 1) := by decide +kernel
theorem dX8_caller_22 : decode cX8_caller 22 = .ok (.ireturn, 1) := by decide +kernel
theorem dX8_findField_0 : decode cX8_findField 0 = .ok (.aload_n 0, 1) := by decide +kernel
theorem dX8_findField_1 : decode cX8_findField 1 = .ok (.iload_n 1, 1) := by decide +kernel
theorem dX8_findField_2 : decode cX8_findField 2 = .ok (.invokevirtual 75, 3) := by decide +kernel
theorem dX8_findField_5 : decode cX8_findField 5 = .ok (.ifCond .ne 6, 3) := by decide +kernel
theorem dX8_findField_8 : decode cX8_findField 8 = .ok (.bipush (-2), 2) := by decide +kernel
theorem dX8_findField_10 : decode cX8_findField 10 = .ok (.ireturn, 1) := by decide +kernel
theorem dX8_findField_11 : decode cX8_findField 11 = .ok (.iload_n 2, 1) := by decide +kernel
theorem dX8_findField_12 : decode cX8_findField 12 = .ok (.invokestatic 98, 3) := by decide +kernel
theorem dX8_findField_15 : decode cX8_findField 15 = .ok (.ifCond .eq 6, 3) := by decide +kernel
theorem dX8_findField_18 : decode cX8_findField 18 = .ok (.bipush (-3), 2) := by decide +kernel
theorem dX8_findField_20 : decode cX8_findField 20 = .ok (.ireturn, 1) := by decide +kernel
theorem dX8_findField_21 : decode cX8_findField 21 = .ok (.aload_n 0, 1) := by decide +kernel
theorem dX8_findField_22 : decode cX8_findField 22 = .ok (.iload_n 3, 1) := by decide +kernel
theorem dX8_findField_23 : decode cX8_findField 23 = .ok (.ifCond .eq 17, 3) := by decide +kernel
theorem dX8_findField_26 : decode cX8_findField 26 = .ok (.aload_n 0, 1) := by decide +kernel
theorem dX8_findField_27 : decode cX8_findField 27 = .ok (.aload_n 0, 1) := by decide +kernel
theorem dX8_findField_28 : decode cX8_findField 28 = .ok (.getfield 11, 3) := by decide +kernel
theorem dX8_findField_31 : decode cX8_findField 31 = .ok (.iload_n 1, 1) := by decide +kernel
theorem dX8_findField_32 : decode cX8_findField 32 = .ok (.aaload, 1) := by decide +kernel
theorem dX8_findField_33 : decode cX8_findField 33 = .ok (.iload_n 2, 1) := by decide +kernel
theorem dX8_findField_34 : decode cX8_findField 34 = .ok (.invokevirtual 158, 3) := by decide +kernel
theorem dX8_findField_37 : decode cX8_findField 37 = .ok (.goto 14, 3) := by decide +kernel
theorem dX8_findField_40 : decode cX8_findField 40 = .ok (.aload_n 0, 1) := by decide +kernel
theorem dX8_findField_41 : decode cX8_findField 41 = .ok (.aload_n 0, 1) := by decide +kernel
theorem dX8_findField_42 : decode cX8_findField 42 = .ok (.getfield 11, 3) := by decide +kernel
theorem dX8_findField_45 : decode cX8_findField 45 = .ok (.iload_n 1, 1) := by decide +kernel
theorem dX8_findField_46 : decode cX8_findField 46 = .ok (.aaload, 1) := by decide +kernel
theorem dX8_findField_47 : decode cX8_findField 47 = .ok (.iload_n 2, 1) := by decide +kernel
theorem dX8_findField_48 : decode cX8_findField 48 = .ok (.invokevirtual 105, 3) := by decide +kernel
theorem dX8_findField_51 : decode cX8_findField 51 = .ok (.invokevirtual 161, 3) := by decide +kernel
theorem dX8_findField_54 : decode cX8_findField 54 = .ok (.ireturn, 1) := by decide +kernel
theorem dX8_findMethod_0 : decode cX8_findMethod 0 = .ok (.new 118, 3) := by decide +kernel
theorem dX8_findMethod_3 : decode cX8_findMethod 3 = .ok (.dup, 1) := by decide +kernel
theorem dX8_findMethod_4 : decode cX8_findMethod 4 = .ok (.iload_n 2, 1) := by decide +kernel
theorem dX8_findMethod_5 : decode cX8_findMethod 5 = .ok (.iload_n 3, 1) := by decide +kernel
theorem dX8_findMethod_6 : decode cX8_findMethod 6 = .ok (.iload 4, 2) := by decide +kernel
theorem dX8_findMethod_8 : decode cX8_findMethod 8 = .ok (.iload 5, 2) := by decide +kernel
theorem dX8_findMethod_10 : decode cX8_findMethod 10 = .ok (.invokespecial 120, 3) := by decide +kernel
theorem dX8_findMethod_13 : decode cX8_findMethod 13 = .ok (.astore 7, 2) := by decide +kernel
theorem dX8_findMethod_15 : decode cX8_findMethod 15 = .ok (.aload_n 0, 1) := by decide +kernel
theorem dX8_findMethod_16 : decode cX8_findMethod 16 = .ok (.iload_n 1, 1) := by decide +kernel
theorem dX8_findMethod_17 : decode cX8_findMethod 17 = .ok (.invokevirtual 75, 3) := by decide +kernel
theorem dX8_findMethod_20 : decode cX8_findMethod 20 = .ok (.ifCond .eq 12, 3) := by decide +kernel
theorem dX8_findMethod_23 : decode cX8_findMethod 23 = .ok (.aload_n 0, 1) := by decide +kernel
theorem dX8_findMethod_24 : decode cX8_findMethod 24 = .ok (.aload 7, 2) := by decide +kernel
theorem dX8_findMethod_26 : decode cX8_findMethod 26 = .ok (.invokevirtual 123, 3) := by decide +kernel
theorem dX8_findMethod_29 : decode cX8_findMethod 29 = .ok (.ifCond .eq 6, 3) := by decide +kernel
theorem dX8_findMethod_32 : decode cX8_findMethod 32 = .ok (.bipush (-2), 2) := by decide +kernel
theorem dX8_findMethod_34 : decode cX8_findMethod 34 = .ok (.ireturn, 1) := by decide +kernel
theorem dX8_findMethod_35 : decode cX8_findMethod 35 = .ok (.aload 7, 2) := by decide +kernel
theorem dX8_findMethod_37 : decode cX8_findMethod 37 = .ok (.invokevirtual 127, 3) := by decide +kernel
theorem dX8_findMethod_40 : decode cX8_findMethod 40 = .ok (.ifCond .eq 6, 3) := by decide +kernel
theorem dX8_findMethod_43 : decode cX8_findMethod 43 = .ok (.bipush (-3), 2) := by decide +kernel
theorem dX8_findMethod_45 : decode cX8_findMethod 45 = .ok (.ireturn, 1) := by decide +kernel
theorem dX8_findMethod_46 : decode cX8_findMethod 46 = .ok (.aload_n 0, 1) := by decide +kernel
theorem dX8_findMethod_47 : decode cX8_findMethod 47 = .ok (.iload 6, 2) := by decide +kernel
theorem dX8_findMethod_49 : decode cX8_findMethod 49 = .ok (.ifCond .eq 18, 3) := by decide +kernel
theorem dX8_findMethod_52 : decode cX8_findMethod 52 = .ok (.aload_n 0, 1) := by decide +kernel
theorem dX8_findMethod_53 : decode cX8_findMethod 53 = .ok (.aload_n 0, 1) := by decide +kernel
theorem dX8_findMethod_54 : decode cX8_findMethod 54 = .ok (.getfield 11, 3) := by decide +kernel
theorem dX8_findMethod_57 : decode cX8_findMethod 57 = .ok (.iload_n 1, 1) := by decide +kernel
theorem dX8_findMethod_58 : decode cX8_findMethod 58 = .ok (.aaload, 1) := by decide +kernel
theorem dX8_findMethod_59 : decode cX8_findMethod 59 = .ok (.aload 7, 2) := by decide +kernel
theorem dX8_findMethod_61 : decode cX8_findMethod 61 = .ok (.invokevirtual 165, 3) := by decide +kernel
theorem dX8_findMethod_64 : decode cX8_findMethod 64 = .ok (.goto 15, 3) := by decide +kernel
theorem dX8_findMethod_67 : decode cX8_findMethod 67 = .ok (.aload_n 0, 1) := by decide +kernel
theorem dX8_findMethod_68 : decode cX8_findMethod 68 = .ok (.aload_n 0, 1) := by decide +kernel
theorem dX8_findMethod_69 : decode cX8_findMethod 69 = .ok (.getfield 11, 3) := by decide +kernel
theorem dX8_findMethod_72 : decode cX8_findMethod 72 = .ok (.iload_n 1, 1) := by decide +kernel
theorem dX8_findMethod_73 : decode cX8_findMethod 73 = .ok (.aaload, 1) := by decide +kernel
theorem dX8_findMethod_74 : decode cX8_findMethod 74 = .ok (.aload 7, 2) := by decide +kernel
theorem dX8_findMethod_76 : decode cX8_findMethod 76 = .ok (.invokevirtual 154, 3) := by decide +kernel
theorem dX8_findMethod_79 : decode cX8_findMethod 79 = .ok (.invokevirtual 161, 3) := by decide +kernel
theorem dX8_findMethod_82 : decode cX8_findMethod 82 = .ok (.ireturn, 1) := by decide +kernel
theorem dX8_leave_0 : decode cX8_leave 0 = .ok (.aload_n 0, 1) := by decide +kernel
theorem dX8_leave_1 : decode cX8_leave 1 = .ok (.iload_n 1, 1) := by decide +kernel
theorem dX8_leave_2 : decode cX8_leave 2 = .ok (.invokevirtual 168, 3) := by decide +kernel
theorem dX8_leave_5 : decode cX8_leave 5 = .ok (.ifCond .ne 6, 3) := by decide +kernel
theorem dX8_leave_8 : decode cX8_leave 8 = .ok (.bipush (-2), 2) := by decide +kernel
theorem dX8_leave_10 : decode cX8_leave 10 = .ok (.ireturn, 1) := by decide +kernel
theorem dX8_get_0 : decode cX8_get 0 = .ok (.aload_n 0, 1) := by decide +kernel
theorem dX8_get_1 : decode cX8_get 1 = .ok (.iload_n 1, 1) := by decide +kernel
theorem dX8_get_2 : decode cX8_get 2 = .ok (.invokevirtual 168, 3) := by decide +kernel
theorem dX8_get_5 : decode cX8_get 5 = .ok (.ifCond .eq 11, 3) := by decide +kernel
theorem dX8_get_16 : decode cX8_get 16 = .ok (.bipush (-2), 2) := by decide +kernel
theorem dX8_get_18 : decode cX8_get 18 = .ok (.ireturn, 1) := by decide +kernel
theorem dX8_set_0 : decode cX8_set 0 = .ok (.aload_n 0, 1) := by decide +kernel
theorem dX8_set_1 : decode cX8_set 1 = .ok (.iload_n 1, 1) := by decide +kernel
theorem dX8_set_2 : decode cX8_set 2 = .ok (.invokevirtual 168, 3) := by decide +kernel
theorem dX8_set_5 : decode cX8_set 5 = .ok (.ifCond .eq 11, 3) := by decide +kernel
theorem dX8_set_16 : decode cX8_set 16 = .ok (.bipush (-2), 2) := by decide +kernel
theorem dX8_set_18 : decode cX8_set 18 = .ok (.ireturn, 1) := by decide +kernel
theorem dX8_call_0 : decode cX8_call 0 = .ok (.aload_n 0, 1) := by decide +kernel
theorem dX8_call_1 : decode cX8_call 1 = .ok (.iload_n 1, 1) := by decide +kernel
theorem dX8_call_2 : decode cX8_call 2 = .ok (.invokevirtual 168, 3) := by decide +kernel
theorem dX8_call_5 : decode cX8_call 5 = .ok (.ifCond .eq 11, 3) := by decide +kernel
theorem dX8_call_16 : decode cX8_call 16 = .ok (.bipush (-2), 2) := by decide +kernel
theorem dX8_call_18 : decode cX8_call 18 = .ok (.ireturn, 1) := by decide +kernel
theorem dX8_proxy_0 : decode cX8_proxy 0 = .ok (.aload_n 0, 1) := by decide +kernel
theorem dX8_proxy_1 : decode cX8_proxy 1 = .ok (.iload_n 1, 1) := by decide +kernel
theorem dX8_proxy_2 : decode cX8_proxy 2 = .ok (.invokevirtual 75, 3) := by decide +kernel
theorem dX8_proxy_5 : decode cX8_proxy 5 = .ok (.ifCond .ne 6, 3) := by decide +kernel
theorem dX8_proxy_8 : decode cX8_proxy 8 = .ok (.bipush (-2), 2) := by decide +kernel
theorem dX8_proxy_10 : decode cX8_proxy 10 = .ok (.ireturn, 1) := by decide +kernel
theorem dX8_proxy_11 : decode cX8_proxy 11 = .ok (.iload_n 2, 1) := by decide +kernel
theorem dX8_proxy_12 : decode cX8_proxy 12 = .ok (.ifCond .lt 8, 3) := by decide +kernel
theorem dX8_proxy_15 : decode cX8_proxy 15 = .ok (.iload_n 2, 1) := by decide +kernel
theorem dX8_proxy_16 : decode cX8_proxy 16 = .ok (.iconst 3, 1) := by decide +kernel
theorem dX8_proxy_17 : decode cX8_proxy 17 = .ok (.if_icmp .le 6, 3) := by decide +kernel
theorem dX8_proxy_20 : decode cX8_proxy 20 = .ok (.bipush (-3), 2) := by decide +kernel
theorem dX8_proxy_22 : decode cX8_proxy 22 = .ok (.ireturn, 1) := by decide +kernel
theorem dX8_proxy_23 : decode cX8_proxy 23 = .ok (.aload_n 0, 1) := by decide +kernel
theorem dX8_proxy_24 : decode cX8_proxy 24 = .ok (.getfield 11, 3) := by decide +kernel
theorem dX8_proxy_27 : decode cX8_proxy 27 = .ok (.iload_n 1, 1) := by decide +kernel
theorem dX8_proxy_28 : decode cX8_proxy 28 = .ok (.aaload, 1) := by decide +kernel
theorem dX8_proxy_29 : decode cX8_proxy 29 = .ok (.getfield 86, 3) := by decide +kernel
theorem dX8_proxy_32 : decode cX8_proxy 32 = .ok (.iconst 2, 1) := by decide +kernel
theorem dX8_proxy_33 : decode cX8_proxy 33 = .ok (.if_icmp .eq 6, 3) := by decide +kernel
theorem dX8_proxy_36 : decode cX8_proxy 36 = .ok (.bipush (-4), 2) := by decide +kernel
theorem dX8_proxy_38 : decode cX8_proxy 38 = .ok (.ireturn, 1) := by decide +kernel
theorem dX8_constant_0 : decode cX8_constant 0 = .ok (.aload_n 0, 1) := by decide +kernel
theorem dX8_constant_1 : decode cX8_constant 1 = .ok (.iload_n 1, 1) := by decide +kernel
theorem dX8_constant_2 : decode cX8_constant 2 = .ok (.invokevirtual 75, 3) := by decide +kernel
theorem dX8_constant_5 : decode cX8_constant 5 = .ok (.ifCond .ne 6, 3) := by decide +kernel
theorem dX8_constant_8 : decode cX8_constant 8 = .ok (.bipush (-2), 2) := by decide +kernel
theorem dX8_constant_10 : decode cX8_constant 10 = .ok (.ireturn, 1) := by decide +kernel
theorem dX8_constant_11 : decode cX8_constant 11 = .ok (.aload_n 0, 1) := by decide +kernel
theorem dX8_constant_12 : decode cX8_constant 12 = .ok (.getfield 11, 3) := by decide +kernel
theorem dX8_constant_15 : decode cX8_constant 15 = .ok (.iload_n 1, 1) := by decide +kernel
theorem dX8_constant_16 : decode cX8_constant 16 = .ok (.aaload, 1) := by decide +kernel
theorem dX8_constant_17 : decode cX8_constant 17 = .ok (.astore_n 3, 1) := by decide +kernel
theorem dX8_constant_18 : decode cX8_constant 18 = .ok (.aload_n 3, 1) := by decide +kernel
theorem dX8_constant_19 : decode cX8_constant 19 = .ok (.getfield 86, 3) := by decide +kernel
theorem dX8_constant_22 : decode cX8_constant 22 = .ok (.iconst 4, 1) := by decide +kernel
theorem dX8_constant_23 : decode cX8_constant 23 = .ok (.if_icmp .eq 6, 3) := by decide +kernel
theorem dX8_constant_26 : decode cX8_constant 26 = .ok (.bipush (-4), 2) := by decide +kernel
theorem dX8_constant_28 : decode cX8_constant 28 = .ok (.ireturn, 1) := by decide +kernel
theorem dX8_resultKind_0 : decode cX8_resultKind 0 = .ok (.aload_n 0, 1) := by decide +kernel
theorem dX8_resultKind_1 : decode cX8_resultKind 1 = .ok (.getfield 62, 3) := by decide +kernel
theorem dX8_resultKind_4 : decode cX8_resultKind 4 = .ok (.getfield 258, 3) := by decide +kernel
theorem dX8_resultKind_7 : decode cX8_resultKind 7 = .ok (.ireturn, 1) := by decide +kernel
theorem dX8_result_0 : decode cX8_result 0 = .ok (.aload_n 0, 1) := by decide +kernel
theorem dX8_result_1 : decode cX8_result 1 = .ok (.getfield 62, 3) := by decide +kernel
theorem dX8_result_4 : decode cX8_result 4 = .ok (.getfield 261, 3) := by decide +kernel
theorem dX8_result_7 : decode cX8_result 7 = .ok (.lreturn, 1) := by decide +kernel
theorem dX8_cause_0 : decode cX8_cause 0 = .ok (.aload_n 0, 1) := by decide +kernel
theorem dX8_cause_1 : decode cX8_cause 1 = .ok (.getfield 69, 3) := by decide +kernel
theorem dX8_cause_4 : decode cX8_cause 4 = .ok (.ireturn, 1) := by decide +kernel
theorem dX8_about_0 : decode cX8_about 0 = .ok (.aload_n 0, 1) := by decide +kernel
theorem dX8_about_1 : decode cX8_about 1 = .ok (.iload_n 1, 1) := by decide +kernel
theorem dX8_about_2 : decode cX8_about 2 = .ok (.invokevirtual 75, 3) := by decide +kernel
theorem dX8_about_5 : decode cX8_about 5 = .ok (.ifCond .ne 6, 3) := by decide +kernel
theorem dX8_about_8 : decode cX8_about 8 = .ok (.bipush (-2), 2) := by decide +kernel
theorem dX8_about_10 : decode cX8_about 10 = .ok (.ireturn, 1) := by decide +kernel
theorem dX8_about_11 : decode cX8_about 11 = .ok (.aload_n 0, 1) := by decide +kernel
theorem dX8_about_12 : decode cX8_about 12 = .ok (.getfield 11, 3) := by decide +kernel
theorem dX8_about_15 : decode cX8_about 15 = .ok (.iload_n 1, 1) := by decide +kernel
theorem dX8_about_16 : decode cX8_about 16 = .ok (.aaload, 1) := by decide +kernel
theorem dX8_about_17 : decode cX8_about 17 = .ok (.astore_n 3, 1) := by decide +kernel
theorem dX8_about_18 : decode cX8_about 18 = .ok (.iload_n 2, 1) := by decide +kernel
theorem dX8_about_19 : decode cX8_about 19 = .ok (.tableswitch 86 0 4 #[33, 38, 57, 76, 81], 33) := by decide +kernel
theorem dX8_about_52 : decode cX8_about 52 = .ok (.aload_n 3, 1) := by decide +kernel
theorem dX8_about_53 : decode cX8_about 53 = .ok (.getfield 86, 3) := by decide +kernel
theorem dX8_about_56 : decode cX8_about 56 = .ok (.ireturn, 1) := by decide +kernel
theorem dX8_about_57 : decode cX8_about 57 = .ok (.aload_n 3, 1) := by decide +kernel
theorem dX8_about_58 : decode cX8_about 58 = .ok (.getfield 264, 3) := by decide +kernel
theorem dX8_about_61 : decode cX8_about 61 = .ok (.ifnonnull 7, 3) := by decide +kernel
theorem dX8_about_64 : decode cX8_about 64 = .ok (.iconst (-1), 1) := by decide +kernel
theorem dX8_about_65 : decode cX8_about 65 = .ok (.goto 10, 3) := by decide +kernel
theorem dX8_about_75 : decode cX8_about 75 = .ok (.ireturn, 1) := by decide +kernel
theorem dX8_about_76 : decode cX8_about 76 = .ok (.aload_n 3, 1) := by decide +kernel
theorem dX8_about_77 : decode cX8_about 77 = .ok (.getfield 267, 3) := by decide +kernel
theorem dX8_about_80 : decode cX8_about 80 = .ok (.ifnonnull 7, 3) := by decide +kernel
theorem dX8_about_83 : decode cX8_about 83 = .ok (.iconst (-1), 1) := by decide +kernel
theorem dX8_about_84 : decode cX8_about 84 = .ok (.goto 10, 3) := by decide +kernel
theorem dX8_about_94 : decode cX8_about 94 = .ok (.ireturn, 1) := by decide +kernel
theorem dX8_about_95 : decode cX8_about 95 = .ok (.aload_n 3, 1) := by decide +kernel
theorem dX8_about_96 : decode cX8_about 96 = .ok (.getfield 92, 3) := by decide +kernel
theorem dX8_about_99 : decode cX8_about 99 = .ok (.ireturn, 1) := by decide +kernel
theorem dX8_about_100 : decode cX8_about 100 = .ok (.aload_n 3, 1) := by decide +kernel
theorem dX8_about_101 : decode cX8_about 101 = .ok (.getfield 270, 3) := by decide +kernel
theorem dX8_about_104 : decode cX8_about 104 = .ok (.ireturn, 1) := by decide +kernel
theorem dX8_about_105 : decode cX8_about 105 = .ok (.bipush (-3), 2) := by decide +kernel
theorem dX8_about_107 : decode cX8_about 107 = .ok (.ireturn, 1) := by decide +kernel
theorem dX8_is_0 : decode cX8_is 0 = .ok (.aload_n 0, 1) := by decide +kernel
theorem dX8_is_1 : decode cX8_is 1 = .ok (.iload_n 1, 1) := by decide +kernel
theorem dX8_is_2 : decode cX8_is 2 = .ok (.invokevirtual 273, 3) := by decide +kernel
theorem dX8_is_5 : decode cX8_is 5 = .ok (.ifCond .eq 11, 3) := by decide +kernel
theorem dX8_is_16 : decode cX8_is 16 = .ok (.bipush (-2), 2) := by decide +kernel
theorem dX8_is_18 : decode cX8_is 18 = .ok (.ireturn, 1) := by decide +kernel
theorem dX8_handle_0 : decode cX8_handle 0 = .ok (.aload_n 0, 1) := by decide +kernel
theorem dX8_handle_1 : decode cX8_handle 1 = .ok (.iload_n 1, 1) := by decide +kernel
theorem dX8_handle_2 : decode cX8_handle 2 = .ok (.invokevirtual 168, 3) := by decide +kernel
theorem dX8_handle_5 : decode cX8_handle 5 = .ok (.ifCond .ne 6, 3) := by decide +kernel
theorem dX8_handle_8 : decode cX8_handle 8 = .ok (.bipush (-2), 2) := by decide +kernel
theorem dX8_handle_10 : decode cX8_handle 10 = .ok (.ireturn, 1) := by decide +kernel
theorem dX8_told_0 : decode cX8_told 0 = .ok (.iload_n 1, 1) := by decide +kernel
theorem dX8_told_1 : decode cX8_told 1 = .ok (.tableswitch 69 0 5 #[39, 44, 49, 54, 59, 64], 39) := by decide +kernel
theorem dX8_told_40 : decode cX8_told 40 = .ok (.aload_n 0, 1) := by decide +kernel
theorem dX8_told_41 : decode cX8_told 41 = .ok (.getfield 15, 3) := by decide +kernel
theorem dX8_told_44 : decode cX8_told 44 = .ok (.ireturn, 1) := by decide +kernel
theorem dX8_told_45 : decode cX8_told 45 = .ok (.aload_n 0, 1) := by decide +kernel
theorem dX8_told_46 : decode cX8_told 46 = .ok (.getfield 25, 3) := by decide +kernel
theorem dX8_told_49 : decode cX8_told 49 = .ok (.ireturn, 1) := by decide +kernel
theorem dX8_told_50 : decode cX8_told 50 = .ok (.aload_n 0, 1) := by decide +kernel
theorem dX8_told_51 : decode cX8_told 51 = .ok (.getfield 37, 3) := by decide +kernel
theorem dX8_told_54 : decode cX8_told 54 = .ok (.ireturn, 1) := by decide +kernel
theorem dX8_told_55 : decode cX8_told 55 = .ok (.aload_n 0, 1) := by decide +kernel
theorem dX8_told_56 : decode cX8_told 56 = .ok (.getfield 46, 3) := by decide +kernel
theorem dX8_told_59 : decode cX8_told 59 = .ok (.ireturn, 1) := by decide +kernel
theorem dX8_told_60 : decode cX8_told 60 = .ok (.aload_n 0, 1) := by decide +kernel
theorem dX8_told_61 : decode cX8_told 61 = .ok (.getfield 55, 3) := by decide +kernel
theorem dX8_told_64 : decode cX8_told 64 = .ok (.ireturn, 1) := by decide +kernel
theorem dX8_told_65 : decode cX8_told 65 = .ok (.aload_n 0, 1) := by decide +kernel
theorem dX8_told_66 : decode cX8_told 66 = .ok (.getfield 66, 3) := by decide +kernel
theorem dX8_told_69 : decode cX8_told 69 = .ok (.ireturn, 1) := by decide +kernel
theorem dX8_told_70 : decode cX8_told 70 = .ok (.bipush (-3), 2) := by decide +kernel
theorem dX8_told_72 : decode cX8_told 72 = .ok (.ireturn, 1) := by decide +kernel
theorem dX8_isClass_0 : decode cX8_isClass 0 = .ok (.iload_n 1, 1) := by decide +kernel
theorem dX8_isClass_1 : decode cX8_isClass 1 = .ok (.ifCond .lt 15, 3) := by decide +kernel
theorem dX8_isClass_4 : decode cX8_isClass 4 = .ok (.iload_n 1, 1) := by decide +kernel
theorem dX8_isClass_5 : decode cX8_isClass 5 = .ok (.aload_n 0, 1) := by decide +kernel
theorem dX8_isClass_6 : decode cX8_isClass 6 = .ok (.getfield 15, 3) := by decide +kernel
theorem dX8_isClass_9 : decode cX8_isClass 9 = .ok (.if_icmp .ge 7, 3) := by decide +kernel
theorem dX8_isClass_12 : decode cX8_isClass 12 = .ok (.iconst 1, 1) := by decide +kernel
theorem dX8_isClass_13 : decode cX8_isClass 13 = .ok (.goto 4, 3) := by decide +kernel
theorem dX8_isClass_16 : decode cX8_isClass 16 = .ok (.iconst 0, 1) := by decide +kernel
theorem dX8_isClass_17 : decode cX8_isClass 17 = .ok (.ireturn, 1) := by decide +kernel
theorem dX8_isHandle_0 : decode cX8_isHandle 0 = .ok (.iload_n 1, 1) := by decide +kernel
theorem dX8_isHandle_1 : decode cX8_isHandle 1 = .ok (.ifCond .lt 15, 3) := by decide +kernel
theorem dX8_isHandle_4 : decode cX8_isHandle 4 = .ok (.iload_n 1, 1) := by decide +kernel
theorem dX8_isHandle_5 : decode cX8_isHandle 5 = .ok (.aload_n 0, 1) := by decide +kernel
theorem dX8_isHandle_6 : decode cX8_isHandle 6 = .ok (.getfield 37, 3) := by decide +kernel
theorem dX8_isHandle_9 : decode cX8_isHandle 9 = .ok (.if_icmp .ge 7, 3) := by decide +kernel
theorem dX8_isHandle_16 : decode cX8_isHandle 16 = .ok (.iconst 0, 1) := by decide +kernel
theorem dX8_isHandle_17 : decode cX8_isHandle 17 = .ok (.ireturn, 1) := by decide +kernel
theorem dX8_isThing_0 : decode cX8_isThing 0 = .ok (.iload_n 1, 1) := by decide +kernel
theorem dX8_isThing_1 : decode cX8_isThing 1 = .ok (.ifCond .lt 15, 3) := by decide +kernel
theorem dX8_isThing_4 : decode cX8_isThing 4 = .ok (.iload_n 1, 1) := by decide +kernel
theorem dX8_isThing_5 : decode cX8_isThing 5 = .ok (.aload_n 0, 1) := by decide +kernel
theorem dX8_isThing_6 : decode cX8_isThing 6 = .ok (.getfield 46, 3) := by decide +kernel
theorem dX8_isThing_9 : decode cX8_isThing 9 = .ok (.if_icmp .ge 7, 3) := by decide +kernel
theorem dX8_isThing_16 : decode cX8_isThing 16 = .ok (.iconst 0, 1) := by decide +kernel
theorem dX8_isThing_17 : decode cX8_isThing 17 = .ok (.ireturn, 1) := by decide +kernel
theorem dX8_isMissingClass_0 : decode cX8_isMissingClass 0 = .ok (.iload_n 1, 1) := by decide +kernel
theorem dX8_isMissingClass_1 : decode cX8_isMissingClass 1 = .ok (.aload_n 0, 1) := by decide +kernel
theorem dX8_isMissingClass_2 : decode cX8_isMissingClass 2 = .ok (.getfield 15, 3) := by decide +kernel
theorem dX8_isMissingClass_5 : decode cX8_isMissingClass 5 = .ok (.if_icmp .lt 7, 3) := by decide +kernel
theorem dX8_isMissingClass_8 : decode cX8_isMissingClass 8 = .ok (.iconst 1, 1) := by decide +kernel
theorem dX8_isMissingClass_9 : decode cX8_isMissingClass 9 = .ok (.goto 4, 3) := by decide +kernel
theorem dX8_isMissingClass_12 : decode cX8_isMissingClass 12 = .ok (.iconst 0, 1) := by decide +kernel
theorem dX8_isMissingClass_13 : decode cX8_isMissingClass 13 = .ok (.ireturn, 1) := by decide +kernel
theorem dX8_hasMissingClass_0 : decode cX8_hasMissingClass 0 = .ok (.aload_n 0, 1) := by decide +kernel
theorem dX8_hasMissingClass_1 : decode cX8_hasMissingClass 1 = .ok (.aload_n 1, 1) := by decide +kernel
theorem dX8_hasMissingClass_2 : decode cX8_hasMissingClass 2 = .ok (.getfield 287, 3) := by decide +kernel
theorem dX8_hasMissingClass_5 : decode cX8_hasMissingClass 5 = .ok (.invokevirtual 95, 3) := by decide +kernel
theorem dX8_hasMissingClass_8 : decode cX8_hasMissingClass 8 = .ok (.ifCond .ne 14, 3) := by decide +kernel
theorem dX8_hasMissingClass_11 : decode cX8_hasMissingClass 11 = .ok (.aload_n 0, 1) := by decide +kernel
theorem dX8_hasMissingClass_12 : decode cX8_hasMissingClass 12 = .ok (.aload_n 1, 1) := by decide +kernel
theorem dX8_hasMissingClass_13 : decode cX8_hasMissingClass 13 = .ok (.getfield 290, 3) := by decide +kernel
theorem dX8_hasMissingClass_16 : decode cX8_hasMissingClass 16 = .ok (.invokevirtual 95, 3) := by decide +kernel
theorem dX8_hasMissingClass_19 : decode cX8_hasMissingClass 19 = .ok (.ifCond .eq 7, 3) := by decide +kernel
theorem dX8_hasMissingClass_22 : decode cX8_hasMissingClass 22 = .ok (.iconst 1, 1) := by decide +kernel
theorem dX8_hasMissingClass_23 : decode cX8_hasMissingClass 23 = .ok (.goto 4, 3) := by decide +kernel
theorem dX8_hasMissingClass_26 : decode cX8_hasMissingClass 26 = .ok (.iconst 0, 1) := by decide +kernel
theorem dX8_hasMissingClass_27 : decode cX8_hasMissingClass 27 = .ok (.ireturn, 1) := by decide +kernel
theorem dX8_isOutsideName_0 : decode cX8_isOutsideName 0 = .ok (.iload_n 0, 1) := by decide +kernel
theorem dX8_isOutsideName_1 : decode cX8_isOutsideName 1 = .ok (.ifCond .lt 9, 3) := by decide +kernel
theorem dX8_isOutsideName_4 : decode cX8_isOutsideName 4 = .ok (.iload_n 0, 1) := by decide +kernel
theorem dX8_isOutsideName_5 : decode cX8_isOutsideName 5 = .ok (.bipush 19, 2) := by decide +kernel
theorem dX8_isOutsideName_7 : decode cX8_isOutsideName 7 = .ok (.if_icmp .le 7, 3) := by decide +kernel
theorem dX8_isOutsideName_10 : decode cX8_isOutsideName 10 = .ok (.iconst 1, 1) := by decide +kernel
theorem dX8_isOutsideName_11 : decode cX8_isOutsideName 11 = .ok (.goto 4, 3) := by decide +kernel
theorem dX8_isOutsideName_14 : decode cX8_isOutsideName 14 = .ok (.iconst 0, 1) := by decide +kernel
theorem dX8_isOutsideName_15 : decode cX8_isOutsideName 15 = .ok (.ireturn, 1) := by decide +kernel
theorem dX8_mayHaveAbove_0 : decode cX8_mayHaveAbove 0 = .ok (.aload_n 1, 1) := by decide +kernel
theorem dX8_mayHaveAbove_1 : decode cX8_mayHaveAbove 1 = .ok (.getfield 86, 3) := by decide +kernel
theorem dX8_mayHaveAbove_4 : decode cX8_mayHaveAbove 4 = .ok (.iconst 3, 1) := by decide +kernel
theorem dX8_mayHaveAbove_5 : decode cX8_mayHaveAbove 5 = .ok (.if_icmp .eq 11, 3) := by decide +kernel
theorem dX8_mayHaveAbove_8 : decode cX8_mayHaveAbove 8 = .ok (.aload_n 1, 1) := by decide +kernel
theorem dX8_mayHaveAbove_9 : decode cX8_mayHaveAbove 9 = .ok (.getfield 86, 3) := by decide +kernel
theorem dX8_mayHaveAbove_12 : decode cX8_mayHaveAbove 12 = .ok (.iconst 4, 1) := by decide +kernel
theorem dX8_mayHaveAbove_13 : decode cX8_mayHaveAbove 13 = .ok (.if_icmp .ne 5, 3) := by decide +kernel
theorem dX8_mayHaveAbove_18 : decode cX8_mayHaveAbove 18 = .ok (.iload_n 0, 1) := by decide +kernel
theorem dX8_mayHaveAbove_19 : decode cX8_mayHaveAbove 19 = .ok (.ifCond .eq 8, 3) := by decide +kernel
theorem dX8_mayHaveAbove_22 : decode cX8_mayHaveAbove 22 = .ok (.iload_n 0, 1) := by decide +kernel
theorem dX8_mayHaveAbove_23 : decode cX8_mayHaveAbove 23 = .ok (.iconst 1, 1) := by decide +kernel
theorem dX8_mayHaveAbove_24 : decode cX8_mayHaveAbove 24 = .ok (.if_icmp .ne 5, 3) := by decide +kernel
theorem dX8_mayHaveAbove_27 : decode cX8_mayHaveAbove 27 = .ok (.iconst 1, 1) := by decide +kernel
theorem dX8_mayHaveAbove_28 : decode cX8_mayHaveAbove 28 = .ok (.ireturn, 1) := by decide +kernel
theorem dX8_mayHaveAbove_29 : decode cX8_mayHaveAbove 29 = .ok (.aload_n 1, 1) := by decide +kernel
theorem dX8_mayHaveAbove_30 : decode cX8_mayHaveAbove 30 = .ok (.getfield 180, 3) := by decide +kernel
theorem dX8_mayHaveAbove_33 : decode cX8_mayHaveAbove 33 = .ok (.ifCond .eq 16, 3) := by decide +kernel
theorem dX8_mayHaveAbove_49 : decode cX8_mayHaveAbove 49 = .ok (.iconst 1, 1) := by decide +kernel
theorem dX8_mayHaveAbove_50 : decode cX8_mayHaveAbove 50 = .ok (.goto 4, 3) := by decide +kernel
theorem dX8_mayHaveAbove_54 : decode cX8_mayHaveAbove 54 = .ok (.ireturn, 1) := by decide +kernel
theorem dX8_mayActAs_0 : decode cX8_mayActAs 0 = .ok (.aload_n 1, 1) := by decide +kernel
theorem dX8_mayActAs_1 : decode cX8_mayActAs 1 = .ok (.ifnull 16, 3) := by decide +kernel
theorem dX8_mayActAs_4 : decode cX8_mayActAs 4 = .ok (.iload_n 0, 1) := by decide +kernel
theorem dX8_mayActAs_5 : decode cX8_mayActAs 5 = .ok (.iconst 2, 1) := by decide +kernel
theorem dX8_mayActAs_6 : decode cX8_mayActAs 6 = .ok (.if_icmp .eq 15, 3) := by decide +kernel
theorem dX8_mayActAs_9 : decode cX8_mayActAs 9 = .ok (.aload_n 1, 1) := by decide +kernel
theorem dX8_mayActAs_10 : decode cX8_mayActAs 10 = .ok (.getfield 86, 3) := by decide +kernel
theorem dX8_mayActAs_13 : decode cX8_mayActAs 13 = .ok (.iconst 2, 1) := by decide +kernel
theorem dX8_mayActAs_14 : decode cX8_mayActAs 14 = .ok (.if_icmp .ne 7, 3) := by decide +kernel
theorem dX8_mayActAs_17 : decode cX8_mayActAs 17 = .ok (.iconst 1, 1) := by decide +kernel
theorem dX8_mayActAs_18 : decode cX8_mayActAs 18 = .ok (.goto 4, 3) := by decide +kernel
theorem dX8_mayActAs_21 : decode cX8_mayActAs 21 = .ok (.iconst 0, 1) := by decide +kernel
theorem dX8_mayActAs_22 : decode cX8_mayActAs 22 = .ok (.ireturn, 1) := by decide +kernel
theorem dX8_mayHaveField_0 : decode cX8_mayHaveField 0 = .ok (.aload_n 0, 1) := by decide +kernel
theorem dX8_mayHaveField_1 : decode cX8_mayHaveField 1 = .ok (.getfield 180, 3) := by decide +kernel
theorem dX8_mayHaveField_4 : decode cX8_mayHaveField 4 = .ok (.ifCond .eq 11, 3) := by decide +kernel
theorem dX8_mayHaveField_15 : decode cX8_mayHaveField 15 = .ok (.iload_n 1, 1) := by decide +kernel
theorem dX8_mayHaveField_16 : decode cX8_mayHaveField 16 = .ok (.ireturn, 1) := by decide +kernel
theorem dX8_addMember_0 : decode cX8_addMember 0 = .ok (.aload_n 0, 1) := by decide +kernel
theorem dX8_addMember_1 : decode cX8_addMember 1 = .ok (.getfield 21, 3) := by decide +kernel
theorem dX8_addMember_4 : decode cX8_addMember 4 = .ok (.aload_n 0, 1) := by decide +kernel
theorem dX8_addMember_5 : decode cX8_addMember 5 = .ok (.getfield 25, 3) := by decide +kernel
theorem dX8_addMember_8 : decode cX8_addMember 8 = .ok (.aload_n 1, 1) := by decide +kernel
theorem dX8_addMember_9 : decode cX8_addMember 9 = .ok (.aastore, 1) := by decide +kernel
theorem dX8_addMember_10 : decode cX8_addMember 10 = .ok (.aload_n 0, 1) := by decide +kernel
theorem dX8_addMember_11 : decode cX8_addMember 11 = .ok (.dup, 1) := by decide +kernel
theorem dX8_addMember_12 : decode cX8_addMember 12 = .ok (.getfield 25, 3) := by decide +kernel
theorem dX8_addMember_15 : decode cX8_addMember 15 = .ok (.iconst 1, 1) := by decide +kernel
theorem dX8_addMember_16 : decode cX8_addMember 16 = .ok (.iadd, 1) := by decide +kernel
theorem dX8_addMember_17 : decode cX8_addMember 17 = .ok (.putfield 25, 3) := by decide +kernel
theorem dX8_addMember_20 : decode cX8_addMember 20 = .ok (.aload_n 1, 1) := by decide +kernel
theorem dX8_addMember_21 : decode cX8_addMember 21 = .ok (.getfield 175, 3) := by decide +kernel
theorem dX8_addMember_24 : decode cX8_addMember 24 = .ok (.dup, 1) := by decide +kernel
theorem dX8_addMember_25 : decode cX8_addMember 25 = .ok (.getfield 270, 3) := by decide +kernel
theorem dX8_addMember_28 : decode cX8_addMember 28 = .ok (.iconst 1, 1) := by decide +kernel
theorem dX8_addMember_29 : decode cX8_addMember 29 = .ok (.iadd, 1) := by decide +kernel
theorem dX8_addMember_30 : decode cX8_addMember 30 = .ok (.putfield 270, 3) := by decide +kernel
theorem dX8_addMember_33 : decode cX8_addMember 33 = .ok (.aload_n 0, 1) := by decide +kernel
theorem dX8_addMember_34 : decode cX8_addMember 34 = .ok (.getfield 25, 3) := by decide +kernel
theorem dX8_addMember_37 : decode cX8_addMember 37 = .ok (.iconst 1, 1) := by decide +kernel
theorem dX8_addMember_38 : decode cX8_addMember 38 = .ok (.isub, 1) := by decide +kernel
theorem dX8_addMember_39 : decode cX8_addMember 39 = .ok (.ireturn, 1) := by decide +kernel
theorem dX8_ownField_0 : decode cX8_ownField 0 = .ok (.iconst 0, 1) := by decide +kernel
theorem dX8_ownField_1 : decode cX8_ownField 1 = .ok (.istore_n 3, 1) := by decide +kernel
theorem dX8_ownField_2 : decode cX8_ownField 2 = .ok (.iload_n 3, 1) := by decide +kernel
theorem dX8_ownField_3 : decode cX8_ownField 3 = .ok (.aload_n 0, 1) := by decide +kernel
theorem dX8_ownField_4 : decode cX8_ownField 4 = .ok (.getfield 25, 3) := by decide +kernel
theorem dX8_ownField_7 : decode cX8_ownField 7 = .ok (.if_icmp .ge 52, 3) := by decide +kernel
theorem dX8_ownField_59 : decode cX8_ownField 59 = .ok (.iconst (-1), 1) := by decide +kernel
theorem dX8_ownField_60 : decode cX8_ownField 60 = .ok (.ireturn, 1) := by decide +kernel
theorem dX8_ownMethod_0 : decode cX8_ownMethod 0 = .ok (.iconst 0, 1) := by decide +kernel
theorem dX8_ownMethod_1 : decode cX8_ownMethod 1 = .ok (.istore_n 3, 1) := by decide +kernel
theorem dX8_ownMethod_2 : decode cX8_ownMethod 2 = .ok (.iload_n 3, 1) := by decide +kernel
theorem dX8_ownMethod_3 : decode cX8_ownMethod 3 = .ok (.aload_n 0, 1) := by decide +kernel
theorem dX8_ownMethod_4 : decode cX8_ownMethod 4 = .ok (.getfield 25, 3) := by decide +kernel
theorem dX8_ownMethod_7 : decode cX8_ownMethod 7 = .ok (.if_icmp .ge 55, 3) := by decide +kernel
theorem dX8_ownMethod_62 : decode cX8_ownMethod 62 = .ok (.iconst (-1), 1) := by decide +kernel
theorem dX8_ownMethod_63 : decode cX8_ownMethod 63 = .ok (.ireturn, 1) := by decide +kernel
theorem dX8_visibleField_0 : decode cX8_visibleField 0 = .ok (.aload_n 1, 1) := by decide +kernel
theorem dX8_visibleField_1 : decode cX8_visibleField 1 = .ok (.astore_n 3, 1) := by decide +kernel
theorem dX8_visibleField_2 : decode cX8_visibleField 2 = .ok (.aload_n 3, 1) := by decide +kernel
theorem dX8_visibleField_3 : decode cX8_visibleField 3 = .ok (.ifnull 41, 3) := by decide +kernel
theorem dX8_visibleField_6 : decode cX8_visibleField 6 = .ok (.aload_n 0, 1) := by decide +kernel
theorem dX8_visibleField_7 : decode cX8_visibleField 7 = .ok (.aload_n 3, 1) := by decide +kernel
theorem dX8_visibleField_8 : decode cX8_visibleField 8 = .ok (.iload_n 2, 1) := by decide +kernel
theorem dX8_visibleField_9 : decode cX8_visibleField 9 = .ok (.invokevirtual 105, 3) := by decide +kernel
theorem dX8_visibleField_12 : decode cX8_visibleField 12 = .ok (.istore 4, 2) := by decide +kernel
theorem dX8_visibleField_14 : decode cX8_visibleField 14 = .ok (.iload 4, 2) := by decide +kernel
theorem dX8_visibleField_16 : decode cX8_visibleField 16 = .ok (.iconst (-1), 1) := by decide +kernel
theorem dX8_visibleField_17 : decode cX8_visibleField 17 = .ok (.if_icmp .eq 19, 3) := by decide +kernel
theorem dX8_visibleField_36 : decode cX8_visibleField 36 = .ok (.aload_n 3, 1) := by decide +kernel
theorem dX8_visibleField_37 : decode cX8_visibleField 37 = .ok (.getfield 264, 3) := by decide +kernel
theorem dX8_visibleField_40 : decode cX8_visibleField 40 = .ok (.astore_n 3, 1) := by decide +kernel
theorem dX8_visibleField_41 : decode cX8_visibleField 41 = .ok (.goto (-39), 3) := by decide +kernel
theorem dX8_visibleField_44 : decode cX8_visibleField 44 = .ok (.iconst (-1), 1) := by decide +kernel
theorem dX8_visibleField_45 : decode cX8_visibleField 45 = .ok (.ireturn, 1) := by decide +kernel
theorem dX8_visibleMethod_0 : decode cX8_visibleMethod 0 = .ok (.aload_n 0, 1) := by decide +kernel
theorem dX8_visibleMethod_1 : decode cX8_visibleMethod 1 = .ok (.aload_n 1, 1) := by decide +kernel
theorem dX8_visibleMethod_2 : decode cX8_visibleMethod 2 = .ok (.aload_n 2, 1) := by decide +kernel
theorem dX8_visibleMethod_3 : decode cX8_visibleMethod 3 = .ok (.invokevirtual 336, 3) := by decide +kernel
theorem dX8_visibleMethod_6 : decode cX8_visibleMethod 6 = .ok (.istore_n 3, 1) := by decide +kernel
theorem dX8_visibleMethod_7 : decode cX8_visibleMethod 7 = .ok (.aload_n 1, 1) := by decide +kernel
theorem dX8_visibleMethod_8 : decode cX8_visibleMethod 8 = .ok (.astore 4, 2) := by decide +kernel
theorem dX8_visibleMethod_10 : decode cX8_visibleMethod 10 = .ok (.aload 4, 2) := by decide +kernel
theorem dX8_visibleMethod_12 : decode cX8_visibleMethod 12 = .ok (.ifnull 29, 3) := by decide +kernel
theorem dX8_visibleMethod_15 : decode cX8_visibleMethod 15 = .ok (.iload_n 3, 1) := by decide +kernel
theorem dX8_visibleMethod_16 : decode cX8_visibleMethod 16 = .ok (.iconst (-1), 1) := by decide +kernel
theorem dX8_visibleMethod_17 : decode cX8_visibleMethod 17 = .ok (.if_icmp .ne 24, 3) := by decide +kernel
theorem dX8_visibleMethod_20 : decode cX8_visibleMethod 20 = .ok (.aload_n 0, 1) := by decide +kernel
theorem dX8_visibleMethod_21 : decode cX8_visibleMethod 21 = .ok (.aload 4, 2) := by decide +kernel
theorem dX8_visibleMethod_23 : decode cX8_visibleMethod 23 = .ok (.getfield 267, 3) := by decide +kernel
theorem dX8_visibleMethod_26 : decode cX8_visibleMethod 26 = .ok (.aload_n 2, 1) := by decide +kernel
theorem dX8_visibleMethod_27 : decode cX8_visibleMethod 27 = .ok (.invokevirtual 336, 3) := by decide +kernel
theorem dX8_visibleMethod_30 : decode cX8_visibleMethod 30 = .ok (.istore_n 3, 1) := by decide +kernel
theorem dX8_visibleMethod_31 : decode cX8_visibleMethod 31 = .ok (.aload 4, 2) := by decide +kernel
theorem dX8_visibleMethod_33 : decode cX8_visibleMethod 33 = .ok (.getfield 264, 3) := by decide +kernel
theorem dX8_visibleMethod_36 : decode cX8_visibleMethod 36 = .ok (.astore 4, 2) := by decide +kernel
theorem dX8_visibleMethod_38 : decode cX8_visibleMethod 38 = .ok (.goto (-28), 3) := by decide +kernel
theorem dX8_visibleMethod_41 : decode cX8_visibleMethod 41 = .ok (.iload_n 3, 1) := by decide +kernel
theorem dX8_visibleMethod_42 : decode cX8_visibleMethod 42 = .ok (.ireturn, 1) := by decide +kernel
theorem dX8_visibleMethodUpward_0 : decode cX8_visibleMethodUpward 0 = .ok (.aload_n 1, 1) := by decide +kernel
theorem dX8_visibleMethodUpward_1 : decode cX8_visibleMethodUpward 1 = .ok (.astore_n 3, 1) := by decide +kernel
theorem dX8_visibleMethodUpward_2 : decode cX8_visibleMethodUpward 2 = .ok (.aload_n 3, 1) := by decide +kernel
theorem dX8_visibleMethodUpward_3 : decode cX8_visibleMethodUpward 3 = .ok (.ifnull 41, 3) := by decide +kernel
theorem dX8_visibleMethodUpward_6 : decode cX8_visibleMethodUpward 6 = .ok (.aload_n 0, 1) := by decide +kernel
theorem dX8_visibleMethodUpward_7 : decode cX8_visibleMethodUpward 7 = .ok (.aload_n 3, 1) := by decide +kernel
theorem dX8_visibleMethodUpward_8 : decode cX8_visibleMethodUpward 8 = .ok (.aload_n 2, 1) := by decide +kernel
theorem dX8_visibleMethodUpward_9 : decode cX8_visibleMethodUpward 9 = .ok (.invokevirtual 154, 3) := by decide +kernel
theorem dX8_visibleMethodUpward_12 : decode cX8_visibleMethodUpward 12 = .ok (.istore 4, 2) := by decide +kernel
theorem dX8_visibleMethodUpward_14 : decode cX8_visibleMethodUpward 14 = .ok (.iload 4, 2) := by decide +kernel
theorem dX8_visibleMethodUpward_16 : decode cX8_visibleMethodUpward 16 = .ok (.iconst (-1), 1) := by decide +kernel
theorem dX8_visibleMethodUpward_17 : decode cX8_visibleMethodUpward 17 = .ok (.if_icmp .eq 19, 3) := by decide +kernel
theorem dX8_visibleMethodUpward_36 : decode cX8_visibleMethodUpward 36 = .ok (.aload_n 3, 1) := by decide +kernel
theorem dX8_visibleMethodUpward_37 : decode cX8_visibleMethodUpward 37 = .ok (.getfield 264, 3) := by decide +kernel
theorem dX8_visibleMethodUpward_40 : decode cX8_visibleMethodUpward 40 = .ok (.astore_n 3, 1) := by decide +kernel
theorem dX8_visibleMethodUpward_41 : decode cX8_visibleMethodUpward 41 = .ok (.goto (-39), 3) := by decide +kernel
theorem dX8_visibleMethodUpward_44 : decode cX8_visibleMethodUpward 44 = .ok (.iconst (-1), 1) := by decide +kernel
theorem dX8_visibleMethodUpward_45 : decode cX8_visibleMethodUpward 45 = .ok (.ireturn, 1) := by decide +kernel
theorem dX8_addHandle_0 : decode cX8_addHandle 0 = .ok (.iload_n 1, 1) := by decide +kernel
theorem dX8_addHandle_1 : decode cX8_addHandle 1 = .ok (.iconst (-1), 1) := by decide +kernel
theorem dX8_addHandle_2 : decode cX8_addHandle 2 = .ok (.if_icmp .ne 9, 3) := by decide +kernel
theorem dX8_addHandle_5 : decode cX8_addHandle 5 = .ok (.aload_n 0, 1) := by decide +kernel
theorem dX8_addHandle_6 : decode cX8_addHandle 6 = .ok (.iconst 1, 1) := by decide +kernel
theorem dX8_addHandle_7 : decode cX8_addHandle 7 = .ok (.invokevirtual 183, 3) := by decide +kernel
theorem dX8_addHandle_10 : decode cX8_addHandle 10 = .ok (.ireturn, 1) := by decide +kernel
theorem dX8_failed_0 : decode cX8_failed 0 = .ok (.aload_n 0, 1) := by decide +kernel
theorem dX8_failed_1 : decode cX8_failed 1 = .ok (.iload_n 1, 1) := by decide +kernel
theorem dX8_failed_2 : decode cX8_failed 2 = .ok (.putfield 66, 3) := by decide +kernel
theorem dX8_failed_5 : decode cX8_failed 5 = .ok (.bipush (-10), 2) := by decide +kernel
theorem dX8_failed_7 : decode cX8_failed 7 = .ok (.iload_n 1, 1) := by decide +kernel
theorem dX8_failed_8 : decode cX8_failed 8 = .ok (.isub, 1) := by decide +kernel
theorem dX8_failed_9 : decode cX8_failed 9 = .ok (.ireturn, 1) := by decide +kernel
end
section
def nwl : List Cond := [.arrayOver (.object "ReflectModels$ClassModel"), .arrayOver (.object "ReflectModels$Member"), .arrayOver (.object "ReflectModels$Handle"), .arrayOver (.object "ReflectModels$Thing"), .arrayOver (.object "ReflectModels$Value"), .methodLinkNest "ReflectModels" 61 ⟨"ReflectModels$Value", "<init>", "()V"⟩ "ReflectModels", .fieldLinkNest "ReflectModels" 258 "ReflectModels$Value" "kind" "I" "ReflectModels", .fieldLinkNest "ReflectModels" 261 "ReflectModels$Value" "number" "J" "ReflectModels", .methodLinkNest "ReflectModels" 72 ⟨"ReflectModels$ClassModel", "<init>", "(ILReflectModels$ClassModel;ILReflectModels$ClassModel;ZZ)V"⟩ "ReflectModels", .fieldLinkNest "ReflectModels$Thing" 30 "ReflectModels$ClassModel" "number" "I" "ReflectModels", .fieldLinkNest "ReflectModels" 180 "ReflectModels$ClassModel" "number" "I" "ReflectModels", .fieldLinkNest "ReflectModels" 264 "ReflectModels$ClassModel" "above" "LReflectModels$ClassModel;" "ReflectModels", .fieldLinkNest "ReflectModels" 86 "ReflectModels$ClassModel" "sort" "I" "ReflectModels", .fieldLinkNest "ReflectModels" 267 "ReflectModels$ClassModel" "face" "LReflectModels$ClassModel;" "ReflectModels", .fieldLinkNest "ReflectModels" 176 "ReflectModels$ClassModel" "shut" "Z" "ReflectModels", .fieldLinkNest "ReflectModels" 348 "ReflectModels$ClassModel" "fails" "Z" "ReflectModels", .fieldLinkNest "ReflectModels$Thing" 24 "ReflectModels$ClassModel" "all" "I" "ReflectModels", .fieldLinkNest "ReflectModels" 92 "ReflectModels$ClassModel" "state" "I" "ReflectModels", .fieldLinkNest "ReflectModels" 89 "ReflectModels$ClassModel" "constantCount" "I" "ReflectModels", .fieldLinkNest "ReflectModels" 255 "ReflectModels$ClassModel" "firstConstant" "I" "ReflectModels", .fieldLinkNest "ReflectModels" 270 "ReflectModels$ClassModel" "ownMembers" "I" "ReflectModels", .methodLinkNest "ReflectModels" 111 ⟨"ReflectModels$Field", "<init>", "(LReflectModels$ClassModel;IIZZZI)V"⟩ "ReflectModels", .methodLinkNest "ReflectModels$Field" 3 ⟨"ReflectModels$Member", "<init>", "(LReflectModels$ClassModel;ZZ)V"⟩ "ReflectModels", .fieldLinkNest "ReflectModels" 327 "ReflectModels$Field" "name" "I" "ReflectModels", .fieldLinkNest "ReflectModels" 206 "ReflectModels$Field" "type" "I" "ReflectModels", .fieldLinkNest "ReflectModels" 359 "ReflectModels$Field" "isFinal" "Z" "ReflectModels", .fieldLinkNest "ReflectModels" 385 "ReflectModels$Field" "first" "J" "ReflectModels", .fieldLinkNest "ReflectModels" 382 "ReflectModels$Field" "slot" "I" "ReflectModels", .fieldLinkNest "ReflectModels" 395 "ReflectModels$Field" "held" "J" "ReflectModels", .methodLinkNest "ReflectModels" 120 ⟨"ReflectModels$Signature", "<init>", "(IIII)V"⟩ "ReflectModels", .fieldLinkNest "ReflectModels" 312 "ReflectModels$Signature" "n" "I" "ReflectModels", .fieldLinkNest "ReflectModels" 287 "ReflectModels$Signature" "first" "I" "ReflectModels", .fieldLinkNest "ReflectModels" 290 "ReflectModels$Signature" "second" "I" "ReflectModels", .methodLinkNest "ReflectModels" 127 ⟨"ReflectModels$Signature", "isOutside", "()Z"⟩ "ReflectModels", .methodLinkNest "ReflectModels$Signature" 24 ⟨"ReflectModels", "isOutsideName", "(I)Z"⟩ "ReflectModels", .methodLinkNest "ReflectModels" 140 ⟨"ReflectModels$Method", "<init>", "(LReflectModels$ClassModel;LReflectModels$Signature;IIII)V"⟩ "ReflectModels", .methodLinkNest "ReflectModels$Method" 3 ⟨"ReflectModels", "hasMark", "(II)Z"⟩ "ReflectModels", .methodLinkNest "ReflectModels$Method" 7 ⟨"ReflectModels$Member", "<init>", "(LReflectModels$ClassModel;ZZ)V"⟩ "ReflectModels", .fieldLinkNest "ReflectModels" 305 "ReflectModels$Method" "signature" "LReflectModels$Signature;" "ReflectModels", .fieldLinkNest "ReflectModels" 406 "ReflectModels$Method" "gives" "I" "ReflectModels", .fieldLinkNest "ReflectModels" 296 "ReflectModels$Method" "isAbstract" "Z" "ReflectModels", .fieldLinkNest "ReflectModels" 302 "ReflectModels$Method" "body" "I" "ReflectModels", .fieldLinkNest "ReflectModels" 318 "ReflectModels$Method" "b" "I" "ReflectModels", .methodLinkNest "ReflectModels" 309 ⟨"ReflectModels$Signature", "startsWithInt", "()Z"⟩ "ReflectModels", .methodLinkNest "ReflectModels" 315 ⟨"ReflectModels$Signature", "startsWithClass", "()Z"⟩ "ReflectModels", .methodLinkNest "ReflectModels" 330 ⟨"ReflectModels$Signature", "matches", "(LReflectModels$Signature;)Z"⟩ "ReflectModels", .methodLinkNest "ReflectModels" 339 ⟨"ReflectModels$Handle", "<init>", "(ILReflectModels$Member;)V"⟩ "ReflectModels", .fieldLinkNest "ReflectModels" 280 "ReflectModels$Handle" "memberNumber" "I" "ReflectModels", .fieldLinkNest "ReflectModels" 171 "ReflectModels$Handle" "member" "LReflectModels$Member;" "ReflectModels", .fieldLinkNest "ReflectModels" 186 "ReflectModels$Handle" "hasLeave" "Z" "ReflectModels", .methodLinkNest "ReflectModels" 195 ⟨"ReflectModels$Value", "become", "(IJ)V"⟩ "ReflectModels", .methodLinkNest "ReflectModels" 342 ⟨"ReflectModels$ClassModel", "standsUnder", "(LReflectModels$ClassModel;)Z"⟩ "ReflectModels", .methodLinkNest "ReflectModels" 379 ⟨"ReflectModels$Thing", "<init>", "(LReflectModels$ClassModel;LReflectModels$ClassModel;I[J)V"⟩ "ReflectModels", .fieldLinkNest "ReflectModels" 430 "ReflectModels$Thing" "model" "LReflectModels$ClassModel;" "ReflectModels", .fieldLinkNest "ReflectModels" 419 "ReflectModels$Thing" "handler" "I" "ReflectModels", .fieldLinkNest "ReflectModels" 387 "ReflectModels$Thing" "slots" "[J" "ReflectModels", .fieldLinkNest "ReflectModels" 422 "ReflectModels$Thing" "asked" "I" "ReflectModels", .methodLinkNest "ReflectModels" 276 ⟨"ReflectModels$Thing", "isOf", "(LReflectModels$ClassModel;)Z"⟩ "ReflectModels", .methodLinkNest "ReflectModels" 213 ⟨"ReflectModels$Value", "load", "(IJ)V"⟩ "ReflectModels", .methodLinkNest "ReflectModels" 216 ⟨"ReflectModels$Value", "widenFor", "(I)V"⟩ "ReflectModels", .methodLinkNest "ReflectModels" 224 ⟨"ReflectModels$Value", "toHold", "()J"⟩ "ReflectModels", .methodLinkNest "ReflectModels" 433 ⟨"ReflectModels$Method", "canBeChosen", "()Z"⟩ "ReflectModels", .methodLinkNest "ReflectModels" 453 ⟨"ReflectModels$Value", "becomeGiven", "(II)V"⟩ "ReflectModels", .castable "ReflectModels$Field" "ReflectModels$Field", .castable "ReflectModels$Method" "ReflectModels$Method", .castable "ReflectModels$Field" "ReflectModels$Member", .castable "ReflectModels$Method" "ReflectModels$Member"]
/-! what every contract here is made of: a start 'pz', an end 'qR' (nothing is written) or 'qW' (a world comes back), calls 'clR', 'clW' -/
def nwt (w : Cond) : Bool := match w with
  | .fieldLinkNest _ _ _ _ _ _ => true
  | .methodLinkNest _ _ _ _ => true
  | .castable _ _ => true
  | .arrayOver (.object _) => true
  | _ => false
def nwk (U : State) : Prop := ∀ w ∈ nwl, va_Nw w U
theorem nwl_t : ∀ w ∈ nwl, nwt w = true := by decide
theorem nwl_tab : ∀ w ∈ nwl, w ∈ tables_1 := by decide +kernel
theorem nwk_warm {s U : State} (hW : s.WarmedH U.vm) (h : nwk s) : nwk U := by
  intro w hw
  have h1 := nwl_t w hw
  have h2 := h w hw
  cases w with
  | fieldLinkNest => exact va_Nw.warmF hW h2
  | methodLinkNest => exact va_Nw.warmM hW h2
  | castable => exact va_Nw.warmC hW h2
  | arrayOver t =>
    cases t with
    | object C => exact va_AO.moved hW.alike h2
    | _ => cases h1
  | _ => cases h1
theorem nwk_same {s U : State} (hv : s.vm = U.vm) (h : nwk s) : nwk U := by
  intro w hw
  have h1 := nwl_t w hw
  have h2 := h w hw
  cases w with
  | fieldLinkNest => exact va_Nw.same rfl hv h2
  | methodLinkNest => exact va_Nw.same rfl hv h2
  | castable => exact va_Nw.same rfl hv h2
  | arrayOver t =>
    cases t with
    | object C => exact va_AO.moved (by rw [hv]; exact Vm.Alike.refl _) h2
    | _ => cases h1
  | _ => cases h1
abbrev tyL : Type := List (ClassId × FieldType)
/-- a method's start: the heap holds the cells ws, the array classes are tys -/
def pz (D : va_G) (tys : tyL) (ws : va_W) (sz : Nat) (U : State) : Prop := U.heap.size = sz ∧ va_P D vwCl ws U.heap ∧ va_K D vwCl tys U ∧ va_D (fun _ => True) ws ∧ nwk U
theorem pz_blind {D : va_G} {tys : tyL} {ws : va_W} {sz : Nat} {av : List Value} : FrameBlind (va_Pc av (pz D tys ws sz)) := by
  intro a U g mk q
  obtain ⟨q0, q1, qP, qK, qD, qN⟩ := q
  exact ⟨q0, q1, qP, va_K.moved (u := U) (U := U.calling g mk a) (Vm.Alike.refl U.vm) qK, qD, nwk_same (s := U) (U := U.calling g mk a) rfl qN⟩
theorem pz_of {D : va_G} {tys tysC : tyL} {ws wc : va_W} {H : Heap} {s : State} {av : List Value} {A : Nat → Prop} (hP : va_P D vwCl ws H) (hK : va_K D vwCl tys s) (hD : va_D A ws) (hN : nwk s) (is js : List Nat) (hw : is.map (fun i => ws[i]?) = wc.map some) (hn : va_nd is = true) (ht : js.filterMap (fun i => tys[i]?) = tysC) :
    ∀ U : State, U.heap = H → s.WarmedH U.vm → va_Pc av (pz D tysC wc H.size) av.toArray U := by
  intro U hU hW
  have hP2 : va_P D vwCl wc H := by
    intro k q hq
    have h1 : (is.map (fun i => ws[i]?))[k]? = some (some q) := by rw [hw, List.getElem?_map, hq]; rfl
    rw [List.getElem?_map] at h1
    cases hi : is[k]? with
    | none => rw [hi] at h1; cases h1
    | some i => rw [hi] at h1; exact hP i q (Option.some.inj h1)
  exact ⟨rfl, by rw [hU], by rw [hU]; exact hP2, va_K.moved hW.alike (hK.sub js ht), (hD.sub is hn hw).weaken (fun _ _ _ _ => trivial), nwk_warm hW hN⟩
def sQ (post : Option Value → State → Prop) (A : Nat → Prop) : Array Value → State → Outcome → State → Prop := fun _ st oc t => (∃ v : Option Value, oc = .returned v ∧ post v t) ∧ va_F A st t
/-- nothing is written, nothing comes -/
abbrev nA : Nat → Prop := fun _ => False
def qR (X : Option Value → Prop) : Array Value → State → Outcome → State → Prop := sQ (fun v _ => X v) nA
/-- a world comes back -/
def qW (D : va_G) (X : Option Value → va_W → tyL → Prop) (A : Nat → Prop) : Array Value → State → Outcome → State → Prop := sQ (fun v t => ∃ (w1 : va_W) (ty1 : tyL), X v w1 ty1 ∧ va_P D vwCl w1 t.heap ∧ va_K D vwCl ty1 t ∧ va_D A w1) A
section CLL
variable {p : Program} {l : Launch} {e : Env} {R : Room} {s : State} {m : MethodId} {args : Array Value} {below : List Frame} {meth : Method} {c : Code} {H : Heap} {locs : List Loc} {cells slots : Nat} {Q : State → Prop}
variable {pc : Nat} {ls : Array Slot} {rest st0 : List Value} {a : Array Value} {A0 A1 : Nat → Prop} {H0 : Heap} {mc ms : Nat} {free : Addr → Prop}
theorem clS {post : Option Value → State → Prop} (hr : va_Run p l e R s m args below meth c H locs cells slots mc ms (F0 m pc ls st0) rest (sQ post A1 a) free) (hS : va_S A0 H0 H locs) (hA : ∀ q, q < H.size → A1 q → A0 q) (hf : ∀ q, free q → A0 q)
    (kk : ∀ (v : Option Value) (t : State) (H1 : Heap) (locs1 : List Loc), t.heap = H1 → s.vm.Alike t.vm → post v t → H.size ≤ H1.size → (∀ q : Nat, q < H.size → ¬ A1 q → H1[q]? = H[q]?) → va_S A0 H0 H1 locs1 → W p l e R s m args below meth c H1 locs1 (cells + mc) (slots + ms) Q (F0 m (pc + 3) ls (v.toList ++ rest))) : W p l e R s m args below meth c H locs cells slots Q (F0 m pc ls st0) := by
  intro T hT X
  obtain ⟨v, st₀, t, T', L, h0, X', hL, e1, e2, ⟨⟨v', hv, hp⟩, hz, hk⟩, st⟩ := hr T hT X
  cases hv
  rw [h0] at hz hk
  obtain ⟨t2, a1, b1⟩ := kk v t T'.heap (locs ++ L) e1.symm (by rw [← e2]; exact X'.warmed.alike) hp (by rw [e1]; exact hz) (fun q h1 h2 => by rw [e1]; exact hk q h1 h2)
    ⟨Nat.le_trans hS.1 (by rw [e1]; exact hz), fun q h1 h2 => by rw [e1, hk q (Nat.lt_of_lt_of_le h1 hS.1) (fun z => h2 (hA q (Nat.lt_of_lt_of_le h1 hS.1) z))]; exact hS.2.1 q h1 h2, fun q hq => by
      rcases List.mem_append.mp hq with h | h
      · exact hS.2.2 q h
      · exact hf _ (hL q h)⟩ T' rfl X'
  exact ⟨t2, st t2 a1, b1⟩
/-- a call that writes nothing: the caller's world stays -/
theorem clR {X : Option Value → Prop} {D : va_G} {ws : va_W} (hr : va_Run p l e R s m args below meth c H locs cells slots 0 0 (F0 m pc ls st0) rest (qR X a) nA) (hS : va_S A0 H0 H locs) (hP : va_P D vwCl ws H)
    (kk : ∀ (v : Option Value) (H1 : Heap) (locs1 : List Loc), X v → va_P D vwCl ws H1 → va_S A0 H0 H1 locs1 → W p l e R s m args below meth c H1 locs1 cells slots Q (F0 m (pc + 3) ls (v.toList ++ rest))) : W p l e R s m args below meth c H locs cells slots Q (F0 m pc ls st0) :=
  clS hr hS (fun _ _ h => h.elim) (fun _ h => h.elim) (fun v t H1 locs1 ht hvm hp hz hk hS1 => kk v H1 locs1 hp (hP.kept (fun k q hq => hk q.1 ((hP k q hq).lt) id)) hS1)
/-- a call that gives a world back: the rest of the caller's world stays -/
theorem clW {X : Option Value → va_W → tyL → Prop} {D : va_G} {ws wc wr : va_W} {tys : tyL} (isC isR : List Nat) (hr : va_Run p l e R s m args below meth c H locs cells slots mc ms (F0 m pc ls st0) rest (qW D X (va_A wc H.size) a) (va_A wc H.size)) (hS : va_S A0 H0 H locs) (hP : va_P D vwCl ws H) (hD : va_D A0 ws) (hK : va_K D vwCl tys s) (hA : ∀ q, H0.size ≤ q → A0 q)
    (hC : isC.map (fun i => ws[i]?) = wc.map some) (hR : isR.map (fun i => ws[i]?) = wr.map some) (hn : va_nd isR = true) (hdis : ∀ i ∈ isR, i ∉ isC)
    (kk : ∀ (v : Option Value) (w1 : va_W) (ty1 : tyL) (H1 : Heap) (locs1 : List Loc), X v w1 ty1 → va_P D vwCl (wr ++ w1) H1 → va_D A0 (wr ++ w1) → va_K D vwCl (tys ++ ty1) s → va_S A0 H0 H1 locs1 → W p l e R s m args below meth c H1 locs1 (cells + mc) (slots + ms) Q (F0 m (pc + 3) ls (v.toList ++ rest))) : W p l e R s m args below meth c H locs cells slots Q (F0 m pc ls st0) := by
  have hF := va_free hD hS hA isC hC
  refine clS hr hS (fun q _ h => hF q h) hF (fun v t H1 locs1 ht hvm hp hz hk hS1 => ?_)
  obtain ⟨w1, ty1, hX, hP1, hK1, hD1⟩ := hp
  rw [ht] at hP1
  obtain ⟨hP2, hD2⟩ := va_join hP hD isC isR hC hR hn hdis hk hF hP1 hD1
  exact kk v w1 ty1 H1 locs1 hX hP2 hD2 (hK.app (va_K.moved hvm.symm hK1)) hS1
end CLL
-- numbers
theorem il2 {x y : Int32} {a b : Int} (hx : x.toInt = a) (hy : y.toInt = b) (h : x < y) : a < b := by rw [← hx, ← hy]; exact Int32.lt_iff_toInt_lt.mp h
theorem inl2 {x y : Int32} {a b : Int} (hx : x.toInt = a) (hy : y.toInt = b) (h : ¬ x < y) : b ≤ a := by rw [← hx, ← hy]; exact Int.not_lt.mp (fun q => h (Int32.lt_iff_toInt_lt.mpr q))
theorem ile2 {x y : Int32} {a b : Int} (hx : x.toInt = a) (hy : y.toInt = b) (h : x ≤ y) : a ≤ b := by rw [← hx, ← hy]; exact Int32.le_iff_toInt_le.mp h
theorem inle2 {x y : Int32} {a b : Int} (hx : x.toInt = a) (hy : y.toInt = b) (h : ¬ x ≤ y) : b < a := by rw [← hx, ← hy]; exact Int.not_le.mp (fun q => h (Int32.le_iff_toInt_le.mpr q))
theorem ieq2 {x y : Int32} {a b : Int} (hx : x.toInt = a) (hy : y.toInt = b) (h : x = y) : a = b := by rw [← hx, ← hy, h]
theorem ine2 {x y : Int32} {a b : Int} (hx : x.toInt = a) (hy : y.toInt = b) (h : ¬ x = y) : a ≠ b := by rw [← hx, ← hy]; exact fun q => h (Int32.toInt_inj.mp q)
theorem iof {x y : Int32} {a : Int} (hy : y.toInt = a) (h : x.toInt = a) : x = y := Int32.toInt_inj.mp (h.trans hy.symm)
theorem Ll2 {x y : Int64} {a b : Int} (hx : x.toInt = a) (hy : y.toInt = b) (h : x < y) : a < b := by rw [← hx, ← hy]; exact Int64.lt_iff_toInt_lt.mp h
theorem Lle2 {x y : Int64} {a b : Int} (hx : x.toInt = a) (hy : y.toInt = b) (h : x ≤ y) : a ≤ b := by rw [← hx, ← hy]; exact Int64.le_iff_toInt_le.mp h
theorem Leq2 {x y : Int64} {a b : Int} (hx : x.toInt = a) (hy : y.toInt = b) (h : x = y) : a = b := by rw [← hx, ← hy, h]
theorem Lnl2 {x y : Int64} {a b : Int} (hx : x.toInt = a) (hy : y.toInt = b) (h : ¬ x < y) : b ≤ a := by rw [← hx, ← hy]; exact Int.not_lt.mp (fun q => h (Int64.lt_iff_toInt_lt.mpr q))
theorem Lnle2 {x y : Int64} {a b : Int} (hx : x.toInt = a) (hy : y.toInt = b) (h : ¬ x ≤ y) : b < a := by rw [← hx, ← hy]; exact Int.not_le.mp (fun q => h (Int64.le_iff_toInt_le.mpr q))
theorem Lne2 {x y : Int64} {a b : Int} (hx : x.toInt = a) (hy : y.toInt = b) (h : ¬ x = y) : a ≠ b := by rw [← hx, ← hy]; exact fun q => h (Int64.toInt_inj.mp q)
theorem i2L (x : Int32) : x.toInt64.toInt = x.toInt := Int32.toInt_toInt64 x
def bz (x : Int32) : Int32 := if x = 0 then 0 else 1
theorem bz_01 (x : Int32) : bz x = 0 ∨ bz x = 1 := by unfold bz; split <;> simp
theorem nar_b {x : Int32} (h : x = 0 ∨ x = 1) : narrow .boolean (.int x) = .int x := by rcases h with rfl | rfl <;> rfl
theorem fit_b {x : Int32} (h : x = 0 ∨ x = 1) : fits .boolean (.int x) = true := by rcases h with rfl | rfl <;> rfl
section LB
variable {p : Program} {l : Launch} {e : Env} {R : Room} {s : State} {m : MethodId} {args : Array Value} {below : List Frame} {meth : Method} {c : Code} {H : Heap} {locs : List Loc} {cells slots : Nat} {Q : State → Prop} {cc : ByteArray} {pc : Nat} {ls : Array Slot} {rest : List Value}
/-- 'x != 0' as a boolean on the stack -/
theorem lw_b (hx : p.tables.exec = Jvm.exec) (hb : c.code = cc) {x : Int32} (d0 : decode cc pc = .ok (.ifCond .eq 7, 3)) (d1 : decode cc (pc + 3) = .ok (.iconst 1, 1)) (d2 : decode cc (pc + 4) = .ok (.goto 4, 3)) (d3 : decode cc (pc + 7) = .ok (.iconst 0, 1))
    (k : W p l e R s m args below meth c H locs cells slots Q (F0 m (pc + 8) ls (.int (bz x) :: rest))) : W p l e R s m args below meth c H locs cells slots Q (F0 m pc ls (.int x :: rest)) := by
  refine lv_if_eq (tgt := pc + 7) hx hb d0 (by omega) (fun h => ?_) (fun h => ?_)
  · refine lv_iconst (v := 0) hx hb d3 (by decide) ?_
    have e : bz x = 0 := by unfold bz; rw [if_pos h]
    rw [e] at k
    exact k
  · refine lv_iconst (v := 1) hx hb d1 (by decide) ?_
    refine lv_goto (tgt := pc + 8) hx hb d2 (by omega) ?_
    have e : bz x = 1 := by unfold bz; rw [if_neg h]
    rw [e] at k
    exact k
end LB
theorem kz : (0 : Int32).toInt = 0 ∧ (1 : Int32).toInt = 1 ∧ (-1 : Int32).toInt = -1 ∧ (2 : Int32).toInt = 2 ∧ (3 : Int32).toInt = 3 ∧ (4 : Int32).toInt = 4 ∧ (5 : Int32).toInt = 5 ∧ (6 : Int32).toInt = 6 ∧ (7 : Int32).toInt = 7 ∧ (-2 : Int32).toInt = -2 := by decide
theorem tw_0_4 {x : Int32} (h1 : ¬ x.toInt < 0) (h2 : ¬ 4 < x.toInt) : x = 0 ∨ x = 1 ∨ x = 2 ∨ x = 3 ∨ x = 4 := by
  have h : x.toInt = 0 ∨ x.toInt = 1 ∨ x.toInt = 2 ∨ x.toInt = 3 ∨ x.toInt = 4 := by omega
  rcases h with h | h | h | h | h
  · exact Or.inl (iof (by decide) h)
  · exact Or.inr (Or.inl (iof (by decide) h))
  · exact Or.inr (Or.inr (Or.inl (iof (by decide) h)))
  · exact Or.inr (Or.inr (Or.inr (Or.inl (iof (by decide) h))))
  · exact Or.inr (Or.inr (Or.inr (Or.inr ((iof (by decide) h)))))
theorem tw_0_5 {x : Int32} (h1 : ¬ x.toInt < 0) (h2 : ¬ 5 < x.toInt) : x = 0 ∨ x = 1 ∨ x = 2 ∨ x = 3 ∨ x = 4 ∨ x = 5 := by
  have h : x.toInt = 0 ∨ x.toInt = 1 ∨ x.toInt = 2 ∨ x.toInt = 3 ∨ x.toInt = 4 ∨ x.toInt = 5 := by omega
  rcases h with h | h | h | h | h | h
  · exact Or.inl (iof (by decide) h)
  · exact Or.inr (Or.inl (iof (by decide) h))
  · exact Or.inr (Or.inr (Or.inl (iof (by decide) h)))
  · exact Or.inr (Or.inr (Or.inr (Or.inl (iof (by decide) h))))
  · exact Or.inr (Or.inr (Or.inr (Or.inr (Or.inl (iof (by decide) h)))))
  · exact Or.inr (Or.inr (Or.inr (Or.inr (Or.inr ((iof (by decide) h))))))
def an_type (a s f : Int) : Int32 := if a ≠ 0 ∨ (f ≠ -1 ∧ f ≠ 0) then -2 else if s < 0 ∨ 4 < s then -3 else if f = 0 then -4 else 1
def an_constants (c n : Int) : Int32 := if c ≠ 0 then -2 else if n < 1 ∨ 4 < n then -3 else -4
def an_caller (c : Int) : Int32 := if c ≠ 0 then -2 else 0
def an_leave (_a1 : Int) : Int32 := -2
def an_set (_a1 _a2 : Int) : Int32 := -2
def an_call (_a1 _a2 : Int) : Int32 := -2
def an_handle (_a1 _a2 : Int) : Int32 := -2
def an_is (_a1 _a2 : Int) : Int32 := -2
def an_get (_a1 _a2 _a3 : Int) : Int32 := -2
def an_proxy (c h : Int) : Int32 := if c ≠ 0 then -2 else if h < 0 ∨ 3 < h then -3 else -4
def an_constant (c _i : Int) : Int32 := if c ≠ 0 then -2 else -4
def an_resultKind : Int32 := 0
def an_result : Int64 := 0
def an_cause : Int32 := 0
def an_about (c w : Int) : Int32 := if c ≠ 0 then -2 else if w = 0 then 0 else if w = 1 ∨ w = 2 then -1 else if w = 3 ∨ w = 4 then 0 else -3
def an_told (w : Int) : Int32 := if w = 0 then 1 else if 1 ≤ w ∧ w ≤ 5 then 0 else -3
def an_field (c n t s : Int) : Int32 := if c ≠ 0 ∨ 1 ≤ t then -2 else if n < 0 ∨ 19 < n ∨ t < -2 then -3 else if s = 0 then -4 else 0
def an_findField (c n : Int) : Int32 := if c ≠ 0 then -2 else if n < 0 ∨ 19 < n then -3 else -11
def an_findMethod (c n k x y : Int) : Int32 := if c ≠ 0 ∨ (0 < k ∧ 1 ≤ x) ∨ (1 < k ∧ 1 ≤ y) then -2 else if n < 0 ∨ 19 < n ∨ k < 0 ∨ 2 < k ∨ (0 < k ∧ x < -2) ∨ (1 < k ∧ y < -2) then -3 else -11
end
section
set_option maxHeartbeats 4000000 in
set_option maxRecDepth 100000 in
theorem c8_isClass (l : Launch) (dC : Nat → ClassId) (dI : Nat → Nat → Nat) (h0 : Nat) (q : Nat → Nat) (a1 : Int32) (sz : Nat)  : Met l yX8_isClass wsX8_isClass ({ frames := 0, cells := 0, slots := 0, locals := 0 }) (va_Pc [.ref h0, .int a1] (pz (dC, dI) [] [(h0, .inr (7, [.ref (q 0), .int 1, .ref (q 1), .int 0, .int 0, .ref (q 2), .int 0, .ref (q 3), .int 0, .ref (q 4), .int 0, .int 0, .ref (q 5), .int 0, .int 0]))] sz)) (qR (fun v => (v = some (.int 1) ∧ a1 = 0) ∨ (v = some (.int 0) ∧ (a1.toInt ≠ 0)))) 0 0 nA := by
  refine Met.ofW (cc := cX8_isClass) (maxL := 2) (ret := (some .boolean)) (by decide) rfl ?_
  intro p e s m args below meth c s₁ B hml hv
  obtain ⟨rfl, hsz, hP, hK, hD, hN⟩ := hv
  have hx := B.exec
  have hb := B.bytes
  have hr := B.returns
  have hts := atoms_spec (ws := wsX8_isClass) B.pre
  have hown : s.vm.findClass RX8 = some m.cls := findClass_of_methodNamed B.named
  have hlocks := B.notSynchronized
  subst hsz
  have hS : va_S nA s.heap s.heap [] := va_S.rf
  have hl := lv_entry ([.ref h0, .int a1]) (n := 2) (Nat.le_of_ble_eq_true rfl)
  rw [lg_entry_eq]
  generalize (lg_sl ([.ref h0, .int a1]) ++ List.replicate (2 - (lg_sl ([.ref h0, .int a1])).length) Slot.unset).toArray = ls at hl ⊢
  have hl : lv_has ls 2 [(0, .ref h0), (1, .int a1)] := hl
  refine lv_iload_n hx hb dX8_isClass_0 rfl (lv_at hl 1 rfl) ?_
  refine lv_if_lt (tgt := 16) hx hb dX8_isClass_1 (by decide) (fun c1 => ?_) (fun c1 => ?_)
  · have ic1 : a1.toInt < 0 := il2 rfl (by decide) c1
    refine lv_iconst (v := 0) hx hb dX8_isClass_16 (by decide) ?_
    exact W.zret (v := 0) (ty := .boolean) hx hb hr rfl (fun t ht hW => ⟨⟨(some (.int 0)), rfl, (by first | exact Or.inr (⟨rfl, (by first | omega | (have kq := kz; omega) | decide)⟩))⟩, hS.F ht⟩) hS.2.2 dX8_isClass_17
  · have ic1 : 0 ≤ a1.toInt := inl2 rfl (by decide) c1
    refine lv_iload_n hx hb dX8_isClass_4 rfl (lv_at hl 1 rfl) ?_
    refine lv_aload_n hx hb dX8_isClass_5 rfl (lv_at hl 0 rfl) ?_
    refine va_get (D := (dC, dI)) (own := RX8) (ref := "ReflectModels") (index := 15) (ci := 7) (v := .int 1) (C := RX8) (T := TX8) (N := 15) hx hb hts inX8_isClass_8 hown hK hP 0 rfl rfl 1 (by decide) (hts (.fieldLink RX8 15 "ReflectModels" "classCount" "I") (by decide +kernel)) (fun _ h9 => h9) rfl dX8_isClass_6 ?_
    refine lv_icmp_ge (tgt := 16) hx hb dX8_isClass_9 (by decide) (fun c2 => ?_) (fun c2 => ?_)
    · have ic2 : 1 ≤ a1.toInt := ile2 (by decide) rfl c2
      refine lv_iconst (v := 0) hx hb dX8_isClass_16 (by decide) ?_
      exact W.zret (v := 0) (ty := .boolean) hx hb hr rfl (fun t ht hW => ⟨⟨(some (.int 0)), rfl, (by first | exact Or.inr (⟨rfl, (by first | omega | (have kq := kz; omega) | decide)⟩))⟩, hS.F ht⟩) hS.2.2 dX8_isClass_17
    · have ic2 : a1.toInt < 1 := inle2 (by decide) rfl c2
      refine lv_iconst (v := 1) hx hb dX8_isClass_12 (by decide) ?_
      refine lv_goto (tgt := 17) hx hb dX8_isClass_13 (by decide) ?_
      exact W.zret (v := 1) (ty := .boolean) hx hb hr rfl (fun t ht hW => ⟨⟨(some (.int 1)), rfl, (by first | exact Or.inl ⟨rfl, (iof (a := 0) (by decide) (by omega))⟩)⟩, hS.F ht⟩) hS.2.2 dX8_isClass_17

set_option maxHeartbeats 4000000 in
set_option maxRecDepth 100000 in
theorem c8_isMissingClass (l : Launch) (dC : Nat → ClassId) (dI : Nat → Nat → Nat) (h0 : Nat) (q : Nat → Nat) (a1 : Int32) (sz : Nat)  : Met l yX8_isMissingClass wsX8_isMissingClass ({ frames := 0, cells := 0, slots := 0, locals := 0 }) (va_Pc [.ref h0, .int a1] (pz (dC, dI) [] [(h0, .inr (7, [.ref (q 0), .int 1, .ref (q 1), .int 0, .int 0, .ref (q 2), .int 0, .ref (q 3), .int 0, .ref (q 4), .int 0, .int 0, .ref (q 5), .int 0, .int 0]))] sz)) (qR (fun v => (v = some (.int 1) ∧ (1 ≤ a1.toInt)) ∨ (v = some (.int 0) ∧ (a1.toInt < 1)))) 0 0 nA := by
  refine Met.ofW (cc := cX8_isMissingClass) (maxL := 2) (ret := (some .boolean)) (by decide) rfl ?_
  intro p e s m args below meth c s₁ B hml hv
  obtain ⟨rfl, hsz, hP, hK, hD, hN⟩ := hv
  have hx := B.exec
  have hb := B.bytes
  have hr := B.returns
  have hts := atoms_spec (ws := wsX8_isMissingClass) B.pre
  have hown : s.vm.findClass RX8 = some m.cls := findClass_of_methodNamed B.named
  have hlocks := B.notSynchronized
  subst hsz
  have hS : va_S nA s.heap s.heap [] := va_S.rf
  have hl := lv_entry ([.ref h0, .int a1]) (n := 2) (Nat.le_of_ble_eq_true rfl)
  rw [lg_entry_eq]
  generalize (lg_sl ([.ref h0, .int a1]) ++ List.replicate (2 - (lg_sl ([.ref h0, .int a1])).length) Slot.unset).toArray = ls at hl ⊢
  have hl : lv_has ls 2 [(0, .ref h0), (1, .int a1)] := hl
  refine lv_iload_n hx hb dX8_isMissingClass_0 rfl (lv_at hl 1 rfl) ?_
  refine lv_aload_n hx hb dX8_isMissingClass_1 rfl (lv_at hl 0 rfl) ?_
  refine va_get (D := (dC, dI)) (own := RX8) (ref := "ReflectModels") (index := 15) (ci := 7) (v := .int 1) (C := RX8) (T := TX8) (N := 15) hx hb hts inX8_isMissingClass_8 hown hK hP 0 rfl rfl 1 (by decide) (hts (.fieldLink RX8 15 "ReflectModels" "classCount" "I") (by decide +kernel)) (fun _ h9 => h9) rfl dX8_isMissingClass_2 ?_
  refine lv_icmp_lt (tgt := 12) hx hb dX8_isMissingClass_5 (by decide) (fun c1 => ?_) (fun c1 => ?_)
  · have ic1 : a1.toInt < 1 := il2 rfl (by decide) c1
    refine lv_iconst (v := 0) hx hb dX8_isMissingClass_12 (by decide) ?_
    exact W.zret (v := 0) (ty := .boolean) hx hb hr rfl (fun t ht hW => ⟨⟨(some (.int 0)), rfl, (by first | exact Or.inr (⟨rfl, (by first | omega | (have kq := kz; omega) | decide)⟩))⟩, hS.F ht⟩) hS.2.2 dX8_isMissingClass_13
  · have ic1 : 1 ≤ a1.toInt := inl2 rfl (by decide) c1
    refine lv_iconst (v := 1) hx hb dX8_isMissingClass_8 (by decide) ?_
    refine lv_goto (tgt := 13) hx hb dX8_isMissingClass_9 (by decide) ?_
    exact W.zret (v := 1) (ty := .boolean) hx hb hr rfl (fun t ht hW => ⟨⟨(some (.int 1)), rfl, (by first | exact Or.inl ⟨rfl, (by first | omega | (have kq := kz; omega) | decide)⟩)⟩, hS.F ht⟩) hS.2.2 dX8_isMissingClass_13

set_option maxHeartbeats 4000000 in
set_option maxRecDepth 100000 in
theorem c8_isHandle (l : Launch) (dC : Nat → ClassId) (dI : Nat → Nat → Nat) (h0 : Nat) (q : Nat → Nat) (a1 : Int32) (sz : Nat)  : Met l yX8_isHandle wsX8_isHandle ({ frames := 0, cells := 0, slots := 0, locals := 0 }) (va_Pc [.ref h0, .int a1] (pz (dC, dI) [] [(h0, .inr (7, [.ref (q 0), .int 1, .ref (q 1), .int 0, .int 0, .ref (q 2), .int 0, .ref (q 3), .int 0, .ref (q 4), .int 0, .int 0, .ref (q 5), .int 0, .int 0]))] sz)) (qR (fun v => (v = some (.int 0)))) 0 0 nA := by
  refine Met.ofW (cc := cX8_isHandle) (maxL := 2) (ret := (some .boolean)) (by decide) rfl ?_
  intro p e s m args below meth c s₁ B hml hv
  obtain ⟨rfl, hsz, hP, hK, hD, hN⟩ := hv
  have hx := B.exec
  have hb := B.bytes
  have hr := B.returns
  have hts := atoms_spec (ws := wsX8_isHandle) B.pre
  have hown : s.vm.findClass RX8 = some m.cls := findClass_of_methodNamed B.named
  have hlocks := B.notSynchronized
  subst hsz
  have hS : va_S nA s.heap s.heap [] := va_S.rf
  have hl := lv_entry ([.ref h0, .int a1]) (n := 2) (Nat.le_of_ble_eq_true rfl)
  rw [lg_entry_eq]
  generalize (lg_sl ([.ref h0, .int a1]) ++ List.replicate (2 - (lg_sl ([.ref h0, .int a1])).length) Slot.unset).toArray = ls at hl ⊢
  have hl : lv_has ls 2 [(0, .ref h0), (1, .int a1)] := hl
  refine lv_iload_n hx hb dX8_isHandle_0 rfl (lv_at hl 1 rfl) ?_
  refine lv_if_lt (tgt := 16) hx hb dX8_isHandle_1 (by decide) (fun c1 => ?_) (fun c1 => ?_)
  · have ic1 : a1.toInt < 0 := il2 rfl (by decide) c1
    refine lv_iconst (v := 0) hx hb dX8_isHandle_16 (by decide) ?_
    exact W.zret (v := 0) (ty := .boolean) hx hb hr rfl (fun t ht hW => ⟨⟨(some (.int 0)), rfl, (by first | exact rfl)⟩, hS.F ht⟩) hS.2.2 dX8_isHandle_17
  · have ic1 : 0 ≤ a1.toInt := inl2 rfl (by decide) c1
    refine lv_iload_n hx hb dX8_isHandle_4 rfl (lv_at hl 1 rfl) ?_
    refine lv_aload_n hx hb dX8_isHandle_5 rfl (lv_at hl 0 rfl) ?_
    refine va_get (D := (dC, dI)) (own := RX8) (ref := "ReflectModels") (index := 37) (ci := 7) (v := .int 0) (C := RX8) (T := TX8) (N := 15) hx hb hts inX8_isHandle_8 hown hK hP 0 rfl rfl 6 (by decide) (hts (.fieldLink RX8 37 "ReflectModels" "handleCount" "I") (by decide +kernel)) (fun _ h9 => h9) rfl dX8_isHandle_6 ?_
    refine lv_icmp_ge (tgt := 16) hx hb dX8_isHandle_9 (by decide) (fun c2 => ?_) (fun c2 => ?_)
    · have ic2 : 0 ≤ a1.toInt := ile2 (by decide) rfl c2
      refine lv_iconst (v := 0) hx hb dX8_isHandle_16 (by decide) ?_
      exact W.zret (v := 0) (ty := .boolean) hx hb hr rfl (fun t ht hW => ⟨⟨(some (.int 0)), rfl, (by first | exact rfl)⟩, hS.F ht⟩) hS.2.2 dX8_isHandle_17
    · have ic2 : a1.toInt < 0 := inle2 (by decide) rfl c2
      exfalso; first | omega | (have kq := kz; omega)

set_option maxHeartbeats 4000000 in
set_option maxRecDepth 100000 in
theorem c8_isThing (l : Launch) (dC : Nat → ClassId) (dI : Nat → Nat → Nat) (h0 : Nat) (q : Nat → Nat) (a1 : Int32) (sz : Nat)  : Met l yX8_isThing wsX8_isThing ({ frames := 0, cells := 0, slots := 0, locals := 0 }) (va_Pc [.ref h0, .int a1] (pz (dC, dI) [] [(h0, .inr (7, [.ref (q 0), .int 1, .ref (q 1), .int 0, .int 0, .ref (q 2), .int 0, .ref (q 3), .int 0, .ref (q 4), .int 0, .int 0, .ref (q 5), .int 0, .int 0]))] sz)) (qR (fun v => (v = some (.int 0)))) 0 0 nA := by
  refine Met.ofW (cc := cX8_isThing) (maxL := 2) (ret := (some .boolean)) (by decide) rfl ?_
  intro p e s m args below meth c s₁ B hml hv
  obtain ⟨rfl, hsz, hP, hK, hD, hN⟩ := hv
  have hx := B.exec
  have hb := B.bytes
  have hr := B.returns
  have hts := atoms_spec (ws := wsX8_isThing) B.pre
  have hown : s.vm.findClass RX8 = some m.cls := findClass_of_methodNamed B.named
  have hlocks := B.notSynchronized
  subst hsz
  have hS : va_S nA s.heap s.heap [] := va_S.rf
  have hl := lv_entry ([.ref h0, .int a1]) (n := 2) (Nat.le_of_ble_eq_true rfl)
  rw [lg_entry_eq]
  generalize (lg_sl ([.ref h0, .int a1]) ++ List.replicate (2 - (lg_sl ([.ref h0, .int a1])).length) Slot.unset).toArray = ls at hl ⊢
  have hl : lv_has ls 2 [(0, .ref h0), (1, .int a1)] := hl
  refine lv_iload_n hx hb dX8_isThing_0 rfl (lv_at hl 1 rfl) ?_
  refine lv_if_lt (tgt := 16) hx hb dX8_isThing_1 (by decide) (fun c1 => ?_) (fun c1 => ?_)
  · have ic1 : a1.toInt < 0 := il2 rfl (by decide) c1
    refine lv_iconst (v := 0) hx hb dX8_isThing_16 (by decide) ?_
    exact W.zret (v := 0) (ty := .boolean) hx hb hr rfl (fun t ht hW => ⟨⟨(some (.int 0)), rfl, (by first | exact rfl)⟩, hS.F ht⟩) hS.2.2 dX8_isThing_17
  · have ic1 : 0 ≤ a1.toInt := inl2 rfl (by decide) c1
    refine lv_iload_n hx hb dX8_isThing_4 rfl (lv_at hl 1 rfl) ?_
    refine lv_aload_n hx hb dX8_isThing_5 rfl (lv_at hl 0 rfl) ?_
    refine va_get (D := (dC, dI)) (own := RX8) (ref := "ReflectModels") (index := 46) (ci := 7) (v := .int 0) (C := RX8) (T := TX8) (N := 15) hx hb hts inX8_isThing_8 hown hK hP 0 rfl rfl 8 (by decide) (hts (.fieldLink RX8 46 "ReflectModels" "thingCount" "I") (by decide +kernel)) (fun _ h9 => h9) rfl dX8_isThing_6 ?_
    refine lv_icmp_ge (tgt := 16) hx hb dX8_isThing_9 (by decide) (fun c2 => ?_) (fun c2 => ?_)
    · have ic2 : 0 ≤ a1.toInt := ile2 (by decide) rfl c2
      refine lv_iconst (v := 0) hx hb dX8_isThing_16 (by decide) ?_
      exact W.zret (v := 0) (ty := .boolean) hx hb hr rfl (fun t ht hW => ⟨⟨(some (.int 0)), rfl, (by first | exact rfl)⟩, hS.F ht⟩) hS.2.2 dX8_isThing_17
    · have ic2 : a1.toInt < 0 := inle2 (by decide) rfl c2
      exfalso; first | omega | (have kq := kz; omega)

set_option maxHeartbeats 4000000 in
set_option maxRecDepth 100000 in
theorem c8_isOutsideName (l : Launch) (dC : Nat → ClassId) (dI : Nat → Nat → Nat) (a1 : Int32) (sz : Nat)  : Met l yX8_isOutsideName wsX8_isOutsideName ({ frames := 0, cells := 0, slots := 0, locals := 0 }) (va_Pc [.int a1] (pz (dC, dI) [] [] sz)) (qR (fun v => (v = some (.int 1) ∧ (a1.toInt < 0 ∨ 19 < a1.toInt)) ∨ (v = some (.int 0) ∧ (0 ≤ a1.toInt ∧ a1.toInt ≤ 19)))) 0 0 nA := by
  refine Met.ofW (cc := cX8_isOutsideName) (maxL := 1) (ret := (some .boolean)) (by decide) rfl ?_
  intro p e s m args below meth c s₁ B hml hv
  obtain ⟨rfl, hsz, hP, hK, hD, hN⟩ := hv
  have hx := B.exec
  have hb := B.bytes
  have hr := B.returns
  have hts := atoms_spec (ws := wsX8_isOutsideName) B.pre
  have hown : s.vm.findClass RX8 = some m.cls := findClass_of_methodNamed B.named
  have hlocks := B.notSynchronized
  subst hsz
  have hS : va_S nA s.heap s.heap [] := va_S.rf
  have hl := lv_entry ([.int a1]) (n := 1) (Nat.le_of_ble_eq_true rfl)
  rw [lg_entry_eq]
  generalize (lg_sl ([.int a1]) ++ List.replicate (1 - (lg_sl ([.int a1])).length) Slot.unset).toArray = ls at hl ⊢
  have hl : lv_has ls 1 [(0, .int a1)] := hl
  refine lv_iload_n hx hb dX8_isOutsideName_0 rfl (lv_at hl 0 rfl) ?_
  refine lv_if_lt (tgt := 10) hx hb dX8_isOutsideName_1 (by decide) (fun c1 => ?_) (fun c1 => ?_)
  · have ic1 : a1.toInt < 0 := il2 rfl (by decide) c1
    refine lv_iconst (v := 1) hx hb dX8_isOutsideName_10 (by decide) ?_
    refine lv_goto (tgt := 15) hx hb dX8_isOutsideName_11 (by decide) ?_
    exact W.zret (v := 1) (ty := .boolean) hx hb hr rfl (fun t ht hW => ⟨⟨(some (.int 1)), rfl, (by first | exact Or.inl ⟨rfl, (by first | omega | (have kq := kz; omega) | decide)⟩)⟩, hS.F ht⟩) hS.2.2 dX8_isOutsideName_15
  · have ic1 : 0 ≤ a1.toInt := inl2 rfl (by decide) c1
    refine lv_iload_n hx hb dX8_isOutsideName_4 rfl (lv_at hl 0 rfl) ?_
    refine lv_bipush (v := 19) hx hb dX8_isOutsideName_5 (by decide) ?_
    refine lv_icmp_le (tgt := 14) hx hb dX8_isOutsideName_7 (by decide) (fun c2 => ?_) (fun c2 => ?_)
    · have ic2 : a1.toInt ≤ 19 := ile2 rfl (by decide) c2
      refine lv_iconst (v := 0) hx hb dX8_isOutsideName_14 (by decide) ?_
      exact W.zret (v := 0) (ty := .boolean) hx hb hr rfl (fun t ht hW => ⟨⟨(some (.int 0)), rfl, (by first | exact Or.inr (⟨rfl, (by first | omega | (have kq := kz; omega) | decide)⟩))⟩, hS.F ht⟩) hS.2.2 dX8_isOutsideName_15
    · have ic2 : 19 < a1.toInt := inle2 rfl (by decide) c2
      refine lv_iconst (v := 1) hx hb dX8_isOutsideName_10 (by decide) ?_
      refine lv_goto (tgt := 15) hx hb dX8_isOutsideName_11 (by decide) ?_
      exact W.zret (v := 1) (ty := .boolean) hx hb hr rfl (fun t ht hW => ⟨⟨(some (.int 1)), rfl, (by first | exact Or.inl ⟨rfl, (by first | omega | (have kq := kz; omega) | decide)⟩)⟩, hS.F ht⟩) hS.2.2 dX8_isOutsideName_15

set_option maxHeartbeats 4000000 in
set_option maxRecDepth 100000 in
theorem c7_init (l : Launch) (dC : Nat → ClassId) (dI : Nat → Nat → Nat) (h1 : Nat) (sz : Nat)  : Met l yX7_init wsX7_init ({ frames := 1, cells := 0, slots := 0, locals := 12 }) (va_Pc [.ref h1] (pz (dC, dI) [] [(h1, .inr (6, [.int 0, .long 0]))] sz)) (qW (dC, dI) (fun v w1 ty1 => v = none ∧ w1 = [(h1, .inr (6, [.int 0, .long 0]))] ∧ ty1 = []) (va_A [(h1, .inr (6, [.int 0, .long 0]))] sz)) 0 0 (va_A [(h1, .inr (6, [.int 0, .long 0]))] sz) := by
  refine Met.ofW (cc := cX7_init) (maxL := 1) (ret := none) (by decide) rfl ?_
  intro p e s m args below meth c s₁ B hml hv
  obtain ⟨rfl, hsz, hP, hK, hD, hN⟩ := hv
  have hx := B.exec
  have hb := B.bytes
  have hr := B.returns
  have hts := atoms_spec (ws := wsX7_init) B.pre
  have hown : s.vm.findClass RX7 = some m.cls := findClass_of_methodNamed B.named
  have hlocks := B.notSynchronized
  have hin : meth.name = "<init>" := (name_of_methodNamed B.named B.method).1
  subst hsz
  have hD := hD.self (sz := s.heap.size)
  generalize hAe : va_A [(h1, .inr (6, [.int 0, .long 0]))] s.heap.size = A at hD ⊢
  have hA : ∀ q : Nat, s.heap.size ≤ q → A q := fun q h => by rw [← hAe]; exact Or.inr h
  have hS : va_S A s.heap s.heap [] := va_S.rf
  have hl := lv_entry ([.ref h1]) (n := 1) (Nat.le_of_ble_eq_true rfl)
  rw [lg_entry_eq]
  generalize (lg_sl ([.ref h1]) ++ List.replicate (1 - (lg_sl ([.ref h1])).length) Slot.unset).toArray = ls at hl ⊢
  have hl : lv_has ls 1 [(0, .ref h1)] := hl
  refine lv_aload_n hx hb dX7_init_0 rfl (lv_at hl 0 rfl) ?_
  refine W.objInit hx hb hown (hts (.methodLink RX7 3 objectInit) (by decide +kernel)) (hts (.instanceMethod objectInit) (by decide +kernel)) (hts (.code objectInit ⟨#[0xb1]⟩ 1 none) (by decide +kernel)) rfl (by rw [hml]; exact hl.1) rfl dX7_init_1 (Nat.le_of_ble_eq_true rfl) (Nat.le_of_ble_eq_true rfl) ?_
  refine W.eq (g2 := F0 m 4 ls []) rfl ?_
  refine lv_aload_n hx hb dX7_init_4 rfl (lv_at hl 0 rfl) ?_
  refine lv_iconst (v := 0) hx hb dX7_init_5 (by decide) ?_
  refine va_put (D := (dC, dI)) (own := RX7) (ref := "ReflectModels$Value") (index := 9) (ci := 6) (v := .int 0) (ty := .int) (C := RX7) (T := TX7) (N := 2) hx hb hts inX7_init_7 tyX7 tyX7_ok nmX7 hown hK hP hD hS 0 rfl rfl 0 (by decide) (hts (.fieldLink RX7 9 "ReflectModels$Value" "kind" "I") (by decide +kernel)) (fun _ h9 => h9) rfl (by decide +kernel) rfl rfl (Nat.le_of_ble_eq_true rfl) dX7_init_6 (fun H locs hP hD hS => ?_)
  have hP : va_P (dC, dI) vwCl [(h1, .inr (6, [.int 0, .long 0]))] H := hP
  have hD : va_D A [(h1, .inr (6, [.int 0, .long 0]))] := hD
  refine lv_aload_n hx hb dX7_init_9 rfl (lv_at hl 0 rfl) ?_
  refine lv_lconst (v := 0) hx hb dX7_init_10 (by decide) ?_
  refine va_put (D := (dC, dI)) (own := RX7) (ref := "ReflectModels$Value") (index := 15) (ci := 6) (v := .long 0) (ty := .long) (C := RX7) (T := TX7) (N := 2) hx hb hts inX7_init_7 tyX7 tyX7_ok nmX7 hown hK hP hD hS 0 rfl rfl 1 (by decide) (hts (.fieldLink RX7 15 "ReflectModels$Value" "number" "J") (by decide +kernel)) (fun _ h9 => h9) rfl (by decide +kernel) rfl rfl (Nat.le_of_ble_eq_true rfl) dX7_init_11 (fun H locs hP hD hS => ?_)
  have hP : va_P (dC, dI) vwCl [(h1, .inr (6, [.int 0, .long 0]))] H := hP
  have hD : va_D A [(h1, .inr (6, [.int 0, .long 0]))] := hD
  have hP9 := hP.sub (ws' := [(h1, .inr (6, [.int 0, .long 0]))]) [0] rfl
  have hD9 := hD.sub (ws' := [(h1, .inr (6, [.int 0, .long 0]))]) [0] (by decide) rfl
  have hK9 := hK.sub (tys' := []) [] rfl
  exact W.vret hx hb hr (fun t ht hW => ⟨⟨none, rfl, _, _, ⟨rfl, rfl, rfl⟩, by rw [ht]; exact hP9, va_K.moved hW.alike hK9, hD9⟩, hS.F ht⟩) hS.2.2 dX7_init_14

set_option maxHeartbeats 4000000 in
set_option maxRecDepth 100000 in
theorem c0_init0 (l : Launch) (dC : Nat → ClassId) (dI : Nat → Nat → Nat) (h1 : Nat) (sz : Nat)  : Met l yX0_init wsX0_init ({ frames := 1, cells := 0, slots := 0, locals := 12 }) (va_Pc [.ref h1, .int 0, .null, .int 0, .null, .int 0, .int 0] (pz (dC, dI) [] [(h1, .inr (0, [.int 0, .null, .int 0, .null, .int 0, .int 0, .int 0, .int 0, .int 0, .int 0, .int 0, .int 0]))] sz)) (qW (dC, dI) (fun v w1 ty1 => v = none ∧ w1 = [(h1, .inr (0, [.int 0, .null, .int 0, .null, .int 0, .int 0, .int 1, .int 1, .int 0, .int 0, .int 0, .int 0]))] ∧ ty1 = []) (va_A [(h1, .inr (0, [.int 0, .null, .int 0, .null, .int 0, .int 0, .int 0, .int 0, .int 0, .int 0, .int 0, .int 0]))] sz)) 0 0 (va_A [(h1, .inr (0, [.int 0, .null, .int 0, .null, .int 0, .int 0, .int 0, .int 0, .int 0, .int 0, .int 0, .int 0]))] sz) := by
  refine Met.ofW (cc := cX0_init) (maxL := 8) (ret := none) (by decide) rfl ?_
  intro p e s m args below meth c s₁ B hml hv
  obtain ⟨rfl, hsz, hP, hK, hD, hN⟩ := hv
  have hx := B.exec
  have hb := B.bytes
  have hr := B.returns
  have hts := atoms_spec (ws := wsX0_init) B.pre
  have hown : s.vm.findClass RX0 = some m.cls := findClass_of_methodNamed B.named
  have hlocks := B.notSynchronized
  have hin : meth.name = "<init>" := (name_of_methodNamed B.named B.method).1
  subst hsz
  have hD := hD.self (sz := s.heap.size)
  generalize hAe : va_A [(h1, .inr (0, [.int 0, .null, .int 0, .null, .int 0, .int 0, .int 0, .int 0, .int 0, .int 0, .int 0, .int 0]))] s.heap.size = A at hD ⊢
  have hA : ∀ q : Nat, s.heap.size ≤ q → A q := fun q h => by rw [← hAe]; exact Or.inr h
  have hS : va_S A s.heap s.heap [] := va_S.rf
  have hl := lv_entry ([.ref h1, .int 0, .null, .int 0, .null, .int 0, .int 0]) (n := 8) (Nat.le_of_ble_eq_true rfl)
  rw [lg_entry_eq]
  generalize (lg_sl ([.ref h1, .int 0, .null, .int 0, .null, .int 0, .int 0]) ++ List.replicate (8 - (lg_sl ([.ref h1, .int 0, .null, .int 0, .null, .int 0, .int 0])).length) Slot.unset).toArray = ls at hl ⊢
  have hl : lv_has ls 8 [(0, .ref h1), (1, .int 0), (2, .null), (3, .int 0), (4, .null), (5, .int 0), (6, .int 0)] := hl
  refine lv_aload_n hx hb dX0_init_0 rfl (lv_at hl 0 rfl) ?_
  refine W.objInit hx hb hown (hts (.methodLink RX0 3 objectInit) (by decide +kernel)) (hts (.instanceMethod objectInit) (by decide +kernel)) (hts (.code objectInit ⟨#[0xb1]⟩ 1 none) (by decide +kernel)) rfl (by rw [hml]; exact hl.1) rfl dX0_init_1 (Nat.le_of_ble_eq_true rfl) (Nat.le_of_ble_eq_true rfl) ?_
  refine W.eq (g2 := F0 m 4 ls []) rfl ?_
  refine lv_aload_n hx hb dX0_init_4 rfl (lv_at hl 0 rfl) ?_
  refine lv_iconst (v := 0) hx hb dX0_init_5 (by decide) ?_
  refine va_put (D := (dC, dI)) (own := RX0) (ref := "ReflectModels$ClassModel") (index := 9) (ci := 0) (v := .int 0) (ty := .int) (C := RX0) (T := TX0) (N := 12) hx hb hts inX0_init_0 tyX0 tyX0_ok nmX0 hown hK hP hD hS 0 rfl rfl 8 (by decide) (hts (.fieldLink RX0 9 "ReflectModels$ClassModel" "state" "I") (by decide +kernel)) (fun _ h9 => h9) rfl (by decide +kernel) rfl rfl (Nat.le_of_ble_eq_true rfl) dX0_init_6 (fun H locs hP hD hS => ?_)
  have hP : va_P (dC, dI) vwCl [(h1, .inr (0, [.int 0, .null, .int 0, .null, .int 0, .int 0, .int 0, .int 0, .int 0, .int 0, .int 0, .int 0]))] H := hP
  have hD : va_D A [(h1, .inr (0, [.int 0, .null, .int 0, .null, .int 0, .int 0, .int 0, .int 0, .int 0, .int 0, .int 0, .int 0]))] := hD
  refine lv_aload_n hx hb dX0_init_9 rfl (lv_at hl 0 rfl) ?_
  refine lv_iconst (v := 0) hx hb dX0_init_10 (by decide) ?_
  refine va_put (D := (dC, dI)) (own := RX0) (ref := "ReflectModels$ClassModel") (index := 15) (ci := 0) (v := .int 0) (ty := .int) (C := RX0) (T := TX0) (N := 12) hx hb hts inX0_init_0 tyX0 tyX0_ok nmX0 hown hK hP hD hS 0 rfl rfl 9 (by decide) (hts (.fieldLink RX0 15 "ReflectModels$ClassModel" "constantCount" "I") (by decide +kernel)) (fun _ h9 => h9) rfl (by decide +kernel) rfl rfl (Nat.le_of_ble_eq_true rfl) dX0_init_11 (fun H locs hP hD hS => ?_)
  have hP : va_P (dC, dI) vwCl [(h1, .inr (0, [.int 0, .null, .int 0, .null, .int 0, .int 0, .int 0, .int 0, .int 0, .int 0, .int 0, .int 0]))] H := hP
  have hD : va_D A [(h1, .inr (0, [.int 0, .null, .int 0, .null, .int 0, .int 0, .int 0, .int 0, .int 0, .int 0, .int 0, .int 0]))] := hD
  refine lv_aload_n hx hb dX0_init_14 rfl (lv_at hl 0 rfl) ?_
  refine lv_iconst (v := 0) hx hb dX0_init_15 (by decide) ?_
  refine va_put (D := (dC, dI)) (own := RX0) (ref := "ReflectModels$ClassModel") (index := 18) (ci := 0) (v := .int 0) (ty := .int) (C := RX0) (T := TX0) (N := 12) hx hb hts inX0_init_0 tyX0 tyX0_ok nmX0 hown hK hP hD hS 0 rfl rfl 10 (by decide) (hts (.fieldLink RX0 18 "ReflectModels$ClassModel" "firstConstant" "I") (by decide +kernel)) (fun _ h9 => h9) rfl (by decide +kernel) rfl rfl (Nat.le_of_ble_eq_true rfl) dX0_init_16 (fun H locs hP hD hS => ?_)
  have hP : va_P (dC, dI) vwCl [(h1, .inr (0, [.int 0, .null, .int 0, .null, .int 0, .int 0, .int 0, .int 0, .int 0, .int 0, .int 0, .int 0]))] H := hP
  have hD : va_D A [(h1, .inr (0, [.int 0, .null, .int 0, .null, .int 0, .int 0, .int 0, .int 0, .int 0, .int 0, .int 0, .int 0]))] := hD
  refine lv_aload_n hx hb dX0_init_19 rfl (lv_at hl 0 rfl) ?_
  refine lv_iconst (v := 0) hx hb dX0_init_20 (by decide) ?_
  refine va_put (D := (dC, dI)) (own := RX0) (ref := "ReflectModels$ClassModel") (index := 21) (ci := 0) (v := .int 0) (ty := .int) (C := RX0) (T := TX0) (N := 12) hx hb hts inX0_init_0 tyX0 tyX0_ok nmX0 hown hK hP hD hS 0 rfl rfl 11 (by decide) (hts (.fieldLink RX0 21 "ReflectModels$ClassModel" "ownMembers" "I") (by decide +kernel)) (fun _ h9 => h9) rfl (by decide +kernel) rfl rfl (Nat.le_of_ble_eq_true rfl) dX0_init_21 (fun H locs hP hD hS => ?_)
  have hP : va_P (dC, dI) vwCl [(h1, .inr (0, [.int 0, .null, .int 0, .null, .int 0, .int 0, .int 0, .int 0, .int 0, .int 0, .int 0, .int 0]))] H := hP
  have hD : va_D A [(h1, .inr (0, [.int 0, .null, .int 0, .null, .int 0, .int 0, .int 0, .int 0, .int 0, .int 0, .int 0, .int 0]))] := hD
  refine lv_aload_n hx hb dX0_init_24 rfl (lv_at hl 0 rfl) ?_
  refine lv_iload_n hx hb dX0_init_25 rfl (lv_at hl 1 rfl) ?_
  refine va_putF (D := (dC, dI)) (own := RX0) (ref := "ReflectModels$ClassModel") (index := 24) (ci := 0) (v := .int 0) (ty := .int) (C := RX0) (T := TX0) (N := 12) hx hb hts inX0_init_0 tyX0 tyX0_ok nmX0 hown hK hP hD hS 0 rfl rfl 0 (by decide) (hts (.fieldLink RX0 24 "ReflectModels$ClassModel" "number" "I") (by decide +kernel)) (fun _ h9 => h9) rfl hin rfl (by decide +kernel) rfl rfl (Nat.le_of_ble_eq_true rfl) dX0_init_26 (fun H locs hP hD hS => ?_)
  have hP : va_P (dC, dI) vwCl [(h1, .inr (0, [.int 0, .null, .int 0, .null, .int 0, .int 0, .int 0, .int 0, .int 0, .int 0, .int 0, .int 0]))] H := hP
  have hD : va_D A [(h1, .inr (0, [.int 0, .null, .int 0, .null, .int 0, .int 0, .int 0, .int 0, .int 0, .int 0, .int 0, .int 0]))] := hD
  refine lv_aload_n hx hb dX0_init_29 rfl (lv_at hl 0 rfl) ?_
  refine lv_aload_nN hx hb dX0_init_30 rfl (lv_at hl 2 rfl) ?_
  refine va_putF (D := (dC, dI)) (own := RX0) (ref := "ReflectModels$ClassModel") (index := 27) (ci := 0) (v := .null) (ty := .object "ReflectModels$ClassModel") (C := RX0) (T := TX0) (N := 12) hx hb hts inX0_init_0 tyX0 tyX0_ok nmX0 hown hK hP hD hS 0 rfl rfl 1 (by decide) (hts (.fieldLink RX0 27 "ReflectModels$ClassModel" "above" "LReflectModels$ClassModel;") (by decide +kernel)) (fun _ h9 => h9) rfl hin rfl (by decide +kernel) rfl rfl (Nat.le_of_ble_eq_true rfl) dX0_init_31 (fun H locs hP hD hS => ?_)
  have hP : va_P (dC, dI) vwCl [(h1, .inr (0, [.int 0, .null, .int 0, .null, .int 0, .int 0, .int 0, .int 0, .int 0, .int 0, .int 0, .int 0]))] H := hP
  have hD : va_D A [(h1, .inr (0, [.int 0, .null, .int 0, .null, .int 0, .int 0, .int 0, .int 0, .int 0, .int 0, .int 0, .int 0]))] := hD
  refine lv_aload_n hx hb dX0_init_34 rfl (lv_at hl 0 rfl) ?_
  refine lv_iload_n hx hb dX0_init_35 rfl (lv_at hl 3 rfl) ?_
  refine va_putF (D := (dC, dI)) (own := RX0) (ref := "ReflectModels$ClassModel") (index := 31) (ci := 0) (v := .int 0) (ty := .int) (C := RX0) (T := TX0) (N := 12) hx hb hts inX0_init_0 tyX0 tyX0_ok nmX0 hown hK hP hD hS 0 rfl rfl 2 (by decide) (hts (.fieldLink RX0 31 "ReflectModels$ClassModel" "sort" "I") (by decide +kernel)) (fun _ h9 => h9) rfl hin rfl (by decide +kernel) rfl rfl (Nat.le_of_ble_eq_true rfl) dX0_init_36 (fun H locs hP hD hS => ?_)
  have hP : va_P (dC, dI) vwCl [(h1, .inr (0, [.int 0, .null, .int 0, .null, .int 0, .int 0, .int 0, .int 0, .int 0, .int 0, .int 0, .int 0]))] H := hP
  have hD : va_D A [(h1, .inr (0, [.int 0, .null, .int 0, .null, .int 0, .int 0, .int 0, .int 0, .int 0, .int 0, .int 0, .int 0]))] := hD
  refine lv_aload_n hx hb dX0_init_39 rfl (lv_at hl 0 rfl) ?_
  refine lv_aloadN hx hb dX0_init_40 (lv_at hl 4 rfl) ?_
  refine va_putF (D := (dC, dI)) (own := RX0) (ref := "ReflectModels$ClassModel") (index := 34) (ci := 0) (v := .null) (ty := .object "ReflectModels$ClassModel") (C := RX0) (T := TX0) (N := 12) hx hb hts inX0_init_0 tyX0 tyX0_ok nmX0 hown hK hP hD hS 0 rfl rfl 3 (by decide) (hts (.fieldLink RX0 34 "ReflectModels$ClassModel" "face" "LReflectModels$ClassModel;") (by decide +kernel)) (fun _ h9 => h9) rfl hin rfl (by decide +kernel) rfl rfl (Nat.le_of_ble_eq_true rfl) dX0_init_42 (fun H locs hP hD hS => ?_)
  have hP : va_P (dC, dI) vwCl [(h1, .inr (0, [.int 0, .null, .int 0, .null, .int 0, .int 0, .int 0, .int 0, .int 0, .int 0, .int 0, .int 0]))] H := hP
  have hD : va_D A [(h1, .inr (0, [.int 0, .null, .int 0, .null, .int 0, .int 0, .int 0, .int 0, .int 0, .int 0, .int 0, .int 0]))] := hD
  refine lv_aload_n hx hb dX0_init_45 rfl (lv_at hl 0 rfl) ?_
  refine lv_iload hx hb dX0_init_46 (lv_at hl 5 rfl) ?_
  refine va_putF (D := (dC, dI)) (own := RX0) (ref := "ReflectModels$ClassModel") (index := 37) (ci := 0) (v := .int 0) (ty := .boolean) (C := RX0) (T := TX0) (N := 12) hx hb hts inX0_init_0 tyX0 tyX0_ok nmX0 hown hK hP hD hS 0 rfl rfl 4 (by decide) (hts (.fieldLink RX0 37 "ReflectModels$ClassModel" "shut" "Z") (by decide +kernel)) (fun _ h9 => h9) rfl hin rfl (by decide +kernel) rfl rfl (Nat.le_of_ble_eq_true rfl) dX0_init_48 (fun H locs hP hD hS => ?_)
  have hP : va_P (dC, dI) vwCl [(h1, .inr (0, [.int 0, .null, .int 0, .null, .int 0, .int 0, .int 0, .int 0, .int 0, .int 0, .int 0, .int 0]))] H := hP
  have hD : va_D A [(h1, .inr (0, [.int 0, .null, .int 0, .null, .int 0, .int 0, .int 0, .int 0, .int 0, .int 0, .int 0, .int 0]))] := hD
  refine lv_aload_n hx hb dX0_init_51 rfl (lv_at hl 0 rfl) ?_
  refine lv_iload hx hb dX0_init_52 (lv_at hl 6 rfl) ?_
  refine va_putF (D := (dC, dI)) (own := RX0) (ref := "ReflectModels$ClassModel") (index := 41) (ci := 0) (v := .int 0) (ty := .boolean) (C := RX0) (T := TX0) (N := 12) hx hb hts inX0_init_0 tyX0 tyX0_ok nmX0 hown hK hP hD hS 0 rfl rfl 5 (by decide) (hts (.fieldLink RX0 41 "ReflectModels$ClassModel" "fails" "Z") (by decide +kernel)) (fun _ h9 => h9) rfl hin rfl (by decide +kernel) rfl rfl (Nat.le_of_ble_eq_true rfl) dX0_init_54 (fun H locs hP hD hS => ?_)
  have hP : va_P (dC, dI) vwCl [(h1, .inr (0, [.int 0, .null, .int 0, .null, .int 0, .int 0, .int 0, .int 0, .int 0, .int 0, .int 0, .int 0]))] H := hP
  have hD : va_D A [(h1, .inr (0, [.int 0, .null, .int 0, .null, .int 0, .int 0, .int 0, .int 0, .int 0, .int 0, .int 0, .int 0]))] := hD
  refine lv_iconst (v := 1) hx hb dX0_init_57 (by decide) ?_
  refine lv_iload_n hx hb dX0_init_58 rfl (lv_at hl 1 rfl) ?_
  refine lv_ishl hx hb dX0_init_59 ?_
  refine lv_topi (fun y1 ey1 => ?_)
  obtain rfl : y1 = 1 := ey1.trans (by decide)
  refine lv_istore (lv' := [(7, .int 1), (0, .ref h1), (1, .int 0), (2, .null), (3, .int 0), (4, .null), (5, .int 0), (6, .int 0)]) hx hb dX0_init_60 hl (by decide) rfl (fun ls hl => ?_)
  refine lv_aload_n hx hb dX0_init_62 rfl (lv_at hl 1 rfl) ?_
  refine lv_iload hx hb dX0_init_63 (lv_at hl 0 rfl) ?_
  refine lv_aload_nN hx hb dX0_init_65 rfl (lv_at hl 3 rfl) ?_
  refine lv_ifnonnullN hx hb dX0_init_66 ?_
  refine lv_iconst (v := 0) hx hb dX0_init_69 (by decide) ?_
  refine lv_goto (tgt := 77) hx hb dX0_init_70 (by decide) ?_
  refine lv_ior hx hb dX0_init_77 ?_
  refine lv_topi (fun y2 ey2 => ?_)
  obtain rfl : y2 = 1 := ey2.trans (by decide)
  refine va_putF (D := (dC, dI)) (own := RX0) (ref := "ReflectModels$ClassModel") (index := 44) (ci := 0) (v := .int 1) (ty := .int) (C := RX0) (T := TX0) (N := 12) hx hb hts inX0_init_0 tyX0 tyX0_ok nmX0 hown hK hP hD hS 0 rfl rfl 6 (by decide) (hts (.fieldLink RX0 44 "ReflectModels$ClassModel" "line" "I") (by decide +kernel)) (fun _ h9 => h9) rfl hin rfl (by decide +kernel) rfl rfl (Nat.le_of_ble_eq_true rfl) dX0_init_78 (fun H locs hP hD hS => ?_)
  have hP : va_P (dC, dI) vwCl [(h1, .inr (0, [.int 0, .null, .int 0, .null, .int 0, .int 0, .int 1, .int 0, .int 0, .int 0, .int 0, .int 0]))] H := hP
  have hD : va_D A [(h1, .inr (0, [.int 0, .null, .int 0, .null, .int 0, .int 0, .int 1, .int 0, .int 0, .int 0, .int 0, .int 0]))] := hD
  refine lv_aload_n hx hb dX0_init_81 rfl (lv_at hl 1 rfl) ?_
  refine lv_iload hx hb dX0_init_82 (lv_at hl 0 rfl) ?_
  refine lv_aload_nN hx hb dX0_init_84 rfl (lv_at hl 3 rfl) ?_
  refine lv_ifnonnullN hx hb dX0_init_85 ?_
  refine lv_iconst (v := 0) hx hb dX0_init_88 (by decide) ?_
  refine lv_goto (tgt := 96) hx hb dX0_init_89 (by decide) ?_
  refine lv_ior hx hb dX0_init_96 ?_
  refine lv_topi (fun y3 ey3 => ?_)
  obtain rfl : y3 = 1 := ey3.trans (by decide)
  refine lv_aloadN hx hb dX0_init_97 (lv_at hl 5 rfl) ?_
  refine lv_ifnonnullN hx hb dX0_init_99 ?_
  refine lv_iconst (v := 0) hx hb dX0_init_102 (by decide) ?_
  refine lv_goto (tgt := 111) hx hb dX0_init_103 (by decide) ?_
  refine lv_ior hx hb dX0_init_111 ?_
  refine lv_topi (fun y4 ey4 => ?_)
  obtain rfl : y4 = 1 := ey4.trans (by decide)
  refine va_putF (D := (dC, dI)) (own := RX0) (ref := "ReflectModels$ClassModel") (index := 47) (ci := 0) (v := .int 1) (ty := .int) (C := RX0) (T := TX0) (N := 12) hx hb hts inX0_init_0 tyX0 tyX0_ok nmX0 hown hK hP hD hS 0 rfl rfl 7 (by decide) (hts (.fieldLink RX0 47 "ReflectModels$ClassModel" "all" "I") (by decide +kernel)) (fun _ h9 => h9) rfl hin rfl (by decide +kernel) rfl rfl (Nat.le_of_ble_eq_true rfl) dX0_init_112 (fun H locs hP hD hS => ?_)
  have hP : va_P (dC, dI) vwCl [(h1, .inr (0, [.int 0, .null, .int 0, .null, .int 0, .int 0, .int 1, .int 1, .int 0, .int 0, .int 0, .int 0]))] H := hP
  have hD : va_D A [(h1, .inr (0, [.int 0, .null, .int 0, .null, .int 0, .int 0, .int 1, .int 1, .int 0, .int 0, .int 0, .int 0]))] := hD
  have hP9 := hP.sub (ws' := [(h1, .inr (0, [.int 0, .null, .int 0, .null, .int 0, .int 0, .int 1, .int 1, .int 0, .int 0, .int 0, .int 0]))]) [0] rfl
  have hD9 := hD.sub (ws' := [(h1, .inr (0, [.int 0, .null, .int 0, .null, .int 0, .int 0, .int 1, .int 1, .int 0, .int 0, .int 0, .int 0]))]) [0] (by decide) rfl
  have hK9 := hK.sub (tys' := []) [] rfl
  exact W.vret hx hb hr (fun t ht hW => ⟨⟨none, rfl, _, _, ⟨rfl, rfl, rfl⟩, by rw [ht]; exact hP9, va_K.moved hW.alike hK9, hD9⟩, hS.F ht⟩) hS.2.2 dX0_init_115

set_option maxHeartbeats 4000000 in
set_option maxRecDepth 100000 in
theorem c0_init1 (l : Launch) (dC : Nat → ClassId) (dI : Nat → Nat → Nat) (h1 r1 : Nat) (a3 a5 a6 : Int32) (sz : Nat) (h5 : a5 = 0 ∨ a5 = 1) (h6 : a6 = 0 ∨ a6 = 1) : Met l yX0_init wsX0_init ({ frames := 1, cells := 0, slots := 0, locals := 12 }) (va_Pc [.ref h1, .int 1, .ref r1, .int a3, .null, .int a5, .int a6] (pz (dC, dI) [] [(h1, .inr (0, [.int 0, .null, .int 0, .null, .int 0, .int 0, .int 0, .int 0, .int 0, .int 0, .int 0, .int 0])), (r1, .inr (0, [.int 0, .null, .int 0, .null, .int 0, .int 0, .int 1, .int 1, .int 0, .int 0, .int 0, .int 0]))] sz)) (qW (dC, dI) (fun v w1 ty1 => v = none ∧ w1 = [(h1, .inr (0, [.int 1, .ref r1, .int a3, .null, .int a5, .int a6, .int 3, .int 3, .int 0, .int 0, .int 0, .int 0])), (r1, .inr (0, [.int 0, .null, .int 0, .null, .int 0, .int 0, .int 1, .int 1, .int 0, .int 0, .int 0, .int 0]))] ∧ ty1 = []) (va_A [(h1, .inr (0, [.int 0, .null, .int 0, .null, .int 0, .int 0, .int 0, .int 0, .int 0, .int 0, .int 0, .int 0])), (r1, .inr (0, [.int 0, .null, .int 0, .null, .int 0, .int 0, .int 1, .int 1, .int 0, .int 0, .int 0, .int 0]))] sz)) 0 0 (va_A [(h1, .inr (0, [.int 0, .null, .int 0, .null, .int 0, .int 0, .int 0, .int 0, .int 0, .int 0, .int 0, .int 0])), (r1, .inr (0, [.int 0, .null, .int 0, .null, .int 0, .int 0, .int 1, .int 1, .int 0, .int 0, .int 0, .int 0]))] sz) := by
  refine Met.ofW (cc := cX0_init) (maxL := 8) (ret := none) (by decide) rfl ?_
  intro p e s m args below meth c s₁ B hml hv
  obtain ⟨rfl, hsz, hP, hK, hD, hN⟩ := hv
  have hx := B.exec
  have hb := B.bytes
  have hr := B.returns
  have hts := atoms_spec (ws := wsX0_init) B.pre
  have hown : s.vm.findClass RX0 = some m.cls := findClass_of_methodNamed B.named
  have hlocks := B.notSynchronized
  have hin : meth.name = "<init>" := (name_of_methodNamed B.named B.method).1
  subst hsz
  have hD := hD.self (sz := s.heap.size)
  generalize hAe : va_A [(h1, .inr (0, [.int 0, .null, .int 0, .null, .int 0, .int 0, .int 0, .int 0, .int 0, .int 0, .int 0, .int 0])), (r1, .inr (0, [.int 0, .null, .int 0, .null, .int 0, .int 0, .int 1, .int 1, .int 0, .int 0, .int 0, .int 0]))] s.heap.size = A at hD ⊢
  have hA : ∀ q : Nat, s.heap.size ≤ q → A q := fun q h => by rw [← hAe]; exact Or.inr h
  have hS : va_S A s.heap s.heap [] := va_S.rf
  have hl := lv_entry ([.ref h1, .int 1, .ref r1, .int a3, .null, .int a5, .int a6]) (n := 8) (Nat.le_of_ble_eq_true rfl)
  rw [lg_entry_eq]
  generalize (lg_sl ([.ref h1, .int 1, .ref r1, .int a3, .null, .int a5, .int a6]) ++ List.replicate (8 - (lg_sl ([.ref h1, .int 1, .ref r1, .int a3, .null, .int a5, .int a6])).length) Slot.unset).toArray = ls at hl ⊢
  have hl : lv_has ls 8 [(0, .ref h1), (1, .int 1), (2, .ref r1), (3, .int a3), (4, .null), (5, .int a5), (6, .int a6)] := hl
  refine lv_aload_n hx hb dX0_init_0 rfl (lv_at hl 0 rfl) ?_
  refine W.objInit hx hb hown (hts (.methodLink RX0 3 objectInit) (by decide +kernel)) (hts (.instanceMethod objectInit) (by decide +kernel)) (hts (.code objectInit ⟨#[0xb1]⟩ 1 none) (by decide +kernel)) rfl (by rw [hml]; exact hl.1) rfl dX0_init_1 (Nat.le_of_ble_eq_true rfl) (Nat.le_of_ble_eq_true rfl) ?_
  refine W.eq (g2 := F0 m 4 ls []) rfl ?_
  refine lv_aload_n hx hb dX0_init_4 rfl (lv_at hl 0 rfl) ?_
  refine lv_iconst (v := 0) hx hb dX0_init_5 (by decide) ?_
  refine va_put (D := (dC, dI)) (own := RX0) (ref := "ReflectModels$ClassModel") (index := 9) (ci := 0) (v := .int 0) (ty := .int) (C := RX0) (T := TX0) (N := 12) hx hb hts inX0_init_0 tyX0 tyX0_ok nmX0 hown hK hP hD hS 0 rfl rfl 8 (by decide) (hts (.fieldLink RX0 9 "ReflectModels$ClassModel" "state" "I") (by decide +kernel)) (fun _ h9 => h9) rfl (by decide +kernel) rfl rfl (Nat.le_of_ble_eq_true rfl) dX0_init_6 (fun H locs hP hD hS => ?_)
  have hP : va_P (dC, dI) vwCl [(h1, .inr (0, [.int 0, .null, .int 0, .null, .int 0, .int 0, .int 0, .int 0, .int 0, .int 0, .int 0, .int 0])), (r1, .inr (0, [.int 0, .null, .int 0, .null, .int 0, .int 0, .int 1, .int 1, .int 0, .int 0, .int 0, .int 0]))] H := hP
  have hD : va_D A [(h1, .inr (0, [.int 0, .null, .int 0, .null, .int 0, .int 0, .int 0, .int 0, .int 0, .int 0, .int 0, .int 0])), (r1, .inr (0, [.int 0, .null, .int 0, .null, .int 0, .int 0, .int 1, .int 1, .int 0, .int 0, .int 0, .int 0]))] := hD
  refine lv_aload_n hx hb dX0_init_9 rfl (lv_at hl 0 rfl) ?_
  refine lv_iconst (v := 0) hx hb dX0_init_10 (by decide) ?_
  refine va_put (D := (dC, dI)) (own := RX0) (ref := "ReflectModels$ClassModel") (index := 15) (ci := 0) (v := .int 0) (ty := .int) (C := RX0) (T := TX0) (N := 12) hx hb hts inX0_init_0 tyX0 tyX0_ok nmX0 hown hK hP hD hS 0 rfl rfl 9 (by decide) (hts (.fieldLink RX0 15 "ReflectModels$ClassModel" "constantCount" "I") (by decide +kernel)) (fun _ h9 => h9) rfl (by decide +kernel) rfl rfl (Nat.le_of_ble_eq_true rfl) dX0_init_11 (fun H locs hP hD hS => ?_)
  have hP : va_P (dC, dI) vwCl [(h1, .inr (0, [.int 0, .null, .int 0, .null, .int 0, .int 0, .int 0, .int 0, .int 0, .int 0, .int 0, .int 0])), (r1, .inr (0, [.int 0, .null, .int 0, .null, .int 0, .int 0, .int 1, .int 1, .int 0, .int 0, .int 0, .int 0]))] H := hP
  have hD : va_D A [(h1, .inr (0, [.int 0, .null, .int 0, .null, .int 0, .int 0, .int 0, .int 0, .int 0, .int 0, .int 0, .int 0])), (r1, .inr (0, [.int 0, .null, .int 0, .null, .int 0, .int 0, .int 1, .int 1, .int 0, .int 0, .int 0, .int 0]))] := hD
  refine lv_aload_n hx hb dX0_init_14 rfl (lv_at hl 0 rfl) ?_
  refine lv_iconst (v := 0) hx hb dX0_init_15 (by decide) ?_
  refine va_put (D := (dC, dI)) (own := RX0) (ref := "ReflectModels$ClassModel") (index := 18) (ci := 0) (v := .int 0) (ty := .int) (C := RX0) (T := TX0) (N := 12) hx hb hts inX0_init_0 tyX0 tyX0_ok nmX0 hown hK hP hD hS 0 rfl rfl 10 (by decide) (hts (.fieldLink RX0 18 "ReflectModels$ClassModel" "firstConstant" "I") (by decide +kernel)) (fun _ h9 => h9) rfl (by decide +kernel) rfl rfl (Nat.le_of_ble_eq_true rfl) dX0_init_16 (fun H locs hP hD hS => ?_)
  have hP : va_P (dC, dI) vwCl [(h1, .inr (0, [.int 0, .null, .int 0, .null, .int 0, .int 0, .int 0, .int 0, .int 0, .int 0, .int 0, .int 0])), (r1, .inr (0, [.int 0, .null, .int 0, .null, .int 0, .int 0, .int 1, .int 1, .int 0, .int 0, .int 0, .int 0]))] H := hP
  have hD : va_D A [(h1, .inr (0, [.int 0, .null, .int 0, .null, .int 0, .int 0, .int 0, .int 0, .int 0, .int 0, .int 0, .int 0])), (r1, .inr (0, [.int 0, .null, .int 0, .null, .int 0, .int 0, .int 1, .int 1, .int 0, .int 0, .int 0, .int 0]))] := hD
  refine lv_aload_n hx hb dX0_init_19 rfl (lv_at hl 0 rfl) ?_
  refine lv_iconst (v := 0) hx hb dX0_init_20 (by decide) ?_
  refine va_put (D := (dC, dI)) (own := RX0) (ref := "ReflectModels$ClassModel") (index := 21) (ci := 0) (v := .int 0) (ty := .int) (C := RX0) (T := TX0) (N := 12) hx hb hts inX0_init_0 tyX0 tyX0_ok nmX0 hown hK hP hD hS 0 rfl rfl 11 (by decide) (hts (.fieldLink RX0 21 "ReflectModels$ClassModel" "ownMembers" "I") (by decide +kernel)) (fun _ h9 => h9) rfl (by decide +kernel) rfl rfl (Nat.le_of_ble_eq_true rfl) dX0_init_21 (fun H locs hP hD hS => ?_)
  have hP : va_P (dC, dI) vwCl [(h1, .inr (0, [.int 0, .null, .int 0, .null, .int 0, .int 0, .int 0, .int 0, .int 0, .int 0, .int 0, .int 0])), (r1, .inr (0, [.int 0, .null, .int 0, .null, .int 0, .int 0, .int 1, .int 1, .int 0, .int 0, .int 0, .int 0]))] H := hP
  have hD : va_D A [(h1, .inr (0, [.int 0, .null, .int 0, .null, .int 0, .int 0, .int 0, .int 0, .int 0, .int 0, .int 0, .int 0])), (r1, .inr (0, [.int 0, .null, .int 0, .null, .int 0, .int 0, .int 1, .int 1, .int 0, .int 0, .int 0, .int 0]))] := hD
  refine lv_aload_n hx hb dX0_init_24 rfl (lv_at hl 0 rfl) ?_
  refine lv_iload_n hx hb dX0_init_25 rfl (lv_at hl 1 rfl) ?_
  refine va_putF (D := (dC, dI)) (own := RX0) (ref := "ReflectModels$ClassModel") (index := 24) (ci := 0) (v := .int 1) (ty := .int) (C := RX0) (T := TX0) (N := 12) hx hb hts inX0_init_0 tyX0 tyX0_ok nmX0 hown hK hP hD hS 0 rfl rfl 0 (by decide) (hts (.fieldLink RX0 24 "ReflectModels$ClassModel" "number" "I") (by decide +kernel)) (fun _ h9 => h9) rfl hin rfl (by decide +kernel) rfl rfl (Nat.le_of_ble_eq_true rfl) dX0_init_26 (fun H locs hP hD hS => ?_)
  have hP : va_P (dC, dI) vwCl [(h1, .inr (0, [.int 1, .null, .int 0, .null, .int 0, .int 0, .int 0, .int 0, .int 0, .int 0, .int 0, .int 0])), (r1, .inr (0, [.int 0, .null, .int 0, .null, .int 0, .int 0, .int 1, .int 1, .int 0, .int 0, .int 0, .int 0]))] H := hP
  have hD : va_D A [(h1, .inr (0, [.int 1, .null, .int 0, .null, .int 0, .int 0, .int 0, .int 0, .int 0, .int 0, .int 0, .int 0])), (r1, .inr (0, [.int 0, .null, .int 0, .null, .int 0, .int 0, .int 1, .int 1, .int 0, .int 0, .int 0, .int 0]))] := hD
  refine lv_aload_n hx hb dX0_init_29 rfl (lv_at hl 0 rfl) ?_
  refine lv_aload_n hx hb dX0_init_30 rfl (lv_at hl 2 rfl) ?_
  refine va_putF (D := (dC, dI)) (own := RX0) (ref := "ReflectModels$ClassModel") (index := 27) (ci := 0) (v := .ref r1) (ty := .object "ReflectModels$ClassModel") (C := RX0) (T := TX0) (N := 12) hx hb hts inX0_init_0 tyX0 tyX0_ok nmX0 hown hK hP hD hS 0 rfl rfl 1 (by decide) (hts (.fieldLink RX0 27 "ReflectModels$ClassModel" "above" "LReflectModels$ClassModel;") (by decide +kernel)) (fun _ h9 => h9) rfl hin rfl (by decide +kernel) rfl rfl (Nat.le_of_ble_eq_true rfl) dX0_init_31 (fun H locs hP hD hS => ?_)
  have hP : va_P (dC, dI) vwCl [(h1, .inr (0, [.int 1, .ref r1, .int 0, .null, .int 0, .int 0, .int 0, .int 0, .int 0, .int 0, .int 0, .int 0])), (r1, .inr (0, [.int 0, .null, .int 0, .null, .int 0, .int 0, .int 1, .int 1, .int 0, .int 0, .int 0, .int 0]))] H := hP
  have hD : va_D A [(h1, .inr (0, [.int 1, .ref r1, .int 0, .null, .int 0, .int 0, .int 0, .int 0, .int 0, .int 0, .int 0, .int 0])), (r1, .inr (0, [.int 0, .null, .int 0, .null, .int 0, .int 0, .int 1, .int 1, .int 0, .int 0, .int 0, .int 0]))] := hD
  refine lv_aload_n hx hb dX0_init_34 rfl (lv_at hl 0 rfl) ?_
  refine lv_iload_n hx hb dX0_init_35 rfl (lv_at hl 3 rfl) ?_
  refine va_putF (D := (dC, dI)) (own := RX0) (ref := "ReflectModels$ClassModel") (index := 31) (ci := 0) (v := .int a3) (ty := .int) (C := RX0) (T := TX0) (N := 12) hx hb hts inX0_init_0 tyX0 tyX0_ok nmX0 hown hK hP hD hS 0 rfl rfl 2 (by decide) (hts (.fieldLink RX0 31 "ReflectModels$ClassModel" "sort" "I") (by decide +kernel)) (fun _ h9 => h9) rfl hin rfl (by decide +kernel) rfl rfl (Nat.le_of_ble_eq_true rfl) dX0_init_36 (fun H locs hP hD hS => ?_)
  have hP : va_P (dC, dI) vwCl [(h1, .inr (0, [.int 1, .ref r1, .int a3, .null, .int 0, .int 0, .int 0, .int 0, .int 0, .int 0, .int 0, .int 0])), (r1, .inr (0, [.int 0, .null, .int 0, .null, .int 0, .int 0, .int 1, .int 1, .int 0, .int 0, .int 0, .int 0]))] H := hP
  have hD : va_D A [(h1, .inr (0, [.int 1, .ref r1, .int a3, .null, .int 0, .int 0, .int 0, .int 0, .int 0, .int 0, .int 0, .int 0])), (r1, .inr (0, [.int 0, .null, .int 0, .null, .int 0, .int 0, .int 1, .int 1, .int 0, .int 0, .int 0, .int 0]))] := hD
  refine lv_aload_n hx hb dX0_init_39 rfl (lv_at hl 0 rfl) ?_
  refine lv_aloadN hx hb dX0_init_40 (lv_at hl 4 rfl) ?_
  refine va_putF (D := (dC, dI)) (own := RX0) (ref := "ReflectModels$ClassModel") (index := 34) (ci := 0) (v := .null) (ty := .object "ReflectModels$ClassModel") (C := RX0) (T := TX0) (N := 12) hx hb hts inX0_init_0 tyX0 tyX0_ok nmX0 hown hK hP hD hS 0 rfl rfl 3 (by decide) (hts (.fieldLink RX0 34 "ReflectModels$ClassModel" "face" "LReflectModels$ClassModel;") (by decide +kernel)) (fun _ h9 => h9) rfl hin rfl (by decide +kernel) rfl rfl (Nat.le_of_ble_eq_true rfl) dX0_init_42 (fun H locs hP hD hS => ?_)
  have hP : va_P (dC, dI) vwCl [(h1, .inr (0, [.int 1, .ref r1, .int a3, .null, .int 0, .int 0, .int 0, .int 0, .int 0, .int 0, .int 0, .int 0])), (r1, .inr (0, [.int 0, .null, .int 0, .null, .int 0, .int 0, .int 1, .int 1, .int 0, .int 0, .int 0, .int 0]))] H := hP
  have hD : va_D A [(h1, .inr (0, [.int 1, .ref r1, .int a3, .null, .int 0, .int 0, .int 0, .int 0, .int 0, .int 0, .int 0, .int 0])), (r1, .inr (0, [.int 0, .null, .int 0, .null, .int 0, .int 0, .int 1, .int 1, .int 0, .int 0, .int 0, .int 0]))] := hD
  refine lv_aload_n hx hb dX0_init_45 rfl (lv_at hl 0 rfl) ?_
  refine lv_iload hx hb dX0_init_46 (lv_at hl 5 rfl) ?_
  refine va_putF (D := (dC, dI)) (own := RX0) (ref := "ReflectModels$ClassModel") (index := 37) (ci := 0) (v := .int a5) (ty := .boolean) (C := RX0) (T := TX0) (N := 12) hx hb hts inX0_init_0 tyX0 tyX0_ok nmX0 hown hK hP hD hS 0 rfl rfl 4 (by decide) (hts (.fieldLink RX0 37 "ReflectModels$ClassModel" "shut" "Z") (by decide +kernel)) (fun _ h9 => h9) rfl hin rfl (by decide +kernel) (nar_b h5) (fit_b h5) (Nat.le_of_ble_eq_true rfl) dX0_init_48 (fun H locs hP hD hS => ?_)
  have hP : va_P (dC, dI) vwCl [(h1, .inr (0, [.int 1, .ref r1, .int a3, .null, .int a5, .int 0, .int 0, .int 0, .int 0, .int 0, .int 0, .int 0])), (r1, .inr (0, [.int 0, .null, .int 0, .null, .int 0, .int 0, .int 1, .int 1, .int 0, .int 0, .int 0, .int 0]))] H := hP
  have hD : va_D A [(h1, .inr (0, [.int 1, .ref r1, .int a3, .null, .int a5, .int 0, .int 0, .int 0, .int 0, .int 0, .int 0, .int 0])), (r1, .inr (0, [.int 0, .null, .int 0, .null, .int 0, .int 0, .int 1, .int 1, .int 0, .int 0, .int 0, .int 0]))] := hD
  refine lv_aload_n hx hb dX0_init_51 rfl (lv_at hl 0 rfl) ?_
  refine lv_iload hx hb dX0_init_52 (lv_at hl 6 rfl) ?_
  refine va_putF (D := (dC, dI)) (own := RX0) (ref := "ReflectModels$ClassModel") (index := 41) (ci := 0) (v := .int a6) (ty := .boolean) (C := RX0) (T := TX0) (N := 12) hx hb hts inX0_init_0 tyX0 tyX0_ok nmX0 hown hK hP hD hS 0 rfl rfl 5 (by decide) (hts (.fieldLink RX0 41 "ReflectModels$ClassModel" "fails" "Z") (by decide +kernel)) (fun _ h9 => h9) rfl hin rfl (by decide +kernel) (nar_b h6) (fit_b h6) (Nat.le_of_ble_eq_true rfl) dX0_init_54 (fun H locs hP hD hS => ?_)
  have hP : va_P (dC, dI) vwCl [(h1, .inr (0, [.int 1, .ref r1, .int a3, .null, .int a5, .int a6, .int 0, .int 0, .int 0, .int 0, .int 0, .int 0])), (r1, .inr (0, [.int 0, .null, .int 0, .null, .int 0, .int 0, .int 1, .int 1, .int 0, .int 0, .int 0, .int 0]))] H := hP
  have hD : va_D A [(h1, .inr (0, [.int 1, .ref r1, .int a3, .null, .int a5, .int a6, .int 0, .int 0, .int 0, .int 0, .int 0, .int 0])), (r1, .inr (0, [.int 0, .null, .int 0, .null, .int 0, .int 0, .int 1, .int 1, .int 0, .int 0, .int 0, .int 0]))] := hD
  refine lv_iconst (v := 1) hx hb dX0_init_57 (by decide) ?_
  refine lv_iload_n hx hb dX0_init_58 rfl (lv_at hl 1 rfl) ?_
  refine lv_ishl hx hb dX0_init_59 ?_
  refine lv_topi (fun y1 ey1 => ?_)
  obtain rfl : y1 = 2 := ey1.trans (by decide)
  refine lv_istore (lv' := [(7, .int 2), (0, .ref h1), (1, .int 1), (2, .ref r1), (3, .int a3), (4, .null), (5, .int a5), (6, .int a6)]) hx hb dX0_init_60 hl (by decide) rfl (fun ls hl => ?_)
  refine lv_aload_n hx hb dX0_init_62 rfl (lv_at hl 1 rfl) ?_
  refine lv_iload hx hb dX0_init_63 (lv_at hl 0 rfl) ?_
  refine lv_aload_n hx hb dX0_init_65 rfl (lv_at hl 3 rfl) ?_
  refine lv_ifnonnull (tgt := 73) hx hb dX0_init_66 (by decide) ?_
  refine lv_aload_n hx hb dX0_init_73 rfl (lv_at hl 3 rfl) ?_
  refine va_get (D := (dC, dI)) (own := RX0) (ref := "ReflectModels$ClassModel") (index := 44) (ci := 0) (v := .int 1) (C := RX0) (T := TX0) (N := 12) hx hb hts inX0_init_0 hown hK hP 1 rfl rfl 6 (by decide) (hts (.fieldLink RX0 44 "ReflectModels$ClassModel" "line" "I") (by decide +kernel)) (fun _ h9 => h9) rfl dX0_init_74 ?_
  refine lv_ior hx hb dX0_init_77 ?_
  refine lv_topi (fun y2 ey2 => ?_)
  obtain rfl : y2 = 3 := ey2.trans (by decide)
  refine va_putF (D := (dC, dI)) (own := RX0) (ref := "ReflectModels$ClassModel") (index := 44) (ci := 0) (v := .int 3) (ty := .int) (C := RX0) (T := TX0) (N := 12) hx hb hts inX0_init_0 tyX0 tyX0_ok nmX0 hown hK hP hD hS 0 rfl rfl 6 (by decide) (hts (.fieldLink RX0 44 "ReflectModels$ClassModel" "line" "I") (by decide +kernel)) (fun _ h9 => h9) rfl hin rfl (by decide +kernel) rfl rfl (Nat.le_of_ble_eq_true rfl) dX0_init_78 (fun H locs hP hD hS => ?_)
  have hP : va_P (dC, dI) vwCl [(h1, .inr (0, [.int 1, .ref r1, .int a3, .null, .int a5, .int a6, .int 3, .int 0, .int 0, .int 0, .int 0, .int 0])), (r1, .inr (0, [.int 0, .null, .int 0, .null, .int 0, .int 0, .int 1, .int 1, .int 0, .int 0, .int 0, .int 0]))] H := hP
  have hD : va_D A [(h1, .inr (0, [.int 1, .ref r1, .int a3, .null, .int a5, .int a6, .int 3, .int 0, .int 0, .int 0, .int 0, .int 0])), (r1, .inr (0, [.int 0, .null, .int 0, .null, .int 0, .int 0, .int 1, .int 1, .int 0, .int 0, .int 0, .int 0]))] := hD
  refine lv_aload_n hx hb dX0_init_81 rfl (lv_at hl 1 rfl) ?_
  refine lv_iload hx hb dX0_init_82 (lv_at hl 0 rfl) ?_
  refine lv_aload_n hx hb dX0_init_84 rfl (lv_at hl 3 rfl) ?_
  refine lv_ifnonnull (tgt := 92) hx hb dX0_init_85 (by decide) ?_
  refine lv_aload_n hx hb dX0_init_92 rfl (lv_at hl 3 rfl) ?_
  refine va_get (D := (dC, dI)) (own := RX0) (ref := "ReflectModels$ClassModel") (index := 47) (ci := 0) (v := .int 1) (C := RX0) (T := TX0) (N := 12) hx hb hts inX0_init_0 hown hK hP 1 rfl rfl 7 (by decide) (hts (.fieldLink RX0 47 "ReflectModels$ClassModel" "all" "I") (by decide +kernel)) (fun _ h9 => h9) rfl dX0_init_93 ?_
  refine lv_ior hx hb dX0_init_96 ?_
  refine lv_topi (fun y3 ey3 => ?_)
  obtain rfl : y3 = 3 := ey3.trans (by decide)
  refine lv_aloadN hx hb dX0_init_97 (lv_at hl 5 rfl) ?_
  refine lv_ifnonnullN hx hb dX0_init_99 ?_
  refine lv_iconst (v := 0) hx hb dX0_init_102 (by decide) ?_
  refine lv_goto (tgt := 111) hx hb dX0_init_103 (by decide) ?_
  refine lv_ior hx hb dX0_init_111 ?_
  refine lv_topi (fun y4 ey4 => ?_)
  obtain rfl : y4 = 3 := ey4.trans (by decide)
  refine va_putF (D := (dC, dI)) (own := RX0) (ref := "ReflectModels$ClassModel") (index := 47) (ci := 0) (v := .int 3) (ty := .int) (C := RX0) (T := TX0) (N := 12) hx hb hts inX0_init_0 tyX0 tyX0_ok nmX0 hown hK hP hD hS 0 rfl rfl 7 (by decide) (hts (.fieldLink RX0 47 "ReflectModels$ClassModel" "all" "I") (by decide +kernel)) (fun _ h9 => h9) rfl hin rfl (by decide +kernel) rfl rfl (Nat.le_of_ble_eq_true rfl) dX0_init_112 (fun H locs hP hD hS => ?_)
  have hP : va_P (dC, dI) vwCl [(h1, .inr (0, [.int 1, .ref r1, .int a3, .null, .int a5, .int a6, .int 3, .int 3, .int 0, .int 0, .int 0, .int 0])), (r1, .inr (0, [.int 0, .null, .int 0, .null, .int 0, .int 0, .int 1, .int 1, .int 0, .int 0, .int 0, .int 0]))] H := hP
  have hD : va_D A [(h1, .inr (0, [.int 1, .ref r1, .int a3, .null, .int a5, .int a6, .int 3, .int 3, .int 0, .int 0, .int 0, .int 0])), (r1, .inr (0, [.int 0, .null, .int 0, .null, .int 0, .int 0, .int 1, .int 1, .int 0, .int 0, .int 0, .int 0]))] := hD
  have hP9 := hP.sub (ws' := [(h1, .inr (0, [.int 1, .ref r1, .int a3, .null, .int a5, .int a6, .int 3, .int 3, .int 0, .int 0, .int 0, .int 0])), (r1, .inr (0, [.int 0, .null, .int 0, .null, .int 0, .int 0, .int 1, .int 1, .int 0, .int 0, .int 0, .int 0]))]) [0, 1] rfl
  have hD9 := hD.sub (ws' := [(h1, .inr (0, [.int 1, .ref r1, .int a3, .null, .int a5, .int a6, .int 3, .int 3, .int 0, .int 0, .int 0, .int 0])), (r1, .inr (0, [.int 0, .null, .int 0, .null, .int 0, .int 0, .int 1, .int 1, .int 0, .int 0, .int 0, .int 0]))]) [0, 1] (by decide) rfl
  have hK9 := hK.sub (tys' := []) [] rfl
  exact W.vret hx hb hr (fun t ht hW => ⟨⟨none, rfl, _, _, ⟨rfl, rfl, rfl⟩, by rw [ht]; exact hP9, va_K.moved hW.alike hK9, hD9⟩, hS.F ht⟩) hS.2.2 dX0_init_115

set_option maxHeartbeats 4000000 in
set_option maxRecDepth 100000 in
theorem c8_init (l : Launch) (dC : Nat → ClassId) (dI : Nat → Nat → Nat) (h0 : Nat) (sz : Nat)  : Met l yX8_init wsX8_init ({ frames := 2, cells := 10, slots := 263, locals := 39 }) (va_Pc [.ref h0] (pz (dC, dI) [] [(h0, .inr (7, [.null, .int 0, .null, .int 0, .int 0, .null, .int 0, .null, .int 0, .null, .int 0, .int 0, .null, .int 0, .int 0]))] sz)) (qW (dC, dI) (fun v w1 ty1 => v = none ∧ ∃ (q : Nat → Nat) (cA : Nat → ClassId), w1 = [(h0, .inr (7, [.ref (q 0), .int 1, .ref (q 1), .int 0, .int 0, .ref (q 2), .int 0, .ref (q 3), .int 0, .ref (q 4), .int 0, .int 0, .ref (q 5), .int 0, .int 0])), ((q 0), .inl ((cA 0), 16, .inr (.inr (.inr (.inr (va_up (fun _ => none) 0 (some (q 6)))))))), ((q 1), .inl ((cA 1), 40, .inr (.inr (.inr (.inr (fun _ => none)))))), ((q 2), .inl ((cA 2), 60, .inr (.inr (.inr (.inr (fun _ => none)))))), ((q 3), .inl ((cA 3), 124, .inr (.inr (.inr (.inr (fun _ => none)))))), ((q 4), .inl ((cA 4), 3, .inr (.inr (.inr (.inr (va_up (va_up (va_up (fun _ => none) 0 (some (q 7))) 1 (some (q 8))) 2 (some (q 9)))))))), ((q 5), .inr (6, [.int 0, .long 0])), ((q 6), .inr (0, [.int 0, .null, .int 0, .null, .int 0, .int 0, .int 1, .int 1, .int 0, .int 0, .int 0, .int 0])), ((q 7), .inr (6, [.int 0, .long 0])), ((q 8), .inr (6, [.int 0, .long 0])), ((q 9), .inr (6, [.int 0, .long 0]))] ∧ ty1 = [((cA 0), .object "ReflectModels$ClassModel"), ((cA 1), .object "ReflectModels$Member"), ((cA 2), .object "ReflectModels$Handle"), ((cA 3), .object "ReflectModels$Thing"), ((cA 4), .object "ReflectModels$Value")]) (va_A [(h0, .inr (7, [.null, .int 0, .null, .int 0, .int 0, .null, .int 0, .null, .int 0, .null, .int 0, .int 0, .null, .int 0, .int 0]))] sz)) 10 263 (va_A [(h0, .inr (7, [.null, .int 0, .null, .int 0, .int 0, .null, .int 0, .null, .int 0, .null, .int 0, .int 0, .null, .int 0, .int 0]))] sz) := by
  refine Met.ofW (cc := cX8_init) (maxL := 2) (ret := none) (by decide) rfl ?_
  intro p e s m args below meth c s₁ B hml hv
  obtain ⟨rfl, hsz, hP, hK, hD, hN⟩ := hv
  have hx := B.exec
  have hb := B.bytes
  have hr := B.returns
  have hts := atoms_spec (ws := wsX8_init) B.pre
  have hown : s.vm.findClass RX8 = some m.cls := findClass_of_methodNamed B.named
  have hlocks := B.notSynchronized
  have hin : meth.name = "<init>" := (name_of_methodNamed B.named B.method).1
  subst hsz
  have hD := hD.self (sz := s.heap.size)
  generalize hAe : va_A [(h0, .inr (7, [.null, .int 0, .null, .int 0, .int 0, .null, .int 0, .null, .int 0, .null, .int 0, .int 0, .null, .int 0, .int 0]))] s.heap.size = A at hD ⊢
  have hA : ∀ q : Nat, s.heap.size ≤ q → A q := fun q h => by rw [← hAe]; exact Or.inr h
  have hS : va_S A s.heap s.heap [] := va_S.rf
  have hl := lv_entry ([.ref h0]) (n := 2) (Nat.le_of_ble_eq_true rfl)
  rw [lg_entry_eq]
  generalize (lg_sl ([.ref h0]) ++ List.replicate (2 - (lg_sl ([.ref h0])).length) Slot.unset).toArray = ls at hl ⊢
  have hl : lv_has ls 2 [(0, .ref h0)] := hl
  refine lv_aload_n hx hb dX8_init_0 rfl (lv_at hl 0 rfl) ?_
  refine W.objInit hx hb hown (hts (.methodLink RX8 1 objectInit) (by decide +kernel)) (hts (.instanceMethod objectInit) (by decide +kernel)) (hts (.code objectInit ⟨#[0xb1]⟩ 1 none) (by decide +kernel)) rfl (by rw [hml]; exact hl.1) rfl dX8_init_1 (Nat.le_of_ble_eq_true rfl) (Nat.le_of_ble_eq_true rfl) ?_
  refine W.eq (g2 := F0 m 4 ls []) rfl ?_
  refine lv_aload_n hx hb dX8_init_4 rfl (lv_at hl 0 rfl) ?_
  refine lv_bipush (v := 16) hx hb dX8_init_5 (by decide) ?_
  refine va_newq (C := "ReflectModels$ClassModel") (N' := 16) hx hb hown (hts (.classLink RX8 9 "ReflectModels$ClassModel") (by decide +kernel)) (hN _ (List.mem_of_getElem? (i := 0) rfl)) hK hP hD hS hA (by decide) (by decide) (by decide) (Nat.le_of_ble_eq_true rfl) (Nat.le_of_ble_eq_true rfl) dX8_init_7 (fun q1 cA2 H hK hP hD hS => ?_)
  have hP : va_P (dC, dI) vwCl [(h0, .inr (7, [.null, .int 0, .null, .int 0, .int 0, .null, .int 0, .null, .int 0, .null, .int 0, .int 0, .null, .int 0, .int 0])), (q1, .inl (cA2, 16, .inr (.inr (.inr (.inr (fun _ => none))))))] H := hP
  have hD : va_D A [(h0, .inr (7, [.null, .int 0, .null, .int 0, .int 0, .null, .int 0, .null, .int 0, .null, .int 0, .int 0, .null, .int 0, .int 0])), (q1, .inl (cA2, 16, .inr (.inr (.inr (.inr (fun _ => none))))))] := hD
  have hK : va_K (dC, dI) vwCl [(cA2, .object "ReflectModels$ClassModel")] s := hK
  refine W.cs (cells' := 1) (slots' := 16) rfl rfl ?_
  refine va_putF (D := (dC, dI)) (own := RX8) (ref := "ReflectModels") (index := 11) (ci := 7) (v := .ref q1) (ty := .array (.object "ReflectModels$ClassModel")) (C := RX8) (T := TX8) (N := 15) hx hb hts inX8_init_8 tyX8 tyX8_ok nmX8 hown hK hP hD hS 0 rfl rfl 0 (by decide) (hts (.fieldLink RX8 11 "ReflectModels" "classes" "[LReflectModels$ClassModel;") (by decide +kernel)) (fun _ h9 => h9) rfl hin rfl (by decide +kernel) rfl rfl (Nat.le_of_ble_eq_true rfl) dX8_init_10 (fun H locs hP hD hS => ?_)
  have hP : va_P (dC, dI) vwCl [(h0, .inr (7, [.ref q1, .int 0, .null, .int 0, .int 0, .null, .int 0, .null, .int 0, .null, .int 0, .int 0, .null, .int 0, .int 0])), (q1, .inl (cA2, 16, .inr (.inr (.inr (.inr (fun _ => none))))))] H := hP
  have hD : va_D A [(h0, .inr (7, [.ref q1, .int 0, .null, .int 0, .int 0, .null, .int 0, .null, .int 0, .null, .int 0, .int 0, .null, .int 0, .int 0])), (q1, .inl (cA2, 16, .inr (.inr (.inr (.inr (fun _ => none))))))] := hD
  refine lv_aload_n hx hb dX8_init_13 rfl (lv_at hl 0 rfl) ?_
  refine lv_iconst (v := 1) hx hb dX8_init_14 (by decide) ?_
  refine va_put (D := (dC, dI)) (own := RX8) (ref := "ReflectModels") (index := 15) (ci := 7) (v := .int 1) (ty := .int) (C := RX8) (T := TX8) (N := 15) hx hb hts inX8_init_8 tyX8 tyX8_ok nmX8 hown hK hP hD hS 0 rfl rfl 1 (by decide) (hts (.fieldLink RX8 15 "ReflectModels" "classCount" "I") (by decide +kernel)) (fun _ h9 => h9) rfl (by decide +kernel) rfl rfl (Nat.le_of_ble_eq_true rfl) dX8_init_15 (fun H locs hP hD hS => ?_)
  have hP : va_P (dC, dI) vwCl [(h0, .inr (7, [.ref q1, .int 1, .null, .int 0, .int 0, .null, .int 0, .null, .int 0, .null, .int 0, .int 0, .null, .int 0, .int 0])), (q1, .inl (cA2, 16, .inr (.inr (.inr (.inr (fun _ => none))))))] H := hP
  have hD : va_D A [(h0, .inr (7, [.ref q1, .int 1, .null, .int 0, .int 0, .null, .int 0, .null, .int 0, .null, .int 0, .int 0, .null, .int 0, .int 0])), (q1, .inl (cA2, 16, .inr (.inr (.inr (.inr (fun _ => none))))))] := hD
  refine lv_aload_n hx hb dX8_init_18 rfl (lv_at hl 0 rfl) ?_
  refine lv_bipush (v := 40) hx hb dX8_init_19 (by decide) ?_
  refine va_newq (C := "ReflectModels$Member") (N' := 40) hx hb hown (hts (.classLink RX8 19 "ReflectModels$Member") (by decide +kernel)) (hN _ (List.mem_of_getElem? (i := 1) rfl)) hK hP hD hS hA (by decide) (by decide) (by decide) (Nat.le_of_ble_eq_true rfl) (Nat.le_of_ble_eq_true rfl) dX8_init_21 (fun q3 cA4 H hK hP hD hS => ?_)
  have hP : va_P (dC, dI) vwCl [(h0, .inr (7, [.ref q1, .int 1, .null, .int 0, .int 0, .null, .int 0, .null, .int 0, .null, .int 0, .int 0, .null, .int 0, .int 0])), (q1, .inl (cA2, 16, .inr (.inr (.inr (.inr (fun _ => none)))))), (q3, .inl (cA4, 40, .inr (.inr (.inr (.inr (fun _ => none))))))] H := hP
  have hD : va_D A [(h0, .inr (7, [.ref q1, .int 1, .null, .int 0, .int 0, .null, .int 0, .null, .int 0, .null, .int 0, .int 0, .null, .int 0, .int 0])), (q1, .inl (cA2, 16, .inr (.inr (.inr (.inr (fun _ => none)))))), (q3, .inl (cA4, 40, .inr (.inr (.inr (.inr (fun _ => none))))))] := hD
  have hK : va_K (dC, dI) vwCl [(cA2, .object "ReflectModels$ClassModel"), (cA4, .object "ReflectModels$Member")] s := hK
  refine W.cs (cells' := 2) (slots' := 56) rfl rfl ?_
  refine va_putF (D := (dC, dI)) (own := RX8) (ref := "ReflectModels") (index := 21) (ci := 7) (v := .ref q3) (ty := .array (.object "ReflectModels$Member")) (C := RX8) (T := TX8) (N := 15) hx hb hts inX8_init_8 tyX8 tyX8_ok nmX8 hown hK hP hD hS 0 rfl rfl 2 (by decide) (hts (.fieldLink RX8 21 "ReflectModels" "members" "[LReflectModels$Member;") (by decide +kernel)) (fun _ h9 => h9) rfl hin rfl (by decide +kernel) rfl rfl (Nat.le_of_ble_eq_true rfl) dX8_init_24 (fun H locs hP hD hS => ?_)
  have hP : va_P (dC, dI) vwCl [(h0, .inr (7, [.ref q1, .int 1, .ref q3, .int 0, .int 0, .null, .int 0, .null, .int 0, .null, .int 0, .int 0, .null, .int 0, .int 0])), (q1, .inl (cA2, 16, .inr (.inr (.inr (.inr (fun _ => none)))))), (q3, .inl (cA4, 40, .inr (.inr (.inr (.inr (fun _ => none))))))] H := hP
  have hD : va_D A [(h0, .inr (7, [.ref q1, .int 1, .ref q3, .int 0, .int 0, .null, .int 0, .null, .int 0, .null, .int 0, .int 0, .null, .int 0, .int 0])), (q1, .inl (cA2, 16, .inr (.inr (.inr (.inr (fun _ => none)))))), (q3, .inl (cA4, 40, .inr (.inr (.inr (.inr (fun _ => none))))))] := hD
  refine lv_aload_n hx hb dX8_init_27 rfl (lv_at hl 0 rfl) ?_
  refine lv_iconst (v := 0) hx hb dX8_init_28 (by decide) ?_
  refine va_put (D := (dC, dI)) (own := RX8) (ref := "ReflectModels") (index := 25) (ci := 7) (v := .int 0) (ty := .int) (C := RX8) (T := TX8) (N := 15) hx hb hts inX8_init_8 tyX8 tyX8_ok nmX8 hown hK hP hD hS 0 rfl rfl 3 (by decide) (hts (.fieldLink RX8 25 "ReflectModels" "memberCount" "I") (by decide +kernel)) (fun _ h9 => h9) rfl (by decide +kernel) rfl rfl (Nat.le_of_ble_eq_true rfl) dX8_init_29 (fun H locs hP hD hS => ?_)
  have hP : va_P (dC, dI) vwCl [(h0, .inr (7, [.ref q1, .int 1, .ref q3, .int 0, .int 0, .null, .int 0, .null, .int 0, .null, .int 0, .int 0, .null, .int 0, .int 0])), (q1, .inl (cA2, 16, .inr (.inr (.inr (.inr (fun _ => none)))))), (q3, .inl (cA4, 40, .inr (.inr (.inr (.inr (fun _ => none))))))] H := hP
  have hD : va_D A [(h0, .inr (7, [.ref q1, .int 1, .ref q3, .int 0, .int 0, .null, .int 0, .null, .int 0, .null, .int 0, .int 0, .null, .int 0, .int 0])), (q1, .inl (cA2, 16, .inr (.inr (.inr (.inr (fun _ => none)))))), (q3, .inl (cA4, 40, .inr (.inr (.inr (.inr (fun _ => none))))))] := hD
  refine lv_aload_n hx hb dX8_init_32 rfl (lv_at hl 0 rfl) ?_
  refine lv_iconst (v := 0) hx hb dX8_init_33 (by decide) ?_
  refine va_put (D := (dC, dI)) (own := RX8) (ref := "ReflectModels") (index := 28) (ci := 7) (v := .int 0) (ty := .int) (C := RX8) (T := TX8) (N := 15) hx hb hts inX8_init_8 tyX8 tyX8_ok nmX8 hown hK hP hD hS 0 rfl rfl 4 (by decide) (hts (.fieldLink RX8 28 "ReflectModels" "slotCount" "I") (by decide +kernel)) (fun _ h9 => h9) rfl (by decide +kernel) rfl rfl (Nat.le_of_ble_eq_true rfl) dX8_init_34 (fun H locs hP hD hS => ?_)
  have hP : va_P (dC, dI) vwCl [(h0, .inr (7, [.ref q1, .int 1, .ref q3, .int 0, .int 0, .null, .int 0, .null, .int 0, .null, .int 0, .int 0, .null, .int 0, .int 0])), (q1, .inl (cA2, 16, .inr (.inr (.inr (.inr (fun _ => none)))))), (q3, .inl (cA4, 40, .inr (.inr (.inr (.inr (fun _ => none))))))] H := hP
  have hD : va_D A [(h0, .inr (7, [.ref q1, .int 1, .ref q3, .int 0, .int 0, .null, .int 0, .null, .int 0, .null, .int 0, .int 0, .null, .int 0, .int 0])), (q1, .inl (cA2, 16, .inr (.inr (.inr (.inr (fun _ => none)))))), (q3, .inl (cA4, 40, .inr (.inr (.inr (.inr (fun _ => none))))))] := hD
  refine lv_aload_n hx hb dX8_init_37 rfl (lv_at hl 0 rfl) ?_
  refine lv_bipush (v := 60) hx hb dX8_init_38 (by decide) ?_
  refine va_newq (C := "ReflectModels$Handle") (N' := 60) hx hb hown (hts (.classLink RX8 31 "ReflectModels$Handle") (by decide +kernel)) (hN _ (List.mem_of_getElem? (i := 2) rfl)) hK hP hD hS hA (by decide) (by decide) (by decide) (Nat.le_of_ble_eq_true rfl) (Nat.le_of_ble_eq_true rfl) dX8_init_40 (fun q5 cA6 H hK hP hD hS => ?_)
  have hP : va_P (dC, dI) vwCl [(h0, .inr (7, [.ref q1, .int 1, .ref q3, .int 0, .int 0, .null, .int 0, .null, .int 0, .null, .int 0, .int 0, .null, .int 0, .int 0])), (q1, .inl (cA2, 16, .inr (.inr (.inr (.inr (fun _ => none)))))), (q3, .inl (cA4, 40, .inr (.inr (.inr (.inr (fun _ => none)))))), (q5, .inl (cA6, 60, .inr (.inr (.inr (.inr (fun _ => none))))))] H := hP
  have hD : va_D A [(h0, .inr (7, [.ref q1, .int 1, .ref q3, .int 0, .int 0, .null, .int 0, .null, .int 0, .null, .int 0, .int 0, .null, .int 0, .int 0])), (q1, .inl (cA2, 16, .inr (.inr (.inr (.inr (fun _ => none)))))), (q3, .inl (cA4, 40, .inr (.inr (.inr (.inr (fun _ => none)))))), (q5, .inl (cA6, 60, .inr (.inr (.inr (.inr (fun _ => none))))))] := hD
  have hK : va_K (dC, dI) vwCl [(cA2, .object "ReflectModels$ClassModel"), (cA4, .object "ReflectModels$Member"), (cA6, .object "ReflectModels$Handle")] s := hK
  refine W.cs (cells' := 3) (slots' := 116) rfl rfl ?_
  refine va_putF (D := (dC, dI)) (own := RX8) (ref := "ReflectModels") (index := 33) (ci := 7) (v := .ref q5) (ty := .array (.object "ReflectModels$Handle")) (C := RX8) (T := TX8) (N := 15) hx hb hts inX8_init_8 tyX8 tyX8_ok nmX8 hown hK hP hD hS 0 rfl rfl 5 (by decide) (hts (.fieldLink RX8 33 "ReflectModels" "handles" "[LReflectModels$Handle;") (by decide +kernel)) (fun _ h9 => h9) rfl hin rfl (by decide +kernel) rfl rfl (Nat.le_of_ble_eq_true rfl) dX8_init_43 (fun H locs hP hD hS => ?_)
  have hP : va_P (dC, dI) vwCl [(h0, .inr (7, [.ref q1, .int 1, .ref q3, .int 0, .int 0, .ref q5, .int 0, .null, .int 0, .null, .int 0, .int 0, .null, .int 0, .int 0])), (q1, .inl (cA2, 16, .inr (.inr (.inr (.inr (fun _ => none)))))), (q3, .inl (cA4, 40, .inr (.inr (.inr (.inr (fun _ => none)))))), (q5, .inl (cA6, 60, .inr (.inr (.inr (.inr (fun _ => none))))))] H := hP
  have hD : va_D A [(h0, .inr (7, [.ref q1, .int 1, .ref q3, .int 0, .int 0, .ref q5, .int 0, .null, .int 0, .null, .int 0, .int 0, .null, .int 0, .int 0])), (q1, .inl (cA2, 16, .inr (.inr (.inr (.inr (fun _ => none)))))), (q3, .inl (cA4, 40, .inr (.inr (.inr (.inr (fun _ => none)))))), (q5, .inl (cA6, 60, .inr (.inr (.inr (.inr (fun _ => none))))))] := hD
  refine lv_aload_n hx hb dX8_init_46 rfl (lv_at hl 0 rfl) ?_
  refine lv_iconst (v := 0) hx hb dX8_init_47 (by decide) ?_
  refine va_put (D := (dC, dI)) (own := RX8) (ref := "ReflectModels") (index := 37) (ci := 7) (v := .int 0) (ty := .int) (C := RX8) (T := TX8) (N := 15) hx hb hts inX8_init_8 tyX8 tyX8_ok nmX8 hown hK hP hD hS 0 rfl rfl 6 (by decide) (hts (.fieldLink RX8 37 "ReflectModels" "handleCount" "I") (by decide +kernel)) (fun _ h9 => h9) rfl (by decide +kernel) rfl rfl (Nat.le_of_ble_eq_true rfl) dX8_init_48 (fun H locs hP hD hS => ?_)
  have hP : va_P (dC, dI) vwCl [(h0, .inr (7, [.ref q1, .int 1, .ref q3, .int 0, .int 0, .ref q5, .int 0, .null, .int 0, .null, .int 0, .int 0, .null, .int 0, .int 0])), (q1, .inl (cA2, 16, .inr (.inr (.inr (.inr (fun _ => none)))))), (q3, .inl (cA4, 40, .inr (.inr (.inr (.inr (fun _ => none)))))), (q5, .inl (cA6, 60, .inr (.inr (.inr (.inr (fun _ => none))))))] H := hP
  have hD : va_D A [(h0, .inr (7, [.ref q1, .int 1, .ref q3, .int 0, .int 0, .ref q5, .int 0, .null, .int 0, .null, .int 0, .int 0, .null, .int 0, .int 0])), (q1, .inl (cA2, 16, .inr (.inr (.inr (.inr (fun _ => none)))))), (q3, .inl (cA4, 40, .inr (.inr (.inr (.inr (fun _ => none)))))), (q5, .inl (cA6, 60, .inr (.inr (.inr (.inr (fun _ => none))))))] := hD
  refine lv_aload_n hx hb dX8_init_51 rfl (lv_at hl 0 rfl) ?_
  refine lv_bipush (v := 124) hx hb dX8_init_52 (by decide) ?_
  refine va_newq (C := "ReflectModels$Thing") (N' := 124) hx hb hown (hts (.classLink RX8 40 "ReflectModels$Thing") (by decide +kernel)) (hN _ (List.mem_of_getElem? (i := 3) rfl)) hK hP hD hS hA (by decide) (by decide) (by decide) (Nat.le_of_ble_eq_true rfl) (Nat.le_of_ble_eq_true rfl) dX8_init_54 (fun q7 cA8 H hK hP hD hS => ?_)
  have hP : va_P (dC, dI) vwCl [(h0, .inr (7, [.ref q1, .int 1, .ref q3, .int 0, .int 0, .ref q5, .int 0, .null, .int 0, .null, .int 0, .int 0, .null, .int 0, .int 0])), (q1, .inl (cA2, 16, .inr (.inr (.inr (.inr (fun _ => none)))))), (q3, .inl (cA4, 40, .inr (.inr (.inr (.inr (fun _ => none)))))), (q5, .inl (cA6, 60, .inr (.inr (.inr (.inr (fun _ => none)))))), (q7, .inl (cA8, 124, .inr (.inr (.inr (.inr (fun _ => none))))))] H := hP
  have hD : va_D A [(h0, .inr (7, [.ref q1, .int 1, .ref q3, .int 0, .int 0, .ref q5, .int 0, .null, .int 0, .null, .int 0, .int 0, .null, .int 0, .int 0])), (q1, .inl (cA2, 16, .inr (.inr (.inr (.inr (fun _ => none)))))), (q3, .inl (cA4, 40, .inr (.inr (.inr (.inr (fun _ => none)))))), (q5, .inl (cA6, 60, .inr (.inr (.inr (.inr (fun _ => none)))))), (q7, .inl (cA8, 124, .inr (.inr (.inr (.inr (fun _ => none))))))] := hD
  have hK : va_K (dC, dI) vwCl [(cA2, .object "ReflectModels$ClassModel"), (cA4, .object "ReflectModels$Member"), (cA6, .object "ReflectModels$Handle"), (cA8, .object "ReflectModels$Thing")] s := hK
  refine W.cs (cells' := 4) (slots' := 240) rfl rfl ?_
  refine va_putF (D := (dC, dI)) (own := RX8) (ref := "ReflectModels") (index := 42) (ci := 7) (v := .ref q7) (ty := .array (.object "ReflectModels$Thing")) (C := RX8) (T := TX8) (N := 15) hx hb hts inX8_init_8 tyX8 tyX8_ok nmX8 hown hK hP hD hS 0 rfl rfl 7 (by decide) (hts (.fieldLink RX8 42 "ReflectModels" "things" "[LReflectModels$Thing;") (by decide +kernel)) (fun _ h9 => h9) rfl hin rfl (by decide +kernel) rfl rfl (Nat.le_of_ble_eq_true rfl) dX8_init_57 (fun H locs hP hD hS => ?_)
  have hP : va_P (dC, dI) vwCl [(h0, .inr (7, [.ref q1, .int 1, .ref q3, .int 0, .int 0, .ref q5, .int 0, .ref q7, .int 0, .null, .int 0, .int 0, .null, .int 0, .int 0])), (q1, .inl (cA2, 16, .inr (.inr (.inr (.inr (fun _ => none)))))), (q3, .inl (cA4, 40, .inr (.inr (.inr (.inr (fun _ => none)))))), (q5, .inl (cA6, 60, .inr (.inr (.inr (.inr (fun _ => none)))))), (q7, .inl (cA8, 124, .inr (.inr (.inr (.inr (fun _ => none))))))] H := hP
  have hD : va_D A [(h0, .inr (7, [.ref q1, .int 1, .ref q3, .int 0, .int 0, .ref q5, .int 0, .ref q7, .int 0, .null, .int 0, .int 0, .null, .int 0, .int 0])), (q1, .inl (cA2, 16, .inr (.inr (.inr (.inr (fun _ => none)))))), (q3, .inl (cA4, 40, .inr (.inr (.inr (.inr (fun _ => none)))))), (q5, .inl (cA6, 60, .inr (.inr (.inr (.inr (fun _ => none)))))), (q7, .inl (cA8, 124, .inr (.inr (.inr (.inr (fun _ => none))))))] := hD
  refine lv_aload_n hx hb dX8_init_60 rfl (lv_at hl 0 rfl) ?_
  refine lv_iconst (v := 0) hx hb dX8_init_61 (by decide) ?_
  refine va_put (D := (dC, dI)) (own := RX8) (ref := "ReflectModels") (index := 46) (ci := 7) (v := .int 0) (ty := .int) (C := RX8) (T := TX8) (N := 15) hx hb hts inX8_init_8 tyX8 tyX8_ok nmX8 hown hK hP hD hS 0 rfl rfl 8 (by decide) (hts (.fieldLink RX8 46 "ReflectModels" "thingCount" "I") (by decide +kernel)) (fun _ h9 => h9) rfl (by decide +kernel) rfl rfl (Nat.le_of_ble_eq_true rfl) dX8_init_62 (fun H locs hP hD hS => ?_)
  have hP : va_P (dC, dI) vwCl [(h0, .inr (7, [.ref q1, .int 1, .ref q3, .int 0, .int 0, .ref q5, .int 0, .ref q7, .int 0, .null, .int 0, .int 0, .null, .int 0, .int 0])), (q1, .inl (cA2, 16, .inr (.inr (.inr (.inr (fun _ => none)))))), (q3, .inl (cA4, 40, .inr (.inr (.inr (.inr (fun _ => none)))))), (q5, .inl (cA6, 60, .inr (.inr (.inr (.inr (fun _ => none)))))), (q7, .inl (cA8, 124, .inr (.inr (.inr (.inr (fun _ => none))))))] H := hP
  have hD : va_D A [(h0, .inr (7, [.ref q1, .int 1, .ref q3, .int 0, .int 0, .ref q5, .int 0, .ref q7, .int 0, .null, .int 0, .int 0, .null, .int 0, .int 0])), (q1, .inl (cA2, 16, .inr (.inr (.inr (.inr (fun _ => none)))))), (q3, .inl (cA4, 40, .inr (.inr (.inr (.inr (fun _ => none)))))), (q5, .inl (cA6, 60, .inr (.inr (.inr (.inr (fun _ => none)))))), (q7, .inl (cA8, 124, .inr (.inr (.inr (.inr (fun _ => none))))))] := hD
  refine lv_aload_n hx hb dX8_init_65 rfl (lv_at hl 0 rfl) ?_
  refine lv_iconst (v := 3) hx hb dX8_init_66 (by decide) ?_
  refine va_newq (C := "ReflectModels$Value") (N' := 3) hx hb hown (hts (.classLink RX8 49 "ReflectModels$Value") (by decide +kernel)) (hN _ (List.mem_of_getElem? (i := 4) rfl)) hK hP hD hS hA (by decide) (by decide) (by decide) (Nat.le_of_ble_eq_true rfl) (Nat.le_of_ble_eq_true rfl) dX8_init_67 (fun q9 cA10 H hK hP hD hS => ?_)
  have hP : va_P (dC, dI) vwCl [(h0, .inr (7, [.ref q1, .int 1, .ref q3, .int 0, .int 0, .ref q5, .int 0, .ref q7, .int 0, .null, .int 0, .int 0, .null, .int 0, .int 0])), (q1, .inl (cA2, 16, .inr (.inr (.inr (.inr (fun _ => none)))))), (q3, .inl (cA4, 40, .inr (.inr (.inr (.inr (fun _ => none)))))), (q5, .inl (cA6, 60, .inr (.inr (.inr (.inr (fun _ => none)))))), (q7, .inl (cA8, 124, .inr (.inr (.inr (.inr (fun _ => none)))))), (q9, .inl (cA10, 3, .inr (.inr (.inr (.inr (fun _ => none))))))] H := hP
  have hD : va_D A [(h0, .inr (7, [.ref q1, .int 1, .ref q3, .int 0, .int 0, .ref q5, .int 0, .ref q7, .int 0, .null, .int 0, .int 0, .null, .int 0, .int 0])), (q1, .inl (cA2, 16, .inr (.inr (.inr (.inr (fun _ => none)))))), (q3, .inl (cA4, 40, .inr (.inr (.inr (.inr (fun _ => none)))))), (q5, .inl (cA6, 60, .inr (.inr (.inr (.inr (fun _ => none)))))), (q7, .inl (cA8, 124, .inr (.inr (.inr (.inr (fun _ => none)))))), (q9, .inl (cA10, 3, .inr (.inr (.inr (.inr (fun _ => none))))))] := hD
  have hK : va_K (dC, dI) vwCl [(cA2, .object "ReflectModels$ClassModel"), (cA4, .object "ReflectModels$Member"), (cA6, .object "ReflectModels$Handle"), (cA8, .object "ReflectModels$Thing"), (cA10, .object "ReflectModels$Value")] s := hK
  refine W.cs (cells' := 5) (slots' := 243) rfl rfl ?_
  refine va_putF (D := (dC, dI)) (own := RX8) (ref := "ReflectModels") (index := 51) (ci := 7) (v := .ref q9) (ty := .array (.object "ReflectModels$Value")) (C := RX8) (T := TX8) (N := 15) hx hb hts inX8_init_8 tyX8 tyX8_ok nmX8 hown hK hP hD hS 0 rfl rfl 9 (by decide) (hts (.fieldLink RX8 51 "ReflectModels" "values" "[LReflectModels$Value;") (by decide +kernel)) (fun _ h9 => h9) rfl hin rfl (by decide +kernel) rfl rfl (Nat.le_of_ble_eq_true rfl) dX8_init_70 (fun H locs hP hD hS => ?_)
  have hP : va_P (dC, dI) vwCl [(h0, .inr (7, [.ref q1, .int 1, .ref q3, .int 0, .int 0, .ref q5, .int 0, .ref q7, .int 0, .ref q9, .int 0, .int 0, .null, .int 0, .int 0])), (q1, .inl (cA2, 16, .inr (.inr (.inr (.inr (fun _ => none)))))), (q3, .inl (cA4, 40, .inr (.inr (.inr (.inr (fun _ => none)))))), (q5, .inl (cA6, 60, .inr (.inr (.inr (.inr (fun _ => none)))))), (q7, .inl (cA8, 124, .inr (.inr (.inr (.inr (fun _ => none)))))), (q9, .inl (cA10, 3, .inr (.inr (.inr (.inr (fun _ => none))))))] H := hP
  have hD : va_D A [(h0, .inr (7, [.ref q1, .int 1, .ref q3, .int 0, .int 0, .ref q5, .int 0, .ref q7, .int 0, .ref q9, .int 0, .int 0, .null, .int 0, .int 0])), (q1, .inl (cA2, 16, .inr (.inr (.inr (.inr (fun _ => none)))))), (q3, .inl (cA4, 40, .inr (.inr (.inr (.inr (fun _ => none)))))), (q5, .inl (cA6, 60, .inr (.inr (.inr (.inr (fun _ => none)))))), (q7, .inl (cA8, 124, .inr (.inr (.inr (.inr (fun _ => none)))))), (q9, .inl (cA10, 3, .inr (.inr (.inr (.inr (fun _ => none))))))] := hD
  refine lv_aload_n hx hb dX8_init_73 rfl (lv_at hl 0 rfl) ?_
  refine lv_iconst (v := 0) hx hb dX8_init_74 (by decide) ?_
  refine va_put (D := (dC, dI)) (own := RX8) (ref := "ReflectModels") (index := 55) (ci := 7) (v := .int 0) (ty := .int) (C := RX8) (T := TX8) (N := 15) hx hb hts inX8_init_8 tyX8 tyX8_ok nmX8 hown hK hP hD hS 0 rfl rfl 10 (by decide) (hts (.fieldLink RX8 55 "ReflectModels" "valueCount" "I") (by decide +kernel)) (fun _ h9 => h9) rfl (by decide +kernel) rfl rfl (Nat.le_of_ble_eq_true rfl) dX8_init_75 (fun H locs hP hD hS => ?_)
  have hP : va_P (dC, dI) vwCl [(h0, .inr (7, [.ref q1, .int 1, .ref q3, .int 0, .int 0, .ref q5, .int 0, .ref q7, .int 0, .ref q9, .int 0, .int 0, .null, .int 0, .int 0])), (q1, .inl (cA2, 16, .inr (.inr (.inr (.inr (fun _ => none)))))), (q3, .inl (cA4, 40, .inr (.inr (.inr (.inr (fun _ => none)))))), (q5, .inl (cA6, 60, .inr (.inr (.inr (.inr (fun _ => none)))))), (q7, .inl (cA8, 124, .inr (.inr (.inr (.inr (fun _ => none)))))), (q9, .inl (cA10, 3, .inr (.inr (.inr (.inr (fun _ => none))))))] H := hP
  have hD : va_D A [(h0, .inr (7, [.ref q1, .int 1, .ref q3, .int 0, .int 0, .ref q5, .int 0, .ref q7, .int 0, .ref q9, .int 0, .int 0, .null, .int 0, .int 0])), (q1, .inl (cA2, 16, .inr (.inr (.inr (.inr (fun _ => none)))))), (q3, .inl (cA4, 40, .inr (.inr (.inr (.inr (fun _ => none)))))), (q5, .inl (cA6, 60, .inr (.inr (.inr (.inr (fun _ => none)))))), (q7, .inl (cA8, 124, .inr (.inr (.inr (.inr (fun _ => none)))))), (q9, .inl (cA10, 3, .inr (.inr (.inr (.inr (fun _ => none))))))] := hD
  refine lv_aload_n hx hb dX8_init_78 rfl (lv_at hl 0 rfl) ?_
  refine lv_iconst (v := 0) hx hb dX8_init_79 (by decide) ?_
  refine va_put (D := (dC, dI)) (own := RX8) (ref := "ReflectModels") (index := 58) (ci := 7) (v := .int 0) (ty := .int) (C := RX8) (T := TX8) (N := 15) hx hb hts inX8_init_8 tyX8 tyX8_ok nmX8 hown hK hP hD hS 0 rfl rfl 11 (by decide) (hts (.fieldLink RX8 58 "ReflectModels" "callerNumber" "I") (by decide +kernel)) (fun _ h9 => h9) rfl (by decide +kernel) rfl rfl (Nat.le_of_ble_eq_true rfl) dX8_init_80 (fun H locs hP hD hS => ?_)
  have hP : va_P (dC, dI) vwCl [(h0, .inr (7, [.ref q1, .int 1, .ref q3, .int 0, .int 0, .ref q5, .int 0, .ref q7, .int 0, .ref q9, .int 0, .int 0, .null, .int 0, .int 0])), (q1, .inl (cA2, 16, .inr (.inr (.inr (.inr (fun _ => none)))))), (q3, .inl (cA4, 40, .inr (.inr (.inr (.inr (fun _ => none)))))), (q5, .inl (cA6, 60, .inr (.inr (.inr (.inr (fun _ => none)))))), (q7, .inl (cA8, 124, .inr (.inr (.inr (.inr (fun _ => none)))))), (q9, .inl (cA10, 3, .inr (.inr (.inr (.inr (fun _ => none))))))] H := hP
  have hD : va_D A [(h0, .inr (7, [.ref q1, .int 1, .ref q3, .int 0, .int 0, .ref q5, .int 0, .ref q7, .int 0, .ref q9, .int 0, .int 0, .null, .int 0, .int 0])), (q1, .inl (cA2, 16, .inr (.inr (.inr (.inr (fun _ => none)))))), (q3, .inl (cA4, 40, .inr (.inr (.inr (.inr (fun _ => none)))))), (q5, .inl (cA6, 60, .inr (.inr (.inr (.inr (fun _ => none)))))), (q7, .inl (cA8, 124, .inr (.inr (.inr (.inr (fun _ => none)))))), (q9, .inl (cA10, 3, .inr (.inr (.inr (.inr (fun _ => none))))))] := hD
  refine lv_aload_n hx hb dX8_init_83 rfl (lv_at hl 0 rfl) ?_
  refine va_new (ci := 6) (fs := [.int 0, .long 0]) (C := RX7) (T := TX7) (N := 2) hx hb hts inX8_init_7 tyX7 tyX7_ok hown (hts (.classLink RX8 49 RX7) (by decide +kernel)) (hts (.instantiable RX7 2) (by decide +kernel)) (hts (.initialized RX7) (by decide +kernel)) hK hP hD hS hA rfl df_X7 (Nat.le_of_ble_eq_true rfl) (Nat.le_of_ble_eq_true rfl) dX8_init_84 (fun q11 H hP hD hS => ?_)
  have hP : va_P (dC, dI) vwCl [(h0, .inr (7, [.ref q1, .int 1, .ref q3, .int 0, .int 0, .ref q5, .int 0, .ref q7, .int 0, .ref q9, .int 0, .int 0, .null, .int 0, .int 0])), (q1, .inl (cA2, 16, .inr (.inr (.inr (.inr (fun _ => none)))))), (q3, .inl (cA4, 40, .inr (.inr (.inr (.inr (fun _ => none)))))), (q5, .inl (cA6, 60, .inr (.inr (.inr (.inr (fun _ => none)))))), (q7, .inl (cA8, 124, .inr (.inr (.inr (.inr (fun _ => none)))))), (q9, .inl (cA10, 3, .inr (.inr (.inr (.inr (fun _ => none)))))), (q11, .inr (6, [.int 0, .long 0]))] H := hP
  have hD : va_D A [(h0, .inr (7, [.ref q1, .int 1, .ref q3, .int 0, .int 0, .ref q5, .int 0, .ref q7, .int 0, .ref q9, .int 0, .int 0, .null, .int 0, .int 0])), (q1, .inl (cA2, 16, .inr (.inr (.inr (.inr (fun _ => none)))))), (q3, .inl (cA4, 40, .inr (.inr (.inr (.inr (fun _ => none)))))), (q5, .inl (cA6, 60, .inr (.inr (.inr (.inr (fun _ => none)))))), (q7, .inl (cA8, 124, .inr (.inr (.inr (.inr (fun _ => none)))))), (q9, .inl (cA10, 3, .inr (.inr (.inr (.inr (fun _ => none)))))), (q11, .inr (6, [.int 0, .long 0]))] := hD
  refine W.cs (cells' := 6) (slots' := 245) rfl rfl ?_
  refine lv_dup hx hb dX8_init_87 rfl ?_
  refine clW (wr := [(h0, .inr (7, [.ref q1, .int 1, .ref q3, .int 0, .int 0, .ref q5, .int 0, .ref q7, .int 0, .ref q9, .int 0, .int 0, .null, .int 0, .int 0])), (q1, .inl (cA2, 16, .inr (.inr (.inr (.inr (fun _ => none)))))), (q3, .inl (cA4, 40, .inr (.inr (.inr (.inr (fun _ => none)))))), (q5, .inl (cA6, 60, .inr (.inr (.inr (.inr (fun _ => none)))))), (q7, .inl (cA8, 124, .inr (.inr (.inr (.inr (fun _ => none)))))), (q9, .inl (cA10, 3, .inr (.inr (.inr (.inr (fun _ => none))))))]) [6] [0, 1, 2, 3, 4, 5] (va_runIN (As := []) (rest := [.ref q11, .ref h0]) ⟨hx, hb, hml, hown, hts⟩ (c7_init l dC dI q11 _) ⟨va_cnB 0 hts gX8_init_X7_init_n61 rfl rfl rfl (hN _ (List.mem_of_getElem? (i := 5) rfl)) (hts (.initialized RX7) (by decide +kernel)) (by decide +kernel) ⟨Nat.le_of_ble_eq_true rfl, Nat.le_of_ble_eq_true rfl⟩, rfl, hts (.instanceMethod yX7_init) (by decide +kernel)⟩ ⟨pz_blind, pz_of hP hK hD hN [6] [] rfl (by decide) rfl⟩ rfl rfl hl.1 rfl (lv_room (Nat.le_of_ble_eq_true rfl)) dX8_init_88 ⟨Nat.le_of_ble_eq_true rfl, Nat.le_of_ble_eq_true rfl⟩) hS hP hD hK hA rfl rfl (by decide) (by decide) (fun v w1 ty1 H locs w12 hP hD hK hS => ?_)
  obtain ⟨rfl, rfl, rfl⟩ := w12
  refine W.eq (g2 := F0 m 91 ls [.ref q11, .ref h0]) rfl ?_
  have hP : va_P (dC, dI) vwCl [(h0, .inr (7, [.ref q1, .int 1, .ref q3, .int 0, .int 0, .ref q5, .int 0, .ref q7, .int 0, .ref q9, .int 0, .int 0, .null, .int 0, .int 0])), (q1, .inl (cA2, 16, .inr (.inr (.inr (.inr (fun _ => none)))))), (q3, .inl (cA4, 40, .inr (.inr (.inr (.inr (fun _ => none)))))), (q5, .inl (cA6, 60, .inr (.inr (.inr (.inr (fun _ => none)))))), (q7, .inl (cA8, 124, .inr (.inr (.inr (.inr (fun _ => none)))))), (q9, .inl (cA10, 3, .inr (.inr (.inr (.inr (fun _ => none)))))), (q11, .inr (6, [.int 0, .long 0]))] H := hP
  have hD : va_D A [(h0, .inr (7, [.ref q1, .int 1, .ref q3, .int 0, .int 0, .ref q5, .int 0, .ref q7, .int 0, .ref q9, .int 0, .int 0, .null, .int 0, .int 0])), (q1, .inl (cA2, 16, .inr (.inr (.inr (.inr (fun _ => none)))))), (q3, .inl (cA4, 40, .inr (.inr (.inr (.inr (fun _ => none)))))), (q5, .inl (cA6, 60, .inr (.inr (.inr (.inr (fun _ => none)))))), (q7, .inl (cA8, 124, .inr (.inr (.inr (.inr (fun _ => none)))))), (q9, .inl (cA10, 3, .inr (.inr (.inr (.inr (fun _ => none)))))), (q11, .inr (6, [.int 0, .long 0]))] := hD
  have hK : va_K (dC, dI) vwCl [(cA2, .object "ReflectModels$ClassModel"), (cA4, .object "ReflectModels$Member"), (cA6, .object "ReflectModels$Handle"), (cA8, .object "ReflectModels$Thing"), (cA10, .object "ReflectModels$Value")] s := hK
  refine W.cs (cells' := 6) (slots' := 245) rfl rfl ?_
  refine va_putF (D := (dC, dI)) (own := RX8) (ref := "ReflectModels") (index := 62) (ci := 7) (v := .ref q11) (ty := .object "ReflectModels$Value") (C := RX8) (T := TX8) (N := 15) hx hb hts inX8_init_8 tyX8 tyX8_ok nmX8 hown hK hP hD hS 0 rfl rfl 12 (by decide) (hts (.fieldLink RX8 62 "ReflectModels" "outcome" "LReflectModels$Value;") (by decide +kernel)) (fun _ h9 => h9) rfl hin rfl (by decide +kernel) rfl rfl (Nat.le_of_ble_eq_true rfl) dX8_init_91 (fun H locs hP hD hS => ?_)
  have hP : va_P (dC, dI) vwCl [(h0, .inr (7, [.ref q1, .int 1, .ref q3, .int 0, .int 0, .ref q5, .int 0, .ref q7, .int 0, .ref q9, .int 0, .int 0, .ref q11, .int 0, .int 0])), (q1, .inl (cA2, 16, .inr (.inr (.inr (.inr (fun _ => none)))))), (q3, .inl (cA4, 40, .inr (.inr (.inr (.inr (fun _ => none)))))), (q5, .inl (cA6, 60, .inr (.inr (.inr (.inr (fun _ => none)))))), (q7, .inl (cA8, 124, .inr (.inr (.inr (.inr (fun _ => none)))))), (q9, .inl (cA10, 3, .inr (.inr (.inr (.inr (fun _ => none)))))), (q11, .inr (6, [.int 0, .long 0]))] H := hP
  have hD : va_D A [(h0, .inr (7, [.ref q1, .int 1, .ref q3, .int 0, .int 0, .ref q5, .int 0, .ref q7, .int 0, .ref q9, .int 0, .int 0, .ref q11, .int 0, .int 0])), (q1, .inl (cA2, 16, .inr (.inr (.inr (.inr (fun _ => none)))))), (q3, .inl (cA4, 40, .inr (.inr (.inr (.inr (fun _ => none)))))), (q5, .inl (cA6, 60, .inr (.inr (.inr (.inr (fun _ => none)))))), (q7, .inl (cA8, 124, .inr (.inr (.inr (.inr (fun _ => none)))))), (q9, .inl (cA10, 3, .inr (.inr (.inr (.inr (fun _ => none)))))), (q11, .inr (6, [.int 0, .long 0]))] := hD
  refine lv_aload_n hx hb dX8_init_94 rfl (lv_at hl 0 rfl) ?_
  refine lv_iconst (v := 0) hx hb dX8_init_95 (by decide) ?_
  refine va_put (D := (dC, dI)) (own := RX8) (ref := "ReflectModels") (index := 66) (ci := 7) (v := .int 0) (ty := .int) (C := RX8) (T := TX8) (N := 15) hx hb hts inX8_init_8 tyX8 tyX8_ok nmX8 hown hK hP hD hS 0 rfl rfl 13 (by decide) (hts (.fieldLink RX8 66 "ReflectModels" "latestFailure" "I") (by decide +kernel)) (fun _ h9 => h9) rfl (by decide +kernel) rfl rfl (Nat.le_of_ble_eq_true rfl) dX8_init_96 (fun H locs hP hD hS => ?_)
  have hP : va_P (dC, dI) vwCl [(h0, .inr (7, [.ref q1, .int 1, .ref q3, .int 0, .int 0, .ref q5, .int 0, .ref q7, .int 0, .ref q9, .int 0, .int 0, .ref q11, .int 0, .int 0])), (q1, .inl (cA2, 16, .inr (.inr (.inr (.inr (fun _ => none)))))), (q3, .inl (cA4, 40, .inr (.inr (.inr (.inr (fun _ => none)))))), (q5, .inl (cA6, 60, .inr (.inr (.inr (.inr (fun _ => none)))))), (q7, .inl (cA8, 124, .inr (.inr (.inr (.inr (fun _ => none)))))), (q9, .inl (cA10, 3, .inr (.inr (.inr (.inr (fun _ => none)))))), (q11, .inr (6, [.int 0, .long 0]))] H := hP
  have hD : va_D A [(h0, .inr (7, [.ref q1, .int 1, .ref q3, .int 0, .int 0, .ref q5, .int 0, .ref q7, .int 0, .ref q9, .int 0, .int 0, .ref q11, .int 0, .int 0])), (q1, .inl (cA2, 16, .inr (.inr (.inr (.inr (fun _ => none)))))), (q3, .inl (cA4, 40, .inr (.inr (.inr (.inr (fun _ => none)))))), (q5, .inl (cA6, 60, .inr (.inr (.inr (.inr (fun _ => none)))))), (q7, .inl (cA8, 124, .inr (.inr (.inr (.inr (fun _ => none)))))), (q9, .inl (cA10, 3, .inr (.inr (.inr (.inr (fun _ => none)))))), (q11, .inr (6, [.int 0, .long 0]))] := hD
  refine lv_aload_n hx hb dX8_init_99 rfl (lv_at hl 0 rfl) ?_
  refine lv_iconst (v := 0) hx hb dX8_init_100 (by decide) ?_
  refine va_put (D := (dC, dI)) (own := RX8) (ref := "ReflectModels") (index := 69) (ci := 7) (v := .int 0) (ty := .int) (C := RX8) (T := TX8) (N := 15) hx hb hts inX8_init_8 tyX8 tyX8_ok nmX8 hown hK hP hD hS 0 rfl rfl 14 (by decide) (hts (.fieldLink RX8 69 "ReflectModels" "latestCause" "I") (by decide +kernel)) (fun _ h9 => h9) rfl (by decide +kernel) rfl rfl (Nat.le_of_ble_eq_true rfl) dX8_init_101 (fun H locs hP hD hS => ?_)
  have hP : va_P (dC, dI) vwCl [(h0, .inr (7, [.ref q1, .int 1, .ref q3, .int 0, .int 0, .ref q5, .int 0, .ref q7, .int 0, .ref q9, .int 0, .int 0, .ref q11, .int 0, .int 0])), (q1, .inl (cA2, 16, .inr (.inr (.inr (.inr (fun _ => none)))))), (q3, .inl (cA4, 40, .inr (.inr (.inr (.inr (fun _ => none)))))), (q5, .inl (cA6, 60, .inr (.inr (.inr (.inr (fun _ => none)))))), (q7, .inl (cA8, 124, .inr (.inr (.inr (.inr (fun _ => none)))))), (q9, .inl (cA10, 3, .inr (.inr (.inr (.inr (fun _ => none)))))), (q11, .inr (6, [.int 0, .long 0]))] H := hP
  have hD : va_D A [(h0, .inr (7, [.ref q1, .int 1, .ref q3, .int 0, .int 0, .ref q5, .int 0, .ref q7, .int 0, .ref q9, .int 0, .int 0, .ref q11, .int 0, .int 0])), (q1, .inl (cA2, 16, .inr (.inr (.inr (.inr (fun _ => none)))))), (q3, .inl (cA4, 40, .inr (.inr (.inr (.inr (fun _ => none)))))), (q5, .inl (cA6, 60, .inr (.inr (.inr (.inr (fun _ => none)))))), (q7, .inl (cA8, 124, .inr (.inr (.inr (.inr (fun _ => none)))))), (q9, .inl (cA10, 3, .inr (.inr (.inr (.inr (fun _ => none)))))), (q11, .inr (6, [.int 0, .long 0]))] := hD
  refine lv_aload_n hx hb dX8_init_104 rfl (lv_at hl 0 rfl) ?_
  refine va_get (D := (dC, dI)) (own := RX8) (ref := "ReflectModels") (index := 11) (ci := 7) (v := .ref q1) (C := RX8) (T := TX8) (N := 15) hx hb hts inX8_init_8 hown hK hP 0 rfl rfl 0 (by decide) (hts (.fieldLink RX8 11 "ReflectModels" "classes" "[LReflectModels$ClassModel;") (by decide +kernel)) (fun _ h9 => h9) rfl dX8_init_105 ?_
  refine lv_iconst (v := 0) hx hb dX8_init_108 (by decide) ?_
  refine va_new (ci := 0) (fs := [.int 0, .null, .int 0, .null, .int 0, .int 0, .int 0, .int 0, .int 0, .int 0, .int 0, .int 0]) (C := RX0) (T := TX0) (N := 12) hx hb hts inX8_init_0 tyX0 tyX0_ok hown (hts (.classLink RX8 9 RX0) (by decide +kernel)) (hts (.instantiable RX0 12) (by decide +kernel)) (hts (.initialized RX0) (by decide +kernel)) hK hP hD hS hA rfl df_X0 (Nat.le_of_ble_eq_true rfl) (Nat.le_of_ble_eq_true rfl) dX8_init_109 (fun q13 H hP hD hS => ?_)
  have hP : va_P (dC, dI) vwCl [(h0, .inr (7, [.ref q1, .int 1, .ref q3, .int 0, .int 0, .ref q5, .int 0, .ref q7, .int 0, .ref q9, .int 0, .int 0, .ref q11, .int 0, .int 0])), (q1, .inl (cA2, 16, .inr (.inr (.inr (.inr (fun _ => none)))))), (q3, .inl (cA4, 40, .inr (.inr (.inr (.inr (fun _ => none)))))), (q5, .inl (cA6, 60, .inr (.inr (.inr (.inr (fun _ => none)))))), (q7, .inl (cA8, 124, .inr (.inr (.inr (.inr (fun _ => none)))))), (q9, .inl (cA10, 3, .inr (.inr (.inr (.inr (fun _ => none)))))), (q11, .inr (6, [.int 0, .long 0])), (q13, .inr (0, [.int 0, .null, .int 0, .null, .int 0, .int 0, .int 0, .int 0, .int 0, .int 0, .int 0, .int 0]))] H := hP
  have hD : va_D A [(h0, .inr (7, [.ref q1, .int 1, .ref q3, .int 0, .int 0, .ref q5, .int 0, .ref q7, .int 0, .ref q9, .int 0, .int 0, .ref q11, .int 0, .int 0])), (q1, .inl (cA2, 16, .inr (.inr (.inr (.inr (fun _ => none)))))), (q3, .inl (cA4, 40, .inr (.inr (.inr (.inr (fun _ => none)))))), (q5, .inl (cA6, 60, .inr (.inr (.inr (.inr (fun _ => none)))))), (q7, .inl (cA8, 124, .inr (.inr (.inr (.inr (fun _ => none)))))), (q9, .inl (cA10, 3, .inr (.inr (.inr (.inr (fun _ => none)))))), (q11, .inr (6, [.int 0, .long 0])), (q13, .inr (0, [.int 0, .null, .int 0, .null, .int 0, .int 0, .int 0, .int 0, .int 0, .int 0, .int 0, .int 0]))] := hD
  refine W.cs (cells' := 7) (slots' := 257) rfl rfl ?_
  refine lv_dup hx hb dX8_init_112 rfl ?_
  refine lv_iconst (v := 0) hx hb dX8_init_113 (by decide) ?_
  refine lv_null hx hb dX8_init_114 ?_
  refine lv_iconst (v := 0) hx hb dX8_init_115 (by decide) ?_
  refine lv_null hx hb dX8_init_116 ?_
  refine lv_iconst (v := 0) hx hb dX8_init_117 (by decide) ?_
  refine lv_iconst (v := 0) hx hb dX8_init_118 (by decide) ?_
  refine clW (wr := [(h0, .inr (7, [.ref q1, .int 1, .ref q3, .int 0, .int 0, .ref q5, .int 0, .ref q7, .int 0, .ref q9, .int 0, .int 0, .ref q11, .int 0, .int 0])), (q1, .inl (cA2, 16, .inr (.inr (.inr (.inr (fun _ => none)))))), (q3, .inl (cA4, 40, .inr (.inr (.inr (.inr (fun _ => none)))))), (q5, .inl (cA6, 60, .inr (.inr (.inr (.inr (fun _ => none)))))), (q7, .inl (cA8, 124, .inr (.inr (.inr (.inr (fun _ => none)))))), (q9, .inl (cA10, 3, .inr (.inr (.inr (.inr (fun _ => none)))))), (q11, .inr (6, [.int 0, .long 0]))]) [7] [0, 1, 2, 3, 4, 5, 6] (va_runIN (As := [.int 0, .null, .int 0, .null, .int 0, .int 0]) (rest := [.ref q13, .int 0, .ref q1]) ⟨hx, hb, hml, hown, hts⟩ (c0_init0 l dC dI q13 _) ⟨va_cnB 6 hts gX8_init_X0_init_n72 rfl rfl rfl (hN _ (List.mem_of_getElem? (i := 8) rfl)) (hts (.initialized RX0) (by decide +kernel)) (by decide +kernel) ⟨Nat.le_of_ble_eq_true rfl, Nat.le_of_ble_eq_true rfl⟩, rfl, hts (.instanceMethod yX0_init) (by decide +kernel)⟩ ⟨pz_blind, pz_of hP hK hD hN [7] [] rfl (by decide) rfl⟩ rfl rfl hl.1 rfl (lv_room (Nat.le_of_ble_eq_true rfl)) dX8_init_119 ⟨Nat.le_of_ble_eq_true rfl, Nat.le_of_ble_eq_true rfl⟩) hS hP hD hK hA rfl rfl (by decide) (by decide) (fun v w1 ty1 H locs w14 hP hD hK hS => ?_)
  obtain ⟨rfl, rfl, rfl⟩ := w14
  refine W.eq (g2 := F0 m 122 ls [.ref q13, .int 0, .ref q1]) rfl ?_
  have hP : va_P (dC, dI) vwCl [(h0, .inr (7, [.ref q1, .int 1, .ref q3, .int 0, .int 0, .ref q5, .int 0, .ref q7, .int 0, .ref q9, .int 0, .int 0, .ref q11, .int 0, .int 0])), (q1, .inl (cA2, 16, .inr (.inr (.inr (.inr (fun _ => none)))))), (q3, .inl (cA4, 40, .inr (.inr (.inr (.inr (fun _ => none)))))), (q5, .inl (cA6, 60, .inr (.inr (.inr (.inr (fun _ => none)))))), (q7, .inl (cA8, 124, .inr (.inr (.inr (.inr (fun _ => none)))))), (q9, .inl (cA10, 3, .inr (.inr (.inr (.inr (fun _ => none)))))), (q11, .inr (6, [.int 0, .long 0])), (q13, .inr (0, [.int 0, .null, .int 0, .null, .int 0, .int 0, .int 1, .int 1, .int 0, .int 0, .int 0, .int 0]))] H := hP
  have hD : va_D A [(h0, .inr (7, [.ref q1, .int 1, .ref q3, .int 0, .int 0, .ref q5, .int 0, .ref q7, .int 0, .ref q9, .int 0, .int 0, .ref q11, .int 0, .int 0])), (q1, .inl (cA2, 16, .inr (.inr (.inr (.inr (fun _ => none)))))), (q3, .inl (cA4, 40, .inr (.inr (.inr (.inr (fun _ => none)))))), (q5, .inl (cA6, 60, .inr (.inr (.inr (.inr (fun _ => none)))))), (q7, .inl (cA8, 124, .inr (.inr (.inr (.inr (fun _ => none)))))), (q9, .inl (cA10, 3, .inr (.inr (.inr (.inr (fun _ => none)))))), (q11, .inr (6, [.int 0, .long 0])), (q13, .inr (0, [.int 0, .null, .int 0, .null, .int 0, .int 0, .int 1, .int 1, .int 0, .int 0, .int 0, .int 0]))] := hD
  have hK : va_K (dC, dI) vwCl [(cA2, .object "ReflectModels$ClassModel"), (cA4, .object "ReflectModels$Member"), (cA6, .object "ReflectModels$Handle"), (cA8, .object "ReflectModels$Thing"), (cA10, .object "ReflectModels$Value")] s := hK
  refine W.cs (cells' := 7) (slots' := 257) rfl rfl ?_
  refine va_astq (r := (RX0, TX0, 12)) hx hb hK hP hD hS 1 0 7 0 rfl rfl rfl rfl (vp_in_iff.mpr ⟨by decide, by decide⟩) dX8_init_122 (fun H locs hP hD hS => ?_)
  have hP : va_P (dC, dI) vwCl [(h0, .inr (7, [.ref q1, .int 1, .ref q3, .int 0, .int 0, .ref q5, .int 0, .ref q7, .int 0, .ref q9, .int 0, .int 0, .ref q11, .int 0, .int 0])), (q1, .inl (cA2, 16, .inr (.inr (.inr (.inr (va_up (fun _ => none) 0 (some q13))))))), (q3, .inl (cA4, 40, .inr (.inr (.inr (.inr (fun _ => none)))))), (q5, .inl (cA6, 60, .inr (.inr (.inr (.inr (fun _ => none)))))), (q7, .inl (cA8, 124, .inr (.inr (.inr (.inr (fun _ => none)))))), (q9, .inl (cA10, 3, .inr (.inr (.inr (.inr (fun _ => none)))))), (q11, .inr (6, [.int 0, .long 0])), (q13, .inr (0, [.int 0, .null, .int 0, .null, .int 0, .int 0, .int 1, .int 1, .int 0, .int 0, .int 0, .int 0]))] H := hP
  have hD : va_D A [(h0, .inr (7, [.ref q1, .int 1, .ref q3, .int 0, .int 0, .ref q5, .int 0, .ref q7, .int 0, .ref q9, .int 0, .int 0, .ref q11, .int 0, .int 0])), (q1, .inl (cA2, 16, .inr (.inr (.inr (.inr (va_up (fun _ => none) 0 (some q13))))))), (q3, .inl (cA4, 40, .inr (.inr (.inr (.inr (fun _ => none)))))), (q5, .inl (cA6, 60, .inr (.inr (.inr (.inr (fun _ => none)))))), (q7, .inl (cA8, 124, .inr (.inr (.inr (.inr (fun _ => none)))))), (q9, .inl (cA10, 3, .inr (.inr (.inr (.inr (fun _ => none)))))), (q11, .inr (6, [.int 0, .long 0])), (q13, .inr (0, [.int 0, .null, .int 0, .null, .int 0, .int 0, .int 1, .int 1, .int 0, .int 0, .int 0, .int 0]))] := hD
  refine lv_iconst (v := 0) hx hb dX8_init_123 (by decide) ?_
  refine lv_istore_n (lv' := [(1, .int 0), (0, .ref h0)]) hx hb dX8_init_124 rfl hl (by decide) rfl (fun ls hl => ?_)
  refine lv_iload_n hx hb dX8_init_125 rfl (lv_at hl 0 rfl) ?_
  refine lv_iconst (v := 3) hx hb dX8_init_126 (by decide) ?_
  refine lv_icmp_ge (tgt := 149) hx hb dX8_init_127 (by decide) (fun h => absurd h (by decide)) (fun _ => ?_)
  refine lv_aload_n hx hb dX8_init_130 rfl (lv_at hl 1 rfl) ?_
  refine va_get (D := (dC, dI)) (own := RX8) (ref := "ReflectModels") (index := 51) (ci := 7) (v := .ref q9) (C := RX8) (T := TX8) (N := 15) hx hb hts inX8_init_8 hown hK hP 0 rfl rfl 9 (by decide) (hts (.fieldLink RX8 51 "ReflectModels" "values" "[LReflectModels$Value;") (by decide +kernel)) (fun _ h9 => h9) rfl dX8_init_131 ?_
  refine lv_iload_n hx hb dX8_init_134 rfl (lv_at hl 0 rfl) ?_
  refine va_new (ci := 6) (fs := [.int 0, .long 0]) (C := RX7) (T := TX7) (N := 2) hx hb hts inX8_init_7 tyX7 tyX7_ok hown (hts (.classLink RX8 49 RX7) (by decide +kernel)) (hts (.instantiable RX7 2) (by decide +kernel)) (hts (.initialized RX7) (by decide +kernel)) hK hP hD hS hA rfl df_X7 (Nat.le_of_ble_eq_true rfl) (Nat.le_of_ble_eq_true rfl) dX8_init_135 (fun q15 H hP hD hS => ?_)
  have hP : va_P (dC, dI) vwCl [(h0, .inr (7, [.ref q1, .int 1, .ref q3, .int 0, .int 0, .ref q5, .int 0, .ref q7, .int 0, .ref q9, .int 0, .int 0, .ref q11, .int 0, .int 0])), (q1, .inl (cA2, 16, .inr (.inr (.inr (.inr (va_up (fun _ => none) 0 (some q13))))))), (q3, .inl (cA4, 40, .inr (.inr (.inr (.inr (fun _ => none)))))), (q5, .inl (cA6, 60, .inr (.inr (.inr (.inr (fun _ => none)))))), (q7, .inl (cA8, 124, .inr (.inr (.inr (.inr (fun _ => none)))))), (q9, .inl (cA10, 3, .inr (.inr (.inr (.inr (fun _ => none)))))), (q11, .inr (6, [.int 0, .long 0])), (q13, .inr (0, [.int 0, .null, .int 0, .null, .int 0, .int 0, .int 1, .int 1, .int 0, .int 0, .int 0, .int 0])), (q15, .inr (6, [.int 0, .long 0]))] H := hP
  have hD : va_D A [(h0, .inr (7, [.ref q1, .int 1, .ref q3, .int 0, .int 0, .ref q5, .int 0, .ref q7, .int 0, .ref q9, .int 0, .int 0, .ref q11, .int 0, .int 0])), (q1, .inl (cA2, 16, .inr (.inr (.inr (.inr (va_up (fun _ => none) 0 (some q13))))))), (q3, .inl (cA4, 40, .inr (.inr (.inr (.inr (fun _ => none)))))), (q5, .inl (cA6, 60, .inr (.inr (.inr (.inr (fun _ => none)))))), (q7, .inl (cA8, 124, .inr (.inr (.inr (.inr (fun _ => none)))))), (q9, .inl (cA10, 3, .inr (.inr (.inr (.inr (fun _ => none)))))), (q11, .inr (6, [.int 0, .long 0])), (q13, .inr (0, [.int 0, .null, .int 0, .null, .int 0, .int 0, .int 1, .int 1, .int 0, .int 0, .int 0, .int 0])), (q15, .inr (6, [.int 0, .long 0]))] := hD
  refine W.cs (cells' := 8) (slots' := 259) rfl rfl ?_
  refine lv_dup hx hb dX8_init_138 rfl ?_
  refine clW (wr := [(h0, .inr (7, [.ref q1, .int 1, .ref q3, .int 0, .int 0, .ref q5, .int 0, .ref q7, .int 0, .ref q9, .int 0, .int 0, .ref q11, .int 0, .int 0])), (q1, .inl (cA2, 16, .inr (.inr (.inr (.inr (va_up (fun _ => none) 0 (some q13))))))), (q3, .inl (cA4, 40, .inr (.inr (.inr (.inr (fun _ => none)))))), (q5, .inl (cA6, 60, .inr (.inr (.inr (.inr (fun _ => none)))))), (q7, .inl (cA8, 124, .inr (.inr (.inr (.inr (fun _ => none)))))), (q9, .inl (cA10, 3, .inr (.inr (.inr (.inr (fun _ => none)))))), (q11, .inr (6, [.int 0, .long 0])), (q13, .inr (0, [.int 0, .null, .int 0, .null, .int 0, .int 0, .int 1, .int 1, .int 0, .int 0, .int 0, .int 0]))]) [8] [0, 1, 2, 3, 4, 5, 6, 7] (va_runIN (As := []) (rest := [.ref q15, .int 0, .ref q9]) ⟨hx, hb, hml, hown, hts⟩ (c7_init l dC dI q15 _) ⟨va_cnB 0 hts gX8_init_X7_init_n61 rfl rfl rfl (hN _ (List.mem_of_getElem? (i := 5) rfl)) (hts (.initialized RX7) (by decide +kernel)) (by decide +kernel) ⟨Nat.le_of_ble_eq_true rfl, Nat.le_of_ble_eq_true rfl⟩, rfl, hts (.instanceMethod yX7_init) (by decide +kernel)⟩ ⟨pz_blind, pz_of hP hK hD hN [8] [] rfl (by decide) rfl⟩ rfl rfl hl.1 rfl (lv_room (Nat.le_of_ble_eq_true rfl)) dX8_init_139 ⟨Nat.le_of_ble_eq_true rfl, Nat.le_of_ble_eq_true rfl⟩) hS hP hD hK hA rfl rfl (by decide) (by decide) (fun v w1 ty1 H locs w16 hP hD hK hS => ?_)
  obtain ⟨rfl, rfl, rfl⟩ := w16
  refine W.eq (g2 := F0 m 142 ls [.ref q15, .int 0, .ref q9]) rfl ?_
  have hP : va_P (dC, dI) vwCl [(h0, .inr (7, [.ref q1, .int 1, .ref q3, .int 0, .int 0, .ref q5, .int 0, .ref q7, .int 0, .ref q9, .int 0, .int 0, .ref q11, .int 0, .int 0])), (q1, .inl (cA2, 16, .inr (.inr (.inr (.inr (va_up (fun _ => none) 0 (some q13))))))), (q3, .inl (cA4, 40, .inr (.inr (.inr (.inr (fun _ => none)))))), (q5, .inl (cA6, 60, .inr (.inr (.inr (.inr (fun _ => none)))))), (q7, .inl (cA8, 124, .inr (.inr (.inr (.inr (fun _ => none)))))), (q9, .inl (cA10, 3, .inr (.inr (.inr (.inr (fun _ => none)))))), (q11, .inr (6, [.int 0, .long 0])), (q13, .inr (0, [.int 0, .null, .int 0, .null, .int 0, .int 0, .int 1, .int 1, .int 0, .int 0, .int 0, .int 0])), (q15, .inr (6, [.int 0, .long 0]))] H := hP
  have hD : va_D A [(h0, .inr (7, [.ref q1, .int 1, .ref q3, .int 0, .int 0, .ref q5, .int 0, .ref q7, .int 0, .ref q9, .int 0, .int 0, .ref q11, .int 0, .int 0])), (q1, .inl (cA2, 16, .inr (.inr (.inr (.inr (va_up (fun _ => none) 0 (some q13))))))), (q3, .inl (cA4, 40, .inr (.inr (.inr (.inr (fun _ => none)))))), (q5, .inl (cA6, 60, .inr (.inr (.inr (.inr (fun _ => none)))))), (q7, .inl (cA8, 124, .inr (.inr (.inr (.inr (fun _ => none)))))), (q9, .inl (cA10, 3, .inr (.inr (.inr (.inr (fun _ => none)))))), (q11, .inr (6, [.int 0, .long 0])), (q13, .inr (0, [.int 0, .null, .int 0, .null, .int 0, .int 0, .int 1, .int 1, .int 0, .int 0, .int 0, .int 0])), (q15, .inr (6, [.int 0, .long 0]))] := hD
  have hK : va_K (dC, dI) vwCl [(cA2, .object "ReflectModels$ClassModel"), (cA4, .object "ReflectModels$Member"), (cA6, .object "ReflectModels$Handle"), (cA8, .object "ReflectModels$Thing"), (cA10, .object "ReflectModels$Value")] s := hK
  refine W.cs (cells' := 8) (slots' := 259) rfl rfl ?_
  refine va_astq (r := (RX7, TX7, 2)) hx hb hK hP hD hS 5 4 8 6 rfl rfl rfl rfl (vp_in_iff.mpr ⟨by decide, by decide⟩) dX8_init_142 (fun H locs hP hD hS => ?_)
  have hP : va_P (dC, dI) vwCl [(h0, .inr (7, [.ref q1, .int 1, .ref q3, .int 0, .int 0, .ref q5, .int 0, .ref q7, .int 0, .ref q9, .int 0, .int 0, .ref q11, .int 0, .int 0])), (q1, .inl (cA2, 16, .inr (.inr (.inr (.inr (va_up (fun _ => none) 0 (some q13))))))), (q3, .inl (cA4, 40, .inr (.inr (.inr (.inr (fun _ => none)))))), (q5, .inl (cA6, 60, .inr (.inr (.inr (.inr (fun _ => none)))))), (q7, .inl (cA8, 124, .inr (.inr (.inr (.inr (fun _ => none)))))), (q9, .inl (cA10, 3, .inr (.inr (.inr (.inr (va_up (fun _ => none) 0 (some q15))))))), (q11, .inr (6, [.int 0, .long 0])), (q13, .inr (0, [.int 0, .null, .int 0, .null, .int 0, .int 0, .int 1, .int 1, .int 0, .int 0, .int 0, .int 0])), (q15, .inr (6, [.int 0, .long 0]))] H := hP
  have hD : va_D A [(h0, .inr (7, [.ref q1, .int 1, .ref q3, .int 0, .int 0, .ref q5, .int 0, .ref q7, .int 0, .ref q9, .int 0, .int 0, .ref q11, .int 0, .int 0])), (q1, .inl (cA2, 16, .inr (.inr (.inr (.inr (va_up (fun _ => none) 0 (some q13))))))), (q3, .inl (cA4, 40, .inr (.inr (.inr (.inr (fun _ => none)))))), (q5, .inl (cA6, 60, .inr (.inr (.inr (.inr (fun _ => none)))))), (q7, .inl (cA8, 124, .inr (.inr (.inr (.inr (fun _ => none)))))), (q9, .inl (cA10, 3, .inr (.inr (.inr (.inr (va_up (fun _ => none) 0 (some q15))))))), (q11, .inr (6, [.int 0, .long 0])), (q13, .inr (0, [.int 0, .null, .int 0, .null, .int 0, .int 0, .int 1, .int 1, .int 0, .int 0, .int 0, .int 0])), (q15, .inr (6, [.int 0, .long 0]))] := hD
  refine lv_iinc (v := 1) (lv' := [(1, .int 1), (0, .ref h0)]) hx hb dX8_init_143 hl (k := 0) rfl (by decide) (by decide) rfl (fun ls hl => ?_)
  refine lv_goto (tgt := 125) hx hb dX8_init_146 (by decide) ?_
  refine lv_iload_n hx hb dX8_init_125 rfl (lv_at hl 0 rfl) ?_
  refine lv_iconst (v := 3) hx hb dX8_init_126 (by decide) ?_
  refine lv_icmp_ge (tgt := 149) hx hb dX8_init_127 (by decide) (fun h => absurd h (by decide)) (fun _ => ?_)
  refine lv_aload_n hx hb dX8_init_130 rfl (lv_at hl 1 rfl) ?_
  refine va_get (D := (dC, dI)) (own := RX8) (ref := "ReflectModels") (index := 51) (ci := 7) (v := .ref q9) (C := RX8) (T := TX8) (N := 15) hx hb hts inX8_init_8 hown hK hP 0 rfl rfl 9 (by decide) (hts (.fieldLink RX8 51 "ReflectModels" "values" "[LReflectModels$Value;") (by decide +kernel)) (fun _ h9 => h9) rfl dX8_init_131 ?_
  refine lv_iload_n hx hb dX8_init_134 rfl (lv_at hl 0 rfl) ?_
  refine va_new (ci := 6) (fs := [.int 0, .long 0]) (C := RX7) (T := TX7) (N := 2) hx hb hts inX8_init_7 tyX7 tyX7_ok hown (hts (.classLink RX8 49 RX7) (by decide +kernel)) (hts (.instantiable RX7 2) (by decide +kernel)) (hts (.initialized RX7) (by decide +kernel)) hK hP hD hS hA rfl df_X7 (Nat.le_of_ble_eq_true rfl) (Nat.le_of_ble_eq_true rfl) dX8_init_135 (fun q17 H hP hD hS => ?_)
  have hP : va_P (dC, dI) vwCl [(h0, .inr (7, [.ref q1, .int 1, .ref q3, .int 0, .int 0, .ref q5, .int 0, .ref q7, .int 0, .ref q9, .int 0, .int 0, .ref q11, .int 0, .int 0])), (q1, .inl (cA2, 16, .inr (.inr (.inr (.inr (va_up (fun _ => none) 0 (some q13))))))), (q3, .inl (cA4, 40, .inr (.inr (.inr (.inr (fun _ => none)))))), (q5, .inl (cA6, 60, .inr (.inr (.inr (.inr (fun _ => none)))))), (q7, .inl (cA8, 124, .inr (.inr (.inr (.inr (fun _ => none)))))), (q9, .inl (cA10, 3, .inr (.inr (.inr (.inr (va_up (fun _ => none) 0 (some q15))))))), (q11, .inr (6, [.int 0, .long 0])), (q13, .inr (0, [.int 0, .null, .int 0, .null, .int 0, .int 0, .int 1, .int 1, .int 0, .int 0, .int 0, .int 0])), (q15, .inr (6, [.int 0, .long 0])), (q17, .inr (6, [.int 0, .long 0]))] H := hP
  have hD : va_D A [(h0, .inr (7, [.ref q1, .int 1, .ref q3, .int 0, .int 0, .ref q5, .int 0, .ref q7, .int 0, .ref q9, .int 0, .int 0, .ref q11, .int 0, .int 0])), (q1, .inl (cA2, 16, .inr (.inr (.inr (.inr (va_up (fun _ => none) 0 (some q13))))))), (q3, .inl (cA4, 40, .inr (.inr (.inr (.inr (fun _ => none)))))), (q5, .inl (cA6, 60, .inr (.inr (.inr (.inr (fun _ => none)))))), (q7, .inl (cA8, 124, .inr (.inr (.inr (.inr (fun _ => none)))))), (q9, .inl (cA10, 3, .inr (.inr (.inr (.inr (va_up (fun _ => none) 0 (some q15))))))), (q11, .inr (6, [.int 0, .long 0])), (q13, .inr (0, [.int 0, .null, .int 0, .null, .int 0, .int 0, .int 1, .int 1, .int 0, .int 0, .int 0, .int 0])), (q15, .inr (6, [.int 0, .long 0])), (q17, .inr (6, [.int 0, .long 0]))] := hD
  refine W.cs (cells' := 9) (slots' := 261) rfl rfl ?_
  refine lv_dup hx hb dX8_init_138 rfl ?_
  refine clW (wr := [(h0, .inr (7, [.ref q1, .int 1, .ref q3, .int 0, .int 0, .ref q5, .int 0, .ref q7, .int 0, .ref q9, .int 0, .int 0, .ref q11, .int 0, .int 0])), (q1, .inl (cA2, 16, .inr (.inr (.inr (.inr (va_up (fun _ => none) 0 (some q13))))))), (q3, .inl (cA4, 40, .inr (.inr (.inr (.inr (fun _ => none)))))), (q5, .inl (cA6, 60, .inr (.inr (.inr (.inr (fun _ => none)))))), (q7, .inl (cA8, 124, .inr (.inr (.inr (.inr (fun _ => none)))))), (q9, .inl (cA10, 3, .inr (.inr (.inr (.inr (va_up (fun _ => none) 0 (some q15))))))), (q11, .inr (6, [.int 0, .long 0])), (q13, .inr (0, [.int 0, .null, .int 0, .null, .int 0, .int 0, .int 1, .int 1, .int 0, .int 0, .int 0, .int 0])), (q15, .inr (6, [.int 0, .long 0]))]) [9] [0, 1, 2, 3, 4, 5, 6, 7, 8] (va_runIN (As := []) (rest := [.ref q17, .int 1, .ref q9]) ⟨hx, hb, hml, hown, hts⟩ (c7_init l dC dI q17 _) ⟨va_cnB 0 hts gX8_init_X7_init_n61 rfl rfl rfl (hN _ (List.mem_of_getElem? (i := 5) rfl)) (hts (.initialized RX7) (by decide +kernel)) (by decide +kernel) ⟨Nat.le_of_ble_eq_true rfl, Nat.le_of_ble_eq_true rfl⟩, rfl, hts (.instanceMethod yX7_init) (by decide +kernel)⟩ ⟨pz_blind, pz_of hP hK hD hN [9] [] rfl (by decide) rfl⟩ rfl rfl hl.1 rfl (lv_room (Nat.le_of_ble_eq_true rfl)) dX8_init_139 ⟨Nat.le_of_ble_eq_true rfl, Nat.le_of_ble_eq_true rfl⟩) hS hP hD hK hA rfl rfl (by decide) (by decide) (fun v w1 ty1 H locs w18 hP hD hK hS => ?_)
  obtain ⟨rfl, rfl, rfl⟩ := w18
  refine W.eq (g2 := F0 m 142 ls [.ref q17, .int 1, .ref q9]) rfl ?_
  have hP : va_P (dC, dI) vwCl [(h0, .inr (7, [.ref q1, .int 1, .ref q3, .int 0, .int 0, .ref q5, .int 0, .ref q7, .int 0, .ref q9, .int 0, .int 0, .ref q11, .int 0, .int 0])), (q1, .inl (cA2, 16, .inr (.inr (.inr (.inr (va_up (fun _ => none) 0 (some q13))))))), (q3, .inl (cA4, 40, .inr (.inr (.inr (.inr (fun _ => none)))))), (q5, .inl (cA6, 60, .inr (.inr (.inr (.inr (fun _ => none)))))), (q7, .inl (cA8, 124, .inr (.inr (.inr (.inr (fun _ => none)))))), (q9, .inl (cA10, 3, .inr (.inr (.inr (.inr (va_up (fun _ => none) 0 (some q15))))))), (q11, .inr (6, [.int 0, .long 0])), (q13, .inr (0, [.int 0, .null, .int 0, .null, .int 0, .int 0, .int 1, .int 1, .int 0, .int 0, .int 0, .int 0])), (q15, .inr (6, [.int 0, .long 0])), (q17, .inr (6, [.int 0, .long 0]))] H := hP
  have hD : va_D A [(h0, .inr (7, [.ref q1, .int 1, .ref q3, .int 0, .int 0, .ref q5, .int 0, .ref q7, .int 0, .ref q9, .int 0, .int 0, .ref q11, .int 0, .int 0])), (q1, .inl (cA2, 16, .inr (.inr (.inr (.inr (va_up (fun _ => none) 0 (some q13))))))), (q3, .inl (cA4, 40, .inr (.inr (.inr (.inr (fun _ => none)))))), (q5, .inl (cA6, 60, .inr (.inr (.inr (.inr (fun _ => none)))))), (q7, .inl (cA8, 124, .inr (.inr (.inr (.inr (fun _ => none)))))), (q9, .inl (cA10, 3, .inr (.inr (.inr (.inr (va_up (fun _ => none) 0 (some q15))))))), (q11, .inr (6, [.int 0, .long 0])), (q13, .inr (0, [.int 0, .null, .int 0, .null, .int 0, .int 0, .int 1, .int 1, .int 0, .int 0, .int 0, .int 0])), (q15, .inr (6, [.int 0, .long 0])), (q17, .inr (6, [.int 0, .long 0]))] := hD
  have hK : va_K (dC, dI) vwCl [(cA2, .object "ReflectModels$ClassModel"), (cA4, .object "ReflectModels$Member"), (cA6, .object "ReflectModels$Handle"), (cA8, .object "ReflectModels$Thing"), (cA10, .object "ReflectModels$Value")] s := hK
  refine W.cs (cells' := 9) (slots' := 261) rfl rfl ?_
  refine va_astq (r := (RX7, TX7, 2)) hx hb hK hP hD hS 5 4 9 6 rfl rfl rfl rfl (vp_in_iff.mpr ⟨by decide, by decide⟩) dX8_init_142 (fun H locs hP hD hS => ?_)
  have hP : va_P (dC, dI) vwCl [(h0, .inr (7, [.ref q1, .int 1, .ref q3, .int 0, .int 0, .ref q5, .int 0, .ref q7, .int 0, .ref q9, .int 0, .int 0, .ref q11, .int 0, .int 0])), (q1, .inl (cA2, 16, .inr (.inr (.inr (.inr (va_up (fun _ => none) 0 (some q13))))))), (q3, .inl (cA4, 40, .inr (.inr (.inr (.inr (fun _ => none)))))), (q5, .inl (cA6, 60, .inr (.inr (.inr (.inr (fun _ => none)))))), (q7, .inl (cA8, 124, .inr (.inr (.inr (.inr (fun _ => none)))))), (q9, .inl (cA10, 3, .inr (.inr (.inr (.inr (va_up (va_up (fun _ => none) 0 (some q15)) 1 (some q17))))))), (q11, .inr (6, [.int 0, .long 0])), (q13, .inr (0, [.int 0, .null, .int 0, .null, .int 0, .int 0, .int 1, .int 1, .int 0, .int 0, .int 0, .int 0])), (q15, .inr (6, [.int 0, .long 0])), (q17, .inr (6, [.int 0, .long 0]))] H := hP
  have hD : va_D A [(h0, .inr (7, [.ref q1, .int 1, .ref q3, .int 0, .int 0, .ref q5, .int 0, .ref q7, .int 0, .ref q9, .int 0, .int 0, .ref q11, .int 0, .int 0])), (q1, .inl (cA2, 16, .inr (.inr (.inr (.inr (va_up (fun _ => none) 0 (some q13))))))), (q3, .inl (cA4, 40, .inr (.inr (.inr (.inr (fun _ => none)))))), (q5, .inl (cA6, 60, .inr (.inr (.inr (.inr (fun _ => none)))))), (q7, .inl (cA8, 124, .inr (.inr (.inr (.inr (fun _ => none)))))), (q9, .inl (cA10, 3, .inr (.inr (.inr (.inr (va_up (va_up (fun _ => none) 0 (some q15)) 1 (some q17))))))), (q11, .inr (6, [.int 0, .long 0])), (q13, .inr (0, [.int 0, .null, .int 0, .null, .int 0, .int 0, .int 1, .int 1, .int 0, .int 0, .int 0, .int 0])), (q15, .inr (6, [.int 0, .long 0])), (q17, .inr (6, [.int 0, .long 0]))] := hD
  refine lv_iinc (v := 2) (lv' := [(1, .int 2), (0, .ref h0)]) hx hb dX8_init_143 hl (k := 0) rfl (by decide) (by decide) rfl (fun ls hl => ?_)
  refine lv_goto (tgt := 125) hx hb dX8_init_146 (by decide) ?_
  refine lv_iload_n hx hb dX8_init_125 rfl (lv_at hl 0 rfl) ?_
  refine lv_iconst (v := 3) hx hb dX8_init_126 (by decide) ?_
  refine lv_icmp_ge (tgt := 149) hx hb dX8_init_127 (by decide) (fun h => absurd h (by decide)) (fun _ => ?_)
  refine lv_aload_n hx hb dX8_init_130 rfl (lv_at hl 1 rfl) ?_
  refine va_get (D := (dC, dI)) (own := RX8) (ref := "ReflectModels") (index := 51) (ci := 7) (v := .ref q9) (C := RX8) (T := TX8) (N := 15) hx hb hts inX8_init_8 hown hK hP 0 rfl rfl 9 (by decide) (hts (.fieldLink RX8 51 "ReflectModels" "values" "[LReflectModels$Value;") (by decide +kernel)) (fun _ h9 => h9) rfl dX8_init_131 ?_
  refine lv_iload_n hx hb dX8_init_134 rfl (lv_at hl 0 rfl) ?_
  refine va_new (ci := 6) (fs := [.int 0, .long 0]) (C := RX7) (T := TX7) (N := 2) hx hb hts inX8_init_7 tyX7 tyX7_ok hown (hts (.classLink RX8 49 RX7) (by decide +kernel)) (hts (.instantiable RX7 2) (by decide +kernel)) (hts (.initialized RX7) (by decide +kernel)) hK hP hD hS hA rfl df_X7 (Nat.le_of_ble_eq_true rfl) (Nat.le_of_ble_eq_true rfl) dX8_init_135 (fun q19 H hP hD hS => ?_)
  have hP : va_P (dC, dI) vwCl [(h0, .inr (7, [.ref q1, .int 1, .ref q3, .int 0, .int 0, .ref q5, .int 0, .ref q7, .int 0, .ref q9, .int 0, .int 0, .ref q11, .int 0, .int 0])), (q1, .inl (cA2, 16, .inr (.inr (.inr (.inr (va_up (fun _ => none) 0 (some q13))))))), (q3, .inl (cA4, 40, .inr (.inr (.inr (.inr (fun _ => none)))))), (q5, .inl (cA6, 60, .inr (.inr (.inr (.inr (fun _ => none)))))), (q7, .inl (cA8, 124, .inr (.inr (.inr (.inr (fun _ => none)))))), (q9, .inl (cA10, 3, .inr (.inr (.inr (.inr (va_up (va_up (fun _ => none) 0 (some q15)) 1 (some q17))))))), (q11, .inr (6, [.int 0, .long 0])), (q13, .inr (0, [.int 0, .null, .int 0, .null, .int 0, .int 0, .int 1, .int 1, .int 0, .int 0, .int 0, .int 0])), (q15, .inr (6, [.int 0, .long 0])), (q17, .inr (6, [.int 0, .long 0])), (q19, .inr (6, [.int 0, .long 0]))] H := hP
  have hD : va_D A [(h0, .inr (7, [.ref q1, .int 1, .ref q3, .int 0, .int 0, .ref q5, .int 0, .ref q7, .int 0, .ref q9, .int 0, .int 0, .ref q11, .int 0, .int 0])), (q1, .inl (cA2, 16, .inr (.inr (.inr (.inr (va_up (fun _ => none) 0 (some q13))))))), (q3, .inl (cA4, 40, .inr (.inr (.inr (.inr (fun _ => none)))))), (q5, .inl (cA6, 60, .inr (.inr (.inr (.inr (fun _ => none)))))), (q7, .inl (cA8, 124, .inr (.inr (.inr (.inr (fun _ => none)))))), (q9, .inl (cA10, 3, .inr (.inr (.inr (.inr (va_up (va_up (fun _ => none) 0 (some q15)) 1 (some q17))))))), (q11, .inr (6, [.int 0, .long 0])), (q13, .inr (0, [.int 0, .null, .int 0, .null, .int 0, .int 0, .int 1, .int 1, .int 0, .int 0, .int 0, .int 0])), (q15, .inr (6, [.int 0, .long 0])), (q17, .inr (6, [.int 0, .long 0])), (q19, .inr (6, [.int 0, .long 0]))] := hD
  refine W.cs (cells' := 10) (slots' := 263) rfl rfl ?_
  refine lv_dup hx hb dX8_init_138 rfl ?_
  refine clW (wr := [(h0, .inr (7, [.ref q1, .int 1, .ref q3, .int 0, .int 0, .ref q5, .int 0, .ref q7, .int 0, .ref q9, .int 0, .int 0, .ref q11, .int 0, .int 0])), (q1, .inl (cA2, 16, .inr (.inr (.inr (.inr (va_up (fun _ => none) 0 (some q13))))))), (q3, .inl (cA4, 40, .inr (.inr (.inr (.inr (fun _ => none)))))), (q5, .inl (cA6, 60, .inr (.inr (.inr (.inr (fun _ => none)))))), (q7, .inl (cA8, 124, .inr (.inr (.inr (.inr (fun _ => none)))))), (q9, .inl (cA10, 3, .inr (.inr (.inr (.inr (va_up (va_up (fun _ => none) 0 (some q15)) 1 (some q17))))))), (q11, .inr (6, [.int 0, .long 0])), (q13, .inr (0, [.int 0, .null, .int 0, .null, .int 0, .int 0, .int 1, .int 1, .int 0, .int 0, .int 0, .int 0])), (q15, .inr (6, [.int 0, .long 0])), (q17, .inr (6, [.int 0, .long 0]))]) [10] [0, 1, 2, 3, 4, 5, 6, 7, 8, 9] (va_runIN (As := []) (rest := [.ref q19, .int 2, .ref q9]) ⟨hx, hb, hml, hown, hts⟩ (c7_init l dC dI q19 _) ⟨va_cnB 0 hts gX8_init_X7_init_n61 rfl rfl rfl (hN _ (List.mem_of_getElem? (i := 5) rfl)) (hts (.initialized RX7) (by decide +kernel)) (by decide +kernel) ⟨Nat.le_of_ble_eq_true rfl, Nat.le_of_ble_eq_true rfl⟩, rfl, hts (.instanceMethod yX7_init) (by decide +kernel)⟩ ⟨pz_blind, pz_of hP hK hD hN [10] [] rfl (by decide) rfl⟩ rfl rfl hl.1 rfl (lv_room (Nat.le_of_ble_eq_true rfl)) dX8_init_139 ⟨Nat.le_of_ble_eq_true rfl, Nat.le_of_ble_eq_true rfl⟩) hS hP hD hK hA rfl rfl (by decide) (by decide) (fun v w1 ty1 H locs w20 hP hD hK hS => ?_)
  obtain ⟨rfl, rfl, rfl⟩ := w20
  refine W.eq (g2 := F0 m 142 ls [.ref q19, .int 2, .ref q9]) rfl ?_
  have hP : va_P (dC, dI) vwCl [(h0, .inr (7, [.ref q1, .int 1, .ref q3, .int 0, .int 0, .ref q5, .int 0, .ref q7, .int 0, .ref q9, .int 0, .int 0, .ref q11, .int 0, .int 0])), (q1, .inl (cA2, 16, .inr (.inr (.inr (.inr (va_up (fun _ => none) 0 (some q13))))))), (q3, .inl (cA4, 40, .inr (.inr (.inr (.inr (fun _ => none)))))), (q5, .inl (cA6, 60, .inr (.inr (.inr (.inr (fun _ => none)))))), (q7, .inl (cA8, 124, .inr (.inr (.inr (.inr (fun _ => none)))))), (q9, .inl (cA10, 3, .inr (.inr (.inr (.inr (va_up (va_up (fun _ => none) 0 (some q15)) 1 (some q17))))))), (q11, .inr (6, [.int 0, .long 0])), (q13, .inr (0, [.int 0, .null, .int 0, .null, .int 0, .int 0, .int 1, .int 1, .int 0, .int 0, .int 0, .int 0])), (q15, .inr (6, [.int 0, .long 0])), (q17, .inr (6, [.int 0, .long 0])), (q19, .inr (6, [.int 0, .long 0]))] H := hP
  have hD : va_D A [(h0, .inr (7, [.ref q1, .int 1, .ref q3, .int 0, .int 0, .ref q5, .int 0, .ref q7, .int 0, .ref q9, .int 0, .int 0, .ref q11, .int 0, .int 0])), (q1, .inl (cA2, 16, .inr (.inr (.inr (.inr (va_up (fun _ => none) 0 (some q13))))))), (q3, .inl (cA4, 40, .inr (.inr (.inr (.inr (fun _ => none)))))), (q5, .inl (cA6, 60, .inr (.inr (.inr (.inr (fun _ => none)))))), (q7, .inl (cA8, 124, .inr (.inr (.inr (.inr (fun _ => none)))))), (q9, .inl (cA10, 3, .inr (.inr (.inr (.inr (va_up (va_up (fun _ => none) 0 (some q15)) 1 (some q17))))))), (q11, .inr (6, [.int 0, .long 0])), (q13, .inr (0, [.int 0, .null, .int 0, .null, .int 0, .int 0, .int 1, .int 1, .int 0, .int 0, .int 0, .int 0])), (q15, .inr (6, [.int 0, .long 0])), (q17, .inr (6, [.int 0, .long 0])), (q19, .inr (6, [.int 0, .long 0]))] := hD
  have hK : va_K (dC, dI) vwCl [(cA2, .object "ReflectModels$ClassModel"), (cA4, .object "ReflectModels$Member"), (cA6, .object "ReflectModels$Handle"), (cA8, .object "ReflectModels$Thing"), (cA10, .object "ReflectModels$Value")] s := hK
  refine W.cs (cells' := 10) (slots' := 263) rfl rfl ?_
  refine va_astq (r := (RX7, TX7, 2)) hx hb hK hP hD hS 5 4 10 6 rfl rfl rfl rfl (vp_in_iff.mpr ⟨by decide, by decide⟩) dX8_init_142 (fun H locs hP hD hS => ?_)
  have hP : va_P (dC, dI) vwCl [(h0, .inr (7, [.ref q1, .int 1, .ref q3, .int 0, .int 0, .ref q5, .int 0, .ref q7, .int 0, .ref q9, .int 0, .int 0, .ref q11, .int 0, .int 0])), (q1, .inl (cA2, 16, .inr (.inr (.inr (.inr (va_up (fun _ => none) 0 (some q13))))))), (q3, .inl (cA4, 40, .inr (.inr (.inr (.inr (fun _ => none)))))), (q5, .inl (cA6, 60, .inr (.inr (.inr (.inr (fun _ => none)))))), (q7, .inl (cA8, 124, .inr (.inr (.inr (.inr (fun _ => none)))))), (q9, .inl (cA10, 3, .inr (.inr (.inr (.inr (va_up (va_up (va_up (fun _ => none) 0 (some q15)) 1 (some q17)) 2 (some q19))))))), (q11, .inr (6, [.int 0, .long 0])), (q13, .inr (0, [.int 0, .null, .int 0, .null, .int 0, .int 0, .int 1, .int 1, .int 0, .int 0, .int 0, .int 0])), (q15, .inr (6, [.int 0, .long 0])), (q17, .inr (6, [.int 0, .long 0])), (q19, .inr (6, [.int 0, .long 0]))] H := hP
  have hD : va_D A [(h0, .inr (7, [.ref q1, .int 1, .ref q3, .int 0, .int 0, .ref q5, .int 0, .ref q7, .int 0, .ref q9, .int 0, .int 0, .ref q11, .int 0, .int 0])), (q1, .inl (cA2, 16, .inr (.inr (.inr (.inr (va_up (fun _ => none) 0 (some q13))))))), (q3, .inl (cA4, 40, .inr (.inr (.inr (.inr (fun _ => none)))))), (q5, .inl (cA6, 60, .inr (.inr (.inr (.inr (fun _ => none)))))), (q7, .inl (cA8, 124, .inr (.inr (.inr (.inr (fun _ => none)))))), (q9, .inl (cA10, 3, .inr (.inr (.inr (.inr (va_up (va_up (va_up (fun _ => none) 0 (some q15)) 1 (some q17)) 2 (some q19))))))), (q11, .inr (6, [.int 0, .long 0])), (q13, .inr (0, [.int 0, .null, .int 0, .null, .int 0, .int 0, .int 1, .int 1, .int 0, .int 0, .int 0, .int 0])), (q15, .inr (6, [.int 0, .long 0])), (q17, .inr (6, [.int 0, .long 0])), (q19, .inr (6, [.int 0, .long 0]))] := hD
  refine lv_iinc (v := 3) (lv' := [(1, .int 3), (0, .ref h0)]) hx hb dX8_init_143 hl (k := 0) rfl (by decide) (by decide) rfl (fun ls hl => ?_)
  refine lv_goto (tgt := 125) hx hb dX8_init_146 (by decide) ?_
  refine lv_iload_n hx hb dX8_init_125 rfl (lv_at hl 0 rfl) ?_
  refine lv_iconst (v := 3) hx hb dX8_init_126 (by decide) ?_
  refine lv_icmp_ge (tgt := 149) hx hb dX8_init_127 (by decide) (fun _ => ?_) (fun h => absurd (by decide) h)
  have hP9 := hP.sub (ws' := [(h0, .inr (7, [.ref q1, .int 1, .ref q3, .int 0, .int 0, .ref q5, .int 0, .ref q7, .int 0, .ref q9, .int 0, .int 0, .ref q11, .int 0, .int 0])), (q1, .inl (cA2, 16, .inr (.inr (.inr (.inr (va_up (fun _ => none) 0 (some q13))))))), (q3, .inl (cA4, 40, .inr (.inr (.inr (.inr (fun _ => none)))))), (q5, .inl (cA6, 60, .inr (.inr (.inr (.inr (fun _ => none)))))), (q7, .inl (cA8, 124, .inr (.inr (.inr (.inr (fun _ => none)))))), (q9, .inl (cA10, 3, .inr (.inr (.inr (.inr (va_up (va_up (va_up (fun _ => none) 0 (some q15)) 1 (some q17)) 2 (some q19))))))), (q11, .inr (6, [.int 0, .long 0])), (q13, .inr (0, [.int 0, .null, .int 0, .null, .int 0, .int 0, .int 1, .int 1, .int 0, .int 0, .int 0, .int 0])), (q15, .inr (6, [.int 0, .long 0])), (q17, .inr (6, [.int 0, .long 0])), (q19, .inr (6, [.int 0, .long 0]))]) [0, 1, 2, 3, 4, 5, 6, 7, 8, 9, 10] rfl
  have hD9 := hD.sub (ws' := [(h0, .inr (7, [.ref q1, .int 1, .ref q3, .int 0, .int 0, .ref q5, .int 0, .ref q7, .int 0, .ref q9, .int 0, .int 0, .ref q11, .int 0, .int 0])), (q1, .inl (cA2, 16, .inr (.inr (.inr (.inr (va_up (fun _ => none) 0 (some q13))))))), (q3, .inl (cA4, 40, .inr (.inr (.inr (.inr (fun _ => none)))))), (q5, .inl (cA6, 60, .inr (.inr (.inr (.inr (fun _ => none)))))), (q7, .inl (cA8, 124, .inr (.inr (.inr (.inr (fun _ => none)))))), (q9, .inl (cA10, 3, .inr (.inr (.inr (.inr (va_up (va_up (va_up (fun _ => none) 0 (some q15)) 1 (some q17)) 2 (some q19))))))), (q11, .inr (6, [.int 0, .long 0])), (q13, .inr (0, [.int 0, .null, .int 0, .null, .int 0, .int 0, .int 1, .int 1, .int 0, .int 0, .int 0, .int 0])), (q15, .inr (6, [.int 0, .long 0])), (q17, .inr (6, [.int 0, .long 0])), (q19, .inr (6, [.int 0, .long 0]))]) [0, 1, 2, 3, 4, 5, 6, 7, 8, 9, 10] (by decide) rfl
  have hK9 := hK.sub (tys' := [(cA2, .object "ReflectModels$ClassModel"), (cA4, .object "ReflectModels$Member"), (cA6, .object "ReflectModels$Handle"), (cA8, .object "ReflectModels$Thing"), (cA10, .object "ReflectModels$Value")]) [0, 1, 2, 3, 4] rfl
  exact W.vret hx hb hr (fun t ht hW => ⟨⟨none, rfl, _, _, ⟨rfl, fun k => [q1, q3, q5, q7, q9, q11, q13, q15, q17, q19].getD k 0, fun k => [cA2, cA4, cA6, cA8, cA10].getD k cA2, rfl, rfl⟩, by rw [ht]; exact hP9, va_K.moved hW.alike hK9, hD9⟩, hS.F ht⟩) hS.2.2 dX8_init_149

set_option maxHeartbeats 4000000 in
set_option maxRecDepth 100000 in
theorem c8_mayHaveAbove (l : Launch) (dC : Nat → ClassId) (dI : Nat → Nat → Nat) (r1 : Nat) (a0 : Int32) (sz : Nat)  : Met l yX8_mayHaveAbove wsX8_mayHaveAbove ({ frames := 0, cells := 0, slots := 0, locals := 0 }) (va_Pc [.int a0, .ref r1] (pz (dC, dI) [] [(r1, .inr (0, [.int 0, .null, .int 0, .null, .int 0, .int 0, .int 1, .int 1, .int 0, .int 0, .int 0, .int 0]))] sz)) (qR (fun v => (v = some (.int 1)))) 0 0 nA := by
  refine Met.ofW (cc := cX8_mayHaveAbove) (maxL := 2) (ret := (some .boolean)) (by decide) rfl ?_
  intro p e s m args below meth c s₁ B hml hv
  obtain ⟨rfl, hsz, hP, hK, hD, hN⟩ := hv
  have hx := B.exec
  have hb := B.bytes
  have hr := B.returns
  have hts := atoms_spec (ws := wsX8_mayHaveAbove) B.pre
  have hown : s.vm.findClass RX8 = some m.cls := findClass_of_methodNamed B.named
  have hlocks := B.notSynchronized
  subst hsz
  have hS : va_S nA s.heap s.heap [] := va_S.rf
  have hl := lv_entry ([.int a0, .ref r1]) (n := 2) (Nat.le_of_ble_eq_true rfl)
  rw [lg_entry_eq]
  generalize (lg_sl ([.int a0, .ref r1]) ++ List.replicate (2 - (lg_sl ([.int a0, .ref r1])).length) Slot.unset).toArray = ls at hl ⊢
  have hl : lv_has ls 2 [(0, .int a0), (1, .ref r1)] := hl
  refine lv_aload_n hx hb dX8_mayHaveAbove_0 rfl (lv_at hl 1 rfl) ?_
  refine va_getN (host := "ReflectModels") (D := (dC, dI)) (own := RX8) (ref := "ReflectModels$ClassModel") (index := 86) (ci := 0) (v := .int 0) (C := RX0) (T := TX0) (N := 12) hx hb hts inX8_mayHaveAbove_0 hown hK hP 0 rfl rfl 2 (by decide) (va_Nw.use rfl (hN _ (List.mem_of_getElem? (i := 12) rfl))) (fun _ h9 => h9) rfl dX8_mayHaveAbove_1 ?_
  refine lv_iconst (v := 3) hx hb dX8_mayHaveAbove_4 (by decide) ?_
  refine lv_icmp_eq (tgt := 16) hx hb dX8_mayHaveAbove_5 (by decide) (fun h => absurd h (by decide)) (fun _ => ?_)
  refine lv_aload_n hx hb dX8_mayHaveAbove_8 rfl (lv_at hl 1 rfl) ?_
  refine va_getN (host := "ReflectModels") (D := (dC, dI)) (own := RX8) (ref := "ReflectModels$ClassModel") (index := 86) (ci := 0) (v := .int 0) (C := RX0) (T := TX0) (N := 12) hx hb hts inX8_mayHaveAbove_0 hown hK hP 0 rfl rfl 2 (by decide) (va_Nw.use rfl (hN _ (List.mem_of_getElem? (i := 12) rfl))) (fun _ h9 => h9) rfl dX8_mayHaveAbove_9 ?_
  refine lv_iconst (v := 4) hx hb dX8_mayHaveAbove_12 (by decide) ?_
  refine lv_icmp_ne (tgt := 18) hx hb dX8_mayHaveAbove_13 (by decide) (fun _ => ?_) (fun h => absurd h (by decide))
  refine lv_iload_n hx hb dX8_mayHaveAbove_18 rfl (lv_at hl 0 rfl) ?_
  refine lv_if_eq (tgt := 27) hx hb dX8_mayHaveAbove_19 (by decide) (fun c1 => ?_) (fun c1 => ?_)
  · have ic1 : a0.toInt = 0 := ieq2 rfl (by decide) c1
    refine lv_iconst (v := 1) hx hb dX8_mayHaveAbove_27 (by decide) ?_
    exact W.zret (v := 1) (ty := .boolean) hx hb hr rfl (fun t ht hW => ⟨⟨(some (.int 1)), rfl, (by first | exact rfl)⟩, hS.F ht⟩) hS.2.2 dX8_mayHaveAbove_28
  · have ic1 : a0.toInt ≠ 0 := ine2 rfl (by decide) c1
    refine lv_iload_n hx hb dX8_mayHaveAbove_22 rfl (lv_at hl 0 rfl) ?_
    refine lv_iconst (v := 1) hx hb dX8_mayHaveAbove_23 (by decide) ?_
    refine lv_icmp_ne (tgt := 29) hx hb dX8_mayHaveAbove_24 (by decide) (fun c2 => ?_) (fun c2 => ?_)
    · have ic2 : a0.toInt ≠ 1 := ine2 rfl (by decide) c2
      refine lv_aload_n hx hb dX8_mayHaveAbove_29 rfl (lv_at hl 1 rfl) ?_
      refine va_getN (host := "ReflectModels") (D := (dC, dI)) (own := RX8) (ref := "ReflectModels$ClassModel") (index := 180) (ci := 0) (v := .int 0) (C := RX0) (T := TX0) (N := 12) hx hb hts inX8_mayHaveAbove_0 hown hK hP 0 rfl rfl 0 (by decide) (va_Nw.use rfl (hN _ (List.mem_of_getElem? (i := 10) rfl))) (fun _ h9 => h9) rfl dX8_mayHaveAbove_30 ?_
      refine lv_if_eq (tgt := 49) hx hb dX8_mayHaveAbove_33 (by decide) (fun _ => ?_) (fun h => absurd (by decide) h)
      refine lv_iconst (v := 1) hx hb dX8_mayHaveAbove_49 (by decide) ?_
      refine lv_goto (tgt := 54) hx hb dX8_mayHaveAbove_50 (by decide) ?_
      exact W.zret (v := 1) (ty := .boolean) hx hb hr rfl (fun t ht hW => ⟨⟨(some (.int 1)), rfl, (by first | exact rfl)⟩, hS.F ht⟩) hS.2.2 dX8_mayHaveAbove_54
    · have ic2 : a0.toInt = 1 := ieq2 rfl (by decide) c2
      refine lv_iconst (v := 1) hx hb dX8_mayHaveAbove_27 (by decide) ?_
      exact W.zret (v := 1) (ty := .boolean) hx hb hr rfl (fun t ht hW => ⟨⟨(some (.int 1)), rfl, (by first | exact rfl)⟩, hS.F ht⟩) hS.2.2 dX8_mayHaveAbove_28

set_option maxHeartbeats 4000000 in
set_option maxRecDepth 100000 in
theorem c8_mayActAs0 (l : Launch) (dC : Nat → ClassId) (dI : Nat → Nat → Nat) (a0 : Int32) (sz : Nat)  : Met l yX8_mayActAs wsX8_mayActAs ({ frames := 0, cells := 0, slots := 0, locals := 0 }) (va_Pc [.int a0, .null] (pz (dC, dI) [] [] sz)) (qR (fun v => (v = some (.int 1)))) 0 0 nA := by
  refine Met.ofW (cc := cX8_mayActAs) (maxL := 2) (ret := (some .boolean)) (by decide) rfl ?_
  intro p e s m args below meth c s₁ B hml hv
  obtain ⟨rfl, hsz, hP, hK, hD, hN⟩ := hv
  have hx := B.exec
  have hb := B.bytes
  have hr := B.returns
  have hts := atoms_spec (ws := wsX8_mayActAs) B.pre
  have hown : s.vm.findClass RX8 = some m.cls := findClass_of_methodNamed B.named
  have hlocks := B.notSynchronized
  subst hsz
  have hS : va_S nA s.heap s.heap [] := va_S.rf
  have hl := lv_entry ([.int a0, .null]) (n := 2) (Nat.le_of_ble_eq_true rfl)
  rw [lg_entry_eq]
  generalize (lg_sl ([.int a0, .null]) ++ List.replicate (2 - (lg_sl ([.int a0, .null])).length) Slot.unset).toArray = ls at hl ⊢
  have hl : lv_has ls 2 [(0, .int a0), (1, .null)] := hl
  refine lv_aload_nN hx hb dX8_mayActAs_0 rfl (lv_at hl 1 rfl) ?_
  refine lv_ifnullN (tgt := 17) hx hb dX8_mayActAs_1 (by decide) ?_
  refine lv_iconst (v := 1) hx hb dX8_mayActAs_17 (by decide) ?_
  refine lv_goto (tgt := 22) hx hb dX8_mayActAs_18 (by decide) ?_
  exact W.zret (v := 1) (ty := .boolean) hx hb hr rfl (fun t ht hW => ⟨⟨(some (.int 1)), rfl, (by first | exact rfl)⟩, hS.F ht⟩) hS.2.2 dX8_mayActAs_22

set_option maxHeartbeats 4000000 in
set_option maxRecDepth 100000 in
theorem c8_mayActAs1 (l : Launch) (dC : Nat → ClassId) (dI : Nat → Nat → Nat) (r1 : Nat) (a0 : Int32) (sz : Nat)  : Met l yX8_mayActAs wsX8_mayActAs ({ frames := 0, cells := 0, slots := 0, locals := 0 }) (va_Pc [.int a0, .ref r1] (pz (dC, dI) [] [(r1, .inr (0, [.int 0, .null, .int 0, .null, .int 0, .int 0, .int 1, .int 1, .int 0, .int 0, .int 0, .int 0]))] sz)) (qR (fun v => (v = some (.int 0)))) 0 0 nA := by
  refine Met.ofW (cc := cX8_mayActAs) (maxL := 2) (ret := (some .boolean)) (by decide) rfl ?_
  intro p e s m args below meth c s₁ B hml hv
  obtain ⟨rfl, hsz, hP, hK, hD, hN⟩ := hv
  have hx := B.exec
  have hb := B.bytes
  have hr := B.returns
  have hts := atoms_spec (ws := wsX8_mayActAs) B.pre
  have hown : s.vm.findClass RX8 = some m.cls := findClass_of_methodNamed B.named
  have hlocks := B.notSynchronized
  subst hsz
  have hS : va_S nA s.heap s.heap [] := va_S.rf
  have hl := lv_entry ([.int a0, .ref r1]) (n := 2) (Nat.le_of_ble_eq_true rfl)
  rw [lg_entry_eq]
  generalize (lg_sl ([.int a0, .ref r1]) ++ List.replicate (2 - (lg_sl ([.int a0, .ref r1])).length) Slot.unset).toArray = ls at hl ⊢
  have hl : lv_has ls 2 [(0, .int a0), (1, .ref r1)] := hl
  refine lv_aload_n hx hb dX8_mayActAs_0 rfl (lv_at hl 1 rfl) ?_
  refine lv_ifnull hx hb dX8_mayActAs_1 ?_
  refine lv_iload_n hx hb dX8_mayActAs_4 rfl (lv_at hl 0 rfl) ?_
  refine lv_iconst (v := 2) hx hb dX8_mayActAs_5 (by decide) ?_
  refine lv_icmp_eq (tgt := 21) hx hb dX8_mayActAs_6 (by decide) (fun c1 => ?_) (fun c1 => ?_)
  · have ic1 : a0.toInt = 2 := ieq2 rfl (by decide) c1
    refine lv_iconst (v := 0) hx hb dX8_mayActAs_21 (by decide) ?_
    exact W.zret (v := 0) (ty := .boolean) hx hb hr rfl (fun t ht hW => ⟨⟨(some (.int 0)), rfl, (by first | exact rfl)⟩, hS.F ht⟩) hS.2.2 dX8_mayActAs_22
  · have ic1 : a0.toInt ≠ 2 := ine2 rfl (by decide) c1
    refine lv_aload_n hx hb dX8_mayActAs_9 rfl (lv_at hl 1 rfl) ?_
    refine va_getN (host := "ReflectModels") (D := (dC, dI)) (own := RX8) (ref := "ReflectModels$ClassModel") (index := 86) (ci := 0) (v := .int 0) (C := RX0) (T := TX0) (N := 12) hx hb hts inX8_mayActAs_0 hown hK hP 0 rfl rfl 2 (by decide) (va_Nw.use rfl (hN _ (List.mem_of_getElem? (i := 12) rfl))) (fun _ h9 => h9) rfl dX8_mayActAs_10 ?_
    refine lv_iconst (v := 2) hx hb dX8_mayActAs_13 (by decide) ?_
    refine lv_icmp_ne (tgt := 21) hx hb dX8_mayActAs_14 (by decide) (fun _ => ?_) (fun h => absurd h (by decide))
    refine lv_iconst (v := 0) hx hb dX8_mayActAs_21 (by decide) ?_
    exact W.zret (v := 0) (ty := .boolean) hx hb hr rfl (fun t ht hW => ⟨⟨(some (.int 0)), rfl, (by first | exact rfl)⟩, hS.F ht⟩) hS.2.2 dX8_mayActAs_22

set_option maxHeartbeats 4000000 in
set_option maxRecDepth 100000 in
/-- type on a fresh object -/
theorem c8_type (l : Launch) (dC : Nat → ClassId) (dI : Nat → Nat → Nat) (h0 : Nat) (q : Nat → Nat) (cA : Nat → ClassId) (a1 a2 a3 a4 a5 : Int32) (sz : Nat) (h4 : a4 = 0 ∨ a4 = 1) (h5 : a5 = 0 ∨ a5 = 1) : Met l yX8_type wsX8_type ({ frames := 2, cells := 1, slots := 12, locals := 39 }) (va_Pc [.ref h0, .int a1, .int a2, .int a3, .int a4, .int a5] (pz (dC, dI) [((cA 0), .object "ReflectModels$ClassModel"), ((cA 1), .object "ReflectModels$Member"), ((cA 2), .object "ReflectModels$Handle"), ((cA 3), .object "ReflectModels$Thing"), ((cA 4), .object "ReflectModels$Value")] [(h0, .inr (7, [.ref (q 0), .int 1, .ref (q 1), .int 0, .int 0, .ref (q 2), .int 0, .ref (q 3), .int 0, .ref (q 4), .int 0, .int 0, .ref (q 5), .int 0, .int 0])), ((q 0), .inl ((cA 0), 16, .inr (.inr (.inr (.inr (va_up (fun _ => none) 0 (some (q 6)))))))), ((q 1), .inl ((cA 1), 40, .inr (.inr (.inr (.inr (fun _ => none)))))), ((q 2), .inl ((cA 2), 60, .inr (.inr (.inr (.inr (fun _ => none)))))), ((q 3), .inl ((cA 3), 124, .inr (.inr (.inr (.inr (fun _ => none)))))), ((q 4), .inl ((cA 4), 3, .inr (.inr (.inr (.inr (va_up (va_up (va_up (fun _ => none) 0 (some (q 7))) 1 (some (q 8))) 2 (some (q 9)))))))), ((q 5), .inr (6, [.int 0, .long 0])), ((q 6), .inr (0, [.int 0, .null, .int 0, .null, .int 0, .int 0, .int 1, .int 1, .int 0, .int 0, .int 0, .int 0])), ((q 7), .inr (6, [.int 0, .long 0])), ((q 8), .inr (6, [.int 0, .long 0])), ((q 9), .inr (6, [.int 0, .long 0]))] sz)) (qW (dC, dI) (fun v w1 ty1 => v = some (.int (an_type a1.toInt a2.toInt a3.toInt)) ∧ w1 = [] ∧ ty1 = []) (va_A [(h0, .inr (7, [.ref (q 0), .int 1, .ref (q 1), .int 0, .int 0, .ref (q 2), .int 0, .ref (q 3), .int 0, .ref (q 4), .int 0, .int 0, .ref (q 5), .int 0, .int 0])), ((q 0), .inl ((cA 0), 16, .inr (.inr (.inr (.inr (va_up (fun _ => none) 0 (some (q 6)))))))), ((q 1), .inl ((cA 1), 40, .inr (.inr (.inr (.inr (fun _ => none)))))), ((q 2), .inl ((cA 2), 60, .inr (.inr (.inr (.inr (fun _ => none)))))), ((q 3), .inl ((cA 3), 124, .inr (.inr (.inr (.inr (fun _ => none)))))), ((q 4), .inl ((cA 4), 3, .inr (.inr (.inr (.inr (va_up (va_up (va_up (fun _ => none) 0 (some (q 7))) 1 (some (q 8))) 2 (some (q 9)))))))), ((q 5), .inr (6, [.int 0, .long 0])), ((q 6), .inr (0, [.int 0, .null, .int 0, .null, .int 0, .int 0, .int 1, .int 1, .int 0, .int 0, .int 0, .int 0])), ((q 7), .inr (6, [.int 0, .long 0])), ((q 8), .inr (6, [.int 0, .long 0])), ((q 9), .inr (6, [.int 0, .long 0]))] sz)) 1 12 (va_A [(h0, .inr (7, [.ref (q 0), .int 1, .ref (q 1), .int 0, .int 0, .ref (q 2), .int 0, .ref (q 3), .int 0, .ref (q 4), .int 0, .int 0, .ref (q 5), .int 0, .int 0])), ((q 0), .inl ((cA 0), 16, .inr (.inr (.inr (.inr (va_up (fun _ => none) 0 (some (q 6)))))))), ((q 1), .inl ((cA 1), 40, .inr (.inr (.inr (.inr (fun _ => none)))))), ((q 2), .inl ((cA 2), 60, .inr (.inr (.inr (.inr (fun _ => none)))))), ((q 3), .inl ((cA 3), 124, .inr (.inr (.inr (.inr (fun _ => none)))))), ((q 4), .inl ((cA 4), 3, .inr (.inr (.inr (.inr (va_up (va_up (va_up (fun _ => none) 0 (some (q 7))) 1 (some (q 8))) 2 (some (q 9)))))))), ((q 5), .inr (6, [.int 0, .long 0])), ((q 6), .inr (0, [.int 0, .null, .int 0, .null, .int 0, .int 0, .int 1, .int 1, .int 0, .int 0, .int 0, .int 0])), ((q 7), .inr (6, [.int 0, .long 0])), ((q 8), .inr (6, [.int 0, .long 0])), ((q 9), .inr (6, [.int 0, .long 0]))] sz) := by
  refine Met.ofW (cc := cX8_type) (maxL := 7) (ret := (some .int)) (by decide) rfl ?_
  intro p e s m args below meth c s₁ B hml hv
  obtain ⟨rfl, hsz, hP, hK, hD, hN⟩ := hv
  have hx := B.exec
  have hb := B.bytes
  have hr := B.returns
  have hts := atoms_spec (ws := wsX8_type) B.pre
  have hown : s.vm.findClass RX8 = some m.cls := findClass_of_methodNamed B.named
  have hlocks := B.notSynchronized
  subst hsz
  have hD := hD.self (sz := s.heap.size)
  generalize hAe : va_A [(h0, .inr (7, [.ref (q 0), .int 1, .ref (q 1), .int 0, .int 0, .ref (q 2), .int 0, .ref (q 3), .int 0, .ref (q 4), .int 0, .int 0, .ref (q 5), .int 0, .int 0])), ((q 0), .inl ((cA 0), 16, .inr (.inr (.inr (.inr (va_up (fun _ => none) 0 (some (q 6)))))))), ((q 1), .inl ((cA 1), 40, .inr (.inr (.inr (.inr (fun _ => none)))))), ((q 2), .inl ((cA 2), 60, .inr (.inr (.inr (.inr (fun _ => none)))))), ((q 3), .inl ((cA 3), 124, .inr (.inr (.inr (.inr (fun _ => none)))))), ((q 4), .inl ((cA 4), 3, .inr (.inr (.inr (.inr (va_up (va_up (va_up (fun _ => none) 0 (some (q 7))) 1 (some (q 8))) 2 (some (q 9)))))))), ((q 5), .inr (6, [.int 0, .long 0])), ((q 6), .inr (0, [.int 0, .null, .int 0, .null, .int 0, .int 0, .int 1, .int 1, .int 0, .int 0, .int 0, .int 0])), ((q 7), .inr (6, [.int 0, .long 0])), ((q 8), .inr (6, [.int 0, .long 0])), ((q 9), .inr (6, [.int 0, .long 0]))] s.heap.size = A at hD ⊢
  have hA : ∀ q : Nat, s.heap.size ≤ q → A q := fun q h => by rw [← hAe]; exact Or.inr h
  have hS : va_S A s.heap s.heap [] := va_S.rf
  have hl := lv_entry ([.ref h0, .int a1, .int a2, .int a3, .int a4, .int a5]) (n := 7) (Nat.le_of_ble_eq_true rfl)
  rw [lg_entry_eq]
  generalize (lg_sl ([.ref h0, .int a1, .int a2, .int a3, .int a4, .int a5]) ++ List.replicate (7 - (lg_sl ([.ref h0, .int a1, .int a2, .int a3, .int a4, .int a5])).length) Slot.unset).toArray = ls at hl ⊢
  have hl : lv_has ls 7 [(0, .ref h0), (1, .int a1), (2, .int a2), (3, .int a3), (4, .int a4), (5, .int a5)] := hl
  refine lv_aload_n hx hb dX8_type_0 rfl (lv_at hl 0 rfl) ?_
  refine lv_iload_n hx hb dX8_type_1 rfl (lv_at hl 1 rfl) ?_
  refine clR (va_runV (As := [.int a1]) (rest := []) ⟨hx, hb, hml, hown, hts⟩ (c8_isClass l dC dI h0 q a1 _) (cwV 1 hts gX8_type_X8_isClass rfl rfl rfl (by decide +kernel) ⟨Nat.le_of_ble_eq_true rfl, Nat.le_of_ble_eq_true rfl⟩) ⟨pz_blind, va_recv hK hP (ci := 7) (q0 := 0) rfl rfl, pz_of hP hK hD hN [0] [] rfl (by decide) rfl⟩ rfl rfl hl.1 rfl (lv_room (Nat.le_of_ble_eq_true rfl)) dX8_type_2 ⟨Nat.le_of_ble_eq_true rfl, Nat.le_of_ble_eq_true rfl⟩) hS hP (fun v H locs w2 hP hS => ?_)
  rcases w2 with ⟨rfl, rfl⟩ | ⟨rfl, u1⟩
  · refine W.eq (g2 := F0 m 5 ls [.int 1]) rfl ?_
    refine lv_if_eq (tgt := 21) hx hb dX8_type_5 (by decide) (fun h => absurd h (by decide)) (fun _ => ?_)
    refine lv_iload_n hx hb dX8_type_8 rfl (lv_at hl 3 rfl) ?_
    refine lv_iconst (v := (-1)) hx hb dX8_type_9 (by decide) ?_
    refine lv_icmp_eq (tgt := 24) hx hb dX8_type_10 (by decide) (fun c3 => ?_) (fun c3 => ?_)
    · have ic3 : a3.toInt = (-1) := ieq2 rfl (by decide) c3
      refine lv_iload_n hx hb dX8_type_24 rfl (lv_at hl 2 rfl) ?_
      refine lv_if_lt (tgt := 33) hx hb dX8_type_25 (by decide) (fun c4 => ?_) (fun c4 => ?_)
      · have ic4 : a2.toInt < 0 := il2 rfl (by decide) c4
        refine lv_bipush (v := (-3)) hx hb dX8_type_33 (by decide) ?_
        refine W.widen (k := 1) (n := 12) (by omega) (by omega) ?_
        have hP9 := hP.sub (ws' := []) [] rfl
        have hD9 := hD.sub (ws' := []) [] (by decide) rfl
        have hK9 := hK.sub (tys' := []) [] rfl
        exact W.zret (v := (-3)) (ty := .int) hx hb hr rfl (fun t ht hW => ⟨⟨(some (.int (-3))), rfl, _, _, ⟨congrArg (fun z => some (Value.int z)) (by unfold an_type; (repeat' split) <;> first | rfl | (exfalso; first | omega | (have kq := kz; omega))), rfl, rfl⟩, by rw [ht]; exact hP9, va_K.moved hW.alike hK9, hD9⟩, hS.F ht⟩) hS.2.2 dX8_type_35
      · have ic4 : 0 ≤ a2.toInt := inl2 rfl (by decide) c4
        refine lv_iload_n hx hb dX8_type_28 rfl (lv_at hl 2 rfl) ?_
        refine lv_iconst (v := 4) hx hb dX8_type_29 (by decide) ?_
        refine lv_icmp_le (tgt := 36) hx hb dX8_type_30 (by decide) (fun c5 => ?_) (fun c5 => ?_)
        · have ic5 : a2.toInt ≤ 4 := ile2 rfl (by decide) c5
          refine lv_iload_n hx hb dX8_type_36 rfl (lv_at hl 3 rfl) ?_
          refine lv_iconst (v := (-1)) hx hb dX8_type_37 (by decide) ?_
          refine lv_icmp_ne (tgt := 45) hx hb dX8_type_38 (by decide) (fun c6 => ?_) (fun c6 => ?_)
          · have ic6 : a3.toInt ≠ (-1) := ine2 rfl (by decide) c6
            exfalso; first | omega | (have kq := kz; omega)
          · have ic6 : a3.toInt = (-1) := ieq2 rfl (by decide) c6
            refine lv_null hx hb dX8_type_41 ?_
            refine lv_goto (tgt := 51) hx hb dX8_type_42 (by decide) ?_
            refine lv_astoreN (lv' := [(6, .null), (0, .ref h0), (1, .int 0), (2, .int a2), (3, .int a3), (4, .int a4), (5, .int a5)]) hx hb dX8_type_51 hl (by decide) rfl (fun ls hl => ?_)
            refine lv_iload_n hx hb dX8_type_53 rfl (lv_at hl 3 rfl) ?_
            refine lv_aload_n hx hb dX8_type_54 rfl (lv_at hl 1 rfl) ?_
            refine va_get (D := (dC, dI)) (own := RX8) (ref := "ReflectModels") (index := 11) (ci := 7) (v := .ref (q 0)) (C := RX8) (T := TX8) (N := 15) hx hb hts inX8_type_8 hown hK hP 0 rfl rfl 0 (by decide) (hts (.fieldLink RX8 11 "ReflectModels" "classes" "[LReflectModels$ClassModel;") (by decide +kernel)) (fun _ h9 => h9) rfl dX8_type_55 ?_
            refine lv_iload_n hx hb dX8_type_58 rfl (lv_at hl 2 rfl) ?_
            refine va_aldq hx hb hK hP 1 0 rfl rfl (vp_in_iff.mpr ⟨by decide, by decide⟩) dX8_type_59 ?_
            refine W.eq (g2 := F0 m 60 ls [.ref (q 6), .int a2]) rfl ?_
            refine clR (va_runS (As := [.int a2, .ref (q 6)]) (rest := []) ⟨hx, hb, hml, hown, hts⟩ (c8_mayHaveAbove l dC dI (q 6) a2 _) (va_cwS 2 hts gX8_type_X8_mayHaveAbove rfl rfl rfl (by decide +kernel) ⟨Nat.le_of_ble_eq_true rfl, Nat.le_of_ble_eq_true rfl⟩) ⟨pz_blind, pz_of hP hK hD hN [7] [] rfl (by decide) rfl⟩ rfl rfl hl.1 rfl (lv_room (Nat.le_of_ble_eq_true rfl)) dX8_type_60 ⟨Nat.le_of_ble_eq_true rfl, Nat.le_of_ble_eq_true rfl⟩) hS hP (fun v H locs w7 hP hS => ?_)
            obtain rfl := w7
            refine W.eq (g2 := F0 m 63 ls [.int 1]) rfl ?_
            refine lv_if_eq (tgt := 75) hx hb dX8_type_63 (by decide) (fun h => absurd h (by decide)) (fun _ => ?_)
            refine lv_iload_n hx hb dX8_type_66 rfl (lv_at hl 3 rfl) ?_
            refine lv_aloadN hx hb dX8_type_67 (lv_at hl 0 rfl) ?_
            refine clR (va_runS (As := [.int a2, .null]) (rest := []) ⟨hx, hb, hml, hown, hts⟩ (c8_mayActAs0 l dC dI a2 _) (va_cwS 2 hts gX8_type_X8_mayActAs rfl rfl rfl (by decide +kernel) ⟨Nat.le_of_ble_eq_true rfl, Nat.le_of_ble_eq_true rfl⟩) ⟨pz_blind, pz_of hP hK hD hN [] [] rfl (by decide) rfl⟩ rfl rfl hl.1 rfl (lv_room (Nat.le_of_ble_eq_true rfl)) dX8_type_69 ⟨Nat.le_of_ble_eq_true rfl, Nat.le_of_ble_eq_true rfl⟩) hS hP (fun v H locs w8 hP hS => ?_)
            obtain rfl := w8
            refine W.eq (g2 := F0 m 72 ls [.int 1]) rfl ?_
            refine lv_if_ne (tgt := 78) hx hb dX8_type_72 (by decide) (fun _ => ?_) (fun h => absurd h (by decide))
            refine lv_aload_n hx hb dX8_type_78 rfl (lv_at hl 1 rfl) ?_
            refine va_get (D := (dC, dI)) (own := RX8) (ref := "ReflectModels") (index := 15) (ci := 7) (v := .int 1) (C := RX8) (T := TX8) (N := 15) hx hb hts inX8_type_8 hown hK hP 0 rfl rfl 1 (by decide) (hts (.fieldLink RX8 15 "ReflectModels" "classCount" "I") (by decide +kernel)) (fun _ h9 => h9) rfl dX8_type_79 ?_
            refine lv_bipush (v := 16) hx hb dX8_type_82 (by decide) ?_
            refine lv_icmp_lt (tgt := 90) hx hb dX8_type_84 (by decide) (fun _ => ?_) (fun h => absurd (by decide) h)
            refine lv_aload_n hx hb dX8_type_90 rfl (lv_at hl 1 rfl) ?_
            refine va_get (D := (dC, dI)) (own := RX8) (ref := "ReflectModels") (index := 11) (ci := 7) (v := .ref (q 0)) (C := RX8) (T := TX8) (N := 15) hx hb hts inX8_type_8 hown hK hP 0 rfl rfl 0 (by decide) (hts (.fieldLink RX8 11 "ReflectModels" "classes" "[LReflectModels$ClassModel;") (by decide +kernel)) (fun _ h9 => h9) rfl dX8_type_91 ?_
            refine lv_aload_n hx hb dX8_type_94 rfl (lv_at hl 1 rfl) ?_
            refine va_get (D := (dC, dI)) (own := RX8) (ref := "ReflectModels") (index := 15) (ci := 7) (v := .int 1) (C := RX8) (T := TX8) (N := 15) hx hb hts inX8_type_8 hown hK hP 0 rfl rfl 1 (by decide) (hts (.fieldLink RX8 15 "ReflectModels" "classCount" "I") (by decide +kernel)) (fun _ h9 => h9) rfl dX8_type_95 ?_
            refine va_new (ci := 0) (fs := [.int 0, .null, .int 0, .null, .int 0, .int 0, .int 0, .int 0, .int 0, .int 0, .int 0, .int 0]) (C := RX0) (T := TX0) (N := 12) hx hb hts inX8_type_0 tyX0 tyX0_ok hown (hts (.classLink RX8 9 RX0) (by decide +kernel)) (hts (.instantiable RX0 12) (by decide +kernel)) (hts (.initialized RX0) (by decide +kernel)) hK hP hD hS hA rfl df_X0 (Nat.le_of_ble_eq_true rfl) (Nat.le_of_ble_eq_true rfl) dX8_type_98 (fun q9 H hP hD hS => ?_)
            have hP : va_P (dC, dI) vwCl [(h0, .inr (7, [.ref (q 0), .int 1, .ref (q 1), .int 0, .int 0, .ref (q 2), .int 0, .ref (q 3), .int 0, .ref (q 4), .int 0, .int 0, .ref (q 5), .int 0, .int 0])), ((q 0), .inl ((cA 0), 16, .inr (.inr (.inr (.inr (va_up (fun _ => none) 0 (some (q 6)))))))), ((q 1), .inl ((cA 1), 40, .inr (.inr (.inr (.inr (fun _ => none)))))), ((q 2), .inl ((cA 2), 60, .inr (.inr (.inr (.inr (fun _ => none)))))), ((q 3), .inl ((cA 3), 124, .inr (.inr (.inr (.inr (fun _ => none)))))), ((q 4), .inl ((cA 4), 3, .inr (.inr (.inr (.inr (va_up (va_up (va_up (fun _ => none) 0 (some (q 7))) 1 (some (q 8))) 2 (some (q 9)))))))), ((q 5), .inr (6, [.int 0, .long 0])), ((q 6), .inr (0, [.int 0, .null, .int 0, .null, .int 0, .int 0, .int 1, .int 1, .int 0, .int 0, .int 0, .int 0])), ((q 7), .inr (6, [.int 0, .long 0])), ((q 8), .inr (6, [.int 0, .long 0])), ((q 9), .inr (6, [.int 0, .long 0])), (q9, .inr (0, [.int 0, .null, .int 0, .null, .int 0, .int 0, .int 0, .int 0, .int 0, .int 0, .int 0, .int 0]))] H := hP
            have hD : va_D A [(h0, .inr (7, [.ref (q 0), .int 1, .ref (q 1), .int 0, .int 0, .ref (q 2), .int 0, .ref (q 3), .int 0, .ref (q 4), .int 0, .int 0, .ref (q 5), .int 0, .int 0])), ((q 0), .inl ((cA 0), 16, .inr (.inr (.inr (.inr (va_up (fun _ => none) 0 (some (q 6)))))))), ((q 1), .inl ((cA 1), 40, .inr (.inr (.inr (.inr (fun _ => none)))))), ((q 2), .inl ((cA 2), 60, .inr (.inr (.inr (.inr (fun _ => none)))))), ((q 3), .inl ((cA 3), 124, .inr (.inr (.inr (.inr (fun _ => none)))))), ((q 4), .inl ((cA 4), 3, .inr (.inr (.inr (.inr (va_up (va_up (va_up (fun _ => none) 0 (some (q 7))) 1 (some (q 8))) 2 (some (q 9)))))))), ((q 5), .inr (6, [.int 0, .long 0])), ((q 6), .inr (0, [.int 0, .null, .int 0, .null, .int 0, .int 0, .int 1, .int 1, .int 0, .int 0, .int 0, .int 0])), ((q 7), .inr (6, [.int 0, .long 0])), ((q 8), .inr (6, [.int 0, .long 0])), ((q 9), .inr (6, [.int 0, .long 0])), (q9, .inr (0, [.int 0, .null, .int 0, .null, .int 0, .int 0, .int 0, .int 0, .int 0, .int 0, .int 0, .int 0]))] := hD
            refine W.cs (cells' := 1) (slots' := 12) rfl rfl ?_
            refine lv_dup hx hb dX8_type_101 rfl ?_
            refine lv_aload_n hx hb dX8_type_102 rfl (lv_at hl 1 rfl) ?_
            refine va_get (D := (dC, dI)) (own := RX8) (ref := "ReflectModels") (index := 15) (ci := 7) (v := .int 1) (C := RX8) (T := TX8) (N := 15) hx hb hts inX8_type_8 hown hK hP 0 rfl rfl 1 (by decide) (hts (.fieldLink RX8 15 "ReflectModels" "classCount" "I") (by decide +kernel)) (fun _ h9 => h9) rfl dX8_type_103 ?_
            refine lv_aload_n hx hb dX8_type_106 rfl (lv_at hl 1 rfl) ?_
            refine va_get (D := (dC, dI)) (own := RX8) (ref := "ReflectModels") (index := 11) (ci := 7) (v := .ref (q 0)) (C := RX8) (T := TX8) (N := 15) hx hb hts inX8_type_8 hown hK hP 0 rfl rfl 0 (by decide) (hts (.fieldLink RX8 11 "ReflectModels" "classes" "[LReflectModels$ClassModel;") (by decide +kernel)) (fun _ h9 => h9) rfl dX8_type_107 ?_
            refine lv_iload_n hx hb dX8_type_110 rfl (lv_at hl 2 rfl) ?_
            refine va_aldq hx hb hK hP 1 0 rfl rfl (vp_in_iff.mpr ⟨by decide, by decide⟩) dX8_type_111 ?_
            refine W.eq (g2 := F0 m 112 ls [.ref (q 6), .int 1, .ref q9, .ref q9, .int 1, .ref (q 0)]) rfl ?_
            refine lv_iload_n hx hb dX8_type_112 rfl (lv_at hl 3 rfl) ?_
            refine lv_aloadN hx hb dX8_type_113 (lv_at hl 0 rfl) ?_
            refine lv_iload hx hb dX8_type_115 (lv_at hl 5 rfl) ?_
            refine lv_iload hx hb dX8_type_117 (lv_at hl 6 rfl) ?_
            refine clW (wr := [(h0, .inr (7, [.ref (q 0), .int 1, .ref (q 1), .int 0, .int 0, .ref (q 2), .int 0, .ref (q 3), .int 0, .ref (q 4), .int 0, .int 0, .ref (q 5), .int 0, .int 0])), ((q 0), .inl ((cA 0), 16, .inr (.inr (.inr (.inr (va_up (fun _ => none) 0 (some (q 6)))))))), ((q 1), .inl ((cA 1), 40, .inr (.inr (.inr (.inr (fun _ => none)))))), ((q 2), .inl ((cA 2), 60, .inr (.inr (.inr (.inr (fun _ => none)))))), ((q 3), .inl ((cA 3), 124, .inr (.inr (.inr (.inr (fun _ => none)))))), ((q 4), .inl ((cA 4), 3, .inr (.inr (.inr (.inr (va_up (va_up (va_up (fun _ => none) 0 (some (q 7))) 1 (some (q 8))) 2 (some (q 9)))))))), ((q 5), .inr (6, [.int 0, .long 0])), ((q 7), .inr (6, [.int 0, .long 0])), ((q 8), .inr (6, [.int 0, .long 0])), ((q 9), .inr (6, [.int 0, .long 0]))]) [11, 7] [0, 1, 2, 3, 4, 5, 6, 8, 9, 10] (va_runIN (As := [.int 1, .ref (q 6), .int a2, .null, .int a4, .int a5]) (rest := [.ref q9, .int 1, .ref (q 0)]) ⟨hx, hb, hml, hown, hts⟩ (c0_init1 l dC dI q9 (q 6) a2 a4 a5 _ h4 h5) ⟨va_cnB 6 hts gX8_type_X0_init_n72 rfl rfl rfl (hN _ (List.mem_of_getElem? (i := 8) rfl)) (hts (.initialized RX0) (by decide +kernel)) (by decide +kernel) ⟨Nat.le_of_ble_eq_true rfl, Nat.le_of_ble_eq_true rfl⟩, rfl, hts (.instanceMethod yX0_init) (by decide +kernel)⟩ ⟨pz_blind, pz_of hP hK hD hN [11, 7] [] rfl (by decide) rfl⟩ rfl rfl hl.1 rfl (lv_room (Nat.le_of_ble_eq_true rfl)) dX8_type_119 ⟨Nat.le_of_ble_eq_true rfl, Nat.le_of_ble_eq_true rfl⟩) hS hP hD hK hA rfl rfl (by decide) (by decide) (fun v w1 ty1 H locs w10 hP hD hK hS => ?_)
            obtain ⟨rfl, rfl, rfl⟩ := w10
            refine W.eq (g2 := F0 m 122 ls [.ref q9, .int 1, .ref (q 0)]) rfl ?_
            have hP : va_P (dC, dI) vwCl [(h0, .inr (7, [.ref (q 0), .int 1, .ref (q 1), .int 0, .int 0, .ref (q 2), .int 0, .ref (q 3), .int 0, .ref (q 4), .int 0, .int 0, .ref (q 5), .int 0, .int 0])), ((q 0), .inl ((cA 0), 16, .inr (.inr (.inr (.inr (va_up (fun _ => none) 0 (some (q 6)))))))), ((q 1), .inl ((cA 1), 40, .inr (.inr (.inr (.inr (fun _ => none)))))), ((q 2), .inl ((cA 2), 60, .inr (.inr (.inr (.inr (fun _ => none)))))), ((q 3), .inl ((cA 3), 124, .inr (.inr (.inr (.inr (fun _ => none)))))), ((q 4), .inl ((cA 4), 3, .inr (.inr (.inr (.inr (va_up (va_up (va_up (fun _ => none) 0 (some (q 7))) 1 (some (q 8))) 2 (some (q 9)))))))), ((q 5), .inr (6, [.int 0, .long 0])), ((q 7), .inr (6, [.int 0, .long 0])), ((q 8), .inr (6, [.int 0, .long 0])), ((q 9), .inr (6, [.int 0, .long 0])), (q9, .inr (0, [.int 1, .ref (q 6), .int a2, .null, .int a4, .int a5, .int 3, .int 3, .int 0, .int 0, .int 0, .int 0])), ((q 6), .inr (0, [.int 0, .null, .int 0, .null, .int 0, .int 0, .int 1, .int 1, .int 0, .int 0, .int 0, .int 0]))] H := hP
            have hD : va_D A [(h0, .inr (7, [.ref (q 0), .int 1, .ref (q 1), .int 0, .int 0, .ref (q 2), .int 0, .ref (q 3), .int 0, .ref (q 4), .int 0, .int 0, .ref (q 5), .int 0, .int 0])), ((q 0), .inl ((cA 0), 16, .inr (.inr (.inr (.inr (va_up (fun _ => none) 0 (some (q 6)))))))), ((q 1), .inl ((cA 1), 40, .inr (.inr (.inr (.inr (fun _ => none)))))), ((q 2), .inl ((cA 2), 60, .inr (.inr (.inr (.inr (fun _ => none)))))), ((q 3), .inl ((cA 3), 124, .inr (.inr (.inr (.inr (fun _ => none)))))), ((q 4), .inl ((cA 4), 3, .inr (.inr (.inr (.inr (va_up (va_up (va_up (fun _ => none) 0 (some (q 7))) 1 (some (q 8))) 2 (some (q 9)))))))), ((q 5), .inr (6, [.int 0, .long 0])), ((q 7), .inr (6, [.int 0, .long 0])), ((q 8), .inr (6, [.int 0, .long 0])), ((q 9), .inr (6, [.int 0, .long 0])), (q9, .inr (0, [.int 1, .ref (q 6), .int a2, .null, .int a4, .int a5, .int 3, .int 3, .int 0, .int 0, .int 0, .int 0])), ((q 6), .inr (0, [.int 0, .null, .int 0, .null, .int 0, .int 0, .int 1, .int 1, .int 0, .int 0, .int 0, .int 0]))] := hD
            have hK : va_K (dC, dI) vwCl [((cA 0), .object "ReflectModels$ClassModel"), ((cA 1), .object "ReflectModels$Member"), ((cA 2), .object "ReflectModels$Handle"), ((cA 3), .object "ReflectModels$Thing"), ((cA 4), .object "ReflectModels$Value")] s := hK
            refine W.cs (cells' := 1) (slots' := 12) rfl rfl ?_
            refine va_astq (r := (RX0, TX0, 12)) hx hb hK hP hD hS 1 0 10 0 rfl rfl rfl rfl (vp_in_iff.mpr ⟨by decide, by decide⟩) dX8_type_122 (fun H locs hP hD hS => ?_)
            have hP : va_P (dC, dI) vwCl [(h0, .inr (7, [.ref (q 0), .int 1, .ref (q 1), .int 0, .int 0, .ref (q 2), .int 0, .ref (q 3), .int 0, .ref (q 4), .int 0, .int 0, .ref (q 5), .int 0, .int 0])), ((q 0), .inl ((cA 0), 16, .inr (.inr (.inr (.inr (va_up (va_up (fun _ => none) 0 (some (q 6))) 1 (some q9))))))), ((q 1), .inl ((cA 1), 40, .inr (.inr (.inr (.inr (fun _ => none)))))), ((q 2), .inl ((cA 2), 60, .inr (.inr (.inr (.inr (fun _ => none)))))), ((q 3), .inl ((cA 3), 124, .inr (.inr (.inr (.inr (fun _ => none)))))), ((q 4), .inl ((cA 4), 3, .inr (.inr (.inr (.inr (va_up (va_up (va_up (fun _ => none) 0 (some (q 7))) 1 (some (q 8))) 2 (some (q 9)))))))), ((q 5), .inr (6, [.int 0, .long 0])), ((q 7), .inr (6, [.int 0, .long 0])), ((q 8), .inr (6, [.int 0, .long 0])), ((q 9), .inr (6, [.int 0, .long 0])), (q9, .inr (0, [.int 1, .ref (q 6), .int a2, .null, .int a4, .int a5, .int 3, .int 3, .int 0, .int 0, .int 0, .int 0])), ((q 6), .inr (0, [.int 0, .null, .int 0, .null, .int 0, .int 0, .int 1, .int 1, .int 0, .int 0, .int 0, .int 0]))] H := hP
            have hD : va_D A [(h0, .inr (7, [.ref (q 0), .int 1, .ref (q 1), .int 0, .int 0, .ref (q 2), .int 0, .ref (q 3), .int 0, .ref (q 4), .int 0, .int 0, .ref (q 5), .int 0, .int 0])), ((q 0), .inl ((cA 0), 16, .inr (.inr (.inr (.inr (va_up (va_up (fun _ => none) 0 (some (q 6))) 1 (some q9))))))), ((q 1), .inl ((cA 1), 40, .inr (.inr (.inr (.inr (fun _ => none)))))), ((q 2), .inl ((cA 2), 60, .inr (.inr (.inr (.inr (fun _ => none)))))), ((q 3), .inl ((cA 3), 124, .inr (.inr (.inr (.inr (fun _ => none)))))), ((q 4), .inl ((cA 4), 3, .inr (.inr (.inr (.inr (va_up (va_up (va_up (fun _ => none) 0 (some (q 7))) 1 (some (q 8))) 2 (some (q 9)))))))), ((q 5), .inr (6, [.int 0, .long 0])), ((q 7), .inr (6, [.int 0, .long 0])), ((q 8), .inr (6, [.int 0, .long 0])), ((q 9), .inr (6, [.int 0, .long 0])), (q9, .inr (0, [.int 1, .ref (q 6), .int a2, .null, .int a4, .int a5, .int 3, .int 3, .int 0, .int 0, .int 0, .int 0])), ((q 6), .inr (0, [.int 0, .null, .int 0, .null, .int 0, .int 0, .int 1, .int 1, .int 0, .int 0, .int 0, .int 0]))] := hD
            refine lv_aload_n hx hb dX8_type_123 rfl (lv_at hl 1 rfl) ?_
            refine lv_dup hx hb dX8_type_124 rfl ?_
            refine va_get (D := (dC, dI)) (own := RX8) (ref := "ReflectModels") (index := 15) (ci := 7) (v := .int 1) (C := RX8) (T := TX8) (N := 15) hx hb hts inX8_type_8 hown hK hP 0 rfl rfl 1 (by decide) (hts (.fieldLink RX8 15 "ReflectModels" "classCount" "I") (by decide +kernel)) (fun _ h9 => h9) rfl dX8_type_125 ?_
            refine lv_iconst (v := 1) hx hb dX8_type_128 (by decide) ?_
            refine lv_iadd hx hb dX8_type_129 ?_
            refine lv_topi (fun y11 ey11 => ?_)
            obtain rfl : y11 = 2 := ey11.trans (by decide)
            refine va_put (D := (dC, dI)) (own := RX8) (ref := "ReflectModels") (index := 15) (ci := 7) (v := .int 2) (ty := .int) (C := RX8) (T := TX8) (N := 15) hx hb hts inX8_type_8 tyX8 tyX8_ok nmX8 hown hK hP hD hS 0 rfl rfl 1 (by decide) (hts (.fieldLink RX8 15 "ReflectModels" "classCount" "I") (by decide +kernel)) (fun _ h9 => h9) rfl (by decide +kernel) rfl rfl (Nat.le_of_ble_eq_true rfl) dX8_type_130 (fun H locs hP hD hS => ?_)
            have hP : va_P (dC, dI) vwCl [(h0, .inr (7, [.ref (q 0), .int 2, .ref (q 1), .int 0, .int 0, .ref (q 2), .int 0, .ref (q 3), .int 0, .ref (q 4), .int 0, .int 0, .ref (q 5), .int 0, .int 0])), ((q 0), .inl ((cA 0), 16, .inr (.inr (.inr (.inr (va_up (va_up (fun _ => none) 0 (some (q 6))) 1 (some q9))))))), ((q 1), .inl ((cA 1), 40, .inr (.inr (.inr (.inr (fun _ => none)))))), ((q 2), .inl ((cA 2), 60, .inr (.inr (.inr (.inr (fun _ => none)))))), ((q 3), .inl ((cA 3), 124, .inr (.inr (.inr (.inr (fun _ => none)))))), ((q 4), .inl ((cA 4), 3, .inr (.inr (.inr (.inr (va_up (va_up (va_up (fun _ => none) 0 (some (q 7))) 1 (some (q 8))) 2 (some (q 9)))))))), ((q 5), .inr (6, [.int 0, .long 0])), ((q 7), .inr (6, [.int 0, .long 0])), ((q 8), .inr (6, [.int 0, .long 0])), ((q 9), .inr (6, [.int 0, .long 0])), (q9, .inr (0, [.int 1, .ref (q 6), .int a2, .null, .int a4, .int a5, .int 3, .int 3, .int 0, .int 0, .int 0, .int 0])), ((q 6), .inr (0, [.int 0, .null, .int 0, .null, .int 0, .int 0, .int 1, .int 1, .int 0, .int 0, .int 0, .int 0]))] H := hP
            have hD : va_D A [(h0, .inr (7, [.ref (q 0), .int 2, .ref (q 1), .int 0, .int 0, .ref (q 2), .int 0, .ref (q 3), .int 0, .ref (q 4), .int 0, .int 0, .ref (q 5), .int 0, .int 0])), ((q 0), .inl ((cA 0), 16, .inr (.inr (.inr (.inr (va_up (va_up (fun _ => none) 0 (some (q 6))) 1 (some q9))))))), ((q 1), .inl ((cA 1), 40, .inr (.inr (.inr (.inr (fun _ => none)))))), ((q 2), .inl ((cA 2), 60, .inr (.inr (.inr (.inr (fun _ => none)))))), ((q 3), .inl ((cA 3), 124, .inr (.inr (.inr (.inr (fun _ => none)))))), ((q 4), .inl ((cA 4), 3, .inr (.inr (.inr (.inr (va_up (va_up (va_up (fun _ => none) 0 (some (q 7))) 1 (some (q 8))) 2 (some (q 9)))))))), ((q 5), .inr (6, [.int 0, .long 0])), ((q 7), .inr (6, [.int 0, .long 0])), ((q 8), .inr (6, [.int 0, .long 0])), ((q 9), .inr (6, [.int 0, .long 0])), (q9, .inr (0, [.int 1, .ref (q 6), .int a2, .null, .int a4, .int a5, .int 3, .int 3, .int 0, .int 0, .int 0, .int 0])), ((q 6), .inr (0, [.int 0, .null, .int 0, .null, .int 0, .int 0, .int 1, .int 1, .int 0, .int 0, .int 0, .int 0]))] := hD
            refine lv_aload_n hx hb dX8_type_133 rfl (lv_at hl 1 rfl) ?_
            refine va_get (D := (dC, dI)) (own := RX8) (ref := "ReflectModels") (index := 15) (ci := 7) (v := .int 2) (C := RX8) (T := TX8) (N := 15) hx hb hts inX8_type_8 hown hK hP 0 rfl rfl 1 (by decide) (hts (.fieldLink RX8 15 "ReflectModels" "classCount" "I") (by decide +kernel)) (fun _ h9 => h9) rfl dX8_type_134 ?_
            refine lv_iconst (v := 1) hx hb dX8_type_137 (by decide) ?_
            refine lv_isub hx hb dX8_type_138 ?_
            refine lv_topi (fun y12 ey12 => ?_)
            obtain rfl : y12 = 1 := ey12.trans (by decide)
            have hP9 := hP.sub (ws' := []) [] rfl
            have hD9 := hD.sub (ws' := []) [] (by decide) rfl
            have hK9 := hK.sub (tys' := []) [] rfl
            exact W.zret (v := 1) (ty := .int) hx hb hr rfl (fun t ht hW => ⟨⟨(some (.int 1)), rfl, _, _, ⟨congrArg (fun z => some (Value.int z)) (by unfold an_type; (repeat' split) <;> first | rfl | (exfalso; first | omega | (have kq := kz; omega))), rfl, rfl⟩, by rw [ht]; exact hP9, va_K.moved hW.alike hK9, hD9⟩, hS.F ht⟩) hS.2.2 dX8_type_139
        · have ic5 : 4 < a2.toInt := inle2 rfl (by decide) c5
          refine lv_bipush (v := (-3)) hx hb dX8_type_33 (by decide) ?_
          refine W.widen (k := 1) (n := 12) (by omega) (by omega) ?_
          have hP9 := hP.sub (ws' := []) [] rfl
          have hD9 := hD.sub (ws' := []) [] (by decide) rfl
          have hK9 := hK.sub (tys' := []) [] rfl
          exact W.zret (v := (-3)) (ty := .int) hx hb hr rfl (fun t ht hW => ⟨⟨(some (.int (-3))), rfl, _, _, ⟨congrArg (fun z => some (Value.int z)) (by unfold an_type; (repeat' split) <;> first | rfl | (exfalso; first | omega | (have kq := kz; omega))), rfl, rfl⟩, by rw [ht]; exact hP9, va_K.moved hW.alike hK9, hD9⟩, hS.F ht⟩) hS.2.2 dX8_type_35
    · have ic3 : a3.toInt ≠ (-1) := ine2 rfl (by decide) c3
      refine lv_aload_n hx hb dX8_type_13 rfl (lv_at hl 0 rfl) ?_
      refine lv_iload_n hx hb dX8_type_14 rfl (lv_at hl 3 rfl) ?_
      refine clR (va_runV (As := [.int a3]) (rest := []) ⟨hx, hb, hml, hown, hts⟩ (c8_isClass l dC dI h0 q a3 _) (cwV 1 hts gX8_type_X8_isClass rfl rfl rfl (by decide +kernel) ⟨Nat.le_of_ble_eq_true rfl, Nat.le_of_ble_eq_true rfl⟩) ⟨pz_blind, va_recv hK hP (ci := 7) (q0 := 0) rfl rfl, pz_of hP hK hD hN [0] [] rfl (by decide) rfl⟩ rfl rfl hl.1 rfl (lv_room (Nat.le_of_ble_eq_true rfl)) dX8_type_15 ⟨Nat.le_of_ble_eq_true rfl, Nat.le_of_ble_eq_true rfl⟩) hS hP (fun v H locs w14 hP hS => ?_)
      rcases w14 with ⟨rfl, rfl⟩ | ⟨rfl, u13⟩
      · refine W.eq (g2 := F0 m 18 ls [.int 1]) rfl ?_
        refine lv_if_ne (tgt := 24) hx hb dX8_type_18 (by decide) (fun _ => ?_) (fun h => absurd h (by decide))
        refine lv_iload_n hx hb dX8_type_24 rfl (lv_at hl 2 rfl) ?_
        refine lv_if_lt (tgt := 33) hx hb dX8_type_25 (by decide) (fun c15 => ?_) (fun c15 => ?_)
        · have ic15 : a2.toInt < 0 := il2 rfl (by decide) c15
          refine lv_bipush (v := (-3)) hx hb dX8_type_33 (by decide) ?_
          refine W.widen (k := 1) (n := 12) (by omega) (by omega) ?_
          have hP9 := hP.sub (ws' := []) [] rfl
          have hD9 := hD.sub (ws' := []) [] (by decide) rfl
          have hK9 := hK.sub (tys' := []) [] rfl
          exact W.zret (v := (-3)) (ty := .int) hx hb hr rfl (fun t ht hW => ⟨⟨(some (.int (-3))), rfl, _, _, ⟨congrArg (fun z => some (Value.int z)) (by unfold an_type; (repeat' split) <;> first | rfl | (exfalso; first | omega | (have kq := kz; omega))), rfl, rfl⟩, by rw [ht]; exact hP9, va_K.moved hW.alike hK9, hD9⟩, hS.F ht⟩) hS.2.2 dX8_type_35
        · have ic15 : 0 ≤ a2.toInt := inl2 rfl (by decide) c15
          refine lv_iload_n hx hb dX8_type_28 rfl (lv_at hl 2 rfl) ?_
          refine lv_iconst (v := 4) hx hb dX8_type_29 (by decide) ?_
          refine lv_icmp_le (tgt := 36) hx hb dX8_type_30 (by decide) (fun c16 => ?_) (fun c16 => ?_)
          · have ic16 : a2.toInt ≤ 4 := ile2 rfl (by decide) c16
            refine lv_iload_n hx hb dX8_type_36 rfl (lv_at hl 3 rfl) ?_
            refine lv_iconst (v := (-1)) hx hb dX8_type_37 (by decide) ?_
            refine lv_icmp_ne (tgt := 45) hx hb dX8_type_38 (by decide) (fun _ => ?_) (fun h => absurd h (by decide))
            refine lv_aload_n hx hb dX8_type_45 rfl (lv_at hl 0 rfl) ?_
            refine va_get (D := (dC, dI)) (own := RX8) (ref := "ReflectModels") (index := 11) (ci := 7) (v := .ref (q 0)) (C := RX8) (T := TX8) (N := 15) hx hb hts inX8_type_8 hown hK hP 0 rfl rfl 0 (by decide) (hts (.fieldLink RX8 11 "ReflectModels" "classes" "[LReflectModels$ClassModel;") (by decide +kernel)) (fun _ h9 => h9) rfl dX8_type_46 ?_
            refine lv_iload_n hx hb dX8_type_49 rfl (lv_at hl 3 rfl) ?_
            refine va_aldq hx hb hK hP 1 0 rfl rfl (vp_in_iff.mpr ⟨by decide, by decide⟩) dX8_type_50 ?_
            refine W.eq (g2 := F0 m 51 ls [.ref (q 6)]) rfl ?_
            refine lv_astore (lv' := [(6, .ref (q 6)), (0, .ref h0), (1, .int 0), (2, .int a2), (3, .int 0), (4, .int a4), (5, .int a5)]) hx hb dX8_type_51 hl (by decide) rfl (fun ls hl => ?_)
            refine lv_iload_n hx hb dX8_type_53 rfl (lv_at hl 3 rfl) ?_
            refine lv_aload_n hx hb dX8_type_54 rfl (lv_at hl 1 rfl) ?_
            refine va_get (D := (dC, dI)) (own := RX8) (ref := "ReflectModels") (index := 11) (ci := 7) (v := .ref (q 0)) (C := RX8) (T := TX8) (N := 15) hx hb hts inX8_type_8 hown hK hP 0 rfl rfl 0 (by decide) (hts (.fieldLink RX8 11 "ReflectModels" "classes" "[LReflectModels$ClassModel;") (by decide +kernel)) (fun _ h9 => h9) rfl dX8_type_55 ?_
            refine lv_iload_n hx hb dX8_type_58 rfl (lv_at hl 2 rfl) ?_
            refine va_aldq hx hb hK hP 1 0 rfl rfl (vp_in_iff.mpr ⟨by decide, by decide⟩) dX8_type_59 ?_
            refine W.eq (g2 := F0 m 60 ls [.ref (q 6), .int a2]) rfl ?_
            refine clR (va_runS (As := [.int a2, .ref (q 6)]) (rest := []) ⟨hx, hb, hml, hown, hts⟩ (c8_mayHaveAbove l dC dI (q 6) a2 _) (va_cwS 2 hts gX8_type_X8_mayHaveAbove rfl rfl rfl (by decide +kernel) ⟨Nat.le_of_ble_eq_true rfl, Nat.le_of_ble_eq_true rfl⟩) ⟨pz_blind, pz_of hP hK hD hN [7] [] rfl (by decide) rfl⟩ rfl rfl hl.1 rfl (lv_room (Nat.le_of_ble_eq_true rfl)) dX8_type_60 ⟨Nat.le_of_ble_eq_true rfl, Nat.le_of_ble_eq_true rfl⟩) hS hP (fun v H locs w17 hP hS => ?_)
            obtain rfl := w17
            refine W.eq (g2 := F0 m 63 ls [.int 1]) rfl ?_
            refine lv_if_eq (tgt := 75) hx hb dX8_type_63 (by decide) (fun h => absurd h (by decide)) (fun _ => ?_)
            refine lv_iload_n hx hb dX8_type_66 rfl (lv_at hl 3 rfl) ?_
            refine lv_aload hx hb dX8_type_67 (lv_at hl 0 rfl) ?_
            refine clR (va_runS (As := [.int a2, .ref (q 6)]) (rest := []) ⟨hx, hb, hml, hown, hts⟩ (c8_mayActAs1 l dC dI (q 6) a2 _) (va_cwS 2 hts gX8_type_X8_mayActAs rfl rfl rfl (by decide +kernel) ⟨Nat.le_of_ble_eq_true rfl, Nat.le_of_ble_eq_true rfl⟩) ⟨pz_blind, pz_of hP hK hD hN [7] [] rfl (by decide) rfl⟩ rfl rfl hl.1 rfl (lv_room (Nat.le_of_ble_eq_true rfl)) dX8_type_69 ⟨Nat.le_of_ble_eq_true rfl, Nat.le_of_ble_eq_true rfl⟩) hS hP (fun v H locs w18 hP hS => ?_)
            obtain rfl := w18
            refine W.eq (g2 := F0 m 72 ls [.int 0]) rfl ?_
            refine lv_if_ne (tgt := 78) hx hb dX8_type_72 (by decide) (fun h => absurd h (by decide)) (fun _ => ?_)
            refine lv_bipush (v := (-4)) hx hb dX8_type_75 (by decide) ?_
            refine W.widen (k := 1) (n := 12) (by omega) (by omega) ?_
            have hP9 := hP.sub (ws' := []) [] rfl
            have hD9 := hD.sub (ws' := []) [] (by decide) rfl
            have hK9 := hK.sub (tys' := []) [] rfl
            exact W.zret (v := (-4)) (ty := .int) hx hb hr rfl (fun t ht hW => ⟨⟨(some (.int (-4))), rfl, _, _, ⟨congrArg (fun z => some (Value.int z)) (by unfold an_type; (repeat' split) <;> first | rfl | (exfalso; first | omega | (have kq := kz; omega))), rfl, rfl⟩, by rw [ht]; exact hP9, va_K.moved hW.alike hK9, hD9⟩, hS.F ht⟩) hS.2.2 dX8_type_77
          · have ic16 : 4 < a2.toInt := inle2 rfl (by decide) c16
            refine lv_bipush (v := (-3)) hx hb dX8_type_33 (by decide) ?_
            refine W.widen (k := 1) (n := 12) (by omega) (by omega) ?_
            have hP9 := hP.sub (ws' := []) [] rfl
            have hD9 := hD.sub (ws' := []) [] (by decide) rfl
            have hK9 := hK.sub (tys' := []) [] rfl
            exact W.zret (v := (-3)) (ty := .int) hx hb hr rfl (fun t ht hW => ⟨⟨(some (.int (-3))), rfl, _, _, ⟨congrArg (fun z => some (Value.int z)) (by unfold an_type; (repeat' split) <;> first | rfl | (exfalso; first | omega | (have kq := kz; omega))), rfl, rfl⟩, by rw [ht]; exact hP9, va_K.moved hW.alike hK9, hD9⟩, hS.F ht⟩) hS.2.2 dX8_type_35
      · refine W.eq (g2 := F0 m 18 ls [.int 0]) rfl ?_
        refine lv_if_ne (tgt := 24) hx hb dX8_type_18 (by decide) (fun h => absurd h (by decide)) (fun _ => ?_)
        refine lv_bipush (v := (-2)) hx hb dX8_type_21 (by decide) ?_
        refine W.widen (k := 1) (n := 12) (by omega) (by omega) ?_
        have hP9 := hP.sub (ws' := []) [] rfl
        have hD9 := hD.sub (ws' := []) [] (by decide) rfl
        have hK9 := hK.sub (tys' := []) [] rfl
        exact W.zret (v := (-2)) (ty := .int) hx hb hr rfl (fun t ht hW => ⟨⟨(some (.int (-2))), rfl, _, _, ⟨congrArg (fun z => some (Value.int z)) (by unfold an_type; (repeat' split) <;> first | rfl | (exfalso; first | omega | (have kq := kz; omega))), rfl, rfl⟩, by rw [ht]; exact hP9, va_K.moved hW.alike hK9, hD9⟩, hS.F ht⟩) hS.2.2 dX8_type_23
  · refine W.eq (g2 := F0 m 5 ls [.int 0]) rfl ?_
    refine lv_if_eq (tgt := 21) hx hb dX8_type_5 (by decide) (fun _ => ?_) (fun h => absurd (by decide) h)
    refine lv_bipush (v := (-2)) hx hb dX8_type_21 (by decide) ?_
    refine W.widen (k := 1) (n := 12) (by omega) (by omega) ?_
    have hP9 := hP.sub (ws' := []) [] rfl
    have hD9 := hD.sub (ws' := []) [] (by decide) rfl
    have hK9 := hK.sub (tys' := []) [] rfl
    exact W.zret (v := (-2)) (ty := .int) hx hb hr rfl (fun t ht hW => ⟨⟨(some (.int (-2))), rfl, _, _, ⟨congrArg (fun z => some (Value.int z)) (by unfold an_type; (repeat' split) <;> first | rfl | (exfalso; first | omega | (have kq := kz; omega))), rfl, rfl⟩, by rw [ht]; exact hP9, va_K.moved hW.alike hK9, hD9⟩, hS.F ht⟩) hS.2.2 dX8_type_23

set_option maxHeartbeats 4000000 in
set_option maxRecDepth 100000 in
/-- constants on a fresh object -/
theorem c8_constants (l : Launch) (dC : Nat → ClassId) (dI : Nat → Nat → Nat) (h0 : Nat) (q : Nat → Nat) (cA : Nat → ClassId) (a1 a2 : Int32) (sz : Nat)  : Met l yX8_constants wsX8_constants ({ frames := 1, cells := 0, slots := 0, locals := 21 }) (va_Pc [.ref h0, .int a1, .int a2] (pz (dC, dI) [((cA 0), .object "ReflectModels$ClassModel"), ((cA 1), .object "ReflectModels$Member"), ((cA 2), .object "ReflectModels$Handle"), ((cA 3), .object "ReflectModels$Thing"), ((cA 4), .object "ReflectModels$Value")] [(h0, .inr (7, [.ref (q 0), .int 1, .ref (q 1), .int 0, .int 0, .ref (q 2), .int 0, .ref (q 3), .int 0, .ref (q 4), .int 0, .int 0, .ref (q 5), .int 0, .int 0])), ((q 0), .inl ((cA 0), 16, .inr (.inr (.inr (.inr (va_up (fun _ => none) 0 (some (q 6)))))))), ((q 1), .inl ((cA 1), 40, .inr (.inr (.inr (.inr (fun _ => none)))))), ((q 2), .inl ((cA 2), 60, .inr (.inr (.inr (.inr (fun _ => none)))))), ((q 3), .inl ((cA 3), 124, .inr (.inr (.inr (.inr (fun _ => none)))))), ((q 4), .inl ((cA 4), 3, .inr (.inr (.inr (.inr (va_up (va_up (va_up (fun _ => none) 0 (some (q 7))) 1 (some (q 8))) 2 (some (q 9)))))))), ((q 5), .inr (6, [.int 0, .long 0])), ((q 6), .inr (0, [.int 0, .null, .int 0, .null, .int 0, .int 0, .int 1, .int 1, .int 0, .int 0, .int 0, .int 0])), ((q 7), .inr (6, [.int 0, .long 0])), ((q 8), .inr (6, [.int 0, .long 0])), ((q 9), .inr (6, [.int 0, .long 0]))] sz)) (qW (dC, dI) (fun v w1 ty1 => v = some (.int (an_constants a1.toInt a2.toInt)) ∧ w1 = [] ∧ ty1 = []) (va_A [(h0, .inr (7, [.ref (q 0), .int 1, .ref (q 1), .int 0, .int 0, .ref (q 2), .int 0, .ref (q 3), .int 0, .ref (q 4), .int 0, .int 0, .ref (q 5), .int 0, .int 0])), ((q 0), .inl ((cA 0), 16, .inr (.inr (.inr (.inr (va_up (fun _ => none) 0 (some (q 6)))))))), ((q 1), .inl ((cA 1), 40, .inr (.inr (.inr (.inr (fun _ => none)))))), ((q 2), .inl ((cA 2), 60, .inr (.inr (.inr (.inr (fun _ => none)))))), ((q 3), .inl ((cA 3), 124, .inr (.inr (.inr (.inr (fun _ => none)))))), ((q 4), .inl ((cA 4), 3, .inr (.inr (.inr (.inr (va_up (va_up (va_up (fun _ => none) 0 (some (q 7))) 1 (some (q 8))) 2 (some (q 9)))))))), ((q 5), .inr (6, [.int 0, .long 0])), ((q 6), .inr (0, [.int 0, .null, .int 0, .null, .int 0, .int 0, .int 1, .int 1, .int 0, .int 0, .int 0, .int 0])), ((q 7), .inr (6, [.int 0, .long 0])), ((q 8), .inr (6, [.int 0, .long 0])), ((q 9), .inr (6, [.int 0, .long 0]))] sz)) 0 0 (va_A [(h0, .inr (7, [.ref (q 0), .int 1, .ref (q 1), .int 0, .int 0, .ref (q 2), .int 0, .ref (q 3), .int 0, .ref (q 4), .int 0, .int 0, .ref (q 5), .int 0, .int 0])), ((q 0), .inl ((cA 0), 16, .inr (.inr (.inr (.inr (va_up (fun _ => none) 0 (some (q 6)))))))), ((q 1), .inl ((cA 1), 40, .inr (.inr (.inr (.inr (fun _ => none)))))), ((q 2), .inl ((cA 2), 60, .inr (.inr (.inr (.inr (fun _ => none)))))), ((q 3), .inl ((cA 3), 124, .inr (.inr (.inr (.inr (fun _ => none)))))), ((q 4), .inl ((cA 4), 3, .inr (.inr (.inr (.inr (va_up (va_up (va_up (fun _ => none) 0 (some (q 7))) 1 (some (q 8))) 2 (some (q 9)))))))), ((q 5), .inr (6, [.int 0, .long 0])), ((q 6), .inr (0, [.int 0, .null, .int 0, .null, .int 0, .int 0, .int 1, .int 1, .int 0, .int 0, .int 0, .int 0])), ((q 7), .inr (6, [.int 0, .long 0])), ((q 8), .inr (6, [.int 0, .long 0])), ((q 9), .inr (6, [.int 0, .long 0]))] sz) := by
  refine Met.ofW (cc := cX8_constants) (maxL := 4) (ret := (some .int)) (by decide) rfl ?_
  intro p e s m args below meth c s₁ B hml hv
  obtain ⟨rfl, hsz, hP, hK, hD, hN⟩ := hv
  have hx := B.exec
  have hb := B.bytes
  have hr := B.returns
  have hts := atoms_spec (ws := wsX8_constants) B.pre
  have hown : s.vm.findClass RX8 = some m.cls := findClass_of_methodNamed B.named
  have hlocks := B.notSynchronized
  subst hsz
  have hD := hD.self (sz := s.heap.size)
  generalize hAe : va_A [(h0, .inr (7, [.ref (q 0), .int 1, .ref (q 1), .int 0, .int 0, .ref (q 2), .int 0, .ref (q 3), .int 0, .ref (q 4), .int 0, .int 0, .ref (q 5), .int 0, .int 0])), ((q 0), .inl ((cA 0), 16, .inr (.inr (.inr (.inr (va_up (fun _ => none) 0 (some (q 6)))))))), ((q 1), .inl ((cA 1), 40, .inr (.inr (.inr (.inr (fun _ => none)))))), ((q 2), .inl ((cA 2), 60, .inr (.inr (.inr (.inr (fun _ => none)))))), ((q 3), .inl ((cA 3), 124, .inr (.inr (.inr (.inr (fun _ => none)))))), ((q 4), .inl ((cA 4), 3, .inr (.inr (.inr (.inr (va_up (va_up (va_up (fun _ => none) 0 (some (q 7))) 1 (some (q 8))) 2 (some (q 9)))))))), ((q 5), .inr (6, [.int 0, .long 0])), ((q 6), .inr (0, [.int 0, .null, .int 0, .null, .int 0, .int 0, .int 1, .int 1, .int 0, .int 0, .int 0, .int 0])), ((q 7), .inr (6, [.int 0, .long 0])), ((q 8), .inr (6, [.int 0, .long 0])), ((q 9), .inr (6, [.int 0, .long 0]))] s.heap.size = A at hD ⊢
  have hA : ∀ q : Nat, s.heap.size ≤ q → A q := fun q h => by rw [← hAe]; exact Or.inr h
  have hS : va_S A s.heap s.heap [] := va_S.rf
  have hl := lv_entry ([.ref h0, .int a1, .int a2]) (n := 4) (Nat.le_of_ble_eq_true rfl)
  rw [lg_entry_eq]
  generalize (lg_sl ([.ref h0, .int a1, .int a2]) ++ List.replicate (4 - (lg_sl ([.ref h0, .int a1, .int a2])).length) Slot.unset).toArray = ls at hl ⊢
  have hl : lv_has ls 4 [(0, .ref h0), (1, .int a1), (2, .int a2)] := hl
  refine lv_aload_n hx hb dX8_constants_0 rfl (lv_at hl 0 rfl) ?_
  refine lv_iload_n hx hb dX8_constants_1 rfl (lv_at hl 1 rfl) ?_
  refine clR (va_runV (As := [.int a1]) (rest := []) ⟨hx, hb, hml, hown, hts⟩ (c8_isClass l dC dI h0 q a1 _) (cwV 1 hts gX8_constants_X8_isClass rfl rfl rfl (by decide +kernel) ⟨Nat.le_of_ble_eq_true rfl, Nat.le_of_ble_eq_true rfl⟩) ⟨pz_blind, va_recv hK hP (ci := 7) (q0 := 0) rfl rfl, pz_of hP hK hD hN [0] [] rfl (by decide) rfl⟩ rfl rfl hl.1 rfl (lv_room (Nat.le_of_ble_eq_true rfl)) dX8_constants_2 ⟨Nat.le_of_ble_eq_true rfl, Nat.le_of_ble_eq_true rfl⟩) hS hP (fun v H locs w2 hP hS => ?_)
  rcases w2 with ⟨rfl, rfl⟩ | ⟨rfl, u1⟩
  · refine W.eq (g2 := F0 m 5 ls [.int 1]) rfl ?_
    refine lv_if_ne (tgt := 11) hx hb dX8_constants_5 (by decide) (fun _ => ?_) (fun h => absurd h (by decide))
    refine lv_iload_n hx hb dX8_constants_11 rfl (lv_at hl 2 rfl) ?_
    refine lv_iconst (v := 1) hx hb dX8_constants_12 (by decide) ?_
    refine lv_icmp_lt (tgt := 21) hx hb dX8_constants_13 (by decide) (fun c3 => ?_) (fun c3 => ?_)
    · have ic3 : a2.toInt < 1 := il2 rfl (by decide) c3
      refine lv_bipush (v := (-3)) hx hb dX8_constants_21 (by decide) ?_
      have hP9 := hP.sub (ws' := []) [] rfl
      have hD9 := hD.sub (ws' := []) [] (by decide) rfl
      have hK9 := hK.sub (tys' := []) [] rfl
      exact W.zret (v := (-3)) (ty := .int) hx hb hr rfl (fun t ht hW => ⟨⟨(some (.int (-3))), rfl, _, _, ⟨congrArg (fun z => some (Value.int z)) (by unfold an_constants; (repeat' split) <;> first | rfl | (exfalso; first | omega | (have kq := kz; omega))), rfl, rfl⟩, by rw [ht]; exact hP9, va_K.moved hW.alike hK9, hD9⟩, hS.F ht⟩) hS.2.2 dX8_constants_23
    · have ic3 : 1 ≤ a2.toInt := inl2 rfl (by decide) c3
      refine lv_iload_n hx hb dX8_constants_16 rfl (lv_at hl 2 rfl) ?_
      refine lv_iconst (v := 4) hx hb dX8_constants_17 (by decide) ?_
      refine lv_icmp_le (tgt := 24) hx hb dX8_constants_18 (by decide) (fun c4 => ?_) (fun c4 => ?_)
      · have ic4 : a2.toInt ≤ 4 := ile2 rfl (by decide) c4
        refine lv_aload_n hx hb dX8_constants_24 rfl (lv_at hl 0 rfl) ?_
        refine va_get (D := (dC, dI)) (own := RX8) (ref := "ReflectModels") (index := 11) (ci := 7) (v := .ref (q 0)) (C := RX8) (T := TX8) (N := 15) hx hb hts inX8_constants_8 hown hK hP 0 rfl rfl 0 (by decide) (hts (.fieldLink RX8 11 "ReflectModels" "classes" "[LReflectModels$ClassModel;") (by decide +kernel)) (fun _ h9 => h9) rfl dX8_constants_25 ?_
        refine lv_iload_n hx hb dX8_constants_28 rfl (lv_at hl 1 rfl) ?_
        refine va_aldq hx hb hK hP 1 0 rfl rfl (vp_in_iff.mpr ⟨by decide, by decide⟩) dX8_constants_29 ?_
        refine W.eq (g2 := F0 m 30 ls [.ref (q 6)]) rfl ?_
        refine lv_astore_n (lv' := [(3, .ref (q 6)), (0, .ref h0), (1, .int 0), (2, .int a2)]) hx hb dX8_constants_30 rfl hl (by decide) rfl (fun ls hl => ?_)
        refine lv_aload_n hx hb dX8_constants_31 rfl (lv_at hl 0 rfl) ?_
        refine va_getN (host := "ReflectModels") (D := (dC, dI)) (own := RX8) (ref := "ReflectModels$ClassModel") (index := 86) (ci := 0) (v := .int 0) (C := RX0) (T := TX0) (N := 12) hx hb hts inX8_constants_0 hown hK hP 7 rfl rfl 2 (by decide) (va_Nw.use rfl (hN _ (List.mem_of_getElem? (i := 12) rfl))) (fun _ h9 => h9) rfl dX8_constants_32 ?_
        refine lv_iconst (v := 4) hx hb dX8_constants_35 (by decide) ?_
        refine lv_icmp_ne (tgt := 53) hx hb dX8_constants_36 (by decide) (fun _ => ?_) (fun h => absurd h (by decide))
        refine lv_bipush (v := (-4)) hx hb dX8_constants_53 (by decide) ?_
        have hP9 := hP.sub (ws' := []) [] rfl
        have hD9 := hD.sub (ws' := []) [] (by decide) rfl
        have hK9 := hK.sub (tys' := []) [] rfl
        exact W.zret (v := (-4)) (ty := .int) hx hb hr rfl (fun t ht hW => ⟨⟨(some (.int (-4))), rfl, _, _, ⟨congrArg (fun z => some (Value.int z)) (by unfold an_constants; (repeat' split) <;> first | rfl | (exfalso; first | omega | (have kq := kz; omega))), rfl, rfl⟩, by rw [ht]; exact hP9, va_K.moved hW.alike hK9, hD9⟩, hS.F ht⟩) hS.2.2 dX8_constants_55
      · have ic4 : 4 < a2.toInt := inle2 rfl (by decide) c4
        refine lv_bipush (v := (-3)) hx hb dX8_constants_21 (by decide) ?_
        have hP9 := hP.sub (ws' := []) [] rfl
        have hD9 := hD.sub (ws' := []) [] (by decide) rfl
        have hK9 := hK.sub (tys' := []) [] rfl
        exact W.zret (v := (-3)) (ty := .int) hx hb hr rfl (fun t ht hW => ⟨⟨(some (.int (-3))), rfl, _, _, ⟨congrArg (fun z => some (Value.int z)) (by unfold an_constants; (repeat' split) <;> first | rfl | (exfalso; first | omega | (have kq := kz; omega))), rfl, rfl⟩, by rw [ht]; exact hP9, va_K.moved hW.alike hK9, hD9⟩, hS.F ht⟩) hS.2.2 dX8_constants_23
  · refine W.eq (g2 := F0 m 5 ls [.int 0]) rfl ?_
    refine lv_if_ne (tgt := 11) hx hb dX8_constants_5 (by decide) (fun h => absurd h (by decide)) (fun _ => ?_)
    refine lv_bipush (v := (-2)) hx hb dX8_constants_8 (by decide) ?_
    have hP9 := hP.sub (ws' := []) [] rfl
    have hD9 := hD.sub (ws' := []) [] (by decide) rfl
    have hK9 := hK.sub (tys' := []) [] rfl
    exact W.zret (v := (-2)) (ty := .int) hx hb hr rfl (fun t ht hW => ⟨⟨(some (.int (-2))), rfl, _, _, ⟨congrArg (fun z => some (Value.int z)) (by unfold an_constants; (repeat' split) <;> first | rfl | (exfalso; first | omega | (have kq := kz; omega))), rfl, rfl⟩, by rw [ht]; exact hP9, va_K.moved hW.alike hK9, hD9⟩, hS.F ht⟩) hS.2.2 dX8_constants_10

set_option maxHeartbeats 4000000 in
set_option maxRecDepth 100000 in
/-- caller on a fresh object -/
theorem c8_caller (l : Launch) (dC : Nat → ClassId) (dI : Nat → Nat → Nat) (h0 : Nat) (q : Nat → Nat) (cA : Nat → ClassId) (a1 : Int32) (sz : Nat)  : Met l yX8_caller wsX8_caller ({ frames := 1, cells := 0, slots := 0, locals := 21 }) (va_Pc [.ref h0, .int a1] (pz (dC, dI) [((cA 0), .object "ReflectModels$ClassModel"), ((cA 1), .object "ReflectModels$Member"), ((cA 2), .object "ReflectModels$Handle"), ((cA 3), .object "ReflectModels$Thing"), ((cA 4), .object "ReflectModels$Value")] [(h0, .inr (7, [.ref (q 0), .int 1, .ref (q 1), .int 0, .int 0, .ref (q 2), .int 0, .ref (q 3), .int 0, .ref (q 4), .int 0, .int 0, .ref (q 5), .int 0, .int 0])), ((q 0), .inl ((cA 0), 16, .inr (.inr (.inr (.inr (va_up (fun _ => none) 0 (some (q 6)))))))), ((q 1), .inl ((cA 1), 40, .inr (.inr (.inr (.inr (fun _ => none)))))), ((q 2), .inl ((cA 2), 60, .inr (.inr (.inr (.inr (fun _ => none)))))), ((q 3), .inl ((cA 3), 124, .inr (.inr (.inr (.inr (fun _ => none)))))), ((q 4), .inl ((cA 4), 3, .inr (.inr (.inr (.inr (va_up (va_up (va_up (fun _ => none) 0 (some (q 7))) 1 (some (q 8))) 2 (some (q 9)))))))), ((q 5), .inr (6, [.int 0, .long 0])), ((q 6), .inr (0, [.int 0, .null, .int 0, .null, .int 0, .int 0, .int 1, .int 1, .int 0, .int 0, .int 0, .int 0])), ((q 7), .inr (6, [.int 0, .long 0])), ((q 8), .inr (6, [.int 0, .long 0])), ((q 9), .inr (6, [.int 0, .long 0]))] sz)) (qW (dC, dI) (fun v w1 ty1 => v = some (.int (an_caller a1.toInt)) ∧ w1 = [] ∧ ty1 = []) (va_A [(h0, .inr (7, [.ref (q 0), .int 1, .ref (q 1), .int 0, .int 0, .ref (q 2), .int 0, .ref (q 3), .int 0, .ref (q 4), .int 0, .int 0, .ref (q 5), .int 0, .int 0])), ((q 0), .inl ((cA 0), 16, .inr (.inr (.inr (.inr (va_up (fun _ => none) 0 (some (q 6)))))))), ((q 1), .inl ((cA 1), 40, .inr (.inr (.inr (.inr (fun _ => none)))))), ((q 2), .inl ((cA 2), 60, .inr (.inr (.inr (.inr (fun _ => none)))))), ((q 3), .inl ((cA 3), 124, .inr (.inr (.inr (.inr (fun _ => none)))))), ((q 4), .inl ((cA 4), 3, .inr (.inr (.inr (.inr (va_up (va_up (va_up (fun _ => none) 0 (some (q 7))) 1 (some (q 8))) 2 (some (q 9)))))))), ((q 5), .inr (6, [.int 0, .long 0])), ((q 6), .inr (0, [.int 0, .null, .int 0, .null, .int 0, .int 0, .int 1, .int 1, .int 0, .int 0, .int 0, .int 0])), ((q 7), .inr (6, [.int 0, .long 0])), ((q 8), .inr (6, [.int 0, .long 0])), ((q 9), .inr (6, [.int 0, .long 0]))] sz)) 0 0 (va_A [(h0, .inr (7, [.ref (q 0), .int 1, .ref (q 1), .int 0, .int 0, .ref (q 2), .int 0, .ref (q 3), .int 0, .ref (q 4), .int 0, .int 0, .ref (q 5), .int 0, .int 0])), ((q 0), .inl ((cA 0), 16, .inr (.inr (.inr (.inr (va_up (fun _ => none) 0 (some (q 6)))))))), ((q 1), .inl ((cA 1), 40, .inr (.inr (.inr (.inr (fun _ => none)))))), ((q 2), .inl ((cA 2), 60, .inr (.inr (.inr (.inr (fun _ => none)))))), ((q 3), .inl ((cA 3), 124, .inr (.inr (.inr (.inr (fun _ => none)))))), ((q 4), .inl ((cA 4), 3, .inr (.inr (.inr (.inr (va_up (va_up (va_up (fun _ => none) 0 (some (q 7))) 1 (some (q 8))) 2 (some (q 9)))))))), ((q 5), .inr (6, [.int 0, .long 0])), ((q 6), .inr (0, [.int 0, .null, .int 0, .null, .int 0, .int 0, .int 1, .int 1, .int 0, .int 0, .int 0, .int 0])), ((q 7), .inr (6, [.int 0, .long 0])), ((q 8), .inr (6, [.int 0, .long 0])), ((q 9), .inr (6, [.int 0, .long 0]))] sz) := by
  refine Met.ofW (cc := cX8_caller) (maxL := 3) (ret := (some .int)) (by decide) rfl ?_
  intro p e s m args below meth c s₁ B hml hv
  obtain ⟨rfl, hsz, hP, hK, hD, hN⟩ := hv
  have hx := B.exec
  have hb := B.bytes
  have hr := B.returns
  have hts := atoms_spec (ws := wsX8_caller) B.pre
  have hown : s.vm.findClass RX8 = some m.cls := findClass_of_methodNamed B.named
  have hlocks := B.notSynchronized
  subst hsz
  have hD := hD.self (sz := s.heap.size)
  generalize hAe : va_A [(h0, .inr (7, [.ref (q 0), .int 1, .ref (q 1), .int 0, .int 0, .ref (q 2), .int 0, .ref (q 3), .int 0, .ref (q 4), .int 0, .int 0, .ref (q 5), .int 0, .int 0])), ((q 0), .inl ((cA 0), 16, .inr (.inr (.inr (.inr (va_up (fun _ => none) 0 (some (q 6)))))))), ((q 1), .inl ((cA 1), 40, .inr (.inr (.inr (.inr (fun _ => none)))))), ((q 2), .inl ((cA 2), 60, .inr (.inr (.inr (.inr (fun _ => none)))))), ((q 3), .inl ((cA 3), 124, .inr (.inr (.inr (.inr (fun _ => none)))))), ((q 4), .inl ((cA 4), 3, .inr (.inr (.inr (.inr (va_up (va_up (va_up (fun _ => none) 0 (some (q 7))) 1 (some (q 8))) 2 (some (q 9)))))))), ((q 5), .inr (6, [.int 0, .long 0])), ((q 6), .inr (0, [.int 0, .null, .int 0, .null, .int 0, .int 0, .int 1, .int 1, .int 0, .int 0, .int 0, .int 0])), ((q 7), .inr (6, [.int 0, .long 0])), ((q 8), .inr (6, [.int 0, .long 0])), ((q 9), .inr (6, [.int 0, .long 0]))] s.heap.size = A at hD ⊢
  have hA : ∀ q : Nat, s.heap.size ≤ q → A q := fun q h => by rw [← hAe]; exact Or.inr h
  have hS : va_S A s.heap s.heap [] := va_S.rf
  have hl := lv_entry ([.ref h0, .int a1]) (n := 3) (Nat.le_of_ble_eq_true rfl)
  rw [lg_entry_eq]
  generalize (lg_sl ([.ref h0, .int a1]) ++ List.replicate (3 - (lg_sl ([.ref h0, .int a1])).length) Slot.unset).toArray = ls at hl ⊢
  have hl : lv_has ls 3 [(0, .ref h0), (1, .int a1)] := hl
  refine lv_aload_n hx hb dX8_caller_0 rfl (lv_at hl 0 rfl) ?_
  refine lv_iload_n hx hb dX8_caller_1 rfl (lv_at hl 1 rfl) ?_
  refine clR (va_runV (As := [.int a1]) (rest := []) ⟨hx, hb, hml, hown, hts⟩ (c8_isClass l dC dI h0 q a1 _) (cwV 1 hts gX8_caller_X8_isClass rfl rfl rfl (by decide +kernel) ⟨Nat.le_of_ble_eq_true rfl, Nat.le_of_ble_eq_true rfl⟩) ⟨pz_blind, va_recv hK hP (ci := 7) (q0 := 0) rfl rfl, pz_of hP hK hD hN [0] [] rfl (by decide) rfl⟩ rfl rfl hl.1 rfl (lv_room (Nat.le_of_ble_eq_true rfl)) dX8_caller_2 ⟨Nat.le_of_ble_eq_true rfl, Nat.le_of_ble_eq_true rfl⟩) hS hP (fun v H locs w2 hP hS => ?_)
  rcases w2 with ⟨rfl, rfl⟩ | ⟨rfl, u1⟩
  · refine W.eq (g2 := F0 m 5 ls [.int 1]) rfl ?_
    refine lv_if_ne (tgt := 11) hx hb dX8_caller_5 (by decide) (fun _ => ?_) (fun h => absurd h (by decide))
    refine lv_aload_n hx hb dX8_caller_11 rfl (lv_at hl 0 rfl) ?_
    refine va_get (D := (dC, dI)) (own := RX8) (ref := "ReflectModels") (index := 58) (ci := 7) (v := .int 0) (C := RX8) (T := TX8) (N := 15) hx hb hts inX8_caller_8 hown hK hP 0 rfl rfl 11 (by decide) (hts (.fieldLink RX8 58 "ReflectModels" "callerNumber" "I") (by decide +kernel)) (fun _ h9 => h9) rfl dX8_caller_12 ?_
    refine lv_istore_n (lv' := [(2, .int 0), (0, .ref h0), (1, .int 0)]) hx hb dX8_caller_15 rfl hl (by decide) rfl (fun ls hl => ?_)
    refine lv_aload_n hx hb dX8_caller_16 rfl (lv_at hl 1 rfl) ?_
    refine lv_iload_n hx hb dX8_caller_17 rfl (lv_at hl 2 rfl) ?_
    refine va_put (D := (dC, dI)) (own := RX8) (ref := "ReflectModels") (index := 58) (ci := 7) (v := .int 0) (ty := .int) (C := RX8) (T := TX8) (N := 15) hx hb hts inX8_caller_8 tyX8 tyX8_ok nmX8 hown hK hP hD hS 0 rfl rfl 11 (by decide) (hts (.fieldLink RX8 58 "ReflectModels" "callerNumber" "I") (by decide +kernel)) (fun _ h9 => h9) rfl (by decide +kernel) rfl rfl (Nat.le_of_ble_eq_true rfl) dX8_caller_18 (fun H locs hP hD hS => ?_)
    have hP : va_P (dC, dI) vwCl [(h0, .inr (7, [.ref (q 0), .int 1, .ref (q 1), .int 0, .int 0, .ref (q 2), .int 0, .ref (q 3), .int 0, .ref (q 4), .int 0, .int 0, .ref (q 5), .int 0, .int 0])), ((q 0), .inl ((cA 0), 16, .inr (.inr (.inr (.inr (va_up (fun _ => none) 0 (some (q 6)))))))), ((q 1), .inl ((cA 1), 40, .inr (.inr (.inr (.inr (fun _ => none)))))), ((q 2), .inl ((cA 2), 60, .inr (.inr (.inr (.inr (fun _ => none)))))), ((q 3), .inl ((cA 3), 124, .inr (.inr (.inr (.inr (fun _ => none)))))), ((q 4), .inl ((cA 4), 3, .inr (.inr (.inr (.inr (va_up (va_up (va_up (fun _ => none) 0 (some (q 7))) 1 (some (q 8))) 2 (some (q 9)))))))), ((q 5), .inr (6, [.int 0, .long 0])), ((q 6), .inr (0, [.int 0, .null, .int 0, .null, .int 0, .int 0, .int 1, .int 1, .int 0, .int 0, .int 0, .int 0])), ((q 7), .inr (6, [.int 0, .long 0])), ((q 8), .inr (6, [.int 0, .long 0])), ((q 9), .inr (6, [.int 0, .long 0]))] H := hP
    have hD : va_D A [(h0, .inr (7, [.ref (q 0), .int 1, .ref (q 1), .int 0, .int 0, .ref (q 2), .int 0, .ref (q 3), .int 0, .ref (q 4), .int 0, .int 0, .ref (q 5), .int 0, .int 0])), ((q 0), .inl ((cA 0), 16, .inr (.inr (.inr (.inr (va_up (fun _ => none) 0 (some (q 6)))))))), ((q 1), .inl ((cA 1), 40, .inr (.inr (.inr (.inr (fun _ => none)))))), ((q 2), .inl ((cA 2), 60, .inr (.inr (.inr (.inr (fun _ => none)))))), ((q 3), .inl ((cA 3), 124, .inr (.inr (.inr (.inr (fun _ => none)))))), ((q 4), .inl ((cA 4), 3, .inr (.inr (.inr (.inr (va_up (va_up (va_up (fun _ => none) 0 (some (q 7))) 1 (some (q 8))) 2 (some (q 9)))))))), ((q 5), .inr (6, [.int 0, .long 0])), ((q 6), .inr (0, [.int 0, .null, .int 0, .null, .int 0, .int 0, .int 1, .int 1, .int 0, .int 0, .int 0, .int 0])), ((q 7), .inr (6, [.int 0, .long 0])), ((q 8), .inr (6, [.int 0, .long 0])), ((q 9), .inr (6, [.int 0, .long 0]))] := hD
    refine lv_iload_n hx hb dX8_caller_21 rfl (lv_at hl 0 rfl) ?_
    have hP9 := hP.sub (ws' := []) [] rfl
    have hD9 := hD.sub (ws' := []) [] (by decide) rfl
    have hK9 := hK.sub (tys' := []) [] rfl
    exact W.zret (v := 0) (ty := .int) hx hb hr rfl (fun t ht hW => ⟨⟨(some (.int 0)), rfl, _, _, ⟨congrArg (fun z => some (Value.int z)) (by unfold an_caller; (repeat' split) <;> first | rfl | (exfalso; first | omega | (have kq := kz; omega))), rfl, rfl⟩, by rw [ht]; exact hP9, va_K.moved hW.alike hK9, hD9⟩, hS.F ht⟩) hS.2.2 dX8_caller_22
  · refine W.eq (g2 := F0 m 5 ls [.int 0]) rfl ?_
    refine lv_if_ne (tgt := 11) hx hb dX8_caller_5 (by decide) (fun h => absurd h (by decide)) (fun _ => ?_)
    refine lv_bipush (v := (-2)) hx hb dX8_caller_8 (by decide) ?_
    have hP9 := hP.sub (ws' := []) [] rfl
    have hD9 := hD.sub (ws' := []) [] (by decide) rfl
    have hK9 := hK.sub (tys' := []) [] rfl
    exact W.zret (v := (-2)) (ty := .int) hx hb hr rfl (fun t ht hW => ⟨⟨(some (.int (-2))), rfl, _, _, ⟨congrArg (fun z => some (Value.int z)) (by unfold an_caller; (repeat' split) <;> first | rfl | (exfalso; first | omega | (have kq := kz; omega))), rfl, rfl⟩, by rw [ht]; exact hP9, va_K.moved hW.alike hK9, hD9⟩, hS.F ht⟩) hS.2.2 dX8_caller_10

set_option maxHeartbeats 4000000 in
set_option maxRecDepth 100000 in
/-- leave on a fresh object -/
theorem c8_leave (l : Launch) (dC : Nat → ClassId) (dI : Nat → Nat → Nat) (h0 : Nat) (q : Nat → Nat) (cA : Nat → ClassId) (a1 : Int32) (sz : Nat)  : Met l yX8_leave wsX8_leave ({ frames := 1, cells := 0, slots := 0, locals := 21 }) (va_Pc [.ref h0, .int a1] (pz (dC, dI) [((cA 0), .object "ReflectModels$ClassModel"), ((cA 1), .object "ReflectModels$Member"), ((cA 2), .object "ReflectModels$Handle"), ((cA 3), .object "ReflectModels$Thing"), ((cA 4), .object "ReflectModels$Value")] [(h0, .inr (7, [.ref (q 0), .int 1, .ref (q 1), .int 0, .int 0, .ref (q 2), .int 0, .ref (q 3), .int 0, .ref (q 4), .int 0, .int 0, .ref (q 5), .int 0, .int 0])), ((q 0), .inl ((cA 0), 16, .inr (.inr (.inr (.inr (va_up (fun _ => none) 0 (some (q 6)))))))), ((q 1), .inl ((cA 1), 40, .inr (.inr (.inr (.inr (fun _ => none)))))), ((q 2), .inl ((cA 2), 60, .inr (.inr (.inr (.inr (fun _ => none)))))), ((q 3), .inl ((cA 3), 124, .inr (.inr (.inr (.inr (fun _ => none)))))), ((q 4), .inl ((cA 4), 3, .inr (.inr (.inr (.inr (va_up (va_up (va_up (fun _ => none) 0 (some (q 7))) 1 (some (q 8))) 2 (some (q 9)))))))), ((q 5), .inr (6, [.int 0, .long 0])), ((q 6), .inr (0, [.int 0, .null, .int 0, .null, .int 0, .int 0, .int 1, .int 1, .int 0, .int 0, .int 0, .int 0])), ((q 7), .inr (6, [.int 0, .long 0])), ((q 8), .inr (6, [.int 0, .long 0])), ((q 9), .inr (6, [.int 0, .long 0]))] sz)) (qW (dC, dI) (fun v w1 ty1 => v = some (.int (an_leave a1.toInt)) ∧ w1 = [] ∧ ty1 = []) (va_A [(h0, .inr (7, [.ref (q 0), .int 1, .ref (q 1), .int 0, .int 0, .ref (q 2), .int 0, .ref (q 3), .int 0, .ref (q 4), .int 0, .int 0, .ref (q 5), .int 0, .int 0])), ((q 0), .inl ((cA 0), 16, .inr (.inr (.inr (.inr (va_up (fun _ => none) 0 (some (q 6)))))))), ((q 1), .inl ((cA 1), 40, .inr (.inr (.inr (.inr (fun _ => none)))))), ((q 2), .inl ((cA 2), 60, .inr (.inr (.inr (.inr (fun _ => none)))))), ((q 3), .inl ((cA 3), 124, .inr (.inr (.inr (.inr (fun _ => none)))))), ((q 4), .inl ((cA 4), 3, .inr (.inr (.inr (.inr (va_up (va_up (va_up (fun _ => none) 0 (some (q 7))) 1 (some (q 8))) 2 (some (q 9)))))))), ((q 5), .inr (6, [.int 0, .long 0])), ((q 6), .inr (0, [.int 0, .null, .int 0, .null, .int 0, .int 0, .int 1, .int 1, .int 0, .int 0, .int 0, .int 0])), ((q 7), .inr (6, [.int 0, .long 0])), ((q 8), .inr (6, [.int 0, .long 0])), ((q 9), .inr (6, [.int 0, .long 0]))] sz)) 0 0 (va_A [(h0, .inr (7, [.ref (q 0), .int 1, .ref (q 1), .int 0, .int 0, .ref (q 2), .int 0, .ref (q 3), .int 0, .ref (q 4), .int 0, .int 0, .ref (q 5), .int 0, .int 0])), ((q 0), .inl ((cA 0), 16, .inr (.inr (.inr (.inr (va_up (fun _ => none) 0 (some (q 6)))))))), ((q 1), .inl ((cA 1), 40, .inr (.inr (.inr (.inr (fun _ => none)))))), ((q 2), .inl ((cA 2), 60, .inr (.inr (.inr (.inr (fun _ => none)))))), ((q 3), .inl ((cA 3), 124, .inr (.inr (.inr (.inr (fun _ => none)))))), ((q 4), .inl ((cA 4), 3, .inr (.inr (.inr (.inr (va_up (va_up (va_up (fun _ => none) 0 (some (q 7))) 1 (some (q 8))) 2 (some (q 9)))))))), ((q 5), .inr (6, [.int 0, .long 0])), ((q 6), .inr (0, [.int 0, .null, .int 0, .null, .int 0, .int 0, .int 1, .int 1, .int 0, .int 0, .int 0, .int 0])), ((q 7), .inr (6, [.int 0, .long 0])), ((q 8), .inr (6, [.int 0, .long 0])), ((q 9), .inr (6, [.int 0, .long 0]))] sz) := by
  refine Met.ofW (cc := cX8_leave) (maxL := 3) (ret := (some .int)) (by decide) rfl ?_
  intro p e s m args below meth c s₁ B hml hv
  obtain ⟨rfl, hsz, hP, hK, hD, hN⟩ := hv
  have hx := B.exec
  have hb := B.bytes
  have hr := B.returns
  have hts := atoms_spec (ws := wsX8_leave) B.pre
  have hown : s.vm.findClass RX8 = some m.cls := findClass_of_methodNamed B.named
  have hlocks := B.notSynchronized
  subst hsz
  have hD := hD.self (sz := s.heap.size)
  generalize hAe : va_A [(h0, .inr (7, [.ref (q 0), .int 1, .ref (q 1), .int 0, .int 0, .ref (q 2), .int 0, .ref (q 3), .int 0, .ref (q 4), .int 0, .int 0, .ref (q 5), .int 0, .int 0])), ((q 0), .inl ((cA 0), 16, .inr (.inr (.inr (.inr (va_up (fun _ => none) 0 (some (q 6)))))))), ((q 1), .inl ((cA 1), 40, .inr (.inr (.inr (.inr (fun _ => none)))))), ((q 2), .inl ((cA 2), 60, .inr (.inr (.inr (.inr (fun _ => none)))))), ((q 3), .inl ((cA 3), 124, .inr (.inr (.inr (.inr (fun _ => none)))))), ((q 4), .inl ((cA 4), 3, .inr (.inr (.inr (.inr (va_up (va_up (va_up (fun _ => none) 0 (some (q 7))) 1 (some (q 8))) 2 (some (q 9)))))))), ((q 5), .inr (6, [.int 0, .long 0])), ((q 6), .inr (0, [.int 0, .null, .int 0, .null, .int 0, .int 0, .int 1, .int 1, .int 0, .int 0, .int 0, .int 0])), ((q 7), .inr (6, [.int 0, .long 0])), ((q 8), .inr (6, [.int 0, .long 0])), ((q 9), .inr (6, [.int 0, .long 0]))] s.heap.size = A at hD ⊢
  have hA : ∀ q : Nat, s.heap.size ≤ q → A q := fun q h => by rw [← hAe]; exact Or.inr h
  have hS : va_S A s.heap s.heap [] := va_S.rf
  have hl := lv_entry ([.ref h0, .int a1]) (n := 3) (Nat.le_of_ble_eq_true rfl)
  rw [lg_entry_eq]
  generalize (lg_sl ([.ref h0, .int a1]) ++ List.replicate (3 - (lg_sl ([.ref h0, .int a1])).length) Slot.unset).toArray = ls at hl ⊢
  have hl : lv_has ls 3 [(0, .ref h0), (1, .int a1)] := hl
  refine lv_aload_n hx hb dX8_leave_0 rfl (lv_at hl 0 rfl) ?_
  refine lv_iload_n hx hb dX8_leave_1 rfl (lv_at hl 1 rfl) ?_
  refine clR (va_runV (As := [.int a1]) (rest := []) ⟨hx, hb, hml, hown, hts⟩ (c8_isHandle l dC dI h0 q a1 _) (cwV 1 hts gX8_leave_X8_isHandle rfl rfl rfl (by decide +kernel) ⟨Nat.le_of_ble_eq_true rfl, Nat.le_of_ble_eq_true rfl⟩) ⟨pz_blind, va_recv hK hP (ci := 7) (q0 := 0) rfl rfl, pz_of hP hK hD hN [0] [] rfl (by decide) rfl⟩ rfl rfl hl.1 rfl (lv_room (Nat.le_of_ble_eq_true rfl)) dX8_leave_2 ⟨Nat.le_of_ble_eq_true rfl, Nat.le_of_ble_eq_true rfl⟩) hS hP (fun v H locs w1 hP hS => ?_)
  obtain rfl := w1
  refine W.eq (g2 := F0 m 5 ls [.int 0]) rfl ?_
  refine lv_if_ne (tgt := 11) hx hb dX8_leave_5 (by decide) (fun h => absurd h (by decide)) (fun _ => ?_)
  refine lv_bipush (v := (-2)) hx hb dX8_leave_8 (by decide) ?_
  have hP9 := hP.sub (ws' := []) [] rfl
  have hD9 := hD.sub (ws' := []) [] (by decide) rfl
  have hK9 := hK.sub (tys' := []) [] rfl
  exact W.zret (v := (-2)) (ty := .int) hx hb hr rfl (fun t ht hW => ⟨⟨(some (.int (-2))), rfl, _, _, ⟨congrArg (fun z => some (Value.int z)) (by unfold an_leave; (repeat' split) <;> first | rfl | (exfalso; first | omega | (have kq := kz; omega))), rfl, rfl⟩, by rw [ht]; exact hP9, va_K.moved hW.alike hK9, hD9⟩, hS.F ht⟩) hS.2.2 dX8_leave_10

set_option maxHeartbeats 4000000 in
set_option maxRecDepth 100000 in
/-- set on a fresh object -/
theorem c8_set (l : Launch) (dC : Nat → ClassId) (dI : Nat → Nat → Nat) (h0 : Nat) (q : Nat → Nat) (cA : Nat → ClassId) (a1 a2 : Int32) (sz : Nat)  : Met l yX8_set wsX8_set ({ frames := 1, cells := 0, slots := 0, locals := 21 }) (va_Pc [.ref h0, .int a1, .int a2] (pz (dC, dI) [((cA 0), .object "ReflectModels$ClassModel"), ((cA 1), .object "ReflectModels$Member"), ((cA 2), .object "ReflectModels$Handle"), ((cA 3), .object "ReflectModels$Thing"), ((cA 4), .object "ReflectModels$Value")] [(h0, .inr (7, [.ref (q 0), .int 1, .ref (q 1), .int 0, .int 0, .ref (q 2), .int 0, .ref (q 3), .int 0, .ref (q 4), .int 0, .int 0, .ref (q 5), .int 0, .int 0])), ((q 0), .inl ((cA 0), 16, .inr (.inr (.inr (.inr (va_up (fun _ => none) 0 (some (q 6)))))))), ((q 1), .inl ((cA 1), 40, .inr (.inr (.inr (.inr (fun _ => none)))))), ((q 2), .inl ((cA 2), 60, .inr (.inr (.inr (.inr (fun _ => none)))))), ((q 3), .inl ((cA 3), 124, .inr (.inr (.inr (.inr (fun _ => none)))))), ((q 4), .inl ((cA 4), 3, .inr (.inr (.inr (.inr (va_up (va_up (va_up (fun _ => none) 0 (some (q 7))) 1 (some (q 8))) 2 (some (q 9)))))))), ((q 5), .inr (6, [.int 0, .long 0])), ((q 6), .inr (0, [.int 0, .null, .int 0, .null, .int 0, .int 0, .int 1, .int 1, .int 0, .int 0, .int 0, .int 0])), ((q 7), .inr (6, [.int 0, .long 0])), ((q 8), .inr (6, [.int 0, .long 0])), ((q 9), .inr (6, [.int 0, .long 0]))] sz)) (qW (dC, dI) (fun v w1 ty1 => v = some (.int (an_set a1.toInt a2.toInt)) ∧ w1 = [] ∧ ty1 = []) (va_A [(h0, .inr (7, [.ref (q 0), .int 1, .ref (q 1), .int 0, .int 0, .ref (q 2), .int 0, .ref (q 3), .int 0, .ref (q 4), .int 0, .int 0, .ref (q 5), .int 0, .int 0])), ((q 0), .inl ((cA 0), 16, .inr (.inr (.inr (.inr (va_up (fun _ => none) 0 (some (q 6)))))))), ((q 1), .inl ((cA 1), 40, .inr (.inr (.inr (.inr (fun _ => none)))))), ((q 2), .inl ((cA 2), 60, .inr (.inr (.inr (.inr (fun _ => none)))))), ((q 3), .inl ((cA 3), 124, .inr (.inr (.inr (.inr (fun _ => none)))))), ((q 4), .inl ((cA 4), 3, .inr (.inr (.inr (.inr (va_up (va_up (va_up (fun _ => none) 0 (some (q 7))) 1 (some (q 8))) 2 (some (q 9)))))))), ((q 5), .inr (6, [.int 0, .long 0])), ((q 6), .inr (0, [.int 0, .null, .int 0, .null, .int 0, .int 0, .int 1, .int 1, .int 0, .int 0, .int 0, .int 0])), ((q 7), .inr (6, [.int 0, .long 0])), ((q 8), .inr (6, [.int 0, .long 0])), ((q 9), .inr (6, [.int 0, .long 0]))] sz)) 0 0 (va_A [(h0, .inr (7, [.ref (q 0), .int 1, .ref (q 1), .int 0, .int 0, .ref (q 2), .int 0, .ref (q 3), .int 0, .ref (q 4), .int 0, .int 0, .ref (q 5), .int 0, .int 0])), ((q 0), .inl ((cA 0), 16, .inr (.inr (.inr (.inr (va_up (fun _ => none) 0 (some (q 6)))))))), ((q 1), .inl ((cA 1), 40, .inr (.inr (.inr (.inr (fun _ => none)))))), ((q 2), .inl ((cA 2), 60, .inr (.inr (.inr (.inr (fun _ => none)))))), ((q 3), .inl ((cA 3), 124, .inr (.inr (.inr (.inr (fun _ => none)))))), ((q 4), .inl ((cA 4), 3, .inr (.inr (.inr (.inr (va_up (va_up (va_up (fun _ => none) 0 (some (q 7))) 1 (some (q 8))) 2 (some (q 9)))))))), ((q 5), .inr (6, [.int 0, .long 0])), ((q 6), .inr (0, [.int 0, .null, .int 0, .null, .int 0, .int 0, .int 1, .int 1, .int 0, .int 0, .int 0, .int 0])), ((q 7), .inr (6, [.int 0, .long 0])), ((q 8), .inr (6, [.int 0, .long 0])), ((q 9), .inr (6, [.int 0, .long 0]))] sz) := by
  refine Met.ofW (cc := cX8_set) (maxL := 5) (ret := (some .int)) (by decide) rfl ?_
  intro p e s m args below meth c s₁ B hml hv
  obtain ⟨rfl, hsz, hP, hK, hD, hN⟩ := hv
  have hx := B.exec
  have hb := B.bytes
  have hr := B.returns
  have hts := atoms_spec (ws := wsX8_set) B.pre
  have hown : s.vm.findClass RX8 = some m.cls := findClass_of_methodNamed B.named
  have hlocks := B.notSynchronized
  subst hsz
  have hD := hD.self (sz := s.heap.size)
  generalize hAe : va_A [(h0, .inr (7, [.ref (q 0), .int 1, .ref (q 1), .int 0, .int 0, .ref (q 2), .int 0, .ref (q 3), .int 0, .ref (q 4), .int 0, .int 0, .ref (q 5), .int 0, .int 0])), ((q 0), .inl ((cA 0), 16, .inr (.inr (.inr (.inr (va_up (fun _ => none) 0 (some (q 6)))))))), ((q 1), .inl ((cA 1), 40, .inr (.inr (.inr (.inr (fun _ => none)))))), ((q 2), .inl ((cA 2), 60, .inr (.inr (.inr (.inr (fun _ => none)))))), ((q 3), .inl ((cA 3), 124, .inr (.inr (.inr (.inr (fun _ => none)))))), ((q 4), .inl ((cA 4), 3, .inr (.inr (.inr (.inr (va_up (va_up (va_up (fun _ => none) 0 (some (q 7))) 1 (some (q 8))) 2 (some (q 9)))))))), ((q 5), .inr (6, [.int 0, .long 0])), ((q 6), .inr (0, [.int 0, .null, .int 0, .null, .int 0, .int 0, .int 1, .int 1, .int 0, .int 0, .int 0, .int 0])), ((q 7), .inr (6, [.int 0, .long 0])), ((q 8), .inr (6, [.int 0, .long 0])), ((q 9), .inr (6, [.int 0, .long 0]))] s.heap.size = A at hD ⊢
  have hA : ∀ q : Nat, s.heap.size ≤ q → A q := fun q h => by rw [← hAe]; exact Or.inr h
  have hS : va_S A s.heap s.heap [] := va_S.rf
  have hl := lv_entry ([.ref h0, .int a1, .int a2]) (n := 5) (Nat.le_of_ble_eq_true rfl)
  rw [lg_entry_eq]
  generalize (lg_sl ([.ref h0, .int a1, .int a2]) ++ List.replicate (5 - (lg_sl ([.ref h0, .int a1, .int a2])).length) Slot.unset).toArray = ls at hl ⊢
  have hl : lv_has ls 5 [(0, .ref h0), (1, .int a1), (2, .int a2)] := hl
  refine lv_aload_n hx hb dX8_set_0 rfl (lv_at hl 0 rfl) ?_
  refine lv_iload_n hx hb dX8_set_1 rfl (lv_at hl 1 rfl) ?_
  refine clR (va_runV (As := [.int a1]) (rest := []) ⟨hx, hb, hml, hown, hts⟩ (c8_isHandle l dC dI h0 q a1 _) (cwV 1 hts gX8_set_X8_isHandle rfl rfl rfl (by decide +kernel) ⟨Nat.le_of_ble_eq_true rfl, Nat.le_of_ble_eq_true rfl⟩) ⟨pz_blind, va_recv hK hP (ci := 7) (q0 := 0) rfl rfl, pz_of hP hK hD hN [0] [] rfl (by decide) rfl⟩ rfl rfl hl.1 rfl (lv_room (Nat.le_of_ble_eq_true rfl)) dX8_set_2 ⟨Nat.le_of_ble_eq_true rfl, Nat.le_of_ble_eq_true rfl⟩) hS hP (fun v H locs w1 hP hS => ?_)
  obtain rfl := w1
  refine W.eq (g2 := F0 m 5 ls [.int 0]) rfl ?_
  refine lv_if_eq (tgt := 16) hx hb dX8_set_5 (by decide) (fun _ => ?_) (fun h => absurd (by decide) h)
  refine lv_bipush (v := (-2)) hx hb dX8_set_16 (by decide) ?_
  have hP9 := hP.sub (ws' := []) [] rfl
  have hD9 := hD.sub (ws' := []) [] (by decide) rfl
  have hK9 := hK.sub (tys' := []) [] rfl
  exact W.zret (v := (-2)) (ty := .int) hx hb hr rfl (fun t ht hW => ⟨⟨(some (.int (-2))), rfl, _, _, ⟨congrArg (fun z => some (Value.int z)) (by unfold an_set; (repeat' split) <;> first | rfl | (exfalso; first | omega | (have kq := kz; omega))), rfl, rfl⟩, by rw [ht]; exact hP9, va_K.moved hW.alike hK9, hD9⟩, hS.F ht⟩) hS.2.2 dX8_set_18

set_option maxHeartbeats 4000000 in
set_option maxRecDepth 100000 in
/-- call on a fresh object -/
theorem c8_call (l : Launch) (dC : Nat → ClassId) (dI : Nat → Nat → Nat) (h0 : Nat) (q : Nat → Nat) (cA : Nat → ClassId) (a1 a2 : Int32) (sz : Nat)  : Met l yX8_call wsX8_call ({ frames := 1, cells := 0, slots := 0, locals := 21 }) (va_Pc [.ref h0, .int a1, .int a2] (pz (dC, dI) [((cA 0), .object "ReflectModels$ClassModel"), ((cA 1), .object "ReflectModels$Member"), ((cA 2), .object "ReflectModels$Handle"), ((cA 3), .object "ReflectModels$Thing"), ((cA 4), .object "ReflectModels$Value")] [(h0, .inr (7, [.ref (q 0), .int 1, .ref (q 1), .int 0, .int 0, .ref (q 2), .int 0, .ref (q 3), .int 0, .ref (q 4), .int 0, .int 0, .ref (q 5), .int 0, .int 0])), ((q 0), .inl ((cA 0), 16, .inr (.inr (.inr (.inr (va_up (fun _ => none) 0 (some (q 6)))))))), ((q 1), .inl ((cA 1), 40, .inr (.inr (.inr (.inr (fun _ => none)))))), ((q 2), .inl ((cA 2), 60, .inr (.inr (.inr (.inr (fun _ => none)))))), ((q 3), .inl ((cA 3), 124, .inr (.inr (.inr (.inr (fun _ => none)))))), ((q 4), .inl ((cA 4), 3, .inr (.inr (.inr (.inr (va_up (va_up (va_up (fun _ => none) 0 (some (q 7))) 1 (some (q 8))) 2 (some (q 9)))))))), ((q 5), .inr (6, [.int 0, .long 0])), ((q 6), .inr (0, [.int 0, .null, .int 0, .null, .int 0, .int 0, .int 1, .int 1, .int 0, .int 0, .int 0, .int 0])), ((q 7), .inr (6, [.int 0, .long 0])), ((q 8), .inr (6, [.int 0, .long 0])), ((q 9), .inr (6, [.int 0, .long 0]))] sz)) (qW (dC, dI) (fun v w1 ty1 => v = some (.int (an_call a1.toInt a2.toInt)) ∧ w1 = [] ∧ ty1 = []) (va_A [(h0, .inr (7, [.ref (q 0), .int 1, .ref (q 1), .int 0, .int 0, .ref (q 2), .int 0, .ref (q 3), .int 0, .ref (q 4), .int 0, .int 0, .ref (q 5), .int 0, .int 0])), ((q 0), .inl ((cA 0), 16, .inr (.inr (.inr (.inr (va_up (fun _ => none) 0 (some (q 6)))))))), ((q 1), .inl ((cA 1), 40, .inr (.inr (.inr (.inr (fun _ => none)))))), ((q 2), .inl ((cA 2), 60, .inr (.inr (.inr (.inr (fun _ => none)))))), ((q 3), .inl ((cA 3), 124, .inr (.inr (.inr (.inr (fun _ => none)))))), ((q 4), .inl ((cA 4), 3, .inr (.inr (.inr (.inr (va_up (va_up (va_up (fun _ => none) 0 (some (q 7))) 1 (some (q 8))) 2 (some (q 9)))))))), ((q 5), .inr (6, [.int 0, .long 0])), ((q 6), .inr (0, [.int 0, .null, .int 0, .null, .int 0, .int 0, .int 1, .int 1, .int 0, .int 0, .int 0, .int 0])), ((q 7), .inr (6, [.int 0, .long 0])), ((q 8), .inr (6, [.int 0, .long 0])), ((q 9), .inr (6, [.int 0, .long 0]))] sz)) 0 0 (va_A [(h0, .inr (7, [.ref (q 0), .int 1, .ref (q 1), .int 0, .int 0, .ref (q 2), .int 0, .ref (q 3), .int 0, .ref (q 4), .int 0, .int 0, .ref (q 5), .int 0, .int 0])), ((q 0), .inl ((cA 0), 16, .inr (.inr (.inr (.inr (va_up (fun _ => none) 0 (some (q 6)))))))), ((q 1), .inl ((cA 1), 40, .inr (.inr (.inr (.inr (fun _ => none)))))), ((q 2), .inl ((cA 2), 60, .inr (.inr (.inr (.inr (fun _ => none)))))), ((q 3), .inl ((cA 3), 124, .inr (.inr (.inr (.inr (fun _ => none)))))), ((q 4), .inl ((cA 4), 3, .inr (.inr (.inr (.inr (va_up (va_up (va_up (fun _ => none) 0 (some (q 7))) 1 (some (q 8))) 2 (some (q 9)))))))), ((q 5), .inr (6, [.int 0, .long 0])), ((q 6), .inr (0, [.int 0, .null, .int 0, .null, .int 0, .int 0, .int 1, .int 1, .int 0, .int 0, .int 0, .int 0])), ((q 7), .inr (6, [.int 0, .long 0])), ((q 8), .inr (6, [.int 0, .long 0])), ((q 9), .inr (6, [.int 0, .long 0]))] sz) := by
  refine Met.ofW (cc := cX8_call) (maxL := 6) (ret := (some .int)) (by decide) rfl ?_
  intro p e s m args below meth c s₁ B hml hv
  obtain ⟨rfl, hsz, hP, hK, hD, hN⟩ := hv
  have hx := B.exec
  have hb := B.bytes
  have hr := B.returns
  have hts := atoms_spec (ws := wsX8_call) B.pre
  have hown : s.vm.findClass RX8 = some m.cls := findClass_of_methodNamed B.named
  have hlocks := B.notSynchronized
  subst hsz
  have hD := hD.self (sz := s.heap.size)
  generalize hAe : va_A [(h0, .inr (7, [.ref (q 0), .int 1, .ref (q 1), .int 0, .int 0, .ref (q 2), .int 0, .ref (q 3), .int 0, .ref (q 4), .int 0, .int 0, .ref (q 5), .int 0, .int 0])), ((q 0), .inl ((cA 0), 16, .inr (.inr (.inr (.inr (va_up (fun _ => none) 0 (some (q 6)))))))), ((q 1), .inl ((cA 1), 40, .inr (.inr (.inr (.inr (fun _ => none)))))), ((q 2), .inl ((cA 2), 60, .inr (.inr (.inr (.inr (fun _ => none)))))), ((q 3), .inl ((cA 3), 124, .inr (.inr (.inr (.inr (fun _ => none)))))), ((q 4), .inl ((cA 4), 3, .inr (.inr (.inr (.inr (va_up (va_up (va_up (fun _ => none) 0 (some (q 7))) 1 (some (q 8))) 2 (some (q 9)))))))), ((q 5), .inr (6, [.int 0, .long 0])), ((q 6), .inr (0, [.int 0, .null, .int 0, .null, .int 0, .int 0, .int 1, .int 1, .int 0, .int 0, .int 0, .int 0])), ((q 7), .inr (6, [.int 0, .long 0])), ((q 8), .inr (6, [.int 0, .long 0])), ((q 9), .inr (6, [.int 0, .long 0]))] s.heap.size = A at hD ⊢
  have hA : ∀ q : Nat, s.heap.size ≤ q → A q := fun q h => by rw [← hAe]; exact Or.inr h
  have hS : va_S A s.heap s.heap [] := va_S.rf
  have hl := lv_entry ([.ref h0, .int a1, .int a2]) (n := 6) (Nat.le_of_ble_eq_true rfl)
  rw [lg_entry_eq]
  generalize (lg_sl ([.ref h0, .int a1, .int a2]) ++ List.replicate (6 - (lg_sl ([.ref h0, .int a1, .int a2])).length) Slot.unset).toArray = ls at hl ⊢
  have hl : lv_has ls 6 [(0, .ref h0), (1, .int a1), (2, .int a2)] := hl
  refine lv_aload_n hx hb dX8_call_0 rfl (lv_at hl 0 rfl) ?_
  refine lv_iload_n hx hb dX8_call_1 rfl (lv_at hl 1 rfl) ?_
  refine clR (va_runV (As := [.int a1]) (rest := []) ⟨hx, hb, hml, hown, hts⟩ (c8_isHandle l dC dI h0 q a1 _) (cwV 1 hts gX8_call_X8_isHandle rfl rfl rfl (by decide +kernel) ⟨Nat.le_of_ble_eq_true rfl, Nat.le_of_ble_eq_true rfl⟩) ⟨pz_blind, va_recv hK hP (ci := 7) (q0 := 0) rfl rfl, pz_of hP hK hD hN [0] [] rfl (by decide) rfl⟩ rfl rfl hl.1 rfl (lv_room (Nat.le_of_ble_eq_true rfl)) dX8_call_2 ⟨Nat.le_of_ble_eq_true rfl, Nat.le_of_ble_eq_true rfl⟩) hS hP (fun v H locs w1 hP hS => ?_)
  obtain rfl := w1
  refine W.eq (g2 := F0 m 5 ls [.int 0]) rfl ?_
  refine lv_if_eq (tgt := 16) hx hb dX8_call_5 (by decide) (fun _ => ?_) (fun h => absurd (by decide) h)
  refine lv_bipush (v := (-2)) hx hb dX8_call_16 (by decide) ?_
  have hP9 := hP.sub (ws' := []) [] rfl
  have hD9 := hD.sub (ws' := []) [] (by decide) rfl
  have hK9 := hK.sub (tys' := []) [] rfl
  exact W.zret (v := (-2)) (ty := .int) hx hb hr rfl (fun t ht hW => ⟨⟨(some (.int (-2))), rfl, _, _, ⟨congrArg (fun z => some (Value.int z)) (by unfold an_call; (repeat' split) <;> first | rfl | (exfalso; first | omega | (have kq := kz; omega))), rfl, rfl⟩, by rw [ht]; exact hP9, va_K.moved hW.alike hK9, hD9⟩, hS.F ht⟩) hS.2.2 dX8_call_18

set_option maxHeartbeats 4000000 in
set_option maxRecDepth 100000 in
/-- handle on a fresh object -/
theorem c8_handle (l : Launch) (dC : Nat → ClassId) (dI : Nat → Nat → Nat) (h0 : Nat) (q : Nat → Nat) (cA : Nat → ClassId) (a1 a2 : Int32) (sz : Nat)  : Met l yX8_handle wsX8_handle ({ frames := 1, cells := 0, slots := 0, locals := 21 }) (va_Pc [.ref h0, .int a1, .int a2] (pz (dC, dI) [((cA 0), .object "ReflectModels$ClassModel"), ((cA 1), .object "ReflectModels$Member"), ((cA 2), .object "ReflectModels$Handle"), ((cA 3), .object "ReflectModels$Thing"), ((cA 4), .object "ReflectModels$Value")] [(h0, .inr (7, [.ref (q 0), .int 1, .ref (q 1), .int 0, .int 0, .ref (q 2), .int 0, .ref (q 3), .int 0, .ref (q 4), .int 0, .int 0, .ref (q 5), .int 0, .int 0])), ((q 0), .inl ((cA 0), 16, .inr (.inr (.inr (.inr (va_up (fun _ => none) 0 (some (q 6)))))))), ((q 1), .inl ((cA 1), 40, .inr (.inr (.inr (.inr (fun _ => none)))))), ((q 2), .inl ((cA 2), 60, .inr (.inr (.inr (.inr (fun _ => none)))))), ((q 3), .inl ((cA 3), 124, .inr (.inr (.inr (.inr (fun _ => none)))))), ((q 4), .inl ((cA 4), 3, .inr (.inr (.inr (.inr (va_up (va_up (va_up (fun _ => none) 0 (some (q 7))) 1 (some (q 8))) 2 (some (q 9)))))))), ((q 5), .inr (6, [.int 0, .long 0])), ((q 6), .inr (0, [.int 0, .null, .int 0, .null, .int 0, .int 0, .int 1, .int 1, .int 0, .int 0, .int 0, .int 0])), ((q 7), .inr (6, [.int 0, .long 0])), ((q 8), .inr (6, [.int 0, .long 0])), ((q 9), .inr (6, [.int 0, .long 0]))] sz)) (qW (dC, dI) (fun v w1 ty1 => v = some (.int (an_handle a1.toInt a2.toInt)) ∧ w1 = [] ∧ ty1 = []) (va_A [(h0, .inr (7, [.ref (q 0), .int 1, .ref (q 1), .int 0, .int 0, .ref (q 2), .int 0, .ref (q 3), .int 0, .ref (q 4), .int 0, .int 0, .ref (q 5), .int 0, .int 0])), ((q 0), .inl ((cA 0), 16, .inr (.inr (.inr (.inr (va_up (fun _ => none) 0 (some (q 6)))))))), ((q 1), .inl ((cA 1), 40, .inr (.inr (.inr (.inr (fun _ => none)))))), ((q 2), .inl ((cA 2), 60, .inr (.inr (.inr (.inr (fun _ => none)))))), ((q 3), .inl ((cA 3), 124, .inr (.inr (.inr (.inr (fun _ => none)))))), ((q 4), .inl ((cA 4), 3, .inr (.inr (.inr (.inr (va_up (va_up (va_up (fun _ => none) 0 (some (q 7))) 1 (some (q 8))) 2 (some (q 9)))))))), ((q 5), .inr (6, [.int 0, .long 0])), ((q 6), .inr (0, [.int 0, .null, .int 0, .null, .int 0, .int 0, .int 1, .int 1, .int 0, .int 0, .int 0, .int 0])), ((q 7), .inr (6, [.int 0, .long 0])), ((q 8), .inr (6, [.int 0, .long 0])), ((q 9), .inr (6, [.int 0, .long 0]))] sz)) 0 0 (va_A [(h0, .inr (7, [.ref (q 0), .int 1, .ref (q 1), .int 0, .int 0, .ref (q 2), .int 0, .ref (q 3), .int 0, .ref (q 4), .int 0, .int 0, .ref (q 5), .int 0, .int 0])), ((q 0), .inl ((cA 0), 16, .inr (.inr (.inr (.inr (va_up (fun _ => none) 0 (some (q 6)))))))), ((q 1), .inl ((cA 1), 40, .inr (.inr (.inr (.inr (fun _ => none)))))), ((q 2), .inl ((cA 2), 60, .inr (.inr (.inr (.inr (fun _ => none)))))), ((q 3), .inl ((cA 3), 124, .inr (.inr (.inr (.inr (fun _ => none)))))), ((q 4), .inl ((cA 4), 3, .inr (.inr (.inr (.inr (va_up (va_up (va_up (fun _ => none) 0 (some (q 7))) 1 (some (q 8))) 2 (some (q 9)))))))), ((q 5), .inr (6, [.int 0, .long 0])), ((q 6), .inr (0, [.int 0, .null, .int 0, .null, .int 0, .int 0, .int 1, .int 1, .int 0, .int 0, .int 0, .int 0])), ((q 7), .inr (6, [.int 0, .long 0])), ((q 8), .inr (6, [.int 0, .long 0])), ((q 9), .inr (6, [.int 0, .long 0]))] sz) := by
  refine Met.ofW (cc := cX8_handle) (maxL := 3) (ret := (some .int)) (by decide) rfl ?_
  intro p e s m args below meth c s₁ B hml hv
  obtain ⟨rfl, hsz, hP, hK, hD, hN⟩ := hv
  have hx := B.exec
  have hb := B.bytes
  have hr := B.returns
  have hts := atoms_spec (ws := wsX8_handle) B.pre
  have hown : s.vm.findClass RX8 = some m.cls := findClass_of_methodNamed B.named
  have hlocks := B.notSynchronized
  subst hsz
  have hD := hD.self (sz := s.heap.size)
  generalize hAe : va_A [(h0, .inr (7, [.ref (q 0), .int 1, .ref (q 1), .int 0, .int 0, .ref (q 2), .int 0, .ref (q 3), .int 0, .ref (q 4), .int 0, .int 0, .ref (q 5), .int 0, .int 0])), ((q 0), .inl ((cA 0), 16, .inr (.inr (.inr (.inr (va_up (fun _ => none) 0 (some (q 6)))))))), ((q 1), .inl ((cA 1), 40, .inr (.inr (.inr (.inr (fun _ => none)))))), ((q 2), .inl ((cA 2), 60, .inr (.inr (.inr (.inr (fun _ => none)))))), ((q 3), .inl ((cA 3), 124, .inr (.inr (.inr (.inr (fun _ => none)))))), ((q 4), .inl ((cA 4), 3, .inr (.inr (.inr (.inr (va_up (va_up (va_up (fun _ => none) 0 (some (q 7))) 1 (some (q 8))) 2 (some (q 9)))))))), ((q 5), .inr (6, [.int 0, .long 0])), ((q 6), .inr (0, [.int 0, .null, .int 0, .null, .int 0, .int 0, .int 1, .int 1, .int 0, .int 0, .int 0, .int 0])), ((q 7), .inr (6, [.int 0, .long 0])), ((q 8), .inr (6, [.int 0, .long 0])), ((q 9), .inr (6, [.int 0, .long 0]))] s.heap.size = A at hD ⊢
  have hA : ∀ q : Nat, s.heap.size ≤ q → A q := fun q h => by rw [← hAe]; exact Or.inr h
  have hS : va_S A s.heap s.heap [] := va_S.rf
  have hl := lv_entry ([.ref h0, .int a1, .int a2]) (n := 3) (Nat.le_of_ble_eq_true rfl)
  rw [lg_entry_eq]
  generalize (lg_sl ([.ref h0, .int a1, .int a2]) ++ List.replicate (3 - (lg_sl ([.ref h0, .int a1, .int a2])).length) Slot.unset).toArray = ls at hl ⊢
  have hl : lv_has ls 3 [(0, .ref h0), (1, .int a1), (2, .int a2)] := hl
  refine lv_aload_n hx hb dX8_handle_0 rfl (lv_at hl 0 rfl) ?_
  refine lv_iload_n hx hb dX8_handle_1 rfl (lv_at hl 1 rfl) ?_
  refine clR (va_runV (As := [.int a1]) (rest := []) ⟨hx, hb, hml, hown, hts⟩ (c8_isHandle l dC dI h0 q a1 _) (cwV 1 hts gX8_handle_X8_isHandle rfl rfl rfl (by decide +kernel) ⟨Nat.le_of_ble_eq_true rfl, Nat.le_of_ble_eq_true rfl⟩) ⟨pz_blind, va_recv hK hP (ci := 7) (q0 := 0) rfl rfl, pz_of hP hK hD hN [0] [] rfl (by decide) rfl⟩ rfl rfl hl.1 rfl (lv_room (Nat.le_of_ble_eq_true rfl)) dX8_handle_2 ⟨Nat.le_of_ble_eq_true rfl, Nat.le_of_ble_eq_true rfl⟩) hS hP (fun v H locs w1 hP hS => ?_)
  obtain rfl := w1
  refine W.eq (g2 := F0 m 5 ls [.int 0]) rfl ?_
  refine lv_if_ne (tgt := 11) hx hb dX8_handle_5 (by decide) (fun h => absurd h (by decide)) (fun _ => ?_)
  refine lv_bipush (v := (-2)) hx hb dX8_handle_8 (by decide) ?_
  have hP9 := hP.sub (ws' := []) [] rfl
  have hD9 := hD.sub (ws' := []) [] (by decide) rfl
  have hK9 := hK.sub (tys' := []) [] rfl
  exact W.zret (v := (-2)) (ty := .int) hx hb hr rfl (fun t ht hW => ⟨⟨(some (.int (-2))), rfl, _, _, ⟨congrArg (fun z => some (Value.int z)) (by unfold an_handle; (repeat' split) <;> first | rfl | (exfalso; first | omega | (have kq := kz; omega))), rfl, rfl⟩, by rw [ht]; exact hP9, va_K.moved hW.alike hK9, hD9⟩, hS.F ht⟩) hS.2.2 dX8_handle_10

set_option maxHeartbeats 4000000 in
set_option maxRecDepth 100000 in
/-- is on a fresh object -/
theorem c8_is (l : Launch) (dC : Nat → ClassId) (dI : Nat → Nat → Nat) (h0 : Nat) (q : Nat → Nat) (cA : Nat → ClassId) (a1 a2 : Int32) (sz : Nat)  : Met l yX8_is wsX8_is ({ frames := 1, cells := 0, slots := 0, locals := 21 }) (va_Pc [.ref h0, .int a1, .int a2] (pz (dC, dI) [((cA 0), .object "ReflectModels$ClassModel"), ((cA 1), .object "ReflectModels$Member"), ((cA 2), .object "ReflectModels$Handle"), ((cA 3), .object "ReflectModels$Thing"), ((cA 4), .object "ReflectModels$Value")] [(h0, .inr (7, [.ref (q 0), .int 1, .ref (q 1), .int 0, .int 0, .ref (q 2), .int 0, .ref (q 3), .int 0, .ref (q 4), .int 0, .int 0, .ref (q 5), .int 0, .int 0])), ((q 0), .inl ((cA 0), 16, .inr (.inr (.inr (.inr (va_up (fun _ => none) 0 (some (q 6)))))))), ((q 1), .inl ((cA 1), 40, .inr (.inr (.inr (.inr (fun _ => none)))))), ((q 2), .inl ((cA 2), 60, .inr (.inr (.inr (.inr (fun _ => none)))))), ((q 3), .inl ((cA 3), 124, .inr (.inr (.inr (.inr (fun _ => none)))))), ((q 4), .inl ((cA 4), 3, .inr (.inr (.inr (.inr (va_up (va_up (va_up (fun _ => none) 0 (some (q 7))) 1 (some (q 8))) 2 (some (q 9)))))))), ((q 5), .inr (6, [.int 0, .long 0])), ((q 6), .inr (0, [.int 0, .null, .int 0, .null, .int 0, .int 0, .int 1, .int 1, .int 0, .int 0, .int 0, .int 0])), ((q 7), .inr (6, [.int 0, .long 0])), ((q 8), .inr (6, [.int 0, .long 0])), ((q 9), .inr (6, [.int 0, .long 0]))] sz)) (qW (dC, dI) (fun v w1 ty1 => v = some (.int (an_is a1.toInt a2.toInt)) ∧ w1 = [] ∧ ty1 = []) (va_A [(h0, .inr (7, [.ref (q 0), .int 1, .ref (q 1), .int 0, .int 0, .ref (q 2), .int 0, .ref (q 3), .int 0, .ref (q 4), .int 0, .int 0, .ref (q 5), .int 0, .int 0])), ((q 0), .inl ((cA 0), 16, .inr (.inr (.inr (.inr (va_up (fun _ => none) 0 (some (q 6)))))))), ((q 1), .inl ((cA 1), 40, .inr (.inr (.inr (.inr (fun _ => none)))))), ((q 2), .inl ((cA 2), 60, .inr (.inr (.inr (.inr (fun _ => none)))))), ((q 3), .inl ((cA 3), 124, .inr (.inr (.inr (.inr (fun _ => none)))))), ((q 4), .inl ((cA 4), 3, .inr (.inr (.inr (.inr (va_up (va_up (va_up (fun _ => none) 0 (some (q 7))) 1 (some (q 8))) 2 (some (q 9)))))))), ((q 5), .inr (6, [.int 0, .long 0])), ((q 6), .inr (0, [.int 0, .null, .int 0, .null, .int 0, .int 0, .int 1, .int 1, .int 0, .int 0, .int 0, .int 0])), ((q 7), .inr (6, [.int 0, .long 0])), ((q 8), .inr (6, [.int 0, .long 0])), ((q 9), .inr (6, [.int 0, .long 0]))] sz)) 0 0 (va_A [(h0, .inr (7, [.ref (q 0), .int 1, .ref (q 1), .int 0, .int 0, .ref (q 2), .int 0, .ref (q 3), .int 0, .ref (q 4), .int 0, .int 0, .ref (q 5), .int 0, .int 0])), ((q 0), .inl ((cA 0), 16, .inr (.inr (.inr (.inr (va_up (fun _ => none) 0 (some (q 6)))))))), ((q 1), .inl ((cA 1), 40, .inr (.inr (.inr (.inr (fun _ => none)))))), ((q 2), .inl ((cA 2), 60, .inr (.inr (.inr (.inr (fun _ => none)))))), ((q 3), .inl ((cA 3), 124, .inr (.inr (.inr (.inr (fun _ => none)))))), ((q 4), .inl ((cA 4), 3, .inr (.inr (.inr (.inr (va_up (va_up (va_up (fun _ => none) 0 (some (q 7))) 1 (some (q 8))) 2 (some (q 9)))))))), ((q 5), .inr (6, [.int 0, .long 0])), ((q 6), .inr (0, [.int 0, .null, .int 0, .null, .int 0, .int 0, .int 1, .int 1, .int 0, .int 0, .int 0, .int 0])), ((q 7), .inr (6, [.int 0, .long 0])), ((q 8), .inr (6, [.int 0, .long 0])), ((q 9), .inr (6, [.int 0, .long 0]))] sz) := by
  refine Met.ofW (cc := cX8_is) (maxL := 3) (ret := (some .int)) (by decide) rfl ?_
  intro p e s m args below meth c s₁ B hml hv
  obtain ⟨rfl, hsz, hP, hK, hD, hN⟩ := hv
  have hx := B.exec
  have hb := B.bytes
  have hr := B.returns
  have hts := atoms_spec (ws := wsX8_is) B.pre
  have hown : s.vm.findClass RX8 = some m.cls := findClass_of_methodNamed B.named
  have hlocks := B.notSynchronized
  subst hsz
  have hD := hD.self (sz := s.heap.size)
  generalize hAe : va_A [(h0, .inr (7, [.ref (q 0), .int 1, .ref (q 1), .int 0, .int 0, .ref (q 2), .int 0, .ref (q 3), .int 0, .ref (q 4), .int 0, .int 0, .ref (q 5), .int 0, .int 0])), ((q 0), .inl ((cA 0), 16, .inr (.inr (.inr (.inr (va_up (fun _ => none) 0 (some (q 6)))))))), ((q 1), .inl ((cA 1), 40, .inr (.inr (.inr (.inr (fun _ => none)))))), ((q 2), .inl ((cA 2), 60, .inr (.inr (.inr (.inr (fun _ => none)))))), ((q 3), .inl ((cA 3), 124, .inr (.inr (.inr (.inr (fun _ => none)))))), ((q 4), .inl ((cA 4), 3, .inr (.inr (.inr (.inr (va_up (va_up (va_up (fun _ => none) 0 (some (q 7))) 1 (some (q 8))) 2 (some (q 9)))))))), ((q 5), .inr (6, [.int 0, .long 0])), ((q 6), .inr (0, [.int 0, .null, .int 0, .null, .int 0, .int 0, .int 1, .int 1, .int 0, .int 0, .int 0, .int 0])), ((q 7), .inr (6, [.int 0, .long 0])), ((q 8), .inr (6, [.int 0, .long 0])), ((q 9), .inr (6, [.int 0, .long 0]))] s.heap.size = A at hD ⊢
  have hA : ∀ q : Nat, s.heap.size ≤ q → A q := fun q h => by rw [← hAe]; exact Or.inr h
  have hS : va_S A s.heap s.heap [] := va_S.rf
  have hl := lv_entry ([.ref h0, .int a1, .int a2]) (n := 3) (Nat.le_of_ble_eq_true rfl)
  rw [lg_entry_eq]
  generalize (lg_sl ([.ref h0, .int a1, .int a2]) ++ List.replicate (3 - (lg_sl ([.ref h0, .int a1, .int a2])).length) Slot.unset).toArray = ls at hl ⊢
  have hl : lv_has ls 3 [(0, .ref h0), (1, .int a1), (2, .int a2)] := hl
  refine lv_aload_n hx hb dX8_is_0 rfl (lv_at hl 0 rfl) ?_
  refine lv_iload_n hx hb dX8_is_1 rfl (lv_at hl 1 rfl) ?_
  refine clR (va_runV (As := [.int a1]) (rest := []) ⟨hx, hb, hml, hown, hts⟩ (c8_isThing l dC dI h0 q a1 _) (cwV 1 hts gX8_is_X8_isThing rfl rfl rfl (by decide +kernel) ⟨Nat.le_of_ble_eq_true rfl, Nat.le_of_ble_eq_true rfl⟩) ⟨pz_blind, va_recv hK hP (ci := 7) (q0 := 0) rfl rfl, pz_of hP hK hD hN [0] [] rfl (by decide) rfl⟩ rfl rfl hl.1 rfl (lv_room (Nat.le_of_ble_eq_true rfl)) dX8_is_2 ⟨Nat.le_of_ble_eq_true rfl, Nat.le_of_ble_eq_true rfl⟩) hS hP (fun v H locs w1 hP hS => ?_)
  obtain rfl := w1
  refine W.eq (g2 := F0 m 5 ls [.int 0]) rfl ?_
  refine lv_if_eq (tgt := 16) hx hb dX8_is_5 (by decide) (fun _ => ?_) (fun h => absurd (by decide) h)
  refine lv_bipush (v := (-2)) hx hb dX8_is_16 (by decide) ?_
  have hP9 := hP.sub (ws' := []) [] rfl
  have hD9 := hD.sub (ws' := []) [] (by decide) rfl
  have hK9 := hK.sub (tys' := []) [] rfl
  exact W.zret (v := (-2)) (ty := .int) hx hb hr rfl (fun t ht hW => ⟨⟨(some (.int (-2))), rfl, _, _, ⟨congrArg (fun z => some (Value.int z)) (by unfold an_is; (repeat' split) <;> first | rfl | (exfalso; first | omega | (have kq := kz; omega))), rfl, rfl⟩, by rw [ht]; exact hP9, va_K.moved hW.alike hK9, hD9⟩, hS.F ht⟩) hS.2.2 dX8_is_18

set_option maxHeartbeats 4000000 in
set_option maxRecDepth 100000 in
/-- get on a fresh object -/
theorem c8_get (l : Launch) (dC : Nat → ClassId) (dI : Nat → Nat → Nat) (h0 : Nat) (q : Nat → Nat) (cA : Nat → ClassId) (a1 a2 a3 : Int32) (sz : Nat)  : Met l yX8_get wsX8_get ({ frames := 1, cells := 0, slots := 0, locals := 21 }) (va_Pc [.ref h0, .int a1, .int a2, .int a3] (pz (dC, dI) [((cA 0), .object "ReflectModels$ClassModel"), ((cA 1), .object "ReflectModels$Member"), ((cA 2), .object "ReflectModels$Handle"), ((cA 3), .object "ReflectModels$Thing"), ((cA 4), .object "ReflectModels$Value")] [(h0, .inr (7, [.ref (q 0), .int 1, .ref (q 1), .int 0, .int 0, .ref (q 2), .int 0, .ref (q 3), .int 0, .ref (q 4), .int 0, .int 0, .ref (q 5), .int 0, .int 0])), ((q 0), .inl ((cA 0), 16, .inr (.inr (.inr (.inr (va_up (fun _ => none) 0 (some (q 6)))))))), ((q 1), .inl ((cA 1), 40, .inr (.inr (.inr (.inr (fun _ => none)))))), ((q 2), .inl ((cA 2), 60, .inr (.inr (.inr (.inr (fun _ => none)))))), ((q 3), .inl ((cA 3), 124, .inr (.inr (.inr (.inr (fun _ => none)))))), ((q 4), .inl ((cA 4), 3, .inr (.inr (.inr (.inr (va_up (va_up (va_up (fun _ => none) 0 (some (q 7))) 1 (some (q 8))) 2 (some (q 9)))))))), ((q 5), .inr (6, [.int 0, .long 0])), ((q 6), .inr (0, [.int 0, .null, .int 0, .null, .int 0, .int 0, .int 1, .int 1, .int 0, .int 0, .int 0, .int 0])), ((q 7), .inr (6, [.int 0, .long 0])), ((q 8), .inr (6, [.int 0, .long 0])), ((q 9), .inr (6, [.int 0, .long 0]))] sz)) (qW (dC, dI) (fun v w1 ty1 => v = some (.int (an_get a1.toInt a2.toInt a3.toInt)) ∧ w1 = [] ∧ ty1 = []) (va_A [(h0, .inr (7, [.ref (q 0), .int 1, .ref (q 1), .int 0, .int 0, .ref (q 2), .int 0, .ref (q 3), .int 0, .ref (q 4), .int 0, .int 0, .ref (q 5), .int 0, .int 0])), ((q 0), .inl ((cA 0), 16, .inr (.inr (.inr (.inr (va_up (fun _ => none) 0 (some (q 6)))))))), ((q 1), .inl ((cA 1), 40, .inr (.inr (.inr (.inr (fun _ => none)))))), ((q 2), .inl ((cA 2), 60, .inr (.inr (.inr (.inr (fun _ => none)))))), ((q 3), .inl ((cA 3), 124, .inr (.inr (.inr (.inr (fun _ => none)))))), ((q 4), .inl ((cA 4), 3, .inr (.inr (.inr (.inr (va_up (va_up (va_up (fun _ => none) 0 (some (q 7))) 1 (some (q 8))) 2 (some (q 9)))))))), ((q 5), .inr (6, [.int 0, .long 0])), ((q 6), .inr (0, [.int 0, .null, .int 0, .null, .int 0, .int 0, .int 1, .int 1, .int 0, .int 0, .int 0, .int 0])), ((q 7), .inr (6, [.int 0, .long 0])), ((q 8), .inr (6, [.int 0, .long 0])), ((q 9), .inr (6, [.int 0, .long 0]))] sz)) 0 0 (va_A [(h0, .inr (7, [.ref (q 0), .int 1, .ref (q 1), .int 0, .int 0, .ref (q 2), .int 0, .ref (q 3), .int 0, .ref (q 4), .int 0, .int 0, .ref (q 5), .int 0, .int 0])), ((q 0), .inl ((cA 0), 16, .inr (.inr (.inr (.inr (va_up (fun _ => none) 0 (some (q 6)))))))), ((q 1), .inl ((cA 1), 40, .inr (.inr (.inr (.inr (fun _ => none)))))), ((q 2), .inl ((cA 2), 60, .inr (.inr (.inr (.inr (fun _ => none)))))), ((q 3), .inl ((cA 3), 124, .inr (.inr (.inr (.inr (fun _ => none)))))), ((q 4), .inl ((cA 4), 3, .inr (.inr (.inr (.inr (va_up (va_up (va_up (fun _ => none) 0 (some (q 7))) 1 (some (q 8))) 2 (some (q 9)))))))), ((q 5), .inr (6, [.int 0, .long 0])), ((q 6), .inr (0, [.int 0, .null, .int 0, .null, .int 0, .int 0, .int 1, .int 1, .int 0, .int 0, .int 0, .int 0])), ((q 7), .inr (6, [.int 0, .long 0])), ((q 8), .inr (6, [.int 0, .long 0])), ((q 9), .inr (6, [.int 0, .long 0]))] sz) := by
  refine Met.ofW (cc := cX8_get) (maxL := 6) (ret := (some .int)) (by decide) rfl ?_
  intro p e s m args below meth c s₁ B hml hv
  obtain ⟨rfl, hsz, hP, hK, hD, hN⟩ := hv
  have hx := B.exec
  have hb := B.bytes
  have hr := B.returns
  have hts := atoms_spec (ws := wsX8_get) B.pre
  have hown : s.vm.findClass RX8 = some m.cls := findClass_of_methodNamed B.named
  have hlocks := B.notSynchronized
  subst hsz
  have hD := hD.self (sz := s.heap.size)
  generalize hAe : va_A [(h0, .inr (7, [.ref (q 0), .int 1, .ref (q 1), .int 0, .int 0, .ref (q 2), .int 0, .ref (q 3), .int 0, .ref (q 4), .int 0, .int 0, .ref (q 5), .int 0, .int 0])), ((q 0), .inl ((cA 0), 16, .inr (.inr (.inr (.inr (va_up (fun _ => none) 0 (some (q 6)))))))), ((q 1), .inl ((cA 1), 40, .inr (.inr (.inr (.inr (fun _ => none)))))), ((q 2), .inl ((cA 2), 60, .inr (.inr (.inr (.inr (fun _ => none)))))), ((q 3), .inl ((cA 3), 124, .inr (.inr (.inr (.inr (fun _ => none)))))), ((q 4), .inl ((cA 4), 3, .inr (.inr (.inr (.inr (va_up (va_up (va_up (fun _ => none) 0 (some (q 7))) 1 (some (q 8))) 2 (some (q 9)))))))), ((q 5), .inr (6, [.int 0, .long 0])), ((q 6), .inr (0, [.int 0, .null, .int 0, .null, .int 0, .int 0, .int 1, .int 1, .int 0, .int 0, .int 0, .int 0])), ((q 7), .inr (6, [.int 0, .long 0])), ((q 8), .inr (6, [.int 0, .long 0])), ((q 9), .inr (6, [.int 0, .long 0]))] s.heap.size = A at hD ⊢
  have hA : ∀ q : Nat, s.heap.size ≤ q → A q := fun q h => by rw [← hAe]; exact Or.inr h
  have hS : va_S A s.heap s.heap [] := va_S.rf
  have hl := lv_entry ([.ref h0, .int a1, .int a2, .int a3]) (n := 6) (Nat.le_of_ble_eq_true rfl)
  rw [lg_entry_eq]
  generalize (lg_sl ([.ref h0, .int a1, .int a2, .int a3]) ++ List.replicate (6 - (lg_sl ([.ref h0, .int a1, .int a2, .int a3])).length) Slot.unset).toArray = ls at hl ⊢
  have hl : lv_has ls 6 [(0, .ref h0), (1, .int a1), (2, .int a2), (3, .int a3)] := hl
  refine lv_aload_n hx hb dX8_get_0 rfl (lv_at hl 0 rfl) ?_
  refine lv_iload_n hx hb dX8_get_1 rfl (lv_at hl 1 rfl) ?_
  refine clR (va_runV (As := [.int a1]) (rest := []) ⟨hx, hb, hml, hown, hts⟩ (c8_isHandle l dC dI h0 q a1 _) (cwV 1 hts gX8_get_X8_isHandle rfl rfl rfl (by decide +kernel) ⟨Nat.le_of_ble_eq_true rfl, Nat.le_of_ble_eq_true rfl⟩) ⟨pz_blind, va_recv hK hP (ci := 7) (q0 := 0) rfl rfl, pz_of hP hK hD hN [0] [] rfl (by decide) rfl⟩ rfl rfl hl.1 rfl (lv_room (Nat.le_of_ble_eq_true rfl)) dX8_get_2 ⟨Nat.le_of_ble_eq_true rfl, Nat.le_of_ble_eq_true rfl⟩) hS hP (fun v H locs w1 hP hS => ?_)
  obtain rfl := w1
  refine W.eq (g2 := F0 m 5 ls [.int 0]) rfl ?_
  refine lv_if_eq (tgt := 16) hx hb dX8_get_5 (by decide) (fun _ => ?_) (fun h => absurd (by decide) h)
  refine lv_bipush (v := (-2)) hx hb dX8_get_16 (by decide) ?_
  have hP9 := hP.sub (ws' := []) [] rfl
  have hD9 := hD.sub (ws' := []) [] (by decide) rfl
  have hK9 := hK.sub (tys' := []) [] rfl
  exact W.zret (v := (-2)) (ty := .int) hx hb hr rfl (fun t ht hW => ⟨⟨(some (.int (-2))), rfl, _, _, ⟨congrArg (fun z => some (Value.int z)) (by unfold an_get; (repeat' split) <;> first | rfl | (exfalso; first | omega | (have kq := kz; omega))), rfl, rfl⟩, by rw [ht]; exact hP9, va_K.moved hW.alike hK9, hD9⟩, hS.F ht⟩) hS.2.2 dX8_get_18

set_option maxHeartbeats 4000000 in
set_option maxRecDepth 100000 in
/-- proxy on a fresh object -/
theorem c8_proxy (l : Launch) (dC : Nat → ClassId) (dI : Nat → Nat → Nat) (h0 : Nat) (q : Nat → Nat) (cA : Nat → ClassId) (a1 a2 : Int32) (sz : Nat)  : Met l yX8_proxy wsX8_proxy ({ frames := 1, cells := 0, slots := 0, locals := 21 }) (va_Pc [.ref h0, .int a1, .int a2] (pz (dC, dI) [((cA 0), .object "ReflectModels$ClassModel"), ((cA 1), .object "ReflectModels$Member"), ((cA 2), .object "ReflectModels$Handle"), ((cA 3), .object "ReflectModels$Thing"), ((cA 4), .object "ReflectModels$Value")] [(h0, .inr (7, [.ref (q 0), .int 1, .ref (q 1), .int 0, .int 0, .ref (q 2), .int 0, .ref (q 3), .int 0, .ref (q 4), .int 0, .int 0, .ref (q 5), .int 0, .int 0])), ((q 0), .inl ((cA 0), 16, .inr (.inr (.inr (.inr (va_up (fun _ => none) 0 (some (q 6)))))))), ((q 1), .inl ((cA 1), 40, .inr (.inr (.inr (.inr (fun _ => none)))))), ((q 2), .inl ((cA 2), 60, .inr (.inr (.inr (.inr (fun _ => none)))))), ((q 3), .inl ((cA 3), 124, .inr (.inr (.inr (.inr (fun _ => none)))))), ((q 4), .inl ((cA 4), 3, .inr (.inr (.inr (.inr (va_up (va_up (va_up (fun _ => none) 0 (some (q 7))) 1 (some (q 8))) 2 (some (q 9)))))))), ((q 5), .inr (6, [.int 0, .long 0])), ((q 6), .inr (0, [.int 0, .null, .int 0, .null, .int 0, .int 0, .int 1, .int 1, .int 0, .int 0, .int 0, .int 0])), ((q 7), .inr (6, [.int 0, .long 0])), ((q 8), .inr (6, [.int 0, .long 0])), ((q 9), .inr (6, [.int 0, .long 0]))] sz)) (qW (dC, dI) (fun v w1 ty1 => v = some (.int (an_proxy a1.toInt a2.toInt)) ∧ w1 = [] ∧ ty1 = []) (va_A [(h0, .inr (7, [.ref (q 0), .int 1, .ref (q 1), .int 0, .int 0, .ref (q 2), .int 0, .ref (q 3), .int 0, .ref (q 4), .int 0, .int 0, .ref (q 5), .int 0, .int 0])), ((q 0), .inl ((cA 0), 16, .inr (.inr (.inr (.inr (va_up (fun _ => none) 0 (some (q 6)))))))), ((q 1), .inl ((cA 1), 40, .inr (.inr (.inr (.inr (fun _ => none)))))), ((q 2), .inl ((cA 2), 60, .inr (.inr (.inr (.inr (fun _ => none)))))), ((q 3), .inl ((cA 3), 124, .inr (.inr (.inr (.inr (fun _ => none)))))), ((q 4), .inl ((cA 4), 3, .inr (.inr (.inr (.inr (va_up (va_up (va_up (fun _ => none) 0 (some (q 7))) 1 (some (q 8))) 2 (some (q 9)))))))), ((q 5), .inr (6, [.int 0, .long 0])), ((q 6), .inr (0, [.int 0, .null, .int 0, .null, .int 0, .int 0, .int 1, .int 1, .int 0, .int 0, .int 0, .int 0])), ((q 7), .inr (6, [.int 0, .long 0])), ((q 8), .inr (6, [.int 0, .long 0])), ((q 9), .inr (6, [.int 0, .long 0]))] sz)) 0 0 (va_A [(h0, .inr (7, [.ref (q 0), .int 1, .ref (q 1), .int 0, .int 0, .ref (q 2), .int 0, .ref (q 3), .int 0, .ref (q 4), .int 0, .int 0, .ref (q 5), .int 0, .int 0])), ((q 0), .inl ((cA 0), 16, .inr (.inr (.inr (.inr (va_up (fun _ => none) 0 (some (q 6)))))))), ((q 1), .inl ((cA 1), 40, .inr (.inr (.inr (.inr (fun _ => none)))))), ((q 2), .inl ((cA 2), 60, .inr (.inr (.inr (.inr (fun _ => none)))))), ((q 3), .inl ((cA 3), 124, .inr (.inr (.inr (.inr (fun _ => none)))))), ((q 4), .inl ((cA 4), 3, .inr (.inr (.inr (.inr (va_up (va_up (va_up (fun _ => none) 0 (some (q 7))) 1 (some (q 8))) 2 (some (q 9)))))))), ((q 5), .inr (6, [.int 0, .long 0])), ((q 6), .inr (0, [.int 0, .null, .int 0, .null, .int 0, .int 0, .int 1, .int 1, .int 0, .int 0, .int 0, .int 0])), ((q 7), .inr (6, [.int 0, .long 0])), ((q 8), .inr (6, [.int 0, .long 0])), ((q 9), .inr (6, [.int 0, .long 0]))] sz) := by
  refine Met.ofW (cc := cX8_proxy) (maxL := 3) (ret := (some .int)) (by decide) rfl ?_
  intro p e s m args below meth c s₁ B hml hv
  obtain ⟨rfl, hsz, hP, hK, hD, hN⟩ := hv
  have hx := B.exec
  have hb := B.bytes
  have hr := B.returns
  have hts := atoms_spec (ws := wsX8_proxy) B.pre
  have hown : s.vm.findClass RX8 = some m.cls := findClass_of_methodNamed B.named
  have hlocks := B.notSynchronized
  subst hsz
  have hD := hD.self (sz := s.heap.size)
  generalize hAe : va_A [(h0, .inr (7, [.ref (q 0), .int 1, .ref (q 1), .int 0, .int 0, .ref (q 2), .int 0, .ref (q 3), .int 0, .ref (q 4), .int 0, .int 0, .ref (q 5), .int 0, .int 0])), ((q 0), .inl ((cA 0), 16, .inr (.inr (.inr (.inr (va_up (fun _ => none) 0 (some (q 6)))))))), ((q 1), .inl ((cA 1), 40, .inr (.inr (.inr (.inr (fun _ => none)))))), ((q 2), .inl ((cA 2), 60, .inr (.inr (.inr (.inr (fun _ => none)))))), ((q 3), .inl ((cA 3), 124, .inr (.inr (.inr (.inr (fun _ => none)))))), ((q 4), .inl ((cA 4), 3, .inr (.inr (.inr (.inr (va_up (va_up (va_up (fun _ => none) 0 (some (q 7))) 1 (some (q 8))) 2 (some (q 9)))))))), ((q 5), .inr (6, [.int 0, .long 0])), ((q 6), .inr (0, [.int 0, .null, .int 0, .null, .int 0, .int 0, .int 1, .int 1, .int 0, .int 0, .int 0, .int 0])), ((q 7), .inr (6, [.int 0, .long 0])), ((q 8), .inr (6, [.int 0, .long 0])), ((q 9), .inr (6, [.int 0, .long 0]))] s.heap.size = A at hD ⊢
  have hA : ∀ q : Nat, s.heap.size ≤ q → A q := fun q h => by rw [← hAe]; exact Or.inr h
  have hS : va_S A s.heap s.heap [] := va_S.rf
  have hl := lv_entry ([.ref h0, .int a1, .int a2]) (n := 3) (Nat.le_of_ble_eq_true rfl)
  rw [lg_entry_eq]
  generalize (lg_sl ([.ref h0, .int a1, .int a2]) ++ List.replicate (3 - (lg_sl ([.ref h0, .int a1, .int a2])).length) Slot.unset).toArray = ls at hl ⊢
  have hl : lv_has ls 3 [(0, .ref h0), (1, .int a1), (2, .int a2)] := hl
  refine lv_aload_n hx hb dX8_proxy_0 rfl (lv_at hl 0 rfl) ?_
  refine lv_iload_n hx hb dX8_proxy_1 rfl (lv_at hl 1 rfl) ?_
  refine clR (va_runV (As := [.int a1]) (rest := []) ⟨hx, hb, hml, hown, hts⟩ (c8_isClass l dC dI h0 q a1 _) (cwV 1 hts gX8_proxy_X8_isClass rfl rfl rfl (by decide +kernel) ⟨Nat.le_of_ble_eq_true rfl, Nat.le_of_ble_eq_true rfl⟩) ⟨pz_blind, va_recv hK hP (ci := 7) (q0 := 0) rfl rfl, pz_of hP hK hD hN [0] [] rfl (by decide) rfl⟩ rfl rfl hl.1 rfl (lv_room (Nat.le_of_ble_eq_true rfl)) dX8_proxy_2 ⟨Nat.le_of_ble_eq_true rfl, Nat.le_of_ble_eq_true rfl⟩) hS hP (fun v H locs w2 hP hS => ?_)
  rcases w2 with ⟨rfl, rfl⟩ | ⟨rfl, u1⟩
  · refine W.eq (g2 := F0 m 5 ls [.int 1]) rfl ?_
    refine lv_if_ne (tgt := 11) hx hb dX8_proxy_5 (by decide) (fun _ => ?_) (fun h => absurd h (by decide))
    refine lv_iload_n hx hb dX8_proxy_11 rfl (lv_at hl 2 rfl) ?_
    refine lv_if_lt (tgt := 20) hx hb dX8_proxy_12 (by decide) (fun c3 => ?_) (fun c3 => ?_)
    · have ic3 : a2.toInt < 0 := il2 rfl (by decide) c3
      refine lv_bipush (v := (-3)) hx hb dX8_proxy_20 (by decide) ?_
      have hP9 := hP.sub (ws' := []) [] rfl
      have hD9 := hD.sub (ws' := []) [] (by decide) rfl
      have hK9 := hK.sub (tys' := []) [] rfl
      exact W.zret (v := (-3)) (ty := .int) hx hb hr rfl (fun t ht hW => ⟨⟨(some (.int (-3))), rfl, _, _, ⟨congrArg (fun z => some (Value.int z)) (by unfold an_proxy; (repeat' split) <;> first | rfl | (exfalso; first | omega | (have kq := kz; omega))), rfl, rfl⟩, by rw [ht]; exact hP9, va_K.moved hW.alike hK9, hD9⟩, hS.F ht⟩) hS.2.2 dX8_proxy_22
    · have ic3 : 0 ≤ a2.toInt := inl2 rfl (by decide) c3
      refine lv_iload_n hx hb dX8_proxy_15 rfl (lv_at hl 2 rfl) ?_
      refine lv_iconst (v := 3) hx hb dX8_proxy_16 (by decide) ?_
      refine lv_icmp_le (tgt := 23) hx hb dX8_proxy_17 (by decide) (fun c4 => ?_) (fun c4 => ?_)
      · have ic4 : a2.toInt ≤ 3 := ile2 rfl (by decide) c4
        refine lv_aload_n hx hb dX8_proxy_23 rfl (lv_at hl 0 rfl) ?_
        refine va_get (D := (dC, dI)) (own := RX8) (ref := "ReflectModels") (index := 11) (ci := 7) (v := .ref (q 0)) (C := RX8) (T := TX8) (N := 15) hx hb hts inX8_proxy_8 hown hK hP 0 rfl rfl 0 (by decide) (hts (.fieldLink RX8 11 "ReflectModels" "classes" "[LReflectModels$ClassModel;") (by decide +kernel)) (fun _ h9 => h9) rfl dX8_proxy_24 ?_
        refine lv_iload_n hx hb dX8_proxy_27 rfl (lv_at hl 1 rfl) ?_
        refine va_aldq hx hb hK hP 1 0 rfl rfl (vp_in_iff.mpr ⟨by decide, by decide⟩) dX8_proxy_28 ?_
        refine W.eq (g2 := F0 m 29 ls [.ref (q 6)]) rfl ?_
        refine va_getN (host := "ReflectModels") (D := (dC, dI)) (own := RX8) (ref := "ReflectModels$ClassModel") (index := 86) (ci := 0) (v := .int 0) (C := RX0) (T := TX0) (N := 12) hx hb hts inX8_proxy_0 hown hK hP 7 rfl rfl 2 (by decide) (va_Nw.use rfl (hN _ (List.mem_of_getElem? (i := 12) rfl))) (fun _ h9 => h9) rfl dX8_proxy_29 ?_
        refine lv_iconst (v := 2) hx hb dX8_proxy_32 (by decide) ?_
        refine lv_icmp_eq (tgt := 39) hx hb dX8_proxy_33 (by decide) (fun h => absurd h (by decide)) (fun _ => ?_)
        refine lv_bipush (v := (-4)) hx hb dX8_proxy_36 (by decide) ?_
        have hP9 := hP.sub (ws' := []) [] rfl
        have hD9 := hD.sub (ws' := []) [] (by decide) rfl
        have hK9 := hK.sub (tys' := []) [] rfl
        exact W.zret (v := (-4)) (ty := .int) hx hb hr rfl (fun t ht hW => ⟨⟨(some (.int (-4))), rfl, _, _, ⟨congrArg (fun z => some (Value.int z)) (by unfold an_proxy; (repeat' split) <;> first | rfl | (exfalso; first | omega | (have kq := kz; omega))), rfl, rfl⟩, by rw [ht]; exact hP9, va_K.moved hW.alike hK9, hD9⟩, hS.F ht⟩) hS.2.2 dX8_proxy_38
      · have ic4 : 3 < a2.toInt := inle2 rfl (by decide) c4
        refine lv_bipush (v := (-3)) hx hb dX8_proxy_20 (by decide) ?_
        have hP9 := hP.sub (ws' := []) [] rfl
        have hD9 := hD.sub (ws' := []) [] (by decide) rfl
        have hK9 := hK.sub (tys' := []) [] rfl
        exact W.zret (v := (-3)) (ty := .int) hx hb hr rfl (fun t ht hW => ⟨⟨(some (.int (-3))), rfl, _, _, ⟨congrArg (fun z => some (Value.int z)) (by unfold an_proxy; (repeat' split) <;> first | rfl | (exfalso; first | omega | (have kq := kz; omega))), rfl, rfl⟩, by rw [ht]; exact hP9, va_K.moved hW.alike hK9, hD9⟩, hS.F ht⟩) hS.2.2 dX8_proxy_22
  · refine W.eq (g2 := F0 m 5 ls [.int 0]) rfl ?_
    refine lv_if_ne (tgt := 11) hx hb dX8_proxy_5 (by decide) (fun h => absurd h (by decide)) (fun _ => ?_)
    refine lv_bipush (v := (-2)) hx hb dX8_proxy_8 (by decide) ?_
    have hP9 := hP.sub (ws' := []) [] rfl
    have hD9 := hD.sub (ws' := []) [] (by decide) rfl
    have hK9 := hK.sub (tys' := []) [] rfl
    exact W.zret (v := (-2)) (ty := .int) hx hb hr rfl (fun t ht hW => ⟨⟨(some (.int (-2))), rfl, _, _, ⟨congrArg (fun z => some (Value.int z)) (by unfold an_proxy; (repeat' split) <;> first | rfl | (exfalso; first | omega | (have kq := kz; omega))), rfl, rfl⟩, by rw [ht]; exact hP9, va_K.moved hW.alike hK9, hD9⟩, hS.F ht⟩) hS.2.2 dX8_proxy_10

set_option maxHeartbeats 4000000 in
set_option maxRecDepth 100000 in
/-- constant on a fresh object -/
theorem c8_constant (l : Launch) (dC : Nat → ClassId) (dI : Nat → Nat → Nat) (h0 : Nat) (q : Nat → Nat) (cA : Nat → ClassId) (a1 a2 : Int32) (sz : Nat)  : Met l yX8_constant wsX8_constant ({ frames := 1, cells := 0, slots := 0, locals := 21 }) (va_Pc [.ref h0, .int a1, .int a2] (pz (dC, dI) [((cA 0), .object "ReflectModels$ClassModel"), ((cA 1), .object "ReflectModels$Member"), ((cA 2), .object "ReflectModels$Handle"), ((cA 3), .object "ReflectModels$Thing"), ((cA 4), .object "ReflectModels$Value")] [(h0, .inr (7, [.ref (q 0), .int 1, .ref (q 1), .int 0, .int 0, .ref (q 2), .int 0, .ref (q 3), .int 0, .ref (q 4), .int 0, .int 0, .ref (q 5), .int 0, .int 0])), ((q 0), .inl ((cA 0), 16, .inr (.inr (.inr (.inr (va_up (fun _ => none) 0 (some (q 6)))))))), ((q 1), .inl ((cA 1), 40, .inr (.inr (.inr (.inr (fun _ => none)))))), ((q 2), .inl ((cA 2), 60, .inr (.inr (.inr (.inr (fun _ => none)))))), ((q 3), .inl ((cA 3), 124, .inr (.inr (.inr (.inr (fun _ => none)))))), ((q 4), .inl ((cA 4), 3, .inr (.inr (.inr (.inr (va_up (va_up (va_up (fun _ => none) 0 (some (q 7))) 1 (some (q 8))) 2 (some (q 9)))))))), ((q 5), .inr (6, [.int 0, .long 0])), ((q 6), .inr (0, [.int 0, .null, .int 0, .null, .int 0, .int 0, .int 1, .int 1, .int 0, .int 0, .int 0, .int 0])), ((q 7), .inr (6, [.int 0, .long 0])), ((q 8), .inr (6, [.int 0, .long 0])), ((q 9), .inr (6, [.int 0, .long 0]))] sz)) (qW (dC, dI) (fun v w1 ty1 => v = some (.int (an_constant a1.toInt a2.toInt)) ∧ w1 = [] ∧ ty1 = []) (va_A [(h0, .inr (7, [.ref (q 0), .int 1, .ref (q 1), .int 0, .int 0, .ref (q 2), .int 0, .ref (q 3), .int 0, .ref (q 4), .int 0, .int 0, .ref (q 5), .int 0, .int 0])), ((q 0), .inl ((cA 0), 16, .inr (.inr (.inr (.inr (va_up (fun _ => none) 0 (some (q 6)))))))), ((q 1), .inl ((cA 1), 40, .inr (.inr (.inr (.inr (fun _ => none)))))), ((q 2), .inl ((cA 2), 60, .inr (.inr (.inr (.inr (fun _ => none)))))), ((q 3), .inl ((cA 3), 124, .inr (.inr (.inr (.inr (fun _ => none)))))), ((q 4), .inl ((cA 4), 3, .inr (.inr (.inr (.inr (va_up (va_up (va_up (fun _ => none) 0 (some (q 7))) 1 (some (q 8))) 2 (some (q 9)))))))), ((q 5), .inr (6, [.int 0, .long 0])), ((q 6), .inr (0, [.int 0, .null, .int 0, .null, .int 0, .int 0, .int 1, .int 1, .int 0, .int 0, .int 0, .int 0])), ((q 7), .inr (6, [.int 0, .long 0])), ((q 8), .inr (6, [.int 0, .long 0])), ((q 9), .inr (6, [.int 0, .long 0]))] sz)) 0 0 (va_A [(h0, .inr (7, [.ref (q 0), .int 1, .ref (q 1), .int 0, .int 0, .ref (q 2), .int 0, .ref (q 3), .int 0, .ref (q 4), .int 0, .int 0, .ref (q 5), .int 0, .int 0])), ((q 0), .inl ((cA 0), 16, .inr (.inr (.inr (.inr (va_up (fun _ => none) 0 (some (q 6)))))))), ((q 1), .inl ((cA 1), 40, .inr (.inr (.inr (.inr (fun _ => none)))))), ((q 2), .inl ((cA 2), 60, .inr (.inr (.inr (.inr (fun _ => none)))))), ((q 3), .inl ((cA 3), 124, .inr (.inr (.inr (.inr (fun _ => none)))))), ((q 4), .inl ((cA 4), 3, .inr (.inr (.inr (.inr (va_up (va_up (va_up (fun _ => none) 0 (some (q 7))) 1 (some (q 8))) 2 (some (q 9)))))))), ((q 5), .inr (6, [.int 0, .long 0])), ((q 6), .inr (0, [.int 0, .null, .int 0, .null, .int 0, .int 0, .int 1, .int 1, .int 0, .int 0, .int 0, .int 0])), ((q 7), .inr (6, [.int 0, .long 0])), ((q 8), .inr (6, [.int 0, .long 0])), ((q 9), .inr (6, [.int 0, .long 0]))] sz) := by
  refine Met.ofW (cc := cX8_constant) (maxL := 5) (ret := (some .int)) (by decide) rfl ?_
  intro p e s m args below meth c s₁ B hml hv
  obtain ⟨rfl, hsz, hP, hK, hD, hN⟩ := hv
  have hx := B.exec
  have hb := B.bytes
  have hr := B.returns
  have hts := atoms_spec (ws := wsX8_constant) B.pre
  have hown : s.vm.findClass RX8 = some m.cls := findClass_of_methodNamed B.named
  have hlocks := B.notSynchronized
  subst hsz
  have hD := hD.self (sz := s.heap.size)
  generalize hAe : va_A [(h0, .inr (7, [.ref (q 0), .int 1, .ref (q 1), .int 0, .int 0, .ref (q 2), .int 0, .ref (q 3), .int 0, .ref (q 4), .int 0, .int 0, .ref (q 5), .int 0, .int 0])), ((q 0), .inl ((cA 0), 16, .inr (.inr (.inr (.inr (va_up (fun _ => none) 0 (some (q 6)))))))), ((q 1), .inl ((cA 1), 40, .inr (.inr (.inr (.inr (fun _ => none)))))), ((q 2), .inl ((cA 2), 60, .inr (.inr (.inr (.inr (fun _ => none)))))), ((q 3), .inl ((cA 3), 124, .inr (.inr (.inr (.inr (fun _ => none)))))), ((q 4), .inl ((cA 4), 3, .inr (.inr (.inr (.inr (va_up (va_up (va_up (fun _ => none) 0 (some (q 7))) 1 (some (q 8))) 2 (some (q 9)))))))), ((q 5), .inr (6, [.int 0, .long 0])), ((q 6), .inr (0, [.int 0, .null, .int 0, .null, .int 0, .int 0, .int 1, .int 1, .int 0, .int 0, .int 0, .int 0])), ((q 7), .inr (6, [.int 0, .long 0])), ((q 8), .inr (6, [.int 0, .long 0])), ((q 9), .inr (6, [.int 0, .long 0]))] s.heap.size = A at hD ⊢
  have hA : ∀ q : Nat, s.heap.size ≤ q → A q := fun q h => by rw [← hAe]; exact Or.inr h
  have hS : va_S A s.heap s.heap [] := va_S.rf
  have hl := lv_entry ([.ref h0, .int a1, .int a2]) (n := 5) (Nat.le_of_ble_eq_true rfl)
  rw [lg_entry_eq]
  generalize (lg_sl ([.ref h0, .int a1, .int a2]) ++ List.replicate (5 - (lg_sl ([.ref h0, .int a1, .int a2])).length) Slot.unset).toArray = ls at hl ⊢
  have hl : lv_has ls 5 [(0, .ref h0), (1, .int a1), (2, .int a2)] := hl
  refine lv_aload_n hx hb dX8_constant_0 rfl (lv_at hl 0 rfl) ?_
  refine lv_iload_n hx hb dX8_constant_1 rfl (lv_at hl 1 rfl) ?_
  refine clR (va_runV (As := [.int a1]) (rest := []) ⟨hx, hb, hml, hown, hts⟩ (c8_isClass l dC dI h0 q a1 _) (cwV 1 hts gX8_constant_X8_isClass rfl rfl rfl (by decide +kernel) ⟨Nat.le_of_ble_eq_true rfl, Nat.le_of_ble_eq_true rfl⟩) ⟨pz_blind, va_recv hK hP (ci := 7) (q0 := 0) rfl rfl, pz_of hP hK hD hN [0] [] rfl (by decide) rfl⟩ rfl rfl hl.1 rfl (lv_room (Nat.le_of_ble_eq_true rfl)) dX8_constant_2 ⟨Nat.le_of_ble_eq_true rfl, Nat.le_of_ble_eq_true rfl⟩) hS hP (fun v H locs w2 hP hS => ?_)
  rcases w2 with ⟨rfl, rfl⟩ | ⟨rfl, u1⟩
  · refine W.eq (g2 := F0 m 5 ls [.int 1]) rfl ?_
    refine lv_if_ne (tgt := 11) hx hb dX8_constant_5 (by decide) (fun _ => ?_) (fun h => absurd h (by decide))
    refine lv_aload_n hx hb dX8_constant_11 rfl (lv_at hl 0 rfl) ?_
    refine va_get (D := (dC, dI)) (own := RX8) (ref := "ReflectModels") (index := 11) (ci := 7) (v := .ref (q 0)) (C := RX8) (T := TX8) (N := 15) hx hb hts inX8_constant_8 hown hK hP 0 rfl rfl 0 (by decide) (hts (.fieldLink RX8 11 "ReflectModels" "classes" "[LReflectModels$ClassModel;") (by decide +kernel)) (fun _ h9 => h9) rfl dX8_constant_12 ?_
    refine lv_iload_n hx hb dX8_constant_15 rfl (lv_at hl 1 rfl) ?_
    refine va_aldq hx hb hK hP 1 0 rfl rfl (vp_in_iff.mpr ⟨by decide, by decide⟩) dX8_constant_16 ?_
    refine W.eq (g2 := F0 m 17 ls [.ref (q 6)]) rfl ?_
    refine lv_astore_n (lv' := [(3, .ref (q 6)), (0, .ref h0), (1, .int 0), (2, .int a2)]) hx hb dX8_constant_17 rfl hl (by decide) rfl (fun ls hl => ?_)
    refine lv_aload_n hx hb dX8_constant_18 rfl (lv_at hl 0 rfl) ?_
    refine va_getN (host := "ReflectModels") (D := (dC, dI)) (own := RX8) (ref := "ReflectModels$ClassModel") (index := 86) (ci := 0) (v := .int 0) (C := RX0) (T := TX0) (N := 12) hx hb hts inX8_constant_0 hown hK hP 7 rfl rfl 2 (by decide) (va_Nw.use rfl (hN _ (List.mem_of_getElem? (i := 12) rfl))) (fun _ h9 => h9) rfl dX8_constant_19 ?_
    refine lv_iconst (v := 4) hx hb dX8_constant_22 (by decide) ?_
    refine lv_icmp_eq (tgt := 29) hx hb dX8_constant_23 (by decide) (fun h => absurd h (by decide)) (fun _ => ?_)
    refine lv_bipush (v := (-4)) hx hb dX8_constant_26 (by decide) ?_
    have hP9 := hP.sub (ws' := []) [] rfl
    have hD9 := hD.sub (ws' := []) [] (by decide) rfl
    have hK9 := hK.sub (tys' := []) [] rfl
    exact W.zret (v := (-4)) (ty := .int) hx hb hr rfl (fun t ht hW => ⟨⟨(some (.int (-4))), rfl, _, _, ⟨congrArg (fun z => some (Value.int z)) (by unfold an_constant; (repeat' split) <;> first | rfl | (exfalso; first | omega | (have kq := kz; omega))), rfl, rfl⟩, by rw [ht]; exact hP9, va_K.moved hW.alike hK9, hD9⟩, hS.F ht⟩) hS.2.2 dX8_constant_28
  · refine W.eq (g2 := F0 m 5 ls [.int 0]) rfl ?_
    refine lv_if_ne (tgt := 11) hx hb dX8_constant_5 (by decide) (fun h => absurd h (by decide)) (fun _ => ?_)
    refine lv_bipush (v := (-2)) hx hb dX8_constant_8 (by decide) ?_
    have hP9 := hP.sub (ws' := []) [] rfl
    have hD9 := hD.sub (ws' := []) [] (by decide) rfl
    have hK9 := hK.sub (tys' := []) [] rfl
    exact W.zret (v := (-2)) (ty := .int) hx hb hr rfl (fun t ht hW => ⟨⟨(some (.int (-2))), rfl, _, _, ⟨congrArg (fun z => some (Value.int z)) (by unfold an_constant; (repeat' split) <;> first | rfl | (exfalso; first | omega | (have kq := kz; omega))), rfl, rfl⟩, by rw [ht]; exact hP9, va_K.moved hW.alike hK9, hD9⟩, hS.F ht⟩) hS.2.2 dX8_constant_10

set_option maxHeartbeats 4000000 in
set_option maxRecDepth 100000 in
/-- resultKind on a fresh object -/
theorem c8_resultKind (l : Launch) (dC : Nat → ClassId) (dI : Nat → Nat → Nat) (h0 : Nat) (q : Nat → Nat) (cA : Nat → ClassId) (sz : Nat)  : Met l yX8_resultKind wsX8_resultKind ({ frames := 0, cells := 0, slots := 0, locals := 0 }) (va_Pc [.ref h0] (pz (dC, dI) [((cA 0), .object "ReflectModels$ClassModel"), ((cA 1), .object "ReflectModels$Member"), ((cA 2), .object "ReflectModels$Handle"), ((cA 3), .object "ReflectModels$Thing"), ((cA 4), .object "ReflectModels$Value")] [(h0, .inr (7, [.ref (q 0), .int 1, .ref (q 1), .int 0, .int 0, .ref (q 2), .int 0, .ref (q 3), .int 0, .ref (q 4), .int 0, .int 0, .ref (q 5), .int 0, .int 0])), ((q 0), .inl ((cA 0), 16, .inr (.inr (.inr (.inr (va_up (fun _ => none) 0 (some (q 6)))))))), ((q 1), .inl ((cA 1), 40, .inr (.inr (.inr (.inr (fun _ => none)))))), ((q 2), .inl ((cA 2), 60, .inr (.inr (.inr (.inr (fun _ => none)))))), ((q 3), .inl ((cA 3), 124, .inr (.inr (.inr (.inr (fun _ => none)))))), ((q 4), .inl ((cA 4), 3, .inr (.inr (.inr (.inr (va_up (va_up (va_up (fun _ => none) 0 (some (q 7))) 1 (some (q 8))) 2 (some (q 9)))))))), ((q 5), .inr (6, [.int 0, .long 0])), ((q 6), .inr (0, [.int 0, .null, .int 0, .null, .int 0, .int 0, .int 1, .int 1, .int 0, .int 0, .int 0, .int 0])), ((q 7), .inr (6, [.int 0, .long 0])), ((q 8), .inr (6, [.int 0, .long 0])), ((q 9), .inr (6, [.int 0, .long 0]))] sz)) (qW (dC, dI) (fun v w1 ty1 => v = some (.int (an_resultKind)) ∧ w1 = [] ∧ ty1 = []) (va_A [(h0, .inr (7, [.ref (q 0), .int 1, .ref (q 1), .int 0, .int 0, .ref (q 2), .int 0, .ref (q 3), .int 0, .ref (q 4), .int 0, .int 0, .ref (q 5), .int 0, .int 0])), ((q 0), .inl ((cA 0), 16, .inr (.inr (.inr (.inr (va_up (fun _ => none) 0 (some (q 6)))))))), ((q 1), .inl ((cA 1), 40, .inr (.inr (.inr (.inr (fun _ => none)))))), ((q 2), .inl ((cA 2), 60, .inr (.inr (.inr (.inr (fun _ => none)))))), ((q 3), .inl ((cA 3), 124, .inr (.inr (.inr (.inr (fun _ => none)))))), ((q 4), .inl ((cA 4), 3, .inr (.inr (.inr (.inr (va_up (va_up (va_up (fun _ => none) 0 (some (q 7))) 1 (some (q 8))) 2 (some (q 9)))))))), ((q 5), .inr (6, [.int 0, .long 0])), ((q 6), .inr (0, [.int 0, .null, .int 0, .null, .int 0, .int 0, .int 1, .int 1, .int 0, .int 0, .int 0, .int 0])), ((q 7), .inr (6, [.int 0, .long 0])), ((q 8), .inr (6, [.int 0, .long 0])), ((q 9), .inr (6, [.int 0, .long 0]))] sz)) 0 0 (va_A [(h0, .inr (7, [.ref (q 0), .int 1, .ref (q 1), .int 0, .int 0, .ref (q 2), .int 0, .ref (q 3), .int 0, .ref (q 4), .int 0, .int 0, .ref (q 5), .int 0, .int 0])), ((q 0), .inl ((cA 0), 16, .inr (.inr (.inr (.inr (va_up (fun _ => none) 0 (some (q 6)))))))), ((q 1), .inl ((cA 1), 40, .inr (.inr (.inr (.inr (fun _ => none)))))), ((q 2), .inl ((cA 2), 60, .inr (.inr (.inr (.inr (fun _ => none)))))), ((q 3), .inl ((cA 3), 124, .inr (.inr (.inr (.inr (fun _ => none)))))), ((q 4), .inl ((cA 4), 3, .inr (.inr (.inr (.inr (va_up (va_up (va_up (fun _ => none) 0 (some (q 7))) 1 (some (q 8))) 2 (some (q 9)))))))), ((q 5), .inr (6, [.int 0, .long 0])), ((q 6), .inr (0, [.int 0, .null, .int 0, .null, .int 0, .int 0, .int 1, .int 1, .int 0, .int 0, .int 0, .int 0])), ((q 7), .inr (6, [.int 0, .long 0])), ((q 8), .inr (6, [.int 0, .long 0])), ((q 9), .inr (6, [.int 0, .long 0]))] sz) := by
  refine Met.ofW (cc := cX8_resultKind) (maxL := 1) (ret := (some .int)) (by decide) rfl ?_
  intro p e s m args below meth c s₁ B hml hv
  obtain ⟨rfl, hsz, hP, hK, hD, hN⟩ := hv
  have hx := B.exec
  have hb := B.bytes
  have hr := B.returns
  have hts := atoms_spec (ws := wsX8_resultKind) B.pre
  have hown : s.vm.findClass RX8 = some m.cls := findClass_of_methodNamed B.named
  have hlocks := B.notSynchronized
  subst hsz
  have hD := hD.self (sz := s.heap.size)
  generalize hAe : va_A [(h0, .inr (7, [.ref (q 0), .int 1, .ref (q 1), .int 0, .int 0, .ref (q 2), .int 0, .ref (q 3), .int 0, .ref (q 4), .int 0, .int 0, .ref (q 5), .int 0, .int 0])), ((q 0), .inl ((cA 0), 16, .inr (.inr (.inr (.inr (va_up (fun _ => none) 0 (some (q 6)))))))), ((q 1), .inl ((cA 1), 40, .inr (.inr (.inr (.inr (fun _ => none)))))), ((q 2), .inl ((cA 2), 60, .inr (.inr (.inr (.inr (fun _ => none)))))), ((q 3), .inl ((cA 3), 124, .inr (.inr (.inr (.inr (fun _ => none)))))), ((q 4), .inl ((cA 4), 3, .inr (.inr (.inr (.inr (va_up (va_up (va_up (fun _ => none) 0 (some (q 7))) 1 (some (q 8))) 2 (some (q 9)))))))), ((q 5), .inr (6, [.int 0, .long 0])), ((q 6), .inr (0, [.int 0, .null, .int 0, .null, .int 0, .int 0, .int 1, .int 1, .int 0, .int 0, .int 0, .int 0])), ((q 7), .inr (6, [.int 0, .long 0])), ((q 8), .inr (6, [.int 0, .long 0])), ((q 9), .inr (6, [.int 0, .long 0]))] s.heap.size = A at hD ⊢
  have hA : ∀ q : Nat, s.heap.size ≤ q → A q := fun q h => by rw [← hAe]; exact Or.inr h
  have hS : va_S A s.heap s.heap [] := va_S.rf
  have hl := lv_entry ([.ref h0]) (n := 1) (Nat.le_of_ble_eq_true rfl)
  rw [lg_entry_eq]
  generalize (lg_sl ([.ref h0]) ++ List.replicate (1 - (lg_sl ([.ref h0])).length) Slot.unset).toArray = ls at hl ⊢
  have hl : lv_has ls 1 [(0, .ref h0)] := hl
  refine lv_aload_n hx hb dX8_resultKind_0 rfl (lv_at hl 0 rfl) ?_
  refine va_get (D := (dC, dI)) (own := RX8) (ref := "ReflectModels") (index := 62) (ci := 7) (v := .ref (q 5)) (C := RX8) (T := TX8) (N := 15) hx hb hts inX8_resultKind_8 hown hK hP 0 rfl rfl 12 (by decide) (hts (.fieldLink RX8 62 "ReflectModels" "outcome" "LReflectModels$Value;") (by decide +kernel)) (fun _ h9 => h9) rfl dX8_resultKind_1 ?_
  refine va_getN (host := "ReflectModels") (D := (dC, dI)) (own := RX8) (ref := "ReflectModels$Value") (index := 258) (ci := 6) (v := .int 0) (C := RX7) (T := TX7) (N := 2) hx hb hts inX8_resultKind_7 hown hK hP 6 rfl rfl 0 (by decide) (va_Nw.use rfl (hN _ (List.mem_of_getElem? (i := 6) rfl))) (fun _ h9 => h9) rfl dX8_resultKind_4 ?_
  have hP9 := hP.sub (ws' := []) [] rfl
  have hD9 := hD.sub (ws' := []) [] (by decide) rfl
  have hK9 := hK.sub (tys' := []) [] rfl
  exact W.zret (v := 0) (ty := .int) hx hb hr rfl (fun t ht hW => ⟨⟨(some (.int 0)), rfl, _, _, ⟨congrArg (fun z => some (Value.int z)) (by unfold an_resultKind; (repeat' split) <;> first | rfl | (exfalso; first | omega | (have kq := kz; omega))), rfl, rfl⟩, by rw [ht]; exact hP9, va_K.moved hW.alike hK9, hD9⟩, hS.F ht⟩) hS.2.2 dX8_resultKind_7

set_option maxHeartbeats 4000000 in
set_option maxRecDepth 100000 in
/-- result on a fresh object -/
theorem c8_result (l : Launch) (dC : Nat → ClassId) (dI : Nat → Nat → Nat) (h0 : Nat) (q : Nat → Nat) (cA : Nat → ClassId) (sz : Nat)  : Met l yX8_result wsX8_result ({ frames := 0, cells := 0, slots := 0, locals := 0 }) (va_Pc [.ref h0] (pz (dC, dI) [((cA 0), .object "ReflectModels$ClassModel"), ((cA 1), .object "ReflectModels$Member"), ((cA 2), .object "ReflectModels$Handle"), ((cA 3), .object "ReflectModels$Thing"), ((cA 4), .object "ReflectModels$Value")] [(h0, .inr (7, [.ref (q 0), .int 1, .ref (q 1), .int 0, .int 0, .ref (q 2), .int 0, .ref (q 3), .int 0, .ref (q 4), .int 0, .int 0, .ref (q 5), .int 0, .int 0])), ((q 0), .inl ((cA 0), 16, .inr (.inr (.inr (.inr (va_up (fun _ => none) 0 (some (q 6)))))))), ((q 1), .inl ((cA 1), 40, .inr (.inr (.inr (.inr (fun _ => none)))))), ((q 2), .inl ((cA 2), 60, .inr (.inr (.inr (.inr (fun _ => none)))))), ((q 3), .inl ((cA 3), 124, .inr (.inr (.inr (.inr (fun _ => none)))))), ((q 4), .inl ((cA 4), 3, .inr (.inr (.inr (.inr (va_up (va_up (va_up (fun _ => none) 0 (some (q 7))) 1 (some (q 8))) 2 (some (q 9)))))))), ((q 5), .inr (6, [.int 0, .long 0])), ((q 6), .inr (0, [.int 0, .null, .int 0, .null, .int 0, .int 0, .int 1, .int 1, .int 0, .int 0, .int 0, .int 0])), ((q 7), .inr (6, [.int 0, .long 0])), ((q 8), .inr (6, [.int 0, .long 0])), ((q 9), .inr (6, [.int 0, .long 0]))] sz)) (qW (dC, dI) (fun v w1 ty1 => v = some (.long (an_result)) ∧ w1 = [] ∧ ty1 = []) (va_A [(h0, .inr (7, [.ref (q 0), .int 1, .ref (q 1), .int 0, .int 0, .ref (q 2), .int 0, .ref (q 3), .int 0, .ref (q 4), .int 0, .int 0, .ref (q 5), .int 0, .int 0])), ((q 0), .inl ((cA 0), 16, .inr (.inr (.inr (.inr (va_up (fun _ => none) 0 (some (q 6)))))))), ((q 1), .inl ((cA 1), 40, .inr (.inr (.inr (.inr (fun _ => none)))))), ((q 2), .inl ((cA 2), 60, .inr (.inr (.inr (.inr (fun _ => none)))))), ((q 3), .inl ((cA 3), 124, .inr (.inr (.inr (.inr (fun _ => none)))))), ((q 4), .inl ((cA 4), 3, .inr (.inr (.inr (.inr (va_up (va_up (va_up (fun _ => none) 0 (some (q 7))) 1 (some (q 8))) 2 (some (q 9)))))))), ((q 5), .inr (6, [.int 0, .long 0])), ((q 6), .inr (0, [.int 0, .null, .int 0, .null, .int 0, .int 0, .int 1, .int 1, .int 0, .int 0, .int 0, .int 0])), ((q 7), .inr (6, [.int 0, .long 0])), ((q 8), .inr (6, [.int 0, .long 0])), ((q 9), .inr (6, [.int 0, .long 0]))] sz)) 0 0 (va_A [(h0, .inr (7, [.ref (q 0), .int 1, .ref (q 1), .int 0, .int 0, .ref (q 2), .int 0, .ref (q 3), .int 0, .ref (q 4), .int 0, .int 0, .ref (q 5), .int 0, .int 0])), ((q 0), .inl ((cA 0), 16, .inr (.inr (.inr (.inr (va_up (fun _ => none) 0 (some (q 6)))))))), ((q 1), .inl ((cA 1), 40, .inr (.inr (.inr (.inr (fun _ => none)))))), ((q 2), .inl ((cA 2), 60, .inr (.inr (.inr (.inr (fun _ => none)))))), ((q 3), .inl ((cA 3), 124, .inr (.inr (.inr (.inr (fun _ => none)))))), ((q 4), .inl ((cA 4), 3, .inr (.inr (.inr (.inr (va_up (va_up (va_up (fun _ => none) 0 (some (q 7))) 1 (some (q 8))) 2 (some (q 9)))))))), ((q 5), .inr (6, [.int 0, .long 0])), ((q 6), .inr (0, [.int 0, .null, .int 0, .null, .int 0, .int 0, .int 1, .int 1, .int 0, .int 0, .int 0, .int 0])), ((q 7), .inr (6, [.int 0, .long 0])), ((q 8), .inr (6, [.int 0, .long 0])), ((q 9), .inr (6, [.int 0, .long 0]))] sz) := by
  refine Met.ofW (cc := cX8_result) (maxL := 1) (ret := (some .long)) (by decide) rfl ?_
  intro p e s m args below meth c s₁ B hml hv
  obtain ⟨rfl, hsz, hP, hK, hD, hN⟩ := hv
  have hx := B.exec
  have hb := B.bytes
  have hr := B.returns
  have hts := atoms_spec (ws := wsX8_result) B.pre
  have hown : s.vm.findClass RX8 = some m.cls := findClass_of_methodNamed B.named
  have hlocks := B.notSynchronized
  subst hsz
  have hD := hD.self (sz := s.heap.size)
  generalize hAe : va_A [(h0, .inr (7, [.ref (q 0), .int 1, .ref (q 1), .int 0, .int 0, .ref (q 2), .int 0, .ref (q 3), .int 0, .ref (q 4), .int 0, .int 0, .ref (q 5), .int 0, .int 0])), ((q 0), .inl ((cA 0), 16, .inr (.inr (.inr (.inr (va_up (fun _ => none) 0 (some (q 6)))))))), ((q 1), .inl ((cA 1), 40, .inr (.inr (.inr (.inr (fun _ => none)))))), ((q 2), .inl ((cA 2), 60, .inr (.inr (.inr (.inr (fun _ => none)))))), ((q 3), .inl ((cA 3), 124, .inr (.inr (.inr (.inr (fun _ => none)))))), ((q 4), .inl ((cA 4), 3, .inr (.inr (.inr (.inr (va_up (va_up (va_up (fun _ => none) 0 (some (q 7))) 1 (some (q 8))) 2 (some (q 9)))))))), ((q 5), .inr (6, [.int 0, .long 0])), ((q 6), .inr (0, [.int 0, .null, .int 0, .null, .int 0, .int 0, .int 1, .int 1, .int 0, .int 0, .int 0, .int 0])), ((q 7), .inr (6, [.int 0, .long 0])), ((q 8), .inr (6, [.int 0, .long 0])), ((q 9), .inr (6, [.int 0, .long 0]))] s.heap.size = A at hD ⊢
  have hA : ∀ q : Nat, s.heap.size ≤ q → A q := fun q h => by rw [← hAe]; exact Or.inr h
  have hS : va_S A s.heap s.heap [] := va_S.rf
  have hl := lv_entry ([.ref h0]) (n := 1) (Nat.le_of_ble_eq_true rfl)
  rw [lg_entry_eq]
  generalize (lg_sl ([.ref h0]) ++ List.replicate (1 - (lg_sl ([.ref h0])).length) Slot.unset).toArray = ls at hl ⊢
  have hl : lv_has ls 1 [(0, .ref h0)] := hl
  refine lv_aload_n hx hb dX8_result_0 rfl (lv_at hl 0 rfl) ?_
  refine va_get (D := (dC, dI)) (own := RX8) (ref := "ReflectModels") (index := 62) (ci := 7) (v := .ref (q 5)) (C := RX8) (T := TX8) (N := 15) hx hb hts inX8_result_8 hown hK hP 0 rfl rfl 12 (by decide) (hts (.fieldLink RX8 62 "ReflectModels" "outcome" "LReflectModels$Value;") (by decide +kernel)) (fun _ h9 => h9) rfl dX8_result_1 ?_
  refine va_getN (host := "ReflectModels") (D := (dC, dI)) (own := RX8) (ref := "ReflectModels$Value") (index := 261) (ci := 6) (v := .long 0) (C := RX7) (T := TX7) (N := 2) hx hb hts inX8_result_7 hown hK hP 6 rfl rfl 1 (by decide) (va_Nw.use rfl (hN _ (List.mem_of_getElem? (i := 7) rfl))) (fun _ h9 => h9) rfl dX8_result_4 ?_
  have hP9 := hP.sub (ws' := []) [] rfl
  have hD9 := hD.sub (ws' := []) [] (by decide) rfl
  have hK9 := hK.sub (tys' := []) [] rfl
  exact W.lret (v := 0) hx hb hr (fun t ht hW => ⟨⟨(some (.long 0)), rfl, _, _, ⟨congrArg (fun z => some (Value.long z)) (by unfold an_result; (repeat' split) <;> first | rfl | (exfalso; first | omega | (have kq := kz; omega))), rfl, rfl⟩, by rw [ht]; exact hP9, va_K.moved hW.alike hK9, hD9⟩, hS.F ht⟩) hS.2.2 dX8_result_7

set_option maxHeartbeats 4000000 in
set_option maxRecDepth 100000 in
/-- cause on a fresh object -/
theorem c8_cause (l : Launch) (dC : Nat → ClassId) (dI : Nat → Nat → Nat) (h0 : Nat) (q : Nat → Nat) (cA : Nat → ClassId) (sz : Nat)  : Met l yX8_cause wsX8_cause ({ frames := 0, cells := 0, slots := 0, locals := 0 }) (va_Pc [.ref h0] (pz (dC, dI) [((cA 0), .object "ReflectModels$ClassModel"), ((cA 1), .object "ReflectModels$Member"), ((cA 2), .object "ReflectModels$Handle"), ((cA 3), .object "ReflectModels$Thing"), ((cA 4), .object "ReflectModels$Value")] [(h0, .inr (7, [.ref (q 0), .int 1, .ref (q 1), .int 0, .int 0, .ref (q 2), .int 0, .ref (q 3), .int 0, .ref (q 4), .int 0, .int 0, .ref (q 5), .int 0, .int 0])), ((q 0), .inl ((cA 0), 16, .inr (.inr (.inr (.inr (va_up (fun _ => none) 0 (some (q 6)))))))), ((q 1), .inl ((cA 1), 40, .inr (.inr (.inr (.inr (fun _ => none)))))), ((q 2), .inl ((cA 2), 60, .inr (.inr (.inr (.inr (fun _ => none)))))), ((q 3), .inl ((cA 3), 124, .inr (.inr (.inr (.inr (fun _ => none)))))), ((q 4), .inl ((cA 4), 3, .inr (.inr (.inr (.inr (va_up (va_up (va_up (fun _ => none) 0 (some (q 7))) 1 (some (q 8))) 2 (some (q 9)))))))), ((q 5), .inr (6, [.int 0, .long 0])), ((q 6), .inr (0, [.int 0, .null, .int 0, .null, .int 0, .int 0, .int 1, .int 1, .int 0, .int 0, .int 0, .int 0])), ((q 7), .inr (6, [.int 0, .long 0])), ((q 8), .inr (6, [.int 0, .long 0])), ((q 9), .inr (6, [.int 0, .long 0]))] sz)) (qW (dC, dI) (fun v w1 ty1 => v = some (.int (an_cause)) ∧ w1 = [] ∧ ty1 = []) (va_A [(h0, .inr (7, [.ref (q 0), .int 1, .ref (q 1), .int 0, .int 0, .ref (q 2), .int 0, .ref (q 3), .int 0, .ref (q 4), .int 0, .int 0, .ref (q 5), .int 0, .int 0])), ((q 0), .inl ((cA 0), 16, .inr (.inr (.inr (.inr (va_up (fun _ => none) 0 (some (q 6)))))))), ((q 1), .inl ((cA 1), 40, .inr (.inr (.inr (.inr (fun _ => none)))))), ((q 2), .inl ((cA 2), 60, .inr (.inr (.inr (.inr (fun _ => none)))))), ((q 3), .inl ((cA 3), 124, .inr (.inr (.inr (.inr (fun _ => none)))))), ((q 4), .inl ((cA 4), 3, .inr (.inr (.inr (.inr (va_up (va_up (va_up (fun _ => none) 0 (some (q 7))) 1 (some (q 8))) 2 (some (q 9)))))))), ((q 5), .inr (6, [.int 0, .long 0])), ((q 6), .inr (0, [.int 0, .null, .int 0, .null, .int 0, .int 0, .int 1, .int 1, .int 0, .int 0, .int 0, .int 0])), ((q 7), .inr (6, [.int 0, .long 0])), ((q 8), .inr (6, [.int 0, .long 0])), ((q 9), .inr (6, [.int 0, .long 0]))] sz)) 0 0 (va_A [(h0, .inr (7, [.ref (q 0), .int 1, .ref (q 1), .int 0, .int 0, .ref (q 2), .int 0, .ref (q 3), .int 0, .ref (q 4), .int 0, .int 0, .ref (q 5), .int 0, .int 0])), ((q 0), .inl ((cA 0), 16, .inr (.inr (.inr (.inr (va_up (fun _ => none) 0 (some (q 6)))))))), ((q 1), .inl ((cA 1), 40, .inr (.inr (.inr (.inr (fun _ => none)))))), ((q 2), .inl ((cA 2), 60, .inr (.inr (.inr (.inr (fun _ => none)))))), ((q 3), .inl ((cA 3), 124, .inr (.inr (.inr (.inr (fun _ => none)))))), ((q 4), .inl ((cA 4), 3, .inr (.inr (.inr (.inr (va_up (va_up (va_up (fun _ => none) 0 (some (q 7))) 1 (some (q 8))) 2 (some (q 9)))))))), ((q 5), .inr (6, [.int 0, .long 0])), ((q 6), .inr (0, [.int 0, .null, .int 0, .null, .int 0, .int 0, .int 1, .int 1, .int 0, .int 0, .int 0, .int 0])), ((q 7), .inr (6, [.int 0, .long 0])), ((q 8), .inr (6, [.int 0, .long 0])), ((q 9), .inr (6, [.int 0, .long 0]))] sz) := by
  refine Met.ofW (cc := cX8_cause) (maxL := 1) (ret := (some .int)) (by decide) rfl ?_
  intro p e s m args below meth c s₁ B hml hv
  obtain ⟨rfl, hsz, hP, hK, hD, hN⟩ := hv
  have hx := B.exec
  have hb := B.bytes
  have hr := B.returns
  have hts := atoms_spec (ws := wsX8_cause) B.pre
  have hown : s.vm.findClass RX8 = some m.cls := findClass_of_methodNamed B.named
  have hlocks := B.notSynchronized
  subst hsz
  have hD := hD.self (sz := s.heap.size)
  generalize hAe : va_A [(h0, .inr (7, [.ref (q 0), .int 1, .ref (q 1), .int 0, .int 0, .ref (q 2), .int 0, .ref (q 3), .int 0, .ref (q 4), .int 0, .int 0, .ref (q 5), .int 0, .int 0])), ((q 0), .inl ((cA 0), 16, .inr (.inr (.inr (.inr (va_up (fun _ => none) 0 (some (q 6)))))))), ((q 1), .inl ((cA 1), 40, .inr (.inr (.inr (.inr (fun _ => none)))))), ((q 2), .inl ((cA 2), 60, .inr (.inr (.inr (.inr (fun _ => none)))))), ((q 3), .inl ((cA 3), 124, .inr (.inr (.inr (.inr (fun _ => none)))))), ((q 4), .inl ((cA 4), 3, .inr (.inr (.inr (.inr (va_up (va_up (va_up (fun _ => none) 0 (some (q 7))) 1 (some (q 8))) 2 (some (q 9)))))))), ((q 5), .inr (6, [.int 0, .long 0])), ((q 6), .inr (0, [.int 0, .null, .int 0, .null, .int 0, .int 0, .int 1, .int 1, .int 0, .int 0, .int 0, .int 0])), ((q 7), .inr (6, [.int 0, .long 0])), ((q 8), .inr (6, [.int 0, .long 0])), ((q 9), .inr (6, [.int 0, .long 0]))] s.heap.size = A at hD ⊢
  have hA : ∀ q : Nat, s.heap.size ≤ q → A q := fun q h => by rw [← hAe]; exact Or.inr h
  have hS : va_S A s.heap s.heap [] := va_S.rf
  have hl := lv_entry ([.ref h0]) (n := 1) (Nat.le_of_ble_eq_true rfl)
  rw [lg_entry_eq]
  generalize (lg_sl ([.ref h0]) ++ List.replicate (1 - (lg_sl ([.ref h0])).length) Slot.unset).toArray = ls at hl ⊢
  have hl : lv_has ls 1 [(0, .ref h0)] := hl
  refine lv_aload_n hx hb dX8_cause_0 rfl (lv_at hl 0 rfl) ?_
  refine va_get (D := (dC, dI)) (own := RX8) (ref := "ReflectModels") (index := 69) (ci := 7) (v := .int 0) (C := RX8) (T := TX8) (N := 15) hx hb hts inX8_cause_8 hown hK hP 0 rfl rfl 14 (by decide) (hts (.fieldLink RX8 69 "ReflectModels" "latestCause" "I") (by decide +kernel)) (fun _ h9 => h9) rfl dX8_cause_1 ?_
  have hP9 := hP.sub (ws' := []) [] rfl
  have hD9 := hD.sub (ws' := []) [] (by decide) rfl
  have hK9 := hK.sub (tys' := []) [] rfl
  exact W.zret (v := 0) (ty := .int) hx hb hr rfl (fun t ht hW => ⟨⟨(some (.int 0)), rfl, _, _, ⟨congrArg (fun z => some (Value.int z)) (by unfold an_cause; (repeat' split) <;> first | rfl | (exfalso; first | omega | (have kq := kz; omega))), rfl, rfl⟩, by rw [ht]; exact hP9, va_K.moved hW.alike hK9, hD9⟩, hS.F ht⟩) hS.2.2 dX8_cause_4

set_option maxHeartbeats 4000000 in
set_option maxRecDepth 100000 in
/-- about on a fresh object -/
theorem c8_about (l : Launch) (dC : Nat → ClassId) (dI : Nat → Nat → Nat) (h0 : Nat) (q : Nat → Nat) (cA : Nat → ClassId) (a1 a2 : Int32) (sz : Nat)  : Met l yX8_about wsX8_about ({ frames := 1, cells := 0, slots := 0, locals := 21 }) (va_Pc [.ref h0, .int a1, .int a2] (pz (dC, dI) [((cA 0), .object "ReflectModels$ClassModel"), ((cA 1), .object "ReflectModels$Member"), ((cA 2), .object "ReflectModels$Handle"), ((cA 3), .object "ReflectModels$Thing"), ((cA 4), .object "ReflectModels$Value")] [(h0, .inr (7, [.ref (q 0), .int 1, .ref (q 1), .int 0, .int 0, .ref (q 2), .int 0, .ref (q 3), .int 0, .ref (q 4), .int 0, .int 0, .ref (q 5), .int 0, .int 0])), ((q 0), .inl ((cA 0), 16, .inr (.inr (.inr (.inr (va_up (fun _ => none) 0 (some (q 6)))))))), ((q 1), .inl ((cA 1), 40, .inr (.inr (.inr (.inr (fun _ => none)))))), ((q 2), .inl ((cA 2), 60, .inr (.inr (.inr (.inr (fun _ => none)))))), ((q 3), .inl ((cA 3), 124, .inr (.inr (.inr (.inr (fun _ => none)))))), ((q 4), .inl ((cA 4), 3, .inr (.inr (.inr (.inr (va_up (va_up (va_up (fun _ => none) 0 (some (q 7))) 1 (some (q 8))) 2 (some (q 9)))))))), ((q 5), .inr (6, [.int 0, .long 0])), ((q 6), .inr (0, [.int 0, .null, .int 0, .null, .int 0, .int 0, .int 1, .int 1, .int 0, .int 0, .int 0, .int 0])), ((q 7), .inr (6, [.int 0, .long 0])), ((q 8), .inr (6, [.int 0, .long 0])), ((q 9), .inr (6, [.int 0, .long 0]))] sz)) (qW (dC, dI) (fun v w1 ty1 => v = some (.int (an_about a1.toInt a2.toInt)) ∧ w1 = [] ∧ ty1 = []) (va_A [(h0, .inr (7, [.ref (q 0), .int 1, .ref (q 1), .int 0, .int 0, .ref (q 2), .int 0, .ref (q 3), .int 0, .ref (q 4), .int 0, .int 0, .ref (q 5), .int 0, .int 0])), ((q 0), .inl ((cA 0), 16, .inr (.inr (.inr (.inr (va_up (fun _ => none) 0 (some (q 6)))))))), ((q 1), .inl ((cA 1), 40, .inr (.inr (.inr (.inr (fun _ => none)))))), ((q 2), .inl ((cA 2), 60, .inr (.inr (.inr (.inr (fun _ => none)))))), ((q 3), .inl ((cA 3), 124, .inr (.inr (.inr (.inr (fun _ => none)))))), ((q 4), .inl ((cA 4), 3, .inr (.inr (.inr (.inr (va_up (va_up (va_up (fun _ => none) 0 (some (q 7))) 1 (some (q 8))) 2 (some (q 9)))))))), ((q 5), .inr (6, [.int 0, .long 0])), ((q 6), .inr (0, [.int 0, .null, .int 0, .null, .int 0, .int 0, .int 1, .int 1, .int 0, .int 0, .int 0, .int 0])), ((q 7), .inr (6, [.int 0, .long 0])), ((q 8), .inr (6, [.int 0, .long 0])), ((q 9), .inr (6, [.int 0, .long 0]))] sz)) 0 0 (va_A [(h0, .inr (7, [.ref (q 0), .int 1, .ref (q 1), .int 0, .int 0, .ref (q 2), .int 0, .ref (q 3), .int 0, .ref (q 4), .int 0, .int 0, .ref (q 5), .int 0, .int 0])), ((q 0), .inl ((cA 0), 16, .inr (.inr (.inr (.inr (va_up (fun _ => none) 0 (some (q 6)))))))), ((q 1), .inl ((cA 1), 40, .inr (.inr (.inr (.inr (fun _ => none)))))), ((q 2), .inl ((cA 2), 60, .inr (.inr (.inr (.inr (fun _ => none)))))), ((q 3), .inl ((cA 3), 124, .inr (.inr (.inr (.inr (fun _ => none)))))), ((q 4), .inl ((cA 4), 3, .inr (.inr (.inr (.inr (va_up (va_up (va_up (fun _ => none) 0 (some (q 7))) 1 (some (q 8))) 2 (some (q 9)))))))), ((q 5), .inr (6, [.int 0, .long 0])), ((q 6), .inr (0, [.int 0, .null, .int 0, .null, .int 0, .int 0, .int 1, .int 1, .int 0, .int 0, .int 0, .int 0])), ((q 7), .inr (6, [.int 0, .long 0])), ((q 8), .inr (6, [.int 0, .long 0])), ((q 9), .inr (6, [.int 0, .long 0]))] sz) := by
  refine Met.ofW (cc := cX8_about) (maxL := 4) (ret := (some .int)) (by decide) rfl ?_
  intro p e s m args below meth c s₁ B hml hv
  obtain ⟨rfl, hsz, hP, hK, hD, hN⟩ := hv
  have hx := B.exec
  have hb := B.bytes
  have hr := B.returns
  have hts := atoms_spec (ws := wsX8_about) B.pre
  have hown : s.vm.findClass RX8 = some m.cls := findClass_of_methodNamed B.named
  have hlocks := B.notSynchronized
  subst hsz
  have hD := hD.self (sz := s.heap.size)
  generalize hAe : va_A [(h0, .inr (7, [.ref (q 0), .int 1, .ref (q 1), .int 0, .int 0, .ref (q 2), .int 0, .ref (q 3), .int 0, .ref (q 4), .int 0, .int 0, .ref (q 5), .int 0, .int 0])), ((q 0), .inl ((cA 0), 16, .inr (.inr (.inr (.inr (va_up (fun _ => none) 0 (some (q 6)))))))), ((q 1), .inl ((cA 1), 40, .inr (.inr (.inr (.inr (fun _ => none)))))), ((q 2), .inl ((cA 2), 60, .inr (.inr (.inr (.inr (fun _ => none)))))), ((q 3), .inl ((cA 3), 124, .inr (.inr (.inr (.inr (fun _ => none)))))), ((q 4), .inl ((cA 4), 3, .inr (.inr (.inr (.inr (va_up (va_up (va_up (fun _ => none) 0 (some (q 7))) 1 (some (q 8))) 2 (some (q 9)))))))), ((q 5), .inr (6, [.int 0, .long 0])), ((q 6), .inr (0, [.int 0, .null, .int 0, .null, .int 0, .int 0, .int 1, .int 1, .int 0, .int 0, .int 0, .int 0])), ((q 7), .inr (6, [.int 0, .long 0])), ((q 8), .inr (6, [.int 0, .long 0])), ((q 9), .inr (6, [.int 0, .long 0]))] s.heap.size = A at hD ⊢
  have hA : ∀ q : Nat, s.heap.size ≤ q → A q := fun q h => by rw [← hAe]; exact Or.inr h
  have hS : va_S A s.heap s.heap [] := va_S.rf
  have hl := lv_entry ([.ref h0, .int a1, .int a2]) (n := 4) (Nat.le_of_ble_eq_true rfl)
  rw [lg_entry_eq]
  generalize (lg_sl ([.ref h0, .int a1, .int a2]) ++ List.replicate (4 - (lg_sl ([.ref h0, .int a1, .int a2])).length) Slot.unset).toArray = ls at hl ⊢
  have hl : lv_has ls 4 [(0, .ref h0), (1, .int a1), (2, .int a2)] := hl
  refine lv_aload_n hx hb dX8_about_0 rfl (lv_at hl 0 rfl) ?_
  refine lv_iload_n hx hb dX8_about_1 rfl (lv_at hl 1 rfl) ?_
  refine clR (va_runV (As := [.int a1]) (rest := []) ⟨hx, hb, hml, hown, hts⟩ (c8_isClass l dC dI h0 q a1 _) (cwV 1 hts gX8_about_X8_isClass rfl rfl rfl (by decide +kernel) ⟨Nat.le_of_ble_eq_true rfl, Nat.le_of_ble_eq_true rfl⟩) ⟨pz_blind, va_recv hK hP (ci := 7) (q0 := 0) rfl rfl, pz_of hP hK hD hN [0] [] rfl (by decide) rfl⟩ rfl rfl hl.1 rfl (lv_room (Nat.le_of_ble_eq_true rfl)) dX8_about_2 ⟨Nat.le_of_ble_eq_true rfl, Nat.le_of_ble_eq_true rfl⟩) hS hP (fun v H locs w2 hP hS => ?_)
  rcases w2 with ⟨rfl, rfl⟩ | ⟨rfl, u1⟩
  · refine W.eq (g2 := F0 m 5 ls [.int 1]) rfl ?_
    refine lv_if_ne (tgt := 11) hx hb dX8_about_5 (by decide) (fun _ => ?_) (fun h => absurd h (by decide))
    refine lv_aload_n hx hb dX8_about_11 rfl (lv_at hl 0 rfl) ?_
    refine va_get (D := (dC, dI)) (own := RX8) (ref := "ReflectModels") (index := 11) (ci := 7) (v := .ref (q 0)) (C := RX8) (T := TX8) (N := 15) hx hb hts inX8_about_8 hown hK hP 0 rfl rfl 0 (by decide) (hts (.fieldLink RX8 11 "ReflectModels" "classes" "[LReflectModels$ClassModel;") (by decide +kernel)) (fun _ h9 => h9) rfl dX8_about_12 ?_
    refine lv_iload_n hx hb dX8_about_15 rfl (lv_at hl 1 rfl) ?_
    refine va_aldq hx hb hK hP 1 0 rfl rfl (vp_in_iff.mpr ⟨by decide, by decide⟩) dX8_about_16 ?_
    refine W.eq (g2 := F0 m 17 ls [.ref (q 6)]) rfl ?_
    refine lv_astore_n (lv' := [(3, .ref (q 6)), (0, .ref h0), (1, .int 0), (2, .int a2)]) hx hb dX8_about_17 rfl hl (by decide) rfl (fun ls hl => ?_)
    refine lv_iload_n hx hb dX8_about_18 rfl (lv_at hl 3 rfl) ?_
    by_cases h3 : a2.toInt < 0 ∨ 4 < a2.toInt
    · refine lv_tableOut (tgt := 105) hx hb dX8_about_19 h3 (by decide) ?_
      refine lv_bipush (v := (-3)) hx hb dX8_about_105 (by decide) ?_
      have hP9 := hP.sub (ws' := []) [] rfl
      have hD9 := hD.sub (ws' := []) [] (by decide) rfl
      have hK9 := hK.sub (tys' := []) [] rfl
      exact W.zret (v := (-3)) (ty := .int) hx hb hr rfl (fun t ht hW => ⟨⟨(some (.int (-3))), rfl, _, _, ⟨congrArg (fun z => some (Value.int z)) (by unfold an_about; (repeat' split) <;> first | rfl | (exfalso; first | omega | (have kq := kz; omega))), rfl, rfl⟩, by rw [ht]; exact hP9, va_K.moved hW.alike hK9, hD9⟩, hS.F ht⟩) hS.2.2 dX8_about_107
    · have gh3 : a2 = 0 ∨ a2 = 1 ∨ a2 = 2 ∨ a2 = 3 ∨ a2 = 4 := tw_0_4 (by omega) (by omega)
      rcases gh3 with rfl | rfl | rfl | rfl | rfl
      · refine lv_tableIn (tgt := 52) (off := 33) hx hb dX8_about_19 (by decide) (by decide) (by decide) (by decide) ?_
        refine lv_aload_n hx hb dX8_about_52 rfl (lv_at hl 0 rfl) ?_
        refine va_getN (host := "ReflectModels") (D := (dC, dI)) (own := RX8) (ref := "ReflectModels$ClassModel") (index := 86) (ci := 0) (v := .int 0) (C := RX0) (T := TX0) (N := 12) hx hb hts inX8_about_0 hown hK hP 7 rfl rfl 2 (by decide) (va_Nw.use rfl (hN _ (List.mem_of_getElem? (i := 12) rfl))) (fun _ h9 => h9) rfl dX8_about_53 ?_
        have hP9 := hP.sub (ws' := []) [] rfl
        have hD9 := hD.sub (ws' := []) [] (by decide) rfl
        have hK9 := hK.sub (tys' := []) [] rfl
        exact W.zret (v := 0) (ty := .int) hx hb hr rfl (fun t ht hW => ⟨⟨(some (.int 0)), rfl, _, _, ⟨congrArg (fun z => some (Value.int z)) (by unfold an_about; (repeat' split) <;> first | rfl | (exfalso; first | omega | (have kq := kz; omega))), rfl, rfl⟩, by rw [ht]; exact hP9, va_K.moved hW.alike hK9, hD9⟩, hS.F ht⟩) hS.2.2 dX8_about_56
      · refine lv_tableIn (tgt := 57) (off := 38) hx hb dX8_about_19 (by decide) (by decide) (by decide) (by decide) ?_
        refine lv_aload_n hx hb dX8_about_57 rfl (lv_at hl 0 rfl) ?_
        refine va_getN (host := "ReflectModels") (D := (dC, dI)) (own := RX8) (ref := "ReflectModels$ClassModel") (index := 264) (ci := 0) (v := .null) (C := RX0) (T := TX0) (N := 12) hx hb hts inX8_about_0 hown hK hP 7 rfl rfl 1 (by decide) (va_Nw.use rfl (hN _ (List.mem_of_getElem? (i := 11) rfl))) (fun _ h9 => h9) rfl dX8_about_58 ?_
        refine lv_ifnonnullN hx hb dX8_about_61 ?_
        refine lv_iconst (v := (-1)) hx hb dX8_about_64 (by decide) ?_
        refine lv_goto (tgt := 75) hx hb dX8_about_65 (by decide) ?_
        have hP9 := hP.sub (ws' := []) [] rfl
        have hD9 := hD.sub (ws' := []) [] (by decide) rfl
        have hK9 := hK.sub (tys' := []) [] rfl
        exact W.zret (v := (-1)) (ty := .int) hx hb hr rfl (fun t ht hW => ⟨⟨(some (.int (-1))), rfl, _, _, ⟨congrArg (fun z => some (Value.int z)) (by unfold an_about; (repeat' split) <;> first | rfl | (exfalso; first | omega | (have kq := kz; omega))), rfl, rfl⟩, by rw [ht]; exact hP9, va_K.moved hW.alike hK9, hD9⟩, hS.F ht⟩) hS.2.2 dX8_about_75
      · refine lv_tableIn (tgt := 76) (off := 57) hx hb dX8_about_19 (by decide) (by decide) (by decide) (by decide) ?_
        refine lv_aload_n hx hb dX8_about_76 rfl (lv_at hl 0 rfl) ?_
        refine va_getN (host := "ReflectModels") (D := (dC, dI)) (own := RX8) (ref := "ReflectModels$ClassModel") (index := 267) (ci := 0) (v := .null) (C := RX0) (T := TX0) (N := 12) hx hb hts inX8_about_0 hown hK hP 7 rfl rfl 3 (by decide) (va_Nw.use rfl (hN _ (List.mem_of_getElem? (i := 13) rfl))) (fun _ h9 => h9) rfl dX8_about_77 ?_
        refine lv_ifnonnullN hx hb dX8_about_80 ?_
        refine lv_iconst (v := (-1)) hx hb dX8_about_83 (by decide) ?_
        refine lv_goto (tgt := 94) hx hb dX8_about_84 (by decide) ?_
        have hP9 := hP.sub (ws' := []) [] rfl
        have hD9 := hD.sub (ws' := []) [] (by decide) rfl
        have hK9 := hK.sub (tys' := []) [] rfl
        exact W.zret (v := (-1)) (ty := .int) hx hb hr rfl (fun t ht hW => ⟨⟨(some (.int (-1))), rfl, _, _, ⟨congrArg (fun z => some (Value.int z)) (by unfold an_about; (repeat' split) <;> first | rfl | (exfalso; first | omega | (have kq := kz; omega))), rfl, rfl⟩, by rw [ht]; exact hP9, va_K.moved hW.alike hK9, hD9⟩, hS.F ht⟩) hS.2.2 dX8_about_94
      · refine lv_tableIn (tgt := 95) (off := 76) hx hb dX8_about_19 (by decide) (by decide) (by decide) (by decide) ?_
        refine lv_aload_n hx hb dX8_about_95 rfl (lv_at hl 0 rfl) ?_
        refine va_getN (host := "ReflectModels") (D := (dC, dI)) (own := RX8) (ref := "ReflectModels$ClassModel") (index := 92) (ci := 0) (v := .int 0) (C := RX0) (T := TX0) (N := 12) hx hb hts inX8_about_0 hown hK hP 7 rfl rfl 8 (by decide) (va_Nw.use rfl (hN _ (List.mem_of_getElem? (i := 17) rfl))) (fun _ h9 => h9) rfl dX8_about_96 ?_
        have hP9 := hP.sub (ws' := []) [] rfl
        have hD9 := hD.sub (ws' := []) [] (by decide) rfl
        have hK9 := hK.sub (tys' := []) [] rfl
        exact W.zret (v := 0) (ty := .int) hx hb hr rfl (fun t ht hW => ⟨⟨(some (.int 0)), rfl, _, _, ⟨congrArg (fun z => some (Value.int z)) (by unfold an_about; (repeat' split) <;> first | rfl | (exfalso; first | omega | (have kq := kz; omega))), rfl, rfl⟩, by rw [ht]; exact hP9, va_K.moved hW.alike hK9, hD9⟩, hS.F ht⟩) hS.2.2 dX8_about_99
      · refine lv_tableIn (tgt := 100) (off := 81) hx hb dX8_about_19 (by decide) (by decide) (by decide) (by decide) ?_
        refine lv_aload_n hx hb dX8_about_100 rfl (lv_at hl 0 rfl) ?_
        refine va_getN (host := "ReflectModels") (D := (dC, dI)) (own := RX8) (ref := "ReflectModels$ClassModel") (index := 270) (ci := 0) (v := .int 0) (C := RX0) (T := TX0) (N := 12) hx hb hts inX8_about_0 hown hK hP 7 rfl rfl 11 (by decide) (va_Nw.use rfl (hN _ (List.mem_of_getElem? (i := 20) rfl))) (fun _ h9 => h9) rfl dX8_about_101 ?_
        have hP9 := hP.sub (ws' := []) [] rfl
        have hD9 := hD.sub (ws' := []) [] (by decide) rfl
        have hK9 := hK.sub (tys' := []) [] rfl
        exact W.zret (v := 0) (ty := .int) hx hb hr rfl (fun t ht hW => ⟨⟨(some (.int 0)), rfl, _, _, ⟨congrArg (fun z => some (Value.int z)) (by unfold an_about; (repeat' split) <;> first | rfl | (exfalso; first | omega | (have kq := kz; omega))), rfl, rfl⟩, by rw [ht]; exact hP9, va_K.moved hW.alike hK9, hD9⟩, hS.F ht⟩) hS.2.2 dX8_about_104
  · refine W.eq (g2 := F0 m 5 ls [.int 0]) rfl ?_
    refine lv_if_ne (tgt := 11) hx hb dX8_about_5 (by decide) (fun h => absurd h (by decide)) (fun _ => ?_)
    refine lv_bipush (v := (-2)) hx hb dX8_about_8 (by decide) ?_
    have hP9 := hP.sub (ws' := []) [] rfl
    have hD9 := hD.sub (ws' := []) [] (by decide) rfl
    have hK9 := hK.sub (tys' := []) [] rfl
    exact W.zret (v := (-2)) (ty := .int) hx hb hr rfl (fun t ht hW => ⟨⟨(some (.int (-2))), rfl, _, _, ⟨congrArg (fun z => some (Value.int z)) (by unfold an_about; (repeat' split) <;> first | rfl | (exfalso; first | omega | (have kq := kz; omega))), rfl, rfl⟩, by rw [ht]; exact hP9, va_K.moved hW.alike hK9, hD9⟩, hS.F ht⟩) hS.2.2 dX8_about_10

set_option maxHeartbeats 4000000 in
set_option maxRecDepth 100000 in
/-- told on a fresh object -/
theorem c8_told (l : Launch) (dC : Nat → ClassId) (dI : Nat → Nat → Nat) (h0 : Nat) (q : Nat → Nat) (cA : Nat → ClassId) (a1 : Int32) (sz : Nat)  : Met l yX8_told wsX8_told ({ frames := 0, cells := 0, slots := 0, locals := 0 }) (va_Pc [.ref h0, .int a1] (pz (dC, dI) [((cA 0), .object "ReflectModels$ClassModel"), ((cA 1), .object "ReflectModels$Member"), ((cA 2), .object "ReflectModels$Handle"), ((cA 3), .object "ReflectModels$Thing"), ((cA 4), .object "ReflectModels$Value")] [(h0, .inr (7, [.ref (q 0), .int 1, .ref (q 1), .int 0, .int 0, .ref (q 2), .int 0, .ref (q 3), .int 0, .ref (q 4), .int 0, .int 0, .ref (q 5), .int 0, .int 0])), ((q 0), .inl ((cA 0), 16, .inr (.inr (.inr (.inr (va_up (fun _ => none) 0 (some (q 6)))))))), ((q 1), .inl ((cA 1), 40, .inr (.inr (.inr (.inr (fun _ => none)))))), ((q 2), .inl ((cA 2), 60, .inr (.inr (.inr (.inr (fun _ => none)))))), ((q 3), .inl ((cA 3), 124, .inr (.inr (.inr (.inr (fun _ => none)))))), ((q 4), .inl ((cA 4), 3, .inr (.inr (.inr (.inr (va_up (va_up (va_up (fun _ => none) 0 (some (q 7))) 1 (some (q 8))) 2 (some (q 9)))))))), ((q 5), .inr (6, [.int 0, .long 0])), ((q 6), .inr (0, [.int 0, .null, .int 0, .null, .int 0, .int 0, .int 1, .int 1, .int 0, .int 0, .int 0, .int 0])), ((q 7), .inr (6, [.int 0, .long 0])), ((q 8), .inr (6, [.int 0, .long 0])), ((q 9), .inr (6, [.int 0, .long 0]))] sz)) (qW (dC, dI) (fun v w1 ty1 => v = some (.int (an_told a1.toInt)) ∧ w1 = [] ∧ ty1 = []) (va_A [(h0, .inr (7, [.ref (q 0), .int 1, .ref (q 1), .int 0, .int 0, .ref (q 2), .int 0, .ref (q 3), .int 0, .ref (q 4), .int 0, .int 0, .ref (q 5), .int 0, .int 0])), ((q 0), .inl ((cA 0), 16, .inr (.inr (.inr (.inr (va_up (fun _ => none) 0 (some (q 6)))))))), ((q 1), .inl ((cA 1), 40, .inr (.inr (.inr (.inr (fun _ => none)))))), ((q 2), .inl ((cA 2), 60, .inr (.inr (.inr (.inr (fun _ => none)))))), ((q 3), .inl ((cA 3), 124, .inr (.inr (.inr (.inr (fun _ => none)))))), ((q 4), .inl ((cA 4), 3, .inr (.inr (.inr (.inr (va_up (va_up (va_up (fun _ => none) 0 (some (q 7))) 1 (some (q 8))) 2 (some (q 9)))))))), ((q 5), .inr (6, [.int 0, .long 0])), ((q 6), .inr (0, [.int 0, .null, .int 0, .null, .int 0, .int 0, .int 1, .int 1, .int 0, .int 0, .int 0, .int 0])), ((q 7), .inr (6, [.int 0, .long 0])), ((q 8), .inr (6, [.int 0, .long 0])), ((q 9), .inr (6, [.int 0, .long 0]))] sz)) 0 0 (va_A [(h0, .inr (7, [.ref (q 0), .int 1, .ref (q 1), .int 0, .int 0, .ref (q 2), .int 0, .ref (q 3), .int 0, .ref (q 4), .int 0, .int 0, .ref (q 5), .int 0, .int 0])), ((q 0), .inl ((cA 0), 16, .inr (.inr (.inr (.inr (va_up (fun _ => none) 0 (some (q 6)))))))), ((q 1), .inl ((cA 1), 40, .inr (.inr (.inr (.inr (fun _ => none)))))), ((q 2), .inl ((cA 2), 60, .inr (.inr (.inr (.inr (fun _ => none)))))), ((q 3), .inl ((cA 3), 124, .inr (.inr (.inr (.inr (fun _ => none)))))), ((q 4), .inl ((cA 4), 3, .inr (.inr (.inr (.inr (va_up (va_up (va_up (fun _ => none) 0 (some (q 7))) 1 (some (q 8))) 2 (some (q 9)))))))), ((q 5), .inr (6, [.int 0, .long 0])), ((q 6), .inr (0, [.int 0, .null, .int 0, .null, .int 0, .int 0, .int 1, .int 1, .int 0, .int 0, .int 0, .int 0])), ((q 7), .inr (6, [.int 0, .long 0])), ((q 8), .inr (6, [.int 0, .long 0])), ((q 9), .inr (6, [.int 0, .long 0]))] sz) := by
  refine Met.ofW (cc := cX8_told) (maxL := 2) (ret := (some .int)) (by decide) rfl ?_
  intro p e s m args below meth c s₁ B hml hv
  obtain ⟨rfl, hsz, hP, hK, hD, hN⟩ := hv
  have hx := B.exec
  have hb := B.bytes
  have hr := B.returns
  have hts := atoms_spec (ws := wsX8_told) B.pre
  have hown : s.vm.findClass RX8 = some m.cls := findClass_of_methodNamed B.named
  have hlocks := B.notSynchronized
  subst hsz
  have hD := hD.self (sz := s.heap.size)
  generalize hAe : va_A [(h0, .inr (7, [.ref (q 0), .int 1, .ref (q 1), .int 0, .int 0, .ref (q 2), .int 0, .ref (q 3), .int 0, .ref (q 4), .int 0, .int 0, .ref (q 5), .int 0, .int 0])), ((q 0), .inl ((cA 0), 16, .inr (.inr (.inr (.inr (va_up (fun _ => none) 0 (some (q 6)))))))), ((q 1), .inl ((cA 1), 40, .inr (.inr (.inr (.inr (fun _ => none)))))), ((q 2), .inl ((cA 2), 60, .inr (.inr (.inr (.inr (fun _ => none)))))), ((q 3), .inl ((cA 3), 124, .inr (.inr (.inr (.inr (fun _ => none)))))), ((q 4), .inl ((cA 4), 3, .inr (.inr (.inr (.inr (va_up (va_up (va_up (fun _ => none) 0 (some (q 7))) 1 (some (q 8))) 2 (some (q 9)))))))), ((q 5), .inr (6, [.int 0, .long 0])), ((q 6), .inr (0, [.int 0, .null, .int 0, .null, .int 0, .int 0, .int 1, .int 1, .int 0, .int 0, .int 0, .int 0])), ((q 7), .inr (6, [.int 0, .long 0])), ((q 8), .inr (6, [.int 0, .long 0])), ((q 9), .inr (6, [.int 0, .long 0]))] s.heap.size = A at hD ⊢
  have hA : ∀ q : Nat, s.heap.size ≤ q → A q := fun q h => by rw [← hAe]; exact Or.inr h
  have hS : va_S A s.heap s.heap [] := va_S.rf
  have hl := lv_entry ([.ref h0, .int a1]) (n := 2) (Nat.le_of_ble_eq_true rfl)
  rw [lg_entry_eq]
  generalize (lg_sl ([.ref h0, .int a1]) ++ List.replicate (2 - (lg_sl ([.ref h0, .int a1])).length) Slot.unset).toArray = ls at hl ⊢
  have hl : lv_has ls 2 [(0, .ref h0), (1, .int a1)] := hl
  refine lv_iload_n hx hb dX8_told_0 rfl (lv_at hl 1 rfl) ?_
  by_cases h1 : a1.toInt < 0 ∨ 5 < a1.toInt
  · refine lv_tableOut (tgt := 70) hx hb dX8_told_1 h1 (by decide) ?_
    refine lv_bipush (v := (-3)) hx hb dX8_told_70 (by decide) ?_
    have hP9 := hP.sub (ws' := []) [] rfl
    have hD9 := hD.sub (ws' := []) [] (by decide) rfl
    have hK9 := hK.sub (tys' := []) [] rfl
    exact W.zret (v := (-3)) (ty := .int) hx hb hr rfl (fun t ht hW => ⟨⟨(some (.int (-3))), rfl, _, _, ⟨congrArg (fun z => some (Value.int z)) (by unfold an_told; (repeat' split) <;> first | rfl | (exfalso; first | omega | (have kq := kz; omega))), rfl, rfl⟩, by rw [ht]; exact hP9, va_K.moved hW.alike hK9, hD9⟩, hS.F ht⟩) hS.2.2 dX8_told_72
  · have gh1 : a1 = 0 ∨ a1 = 1 ∨ a1 = 2 ∨ a1 = 3 ∨ a1 = 4 ∨ a1 = 5 := tw_0_5 (by omega) (by omega)
    rcases gh1 with rfl | rfl | rfl | rfl | rfl | rfl
    · refine lv_tableIn (tgt := 40) (off := 39) hx hb dX8_told_1 (by decide) (by decide) (by decide) (by decide) ?_
      refine lv_aload_n hx hb dX8_told_40 rfl (lv_at hl 0 rfl) ?_
      refine va_get (D := (dC, dI)) (own := RX8) (ref := "ReflectModels") (index := 15) (ci := 7) (v := .int 1) (C := RX8) (T := TX8) (N := 15) hx hb hts inX8_told_8 hown hK hP 0 rfl rfl 1 (by decide) (hts (.fieldLink RX8 15 "ReflectModels" "classCount" "I") (by decide +kernel)) (fun _ h9 => h9) rfl dX8_told_41 ?_
      have hP9 := hP.sub (ws' := []) [] rfl
      have hD9 := hD.sub (ws' := []) [] (by decide) rfl
      have hK9 := hK.sub (tys' := []) [] rfl
      exact W.zret (v := 1) (ty := .int) hx hb hr rfl (fun t ht hW => ⟨⟨(some (.int 1)), rfl, _, _, ⟨congrArg (fun z => some (Value.int z)) (by unfold an_told; (repeat' split) <;> first | rfl | (exfalso; first | omega | (have kq := kz; omega))), rfl, rfl⟩, by rw [ht]; exact hP9, va_K.moved hW.alike hK9, hD9⟩, hS.F ht⟩) hS.2.2 dX8_told_44
    · refine lv_tableIn (tgt := 45) (off := 44) hx hb dX8_told_1 (by decide) (by decide) (by decide) (by decide) ?_
      refine lv_aload_n hx hb dX8_told_45 rfl (lv_at hl 0 rfl) ?_
      refine va_get (D := (dC, dI)) (own := RX8) (ref := "ReflectModels") (index := 25) (ci := 7) (v := .int 0) (C := RX8) (T := TX8) (N := 15) hx hb hts inX8_told_8 hown hK hP 0 rfl rfl 3 (by decide) (hts (.fieldLink RX8 25 "ReflectModels" "memberCount" "I") (by decide +kernel)) (fun _ h9 => h9) rfl dX8_told_46 ?_
      have hP9 := hP.sub (ws' := []) [] rfl
      have hD9 := hD.sub (ws' := []) [] (by decide) rfl
      have hK9 := hK.sub (tys' := []) [] rfl
      exact W.zret (v := 0) (ty := .int) hx hb hr rfl (fun t ht hW => ⟨⟨(some (.int 0)), rfl, _, _, ⟨congrArg (fun z => some (Value.int z)) (by unfold an_told; (repeat' split) <;> first | rfl | (exfalso; first | omega | (have kq := kz; omega))), rfl, rfl⟩, by rw [ht]; exact hP9, va_K.moved hW.alike hK9, hD9⟩, hS.F ht⟩) hS.2.2 dX8_told_49
    · refine lv_tableIn (tgt := 50) (off := 49) hx hb dX8_told_1 (by decide) (by decide) (by decide) (by decide) ?_
      refine lv_aload_n hx hb dX8_told_50 rfl (lv_at hl 0 rfl) ?_
      refine va_get (D := (dC, dI)) (own := RX8) (ref := "ReflectModels") (index := 37) (ci := 7) (v := .int 0) (C := RX8) (T := TX8) (N := 15) hx hb hts inX8_told_8 hown hK hP 0 rfl rfl 6 (by decide) (hts (.fieldLink RX8 37 "ReflectModels" "handleCount" "I") (by decide +kernel)) (fun _ h9 => h9) rfl dX8_told_51 ?_
      have hP9 := hP.sub (ws' := []) [] rfl
      have hD9 := hD.sub (ws' := []) [] (by decide) rfl
      have hK9 := hK.sub (tys' := []) [] rfl
      exact W.zret (v := 0) (ty := .int) hx hb hr rfl (fun t ht hW => ⟨⟨(some (.int 0)), rfl, _, _, ⟨congrArg (fun z => some (Value.int z)) (by unfold an_told; (repeat' split) <;> first | rfl | (exfalso; first | omega | (have kq := kz; omega))), rfl, rfl⟩, by rw [ht]; exact hP9, va_K.moved hW.alike hK9, hD9⟩, hS.F ht⟩) hS.2.2 dX8_told_54
    · refine lv_tableIn (tgt := 55) (off := 54) hx hb dX8_told_1 (by decide) (by decide) (by decide) (by decide) ?_
      refine lv_aload_n hx hb dX8_told_55 rfl (lv_at hl 0 rfl) ?_
      refine va_get (D := (dC, dI)) (own := RX8) (ref := "ReflectModels") (index := 46) (ci := 7) (v := .int 0) (C := RX8) (T := TX8) (N := 15) hx hb hts inX8_told_8 hown hK hP 0 rfl rfl 8 (by decide) (hts (.fieldLink RX8 46 "ReflectModels" "thingCount" "I") (by decide +kernel)) (fun _ h9 => h9) rfl dX8_told_56 ?_
      have hP9 := hP.sub (ws' := []) [] rfl
      have hD9 := hD.sub (ws' := []) [] (by decide) rfl
      have hK9 := hK.sub (tys' := []) [] rfl
      exact W.zret (v := 0) (ty := .int) hx hb hr rfl (fun t ht hW => ⟨⟨(some (.int 0)), rfl, _, _, ⟨congrArg (fun z => some (Value.int z)) (by unfold an_told; (repeat' split) <;> first | rfl | (exfalso; first | omega | (have kq := kz; omega))), rfl, rfl⟩, by rw [ht]; exact hP9, va_K.moved hW.alike hK9, hD9⟩, hS.F ht⟩) hS.2.2 dX8_told_59
    · refine lv_tableIn (tgt := 60) (off := 59) hx hb dX8_told_1 (by decide) (by decide) (by decide) (by decide) ?_
      refine lv_aload_n hx hb dX8_told_60 rfl (lv_at hl 0 rfl) ?_
      refine va_get (D := (dC, dI)) (own := RX8) (ref := "ReflectModels") (index := 55) (ci := 7) (v := .int 0) (C := RX8) (T := TX8) (N := 15) hx hb hts inX8_told_8 hown hK hP 0 rfl rfl 10 (by decide) (hts (.fieldLink RX8 55 "ReflectModels" "valueCount" "I") (by decide +kernel)) (fun _ h9 => h9) rfl dX8_told_61 ?_
      have hP9 := hP.sub (ws' := []) [] rfl
      have hD9 := hD.sub (ws' := []) [] (by decide) rfl
      have hK9 := hK.sub (tys' := []) [] rfl
      exact W.zret (v := 0) (ty := .int) hx hb hr rfl (fun t ht hW => ⟨⟨(some (.int 0)), rfl, _, _, ⟨congrArg (fun z => some (Value.int z)) (by unfold an_told; (repeat' split) <;> first | rfl | (exfalso; first | omega | (have kq := kz; omega))), rfl, rfl⟩, by rw [ht]; exact hP9, va_K.moved hW.alike hK9, hD9⟩, hS.F ht⟩) hS.2.2 dX8_told_64
    · refine lv_tableIn (tgt := 65) (off := 64) hx hb dX8_told_1 (by decide) (by decide) (by decide) (by decide) ?_
      refine lv_aload_n hx hb dX8_told_65 rfl (lv_at hl 0 rfl) ?_
      refine va_get (D := (dC, dI)) (own := RX8) (ref := "ReflectModels") (index := 66) (ci := 7) (v := .int 0) (C := RX8) (T := TX8) (N := 15) hx hb hts inX8_told_8 hown hK hP 0 rfl rfl 13 (by decide) (hts (.fieldLink RX8 66 "ReflectModels" "latestFailure" "I") (by decide +kernel)) (fun _ h9 => h9) rfl dX8_told_66 ?_
      have hP9 := hP.sub (ws' := []) [] rfl
      have hD9 := hD.sub (ws' := []) [] (by decide) rfl
      have hK9 := hK.sub (tys' := []) [] rfl
      exact W.zret (v := 0) (ty := .int) hx hb hr rfl (fun t ht hW => ⟨⟨(some (.int 0)), rfl, _, _, ⟨congrArg (fun z => some (Value.int z)) (by unfold an_told; (repeat' split) <;> first | rfl | (exfalso; first | omega | (have kq := kz; omega))), rfl, rfl⟩, by rw [ht]; exact hP9, va_K.moved hW.alike hK9, hD9⟩, hS.F ht⟩) hS.2.2 dX8_told_69
end
section
set_option maxHeartbeats 4000000 in
set_option maxRecDepth 100000 in
theorem c8_ownField (l : Launch) (dC : Nat → ClassId) (dI : Nat → Nat → Nat) (h0 : Nat) (q : Nat → Nat) (r1 : Nat) (a2 : Int32) (sz : Nat)  : Met l yX8_ownField wsX8_ownField ({ frames := 0, cells := 0, slots := 0, locals := 0 }) (va_Pc [.ref h0, .ref r1, .int a2] (pz (dC, dI) [] [(h0, .inr (7, [.ref (q 0), .int 1, .ref (q 1), .int 0, .int 0, .ref (q 2), .int 0, .ref (q 3), .int 0, .ref (q 4), .int 0, .int 0, .ref (q 5), .int 0, .int 0]))] sz)) (qR (fun v => (v = some (.int (-1))))) 0 0 nA := by
  refine Met.ofW (cc := cX8_ownField) (maxL := 6) (ret := (some .int)) (by decide) rfl ?_
  intro p e s m args below meth c s₁ B hml hv
  obtain ⟨rfl, hsz, hP, hK, hD, hN⟩ := hv
  have hx := B.exec
  have hb := B.bytes
  have hr := B.returns
  have hts := atoms_spec (ws := wsX8_ownField) B.pre
  have hown : s.vm.findClass RX8 = some m.cls := findClass_of_methodNamed B.named
  have hlocks := B.notSynchronized
  subst hsz
  have hS : va_S nA s.heap s.heap [] := va_S.rf
  have hl := lv_entry ([.ref h0, .ref r1, .int a2]) (n := 6) (Nat.le_of_ble_eq_true rfl)
  rw [lg_entry_eq]
  generalize (lg_sl ([.ref h0, .ref r1, .int a2]) ++ List.replicate (6 - (lg_sl ([.ref h0, .ref r1, .int a2])).length) Slot.unset).toArray = ls at hl ⊢
  have hl : lv_has ls 6 [(0, .ref h0), (1, .ref r1), (2, .int a2)] := hl
  refine lv_iconst (v := 0) hx hb dX8_ownField_0 (by decide) ?_
  refine lv_istore_n (lv' := [(3, .int 0), (0, .ref h0), (1, .ref r1), (2, .int a2)]) hx hb dX8_ownField_1 rfl hl (by decide) rfl (fun ls hl => ?_)
  refine lv_iload_n hx hb dX8_ownField_2 rfl (lv_at hl 0 rfl) ?_
  refine lv_aload_n hx hb dX8_ownField_3 rfl (lv_at hl 1 rfl) ?_
  refine va_get (D := (dC, dI)) (own := RX8) (ref := "ReflectModels") (index := 25) (ci := 7) (v := .int 0) (C := RX8) (T := TX8) (N := 15) hx hb hts inX8_ownField_8 hown hK hP 0 rfl rfl 3 (by decide) (hts (.fieldLink RX8 25 "ReflectModels" "memberCount" "I") (by decide +kernel)) (fun _ h9 => h9) rfl dX8_ownField_4 ?_
  refine lv_icmp_ge (tgt := 59) hx hb dX8_ownField_7 (by decide) (fun _ => ?_) (fun h => absurd (by decide) h)
  refine lv_iconst (v := (-1)) hx hb dX8_ownField_59 (by decide) ?_
  exact W.zret (v := (-1)) (ty := .int) hx hb hr rfl (fun t ht hW => ⟨⟨(some (.int (-1))), rfl, (by first | exact rfl)⟩, hS.F ht⟩) hS.2.2 dX8_ownField_60

set_option maxHeartbeats 4000000 in
set_option maxRecDepth 100000 in
theorem c8_ownMethod (l : Launch) (dC : Nat → ClassId) (dI : Nat → Nat → Nat) (h0 : Nat) (q : Nat → Nat) (r1 g1 : Nat) (sz : Nat)  : Met l yX8_ownMethod wsX8_ownMethod ({ frames := 0, cells := 0, slots := 0, locals := 0 }) (va_Pc [.ref h0, .ref r1, .ref g1] (pz (dC, dI) [] [(h0, .inr (7, [.ref (q 0), .int 1, .ref (q 1), .int 0, .int 0, .ref (q 2), .int 0, .ref (q 3), .int 0, .ref (q 4), .int 0, .int 0, .ref (q 5), .int 0, .int 0]))] sz)) (qR (fun v => (v = some (.int (-1))))) 0 0 nA := by
  refine Met.ofW (cc := cX8_ownMethod) (maxL := 6) (ret := (some .int)) (by decide) rfl ?_
  intro p e s m args below meth c s₁ B hml hv
  obtain ⟨rfl, hsz, hP, hK, hD, hN⟩ := hv
  have hx := B.exec
  have hb := B.bytes
  have hr := B.returns
  have hts := atoms_spec (ws := wsX8_ownMethod) B.pre
  have hown : s.vm.findClass RX8 = some m.cls := findClass_of_methodNamed B.named
  have hlocks := B.notSynchronized
  subst hsz
  have hS : va_S nA s.heap s.heap [] := va_S.rf
  have hl := lv_entry ([.ref h0, .ref r1, .ref g1]) (n := 6) (Nat.le_of_ble_eq_true rfl)
  rw [lg_entry_eq]
  generalize (lg_sl ([.ref h0, .ref r1, .ref g1]) ++ List.replicate (6 - (lg_sl ([.ref h0, .ref r1, .ref g1])).length) Slot.unset).toArray = ls at hl ⊢
  have hl : lv_has ls 6 [(0, .ref h0), (1, .ref r1), (2, .ref g1)] := hl
  refine lv_iconst (v := 0) hx hb dX8_ownMethod_0 (by decide) ?_
  refine lv_istore_n (lv' := [(3, .int 0), (0, .ref h0), (1, .ref r1), (2, .ref g1)]) hx hb dX8_ownMethod_1 rfl hl (by decide) rfl (fun ls hl => ?_)
  refine lv_iload_n hx hb dX8_ownMethod_2 rfl (lv_at hl 0 rfl) ?_
  refine lv_aload_n hx hb dX8_ownMethod_3 rfl (lv_at hl 1 rfl) ?_
  refine va_get (D := (dC, dI)) (own := RX8) (ref := "ReflectModels") (index := 25) (ci := 7) (v := .int 0) (C := RX8) (T := TX8) (N := 15) hx hb hts inX8_ownMethod_8 hown hK hP 0 rfl rfl 3 (by decide) (hts (.fieldLink RX8 25 "ReflectModels" "memberCount" "I") (by decide +kernel)) (fun _ h9 => h9) rfl dX8_ownMethod_4 ?_
  refine lv_icmp_ge (tgt := 62) hx hb dX8_ownMethod_7 (by decide) (fun _ => ?_) (fun h => absurd (by decide) h)
  refine lv_iconst (v := (-1)) hx hb dX8_ownMethod_62 (by decide) ?_
  exact W.zret (v := (-1)) (ty := .int) hx hb hr rfl (fun t ht hW => ⟨⟨(some (.int (-1))), rfl, (by first | exact rfl)⟩, hS.F ht⟩) hS.2.2 dX8_ownMethod_63

set_option maxHeartbeats 4000000 in
set_option maxRecDepth 100000 in
theorem c8_mayHaveField (l : Launch) (dC : Nat → ClassId) (dI : Nat → Nat → Nat) (r1 : Nat) (a1 a2 : Int32) (sz : Nat) (h1 : a1 = 0 ∨ a1 = 1) : Met l yX8_mayHaveField wsX8_mayHaveField ({ frames := 0, cells := 0, slots := 0, locals := 0 }) (va_Pc [.ref r1, .int a1, .int a2] (pz (dC, dI) [] [(r1, .inr (0, [.int 0, .null, .int 0, .null, .int 0, .int 0, .int 1, .int 1, .int 0, .int 0, .int 0, .int 0]))] sz)) (qR (fun v => (v = some (.int a1)))) 0 0 nA := by
  refine Met.ofW (cc := cX8_mayHaveField) (maxL := 3) (ret := (some .boolean)) (by decide) rfl ?_
  intro p e s m args below meth c s₁ B hml hv
  obtain ⟨rfl, hsz, hP, hK, hD, hN⟩ := hv
  have hx := B.exec
  have hb := B.bytes
  have hr := B.returns
  have hts := atoms_spec (ws := wsX8_mayHaveField) B.pre
  have hown : s.vm.findClass RX8 = some m.cls := findClass_of_methodNamed B.named
  have hlocks := B.notSynchronized
  subst hsz
  have hS : va_S nA s.heap s.heap [] := va_S.rf
  have hl := lv_entry ([.ref r1, .int a1, .int a2]) (n := 3) (Nat.le_of_ble_eq_true rfl)
  rw [lg_entry_eq]
  generalize (lg_sl ([.ref r1, .int a1, .int a2]) ++ List.replicate (3 - (lg_sl ([.ref r1, .int a1, .int a2])).length) Slot.unset).toArray = ls at hl ⊢
  have hl : lv_has ls 3 [(0, .ref r1), (1, .int a1), (2, .int a2)] := hl
  refine lv_aload_n hx hb dX8_mayHaveField_0 rfl (lv_at hl 0 rfl) ?_
  refine va_getN (host := "ReflectModels") (D := (dC, dI)) (own := RX8) (ref := "ReflectModels$ClassModel") (index := 180) (ci := 0) (v := .int 0) (C := RX0) (T := TX0) (N := 12) hx hb hts inX8_mayHaveField_0 hown hK hP 0 rfl rfl 0 (by decide) (va_Nw.use rfl (hN _ (List.mem_of_getElem? (i := 10) rfl))) (fun _ h9 => h9) rfl dX8_mayHaveField_1 ?_
  refine lv_if_eq (tgt := 15) hx hb dX8_mayHaveField_4 (by decide) (fun _ => ?_) (fun h => absurd (by decide) h)
  refine lv_iload_n hx hb dX8_mayHaveField_15 rfl (lv_at hl 1 rfl) ?_
  exact W.zret (v := a1) (ty := .boolean) hx hb hr (nar_b h1) (fun t ht hW => ⟨⟨(some (.int a1)), rfl, (by first | exact rfl)⟩, hS.F ht⟩) hS.2.2 dX8_mayHaveField_16

set_option maxHeartbeats 4000000 in
set_option maxRecDepth 100000 in
theorem c3_initF (l : Launch) (dC : Nat → ClassId) (dI : Nat → Nat → Nat) (h1 r1 : Nat) (a2 a3 : Int32) (sz : Nat) (h2 : a2 = 0 ∨ a2 = 1) (h3 : a3 = 0 ∨ a3 = 1) : Met l yX3_init wsX3_init ({ frames := 1, cells := 0, slots := 0, locals := 12 }) (va_Pc [.ref h1, .ref r1, .int a2, .int a3] (pz (dC, dI) [] [(h1, .inr (1, [.null, .int 0, .int 0, .int 0, .int 0, .int 0, .long 0, .int 0, .long 0]))] sz)) (qW (dC, dI) (fun v w1 ty1 => v = none ∧ w1 = [(h1, .inr (1, [.ref r1, .int a2, .int a3, .int 0, .int 0, .int 0, .long 0, .int 0, .long 0]))] ∧ ty1 = []) (va_A [(h1, .inr (1, [.null, .int 0, .int 0, .int 0, .int 0, .int 0, .long 0, .int 0, .long 0]))] sz)) 0 0 (va_A [(h1, .inr (1, [.null, .int 0, .int 0, .int 0, .int 0, .int 0, .long 0, .int 0, .long 0]))] sz) := by
  refine Met.ofW (cc := cX3_init) (maxL := 4) (ret := none) (by decide) rfl ?_
  intro p e s m args below meth c s₁ B hml hv
  obtain ⟨rfl, hsz, hP, hK, hD, hN⟩ := hv
  have hx := B.exec
  have hb := B.bytes
  have hr := B.returns
  have hts := atoms_spec (ws := wsX3_init) B.pre
  have hown : s.vm.findClass RX3 = some m.cls := findClass_of_methodNamed B.named
  have hlocks := B.notSynchronized
  have hin : meth.name = "<init>" := (name_of_methodNamed B.named B.method).1
  subst hsz
  have hD := hD.self (sz := s.heap.size)
  generalize hAe : va_A [(h1, .inr (1, [.null, .int 0, .int 0, .int 0, .int 0, .int 0, .long 0, .int 0, .long 0]))] s.heap.size = A at hD ⊢
  have hA : ∀ q : Nat, s.heap.size ≤ q → A q := fun q h => by rw [← hAe]; exact Or.inr h
  have hS : va_S A s.heap s.heap [] := va_S.rf
  have hl := lv_entry ([.ref h1, .ref r1, .int a2, .int a3]) (n := 4) (Nat.le_of_ble_eq_true rfl)
  rw [lg_entry_eq]
  generalize (lg_sl ([.ref h1, .ref r1, .int a2, .int a3]) ++ List.replicate (4 - (lg_sl ([.ref h1, .ref r1, .int a2, .int a3])).length) Slot.unset).toArray = ls at hl ⊢
  have hl : lv_has ls 4 [(0, .ref h1), (1, .ref r1), (2, .int a2), (3, .int a3)] := hl
  refine lv_aload_n hx hb dX3_init_0 rfl (lv_at hl 0 rfl) ?_
  refine W.objInit hx hb hown (hts (.methodLink RX3 1 objectInit) (by decide +kernel)) (hts (.instanceMethod objectInit) (by decide +kernel)) (hts (.code objectInit ⟨#[0xb1]⟩ 1 none) (by decide +kernel)) rfl (by rw [hml]; exact hl.1) rfl dX3_init_1 (Nat.le_of_ble_eq_true rfl) (Nat.le_of_ble_eq_true rfl) ?_
  refine W.eq (g2 := F0 m 4 ls []) rfl ?_
  refine lv_aload_n hx hb dX3_init_4 rfl (lv_at hl 0 rfl) ?_
  refine lv_aload_n hx hb dX3_init_5 rfl (lv_at hl 1 rfl) ?_
  refine va_putF (D := (dC, dI)) (own := RX3) (ref := "ReflectModels$Member") (index := 7) (ci := 1) (v := .ref r1) (ty := .object "ReflectModels$ClassModel") (C := RX1) (T := TX1) (N := 9) hx hb hts inX3_init_1 tyX1 tyX1_ok nmX1 hown hK hP hD hS 0 rfl rfl 0 (by decide) (hts (.fieldLink RX3 7 "ReflectModels$Member" "owner" "LReflectModels$ClassModel;") (by decide +kernel)) (fun _ h9 => h9) rfl hin rfl (by decide +kernel) rfl rfl (Nat.le_of_ble_eq_true rfl) dX3_init_6 (fun H locs hP hD hS => ?_)
  have hP : va_P (dC, dI) vwCl [(h1, .inr (1, [.ref r1, .int 0, .int 0, .int 0, .int 0, .int 0, .long 0, .int 0, .long 0]))] H := hP
  have hD : va_D A [(h1, .inr (1, [.ref r1, .int 0, .int 0, .int 0, .int 0, .int 0, .long 0, .int 0, .long 0]))] := hD
  refine lv_aload_n hx hb dX3_init_9 rfl (lv_at hl 0 rfl) ?_
  refine lv_iload_n hx hb dX3_init_10 rfl (lv_at hl 2 rfl) ?_
  refine va_putF (D := (dC, dI)) (own := RX3) (ref := "ReflectModels$Member") (index := 13) (ci := 1) (v := .int a2) (ty := .boolean) (C := RX1) (T := TX1) (N := 9) hx hb hts inX3_init_1 tyX1 tyX1_ok nmX1 hown hK hP hD hS 0 rfl rfl 1 (by decide) (hts (.fieldLink RX3 13 "ReflectModels$Member" "isStatic" "Z") (by decide +kernel)) (fun _ h9 => h9) rfl hin rfl (by decide +kernel) (nar_b h2) (fit_b h2) (Nat.le_of_ble_eq_true rfl) dX3_init_11 (fun H locs hP hD hS => ?_)
  have hP : va_P (dC, dI) vwCl [(h1, .inr (1, [.ref r1, .int a2, .int 0, .int 0, .int 0, .int 0, .long 0, .int 0, .long 0]))] H := hP
  have hD : va_D A [(h1, .inr (1, [.ref r1, .int a2, .int 0, .int 0, .int 0, .int 0, .long 0, .int 0, .long 0]))] := hD
  refine lv_aload_n hx hb dX3_init_14 rfl (lv_at hl 0 rfl) ?_
  refine lv_iload_n hx hb dX3_init_15 rfl (lv_at hl 3 rfl) ?_
  refine va_putF (D := (dC, dI)) (own := RX3) (ref := "ReflectModels$Member") (index := 17) (ci := 1) (v := .int a3) (ty := .boolean) (C := RX1) (T := TX1) (N := 9) hx hb hts inX3_init_1 tyX1 tyX1_ok nmX1 hown hK hP hD hS 0 rfl rfl 2 (by decide) (hts (.fieldLink RX3 17 "ReflectModels$Member" "isHidden" "Z") (by decide +kernel)) (fun _ h9 => h9) rfl hin rfl (by decide +kernel) (nar_b h3) (fit_b h3) (Nat.le_of_ble_eq_true rfl) dX3_init_16 (fun H locs hP hD hS => ?_)
  have hP : va_P (dC, dI) vwCl [(h1, .inr (1, [.ref r1, .int a2, .int a3, .int 0, .int 0, .int 0, .long 0, .int 0, .long 0]))] H := hP
  have hD : va_D A [(h1, .inr (1, [.ref r1, .int a2, .int a3, .int 0, .int 0, .int 0, .long 0, .int 0, .long 0]))] := hD
  have hP9 := hP.sub (ws' := [(h1, .inr (1, [.ref r1, .int a2, .int a3, .int 0, .int 0, .int 0, .long 0, .int 0, .long 0]))]) [0] rfl
  have hD9 := hD.sub (ws' := [(h1, .inr (1, [.ref r1, .int a2, .int a3, .int 0, .int 0, .int 0, .long 0, .int 0, .long 0]))]) [0] (by decide) rfl
  have hK9 := hK.sub (tys' := []) [] rfl
  exact W.vret hx hb hr (fun t ht hW => ⟨⟨none, rfl, _, _, ⟨rfl, rfl, rfl⟩, by rw [ht]; exact hP9, va_K.moved hW.alike hK9, hD9⟩, hS.F ht⟩) hS.2.2 dX3_init_19

set_option maxHeartbeats 4000000 in
set_option maxRecDepth 100000 in
theorem c3_initM00 (l : Launch) (dC : Nat → ClassId) (dI : Nat → Nat → Nat) (h1 r1 : Nat) (sz : Nat)  : Met l yX3_init wsX3_init ({ frames := 1, cells := 0, slots := 0, locals := 12 }) (va_Pc [.ref h1, .ref r1, .int 0, .int 0] (pz (dC, dI) [] [(h1, .inr (3, [.null, .int 0, .int 0, .null, .int 0, .int 0, .int 0, .int 0]))] sz)) (qW (dC, dI) (fun v w1 ty1 => v = none ∧ w1 = [(h1, .inr (3, [.ref r1, .int 0, .int 0, .null, .int 0, .int 0, .int 0, .int 0]))] ∧ ty1 = []) (va_A [(h1, .inr (3, [.null, .int 0, .int 0, .null, .int 0, .int 0, .int 0, .int 0]))] sz)) 0 0 (va_A [(h1, .inr (3, [.null, .int 0, .int 0, .null, .int 0, .int 0, .int 0, .int 0]))] sz) := by
  refine Met.ofW (cc := cX3_init) (maxL := 4) (ret := none) (by decide) rfl ?_
  intro p e s m args below meth c s₁ B hml hv
  obtain ⟨rfl, hsz, hP, hK, hD, hN⟩ := hv
  have hx := B.exec
  have hb := B.bytes
  have hr := B.returns
  have hts := atoms_spec (ws := wsX3_init) B.pre
  have hown : s.vm.findClass RX3 = some m.cls := findClass_of_methodNamed B.named
  have hlocks := B.notSynchronized
  have hin : meth.name = "<init>" := (name_of_methodNamed B.named B.method).1
  subst hsz
  have hD := hD.self (sz := s.heap.size)
  generalize hAe : va_A [(h1, .inr (3, [.null, .int 0, .int 0, .null, .int 0, .int 0, .int 0, .int 0]))] s.heap.size = A at hD ⊢
  have hA : ∀ q : Nat, s.heap.size ≤ q → A q := fun q h => by rw [← hAe]; exact Or.inr h
  have hS : va_S A s.heap s.heap [] := va_S.rf
  have hl := lv_entry ([.ref h1, .ref r1, .int 0, .int 0]) (n := 4) (Nat.le_of_ble_eq_true rfl)
  rw [lg_entry_eq]
  generalize (lg_sl ([.ref h1, .ref r1, .int 0, .int 0]) ++ List.replicate (4 - (lg_sl ([.ref h1, .ref r1, .int 0, .int 0])).length) Slot.unset).toArray = ls at hl ⊢
  have hl : lv_has ls 4 [(0, .ref h1), (1, .ref r1), (2, .int 0), (3, .int 0)] := hl
  refine lv_aload_n hx hb dX3_init_0 rfl (lv_at hl 0 rfl) ?_
  refine W.objInit hx hb hown (hts (.methodLink RX3 1 objectInit) (by decide +kernel)) (hts (.instanceMethod objectInit) (by decide +kernel)) (hts (.code objectInit ⟨#[0xb1]⟩ 1 none) (by decide +kernel)) rfl (by rw [hml]; exact hl.1) rfl dX3_init_1 (Nat.le_of_ble_eq_true rfl) (Nat.le_of_ble_eq_true rfl) ?_
  refine W.eq (g2 := F0 m 4 ls []) rfl ?_
  refine lv_aload_n hx hb dX3_init_4 rfl (lv_at hl 0 rfl) ?_
  refine lv_aload_n hx hb dX3_init_5 rfl (lv_at hl 1 rfl) ?_
  refine va_putF (D := (dC, dI)) (own := RX3) (ref := "ReflectModels$Member") (index := 7) (ci := 3) (v := .ref r1) (ty := .object "ReflectModels$ClassModel") (C := RX4) (T := TX4) (N := 8) hx hb hts inX3_init_4 tyX4 tyX4_ok nmX4 hown hK hP hD hS 0 rfl rfl 0 (by decide) (hts (.fieldLink RX3 7 "ReflectModels$Member" "owner" "LReflectModels$ClassModel;") (by decide +kernel)) (fun _ h9 => h9) rfl hin rfl (by decide +kernel) rfl rfl (Nat.le_of_ble_eq_true rfl) dX3_init_6 (fun H locs hP hD hS => ?_)
  have hP : va_P (dC, dI) vwCl [(h1, .inr (3, [.ref r1, .int 0, .int 0, .null, .int 0, .int 0, .int 0, .int 0]))] H := hP
  have hD : va_D A [(h1, .inr (3, [.ref r1, .int 0, .int 0, .null, .int 0, .int 0, .int 0, .int 0]))] := hD
  refine lv_aload_n hx hb dX3_init_9 rfl (lv_at hl 0 rfl) ?_
  refine lv_iload_n hx hb dX3_init_10 rfl (lv_at hl 2 rfl) ?_
  refine va_putF (D := (dC, dI)) (own := RX3) (ref := "ReflectModels$Member") (index := 13) (ci := 3) (v := .int 0) (ty := .boolean) (C := RX4) (T := TX4) (N := 8) hx hb hts inX3_init_4 tyX4 tyX4_ok nmX4 hown hK hP hD hS 0 rfl rfl 1 (by decide) (hts (.fieldLink RX3 13 "ReflectModels$Member" "isStatic" "Z") (by decide +kernel)) (fun _ h9 => h9) rfl hin rfl (by decide +kernel) rfl rfl (Nat.le_of_ble_eq_true rfl) dX3_init_11 (fun H locs hP hD hS => ?_)
  have hP : va_P (dC, dI) vwCl [(h1, .inr (3, [.ref r1, .int 0, .int 0, .null, .int 0, .int 0, .int 0, .int 0]))] H := hP
  have hD : va_D A [(h1, .inr (3, [.ref r1, .int 0, .int 0, .null, .int 0, .int 0, .int 0, .int 0]))] := hD
  refine lv_aload_n hx hb dX3_init_14 rfl (lv_at hl 0 rfl) ?_
  refine lv_iload_n hx hb dX3_init_15 rfl (lv_at hl 3 rfl) ?_
  refine va_putF (D := (dC, dI)) (own := RX3) (ref := "ReflectModels$Member") (index := 17) (ci := 3) (v := .int 0) (ty := .boolean) (C := RX4) (T := TX4) (N := 8) hx hb hts inX3_init_4 tyX4 tyX4_ok nmX4 hown hK hP hD hS 0 rfl rfl 2 (by decide) (hts (.fieldLink RX3 17 "ReflectModels$Member" "isHidden" "Z") (by decide +kernel)) (fun _ h9 => h9) rfl hin rfl (by decide +kernel) rfl rfl (Nat.le_of_ble_eq_true rfl) dX3_init_16 (fun H locs hP hD hS => ?_)
  have hP : va_P (dC, dI) vwCl [(h1, .inr (3, [.ref r1, .int 0, .int 0, .null, .int 0, .int 0, .int 0, .int 0]))] H := hP
  have hD : va_D A [(h1, .inr (3, [.ref r1, .int 0, .int 0, .null, .int 0, .int 0, .int 0, .int 0]))] := hD
  have hP9 := hP.sub (ws' := [(h1, .inr (3, [.ref r1, .int 0, .int 0, .null, .int 0, .int 0, .int 0, .int 0]))]) [0] rfl
  have hD9 := hD.sub (ws' := [(h1, .inr (3, [.ref r1, .int 0, .int 0, .null, .int 0, .int 0, .int 0, .int 0]))]) [0] (by decide) rfl
  have hK9 := hK.sub (tys' := []) [] rfl
  exact W.vret hx hb hr (fun t ht hW => ⟨⟨none, rfl, _, _, ⟨rfl, rfl, rfl⟩, by rw [ht]; exact hP9, va_K.moved hW.alike hK9, hD9⟩, hS.F ht⟩) hS.2.2 dX3_init_19

set_option maxHeartbeats 4000000 in
set_option maxRecDepth 100000 in
theorem c3_initM01 (l : Launch) (dC : Nat → ClassId) (dI : Nat → Nat → Nat) (h1 r1 : Nat) (sz : Nat)  : Met l yX3_init wsX3_init ({ frames := 1, cells := 0, slots := 0, locals := 12 }) (va_Pc [.ref h1, .ref r1, .int 0, .int 1] (pz (dC, dI) [] [(h1, .inr (3, [.null, .int 0, .int 0, .null, .int 0, .int 0, .int 0, .int 0]))] sz)) (qW (dC, dI) (fun v w1 ty1 => v = none ∧ w1 = [(h1, .inr (3, [.ref r1, .int 0, .int 1, .null, .int 0, .int 0, .int 0, .int 0]))] ∧ ty1 = []) (va_A [(h1, .inr (3, [.null, .int 0, .int 0, .null, .int 0, .int 0, .int 0, .int 0]))] sz)) 0 0 (va_A [(h1, .inr (3, [.null, .int 0, .int 0, .null, .int 0, .int 0, .int 0, .int 0]))] sz) := by
  refine Met.ofW (cc := cX3_init) (maxL := 4) (ret := none) (by decide) rfl ?_
  intro p e s m args below meth c s₁ B hml hv
  obtain ⟨rfl, hsz, hP, hK, hD, hN⟩ := hv
  have hx := B.exec
  have hb := B.bytes
  have hr := B.returns
  have hts := atoms_spec (ws := wsX3_init) B.pre
  have hown : s.vm.findClass RX3 = some m.cls := findClass_of_methodNamed B.named
  have hlocks := B.notSynchronized
  have hin : meth.name = "<init>" := (name_of_methodNamed B.named B.method).1
  subst hsz
  have hD := hD.self (sz := s.heap.size)
  generalize hAe : va_A [(h1, .inr (3, [.null, .int 0, .int 0, .null, .int 0, .int 0, .int 0, .int 0]))] s.heap.size = A at hD ⊢
  have hA : ∀ q : Nat, s.heap.size ≤ q → A q := fun q h => by rw [← hAe]; exact Or.inr h
  have hS : va_S A s.heap s.heap [] := va_S.rf
  have hl := lv_entry ([.ref h1, .ref r1, .int 0, .int 1]) (n := 4) (Nat.le_of_ble_eq_true rfl)
  rw [lg_entry_eq]
  generalize (lg_sl ([.ref h1, .ref r1, .int 0, .int 1]) ++ List.replicate (4 - (lg_sl ([.ref h1, .ref r1, .int 0, .int 1])).length) Slot.unset).toArray = ls at hl ⊢
  have hl : lv_has ls 4 [(0, .ref h1), (1, .ref r1), (2, .int 0), (3, .int 1)] := hl
  refine lv_aload_n hx hb dX3_init_0 rfl (lv_at hl 0 rfl) ?_
  refine W.objInit hx hb hown (hts (.methodLink RX3 1 objectInit) (by decide +kernel)) (hts (.instanceMethod objectInit) (by decide +kernel)) (hts (.code objectInit ⟨#[0xb1]⟩ 1 none) (by decide +kernel)) rfl (by rw [hml]; exact hl.1) rfl dX3_init_1 (Nat.le_of_ble_eq_true rfl) (Nat.le_of_ble_eq_true rfl) ?_
  refine W.eq (g2 := F0 m 4 ls []) rfl ?_
  refine lv_aload_n hx hb dX3_init_4 rfl (lv_at hl 0 rfl) ?_
  refine lv_aload_n hx hb dX3_init_5 rfl (lv_at hl 1 rfl) ?_
  refine va_putF (D := (dC, dI)) (own := RX3) (ref := "ReflectModels$Member") (index := 7) (ci := 3) (v := .ref r1) (ty := .object "ReflectModels$ClassModel") (C := RX4) (T := TX4) (N := 8) hx hb hts inX3_init_4 tyX4 tyX4_ok nmX4 hown hK hP hD hS 0 rfl rfl 0 (by decide) (hts (.fieldLink RX3 7 "ReflectModels$Member" "owner" "LReflectModels$ClassModel;") (by decide +kernel)) (fun _ h9 => h9) rfl hin rfl (by decide +kernel) rfl rfl (Nat.le_of_ble_eq_true rfl) dX3_init_6 (fun H locs hP hD hS => ?_)
  have hP : va_P (dC, dI) vwCl [(h1, .inr (3, [.ref r1, .int 0, .int 0, .null, .int 0, .int 0, .int 0, .int 0]))] H := hP
  have hD : va_D A [(h1, .inr (3, [.ref r1, .int 0, .int 0, .null, .int 0, .int 0, .int 0, .int 0]))] := hD
  refine lv_aload_n hx hb dX3_init_9 rfl (lv_at hl 0 rfl) ?_
  refine lv_iload_n hx hb dX3_init_10 rfl (lv_at hl 2 rfl) ?_
  refine va_putF (D := (dC, dI)) (own := RX3) (ref := "ReflectModels$Member") (index := 13) (ci := 3) (v := .int 0) (ty := .boolean) (C := RX4) (T := TX4) (N := 8) hx hb hts inX3_init_4 tyX4 tyX4_ok nmX4 hown hK hP hD hS 0 rfl rfl 1 (by decide) (hts (.fieldLink RX3 13 "ReflectModels$Member" "isStatic" "Z") (by decide +kernel)) (fun _ h9 => h9) rfl hin rfl (by decide +kernel) rfl rfl (Nat.le_of_ble_eq_true rfl) dX3_init_11 (fun H locs hP hD hS => ?_)
  have hP : va_P (dC, dI) vwCl [(h1, .inr (3, [.ref r1, .int 0, .int 0, .null, .int 0, .int 0, .int 0, .int 0]))] H := hP
  have hD : va_D A [(h1, .inr (3, [.ref r1, .int 0, .int 0, .null, .int 0, .int 0, .int 0, .int 0]))] := hD
  refine lv_aload_n hx hb dX3_init_14 rfl (lv_at hl 0 rfl) ?_
  refine lv_iload_n hx hb dX3_init_15 rfl (lv_at hl 3 rfl) ?_
  refine va_putF (D := (dC, dI)) (own := RX3) (ref := "ReflectModels$Member") (index := 17) (ci := 3) (v := .int 1) (ty := .boolean) (C := RX4) (T := TX4) (N := 8) hx hb hts inX3_init_4 tyX4 tyX4_ok nmX4 hown hK hP hD hS 0 rfl rfl 2 (by decide) (hts (.fieldLink RX3 17 "ReflectModels$Member" "isHidden" "Z") (by decide +kernel)) (fun _ h9 => h9) rfl hin rfl (by decide +kernel) rfl rfl (Nat.le_of_ble_eq_true rfl) dX3_init_16 (fun H locs hP hD hS => ?_)
  have hP : va_P (dC, dI) vwCl [(h1, .inr (3, [.ref r1, .int 0, .int 1, .null, .int 0, .int 0, .int 0, .int 0]))] H := hP
  have hD : va_D A [(h1, .inr (3, [.ref r1, .int 0, .int 1, .null, .int 0, .int 0, .int 0, .int 0]))] := hD
  have hP9 := hP.sub (ws' := [(h1, .inr (3, [.ref r1, .int 0, .int 1, .null, .int 0, .int 0, .int 0, .int 0]))]) [0] rfl
  have hD9 := hD.sub (ws' := [(h1, .inr (3, [.ref r1, .int 0, .int 1, .null, .int 0, .int 0, .int 0, .int 0]))]) [0] (by decide) rfl
  have hK9 := hK.sub (tys' := []) [] rfl
  exact W.vret hx hb hr (fun t ht hW => ⟨⟨none, rfl, _, _, ⟨rfl, rfl, rfl⟩, by rw [ht]; exact hP9, va_K.moved hW.alike hK9, hD9⟩, hS.F ht⟩) hS.2.2 dX3_init_19

set_option maxHeartbeats 4000000 in
set_option maxRecDepth 100000 in
theorem c3_initM10 (l : Launch) (dC : Nat → ClassId) (dI : Nat → Nat → Nat) (h1 r1 : Nat) (sz : Nat)  : Met l yX3_init wsX3_init ({ frames := 1, cells := 0, slots := 0, locals := 12 }) (va_Pc [.ref h1, .ref r1, .int 1, .int 0] (pz (dC, dI) [] [(h1, .inr (3, [.null, .int 0, .int 0, .null, .int 0, .int 0, .int 0, .int 0]))] sz)) (qW (dC, dI) (fun v w1 ty1 => v = none ∧ w1 = [(h1, .inr (3, [.ref r1, .int 1, .int 0, .null, .int 0, .int 0, .int 0, .int 0]))] ∧ ty1 = []) (va_A [(h1, .inr (3, [.null, .int 0, .int 0, .null, .int 0, .int 0, .int 0, .int 0]))] sz)) 0 0 (va_A [(h1, .inr (3, [.null, .int 0, .int 0, .null, .int 0, .int 0, .int 0, .int 0]))] sz) := by
  refine Met.ofW (cc := cX3_init) (maxL := 4) (ret := none) (by decide) rfl ?_
  intro p e s m args below meth c s₁ B hml hv
  obtain ⟨rfl, hsz, hP, hK, hD, hN⟩ := hv
  have hx := B.exec
  have hb := B.bytes
  have hr := B.returns
  have hts := atoms_spec (ws := wsX3_init) B.pre
  have hown : s.vm.findClass RX3 = some m.cls := findClass_of_methodNamed B.named
  have hlocks := B.notSynchronized
  have hin : meth.name = "<init>" := (name_of_methodNamed B.named B.method).1
  subst hsz
  have hD := hD.self (sz := s.heap.size)
  generalize hAe : va_A [(h1, .inr (3, [.null, .int 0, .int 0, .null, .int 0, .int 0, .int 0, .int 0]))] s.heap.size = A at hD ⊢
  have hA : ∀ q : Nat, s.heap.size ≤ q → A q := fun q h => by rw [← hAe]; exact Or.inr h
  have hS : va_S A s.heap s.heap [] := va_S.rf
  have hl := lv_entry ([.ref h1, .ref r1, .int 1, .int 0]) (n := 4) (Nat.le_of_ble_eq_true rfl)
  rw [lg_entry_eq]
  generalize (lg_sl ([.ref h1, .ref r1, .int 1, .int 0]) ++ List.replicate (4 - (lg_sl ([.ref h1, .ref r1, .int 1, .int 0])).length) Slot.unset).toArray = ls at hl ⊢
  have hl : lv_has ls 4 [(0, .ref h1), (1, .ref r1), (2, .int 1), (3, .int 0)] := hl
  refine lv_aload_n hx hb dX3_init_0 rfl (lv_at hl 0 rfl) ?_
  refine W.objInit hx hb hown (hts (.methodLink RX3 1 objectInit) (by decide +kernel)) (hts (.instanceMethod objectInit) (by decide +kernel)) (hts (.code objectInit ⟨#[0xb1]⟩ 1 none) (by decide +kernel)) rfl (by rw [hml]; exact hl.1) rfl dX3_init_1 (Nat.le_of_ble_eq_true rfl) (Nat.le_of_ble_eq_true rfl) ?_
  refine W.eq (g2 := F0 m 4 ls []) rfl ?_
  refine lv_aload_n hx hb dX3_init_4 rfl (lv_at hl 0 rfl) ?_
  refine lv_aload_n hx hb dX3_init_5 rfl (lv_at hl 1 rfl) ?_
  refine va_putF (D := (dC, dI)) (own := RX3) (ref := "ReflectModels$Member") (index := 7) (ci := 3) (v := .ref r1) (ty := .object "ReflectModels$ClassModel") (C := RX4) (T := TX4) (N := 8) hx hb hts inX3_init_4 tyX4 tyX4_ok nmX4 hown hK hP hD hS 0 rfl rfl 0 (by decide) (hts (.fieldLink RX3 7 "ReflectModels$Member" "owner" "LReflectModels$ClassModel;") (by decide +kernel)) (fun _ h9 => h9) rfl hin rfl (by decide +kernel) rfl rfl (Nat.le_of_ble_eq_true rfl) dX3_init_6 (fun H locs hP hD hS => ?_)
  have hP : va_P (dC, dI) vwCl [(h1, .inr (3, [.ref r1, .int 0, .int 0, .null, .int 0, .int 0, .int 0, .int 0]))] H := hP
  have hD : va_D A [(h1, .inr (3, [.ref r1, .int 0, .int 0, .null, .int 0, .int 0, .int 0, .int 0]))] := hD
  refine lv_aload_n hx hb dX3_init_9 rfl (lv_at hl 0 rfl) ?_
  refine lv_iload_n hx hb dX3_init_10 rfl (lv_at hl 2 rfl) ?_
  refine va_putF (D := (dC, dI)) (own := RX3) (ref := "ReflectModels$Member") (index := 13) (ci := 3) (v := .int 1) (ty := .boolean) (C := RX4) (T := TX4) (N := 8) hx hb hts inX3_init_4 tyX4 tyX4_ok nmX4 hown hK hP hD hS 0 rfl rfl 1 (by decide) (hts (.fieldLink RX3 13 "ReflectModels$Member" "isStatic" "Z") (by decide +kernel)) (fun _ h9 => h9) rfl hin rfl (by decide +kernel) rfl rfl (Nat.le_of_ble_eq_true rfl) dX3_init_11 (fun H locs hP hD hS => ?_)
  have hP : va_P (dC, dI) vwCl [(h1, .inr (3, [.ref r1, .int 1, .int 0, .null, .int 0, .int 0, .int 0, .int 0]))] H := hP
  have hD : va_D A [(h1, .inr (3, [.ref r1, .int 1, .int 0, .null, .int 0, .int 0, .int 0, .int 0]))] := hD
  refine lv_aload_n hx hb dX3_init_14 rfl (lv_at hl 0 rfl) ?_
  refine lv_iload_n hx hb dX3_init_15 rfl (lv_at hl 3 rfl) ?_
  refine va_putF (D := (dC, dI)) (own := RX3) (ref := "ReflectModels$Member") (index := 17) (ci := 3) (v := .int 0) (ty := .boolean) (C := RX4) (T := TX4) (N := 8) hx hb hts inX3_init_4 tyX4 tyX4_ok nmX4 hown hK hP hD hS 0 rfl rfl 2 (by decide) (hts (.fieldLink RX3 17 "ReflectModels$Member" "isHidden" "Z") (by decide +kernel)) (fun _ h9 => h9) rfl hin rfl (by decide +kernel) rfl rfl (Nat.le_of_ble_eq_true rfl) dX3_init_16 (fun H locs hP hD hS => ?_)
  have hP : va_P (dC, dI) vwCl [(h1, .inr (3, [.ref r1, .int 1, .int 0, .null, .int 0, .int 0, .int 0, .int 0]))] H := hP
  have hD : va_D A [(h1, .inr (3, [.ref r1, .int 1, .int 0, .null, .int 0, .int 0, .int 0, .int 0]))] := hD
  have hP9 := hP.sub (ws' := [(h1, .inr (3, [.ref r1, .int 1, .int 0, .null, .int 0, .int 0, .int 0, .int 0]))]) [0] rfl
  have hD9 := hD.sub (ws' := [(h1, .inr (3, [.ref r1, .int 1, .int 0, .null, .int 0, .int 0, .int 0, .int 0]))]) [0] (by decide) rfl
  have hK9 := hK.sub (tys' := []) [] rfl
  exact W.vret hx hb hr (fun t ht hW => ⟨⟨none, rfl, _, _, ⟨rfl, rfl, rfl⟩, by rw [ht]; exact hP9, va_K.moved hW.alike hK9, hD9⟩, hS.F ht⟩) hS.2.2 dX3_init_19

set_option maxHeartbeats 4000000 in
set_option maxRecDepth 100000 in
theorem c3_initM11 (l : Launch) (dC : Nat → ClassId) (dI : Nat → Nat → Nat) (h1 r1 : Nat) (sz : Nat)  : Met l yX3_init wsX3_init ({ frames := 1, cells := 0, slots := 0, locals := 12 }) (va_Pc [.ref h1, .ref r1, .int 1, .int 1] (pz (dC, dI) [] [(h1, .inr (3, [.null, .int 0, .int 0, .null, .int 0, .int 0, .int 0, .int 0]))] sz)) (qW (dC, dI) (fun v w1 ty1 => v = none ∧ w1 = [(h1, .inr (3, [.ref r1, .int 1, .int 1, .null, .int 0, .int 0, .int 0, .int 0]))] ∧ ty1 = []) (va_A [(h1, .inr (3, [.null, .int 0, .int 0, .null, .int 0, .int 0, .int 0, .int 0]))] sz)) 0 0 (va_A [(h1, .inr (3, [.null, .int 0, .int 0, .null, .int 0, .int 0, .int 0, .int 0]))] sz) := by
  refine Met.ofW (cc := cX3_init) (maxL := 4) (ret := none) (by decide) rfl ?_
  intro p e s m args below meth c s₁ B hml hv
  obtain ⟨rfl, hsz, hP, hK, hD, hN⟩ := hv
  have hx := B.exec
  have hb := B.bytes
  have hr := B.returns
  have hts := atoms_spec (ws := wsX3_init) B.pre
  have hown : s.vm.findClass RX3 = some m.cls := findClass_of_methodNamed B.named
  have hlocks := B.notSynchronized
  have hin : meth.name = "<init>" := (name_of_methodNamed B.named B.method).1
  subst hsz
  have hD := hD.self (sz := s.heap.size)
  generalize hAe : va_A [(h1, .inr (3, [.null, .int 0, .int 0, .null, .int 0, .int 0, .int 0, .int 0]))] s.heap.size = A at hD ⊢
  have hA : ∀ q : Nat, s.heap.size ≤ q → A q := fun q h => by rw [← hAe]; exact Or.inr h
  have hS : va_S A s.heap s.heap [] := va_S.rf
  have hl := lv_entry ([.ref h1, .ref r1, .int 1, .int 1]) (n := 4) (Nat.le_of_ble_eq_true rfl)
  rw [lg_entry_eq]
  generalize (lg_sl ([.ref h1, .ref r1, .int 1, .int 1]) ++ List.replicate (4 - (lg_sl ([.ref h1, .ref r1, .int 1, .int 1])).length) Slot.unset).toArray = ls at hl ⊢
  have hl : lv_has ls 4 [(0, .ref h1), (1, .ref r1), (2, .int 1), (3, .int 1)] := hl
  refine lv_aload_n hx hb dX3_init_0 rfl (lv_at hl 0 rfl) ?_
  refine W.objInit hx hb hown (hts (.methodLink RX3 1 objectInit) (by decide +kernel)) (hts (.instanceMethod objectInit) (by decide +kernel)) (hts (.code objectInit ⟨#[0xb1]⟩ 1 none) (by decide +kernel)) rfl (by rw [hml]; exact hl.1) rfl dX3_init_1 (Nat.le_of_ble_eq_true rfl) (Nat.le_of_ble_eq_true rfl) ?_
  refine W.eq (g2 := F0 m 4 ls []) rfl ?_
  refine lv_aload_n hx hb dX3_init_4 rfl (lv_at hl 0 rfl) ?_
  refine lv_aload_n hx hb dX3_init_5 rfl (lv_at hl 1 rfl) ?_
  refine va_putF (D := (dC, dI)) (own := RX3) (ref := "ReflectModels$Member") (index := 7) (ci := 3) (v := .ref r1) (ty := .object "ReflectModels$ClassModel") (C := RX4) (T := TX4) (N := 8) hx hb hts inX3_init_4 tyX4 tyX4_ok nmX4 hown hK hP hD hS 0 rfl rfl 0 (by decide) (hts (.fieldLink RX3 7 "ReflectModels$Member" "owner" "LReflectModels$ClassModel;") (by decide +kernel)) (fun _ h9 => h9) rfl hin rfl (by decide +kernel) rfl rfl (Nat.le_of_ble_eq_true rfl) dX3_init_6 (fun H locs hP hD hS => ?_)
  have hP : va_P (dC, dI) vwCl [(h1, .inr (3, [.ref r1, .int 0, .int 0, .null, .int 0, .int 0, .int 0, .int 0]))] H := hP
  have hD : va_D A [(h1, .inr (3, [.ref r1, .int 0, .int 0, .null, .int 0, .int 0, .int 0, .int 0]))] := hD
  refine lv_aload_n hx hb dX3_init_9 rfl (lv_at hl 0 rfl) ?_
  refine lv_iload_n hx hb dX3_init_10 rfl (lv_at hl 2 rfl) ?_
  refine va_putF (D := (dC, dI)) (own := RX3) (ref := "ReflectModels$Member") (index := 13) (ci := 3) (v := .int 1) (ty := .boolean) (C := RX4) (T := TX4) (N := 8) hx hb hts inX3_init_4 tyX4 tyX4_ok nmX4 hown hK hP hD hS 0 rfl rfl 1 (by decide) (hts (.fieldLink RX3 13 "ReflectModels$Member" "isStatic" "Z") (by decide +kernel)) (fun _ h9 => h9) rfl hin rfl (by decide +kernel) rfl rfl (Nat.le_of_ble_eq_true rfl) dX3_init_11 (fun H locs hP hD hS => ?_)
  have hP : va_P (dC, dI) vwCl [(h1, .inr (3, [.ref r1, .int 1, .int 0, .null, .int 0, .int 0, .int 0, .int 0]))] H := hP
  have hD : va_D A [(h1, .inr (3, [.ref r1, .int 1, .int 0, .null, .int 0, .int 0, .int 0, .int 0]))] := hD
  refine lv_aload_n hx hb dX3_init_14 rfl (lv_at hl 0 rfl) ?_
  refine lv_iload_n hx hb dX3_init_15 rfl (lv_at hl 3 rfl) ?_
  refine va_putF (D := (dC, dI)) (own := RX3) (ref := "ReflectModels$Member") (index := 17) (ci := 3) (v := .int 1) (ty := .boolean) (C := RX4) (T := TX4) (N := 8) hx hb hts inX3_init_4 tyX4 tyX4_ok nmX4 hown hK hP hD hS 0 rfl rfl 2 (by decide) (hts (.fieldLink RX3 17 "ReflectModels$Member" "isHidden" "Z") (by decide +kernel)) (fun _ h9 => h9) rfl hin rfl (by decide +kernel) rfl rfl (Nat.le_of_ble_eq_true rfl) dX3_init_16 (fun H locs hP hD hS => ?_)
  have hP : va_P (dC, dI) vwCl [(h1, .inr (3, [.ref r1, .int 1, .int 1, .null, .int 0, .int 0, .int 0, .int 0]))] H := hP
  have hD : va_D A [(h1, .inr (3, [.ref r1, .int 1, .int 1, .null, .int 0, .int 0, .int 0, .int 0]))] := hD
  have hP9 := hP.sub (ws' := [(h1, .inr (3, [.ref r1, .int 1, .int 1, .null, .int 0, .int 0, .int 0, .int 0]))]) [0] rfl
  have hD9 := hD.sub (ws' := [(h1, .inr (3, [.ref r1, .int 1, .int 1, .null, .int 0, .int 0, .int 0, .int 0]))]) [0] (by decide) rfl
  have hK9 := hK.sub (tys' := []) [] rfl
  exact W.vret hx hb hr (fun t ht hW => ⟨⟨none, rfl, _, _, ⟨rfl, rfl, rfl⟩, by rw [ht]; exact hP9, va_K.moved hW.alike hK9, hD9⟩, hS.F ht⟩) hS.2.2 dX3_init_19

set_option maxHeartbeats 4000000 in
set_option maxRecDepth 100000 in
theorem c1_init (l : Launch) (dC : Nat → ClassId) (dI : Nat → Nat → Nat) (h1 r1 : Nat) (a2 a3 a4 a5 a6 : Int32) (sz : Nat) (h4 : a4 = 0 ∨ a4 = 1) (h5 : a5 = 0 ∨ a5 = 1) (h6 : a6 = 0 ∨ a6 = 1) : Met l yX1_init wsX1_init ({ frames := 2, cells := 0, slots := 0, locals := 35 }) (va_Pc [.ref h1, .ref r1, .int a2, .int a3, .int a4, .int a5, .int a6, .int (-1)] (pz (dC, dI) [] [(h1, .inr (1, [.null, .int 0, .int 0, .int 0, .int 0, .int 0, .long 0, .int 0, .long 0]))] sz)) (qW (dC, dI) (fun v w1 ty1 => v = none ∧ ∃ f : Int64, w1 = [(h1, .inr (1, [.ref r1, .int a4, .int a6, .int a2, .int a3, .int a5, .long f, .int (-1), .long f]))] ∧ ty1 = []) (va_A [(h1, .inr (1, [.null, .int 0, .int 0, .int 0, .int 0, .int 0, .long 0, .int 0, .long 0]))] sz)) 0 0 (va_A [(h1, .inr (1, [.null, .int 0, .int 0, .int 0, .int 0, .int 0, .long 0, .int 0, .long 0]))] sz) := by
  refine Met.ofW (cc := cX1_init) (maxL := 8) (ret := none) (by decide) rfl ?_
  intro p e s m args below meth c s₁ B hml hv
  obtain ⟨rfl, hsz, hP, hK, hD, hN⟩ := hv
  have hx := B.exec
  have hb := B.bytes
  have hr := B.returns
  have hts := atoms_spec (ws := wsX1_init) B.pre
  have hown : s.vm.findClass RX1 = some m.cls := findClass_of_methodNamed B.named
  have hlocks := B.notSynchronized
  have hin : meth.name = "<init>" := (name_of_methodNamed B.named B.method).1
  subst hsz
  have hD := hD.self (sz := s.heap.size)
  generalize hAe : va_A [(h1, .inr (1, [.null, .int 0, .int 0, .int 0, .int 0, .int 0, .long 0, .int 0, .long 0]))] s.heap.size = A at hD ⊢
  have hA : ∀ q : Nat, s.heap.size ≤ q → A q := fun q h => by rw [← hAe]; exact Or.inr h
  have hS : va_S A s.heap s.heap [] := va_S.rf
  have hl := lv_entry ([.ref h1, .ref r1, .int a2, .int a3, .int a4, .int a5, .int a6, .int (-1)]) (n := 8) (Nat.le_of_ble_eq_true rfl)
  rw [lg_entry_eq]
  generalize (lg_sl ([.ref h1, .ref r1, .int a2, .int a3, .int a4, .int a5, .int a6, .int (-1)]) ++ List.replicate (8 - (lg_sl ([.ref h1, .ref r1, .int a2, .int a3, .int a4, .int a5, .int a6, .int (-1)])).length) Slot.unset).toArray = ls at hl ⊢
  have hl : lv_has ls 8 [(0, .ref h1), (1, .ref r1), (2, .int a2), (3, .int a3), (4, .int a4), (5, .int a5), (6, .int a6), (7, .int (-1))] := hl
  refine lv_aload_n hx hb dX1_init_0 rfl (lv_at hl 0 rfl) ?_
  refine lv_aload_n hx hb dX1_init_1 rfl (lv_at hl 1 rfl) ?_
  refine lv_iload hx hb dX1_init_2 (lv_at hl 4 rfl) ?_
  refine lv_iload hx hb dX1_init_4 (lv_at hl 6 rfl) ?_
  refine clW (wr := []) [0] [] (va_runIN (As := [.ref r1, .int a4, .int a6]) (rest := []) ⟨hx, hb, hml, hown, hts⟩ (c3_initF l dC dI h1 r1 a4 a6 _ h4 h6) ⟨va_cnB 3 hts gX1_init_X3_init_n3 rfl rfl rfl (hN _ (List.mem_of_getElem? (i := 22) rfl)) (hts (.initialized RX3) (by decide +kernel)) (by decide +kernel) ⟨Nat.le_of_ble_eq_true rfl, Nat.le_of_ble_eq_true rfl⟩, rfl, hts (.instanceMethod yX3_init) (by decide +kernel)⟩ ⟨pz_blind, pz_of hP hK hD hN [0] [] rfl (by decide) rfl⟩ rfl rfl hl.1 rfl (lv_room (Nat.le_of_ble_eq_true rfl)) dX1_init_6 ⟨Nat.le_of_ble_eq_true rfl, Nat.le_of_ble_eq_true rfl⟩) hS hP hD hK hA rfl rfl (by decide) (by decide) (fun v w1 ty1 H locs w1 hP hD hK hS => ?_)
  obtain ⟨rfl, rfl, rfl⟩ := w1
  refine W.eq (g2 := F0 m 9 ls []) rfl ?_
  have hP : va_P (dC, dI) vwCl [(h1, .inr (1, [.ref r1, .int a4, .int a6, .int 0, .int 0, .int 0, .long 0, .int 0, .long 0]))] H := hP
  have hD : va_D A [(h1, .inr (1, [.ref r1, .int a4, .int a6, .int 0, .int 0, .int 0, .long 0, .int 0, .long 0]))] := hD
  have hK : va_K (dC, dI) vwCl [] s := hK
  refine W.cs (cells' := 0) (slots' := 0) rfl rfl ?_
  refine lv_aload_n hx hb dX1_init_9 rfl (lv_at hl 0 rfl) ?_
  refine lv_iload_n hx hb dX1_init_10 rfl (lv_at hl 2 rfl) ?_
  refine va_putF (D := (dC, dI)) (own := RX1) (ref := "ReflectModels$Field") (index := 9) (ci := 1) (v := .int a2) (ty := .int) (C := RX1) (T := TX1) (N := 9) hx hb hts inX1_init_1 tyX1 tyX1_ok nmX1 hown hK hP hD hS 0 rfl rfl 3 (by decide) (hts (.fieldLink RX1 9 "ReflectModels$Field" "name" "I") (by decide +kernel)) (fun _ h9 => h9) rfl hin rfl (by decide +kernel) rfl rfl (Nat.le_of_ble_eq_true rfl) dX1_init_11 (fun H locs hP hD hS => ?_)
  have hP : va_P (dC, dI) vwCl [(h1, .inr (1, [.ref r1, .int a4, .int a6, .int a2, .int 0, .int 0, .long 0, .int 0, .long 0]))] H := hP
  have hD : va_D A [(h1, .inr (1, [.ref r1, .int a4, .int a6, .int a2, .int 0, .int 0, .long 0, .int 0, .long 0]))] := hD
  refine lv_aload_n hx hb dX1_init_14 rfl (lv_at hl 0 rfl) ?_
  refine lv_iload_n hx hb dX1_init_15 rfl (lv_at hl 3 rfl) ?_
  refine va_putF (D := (dC, dI)) (own := RX1) (ref := "ReflectModels$Field") (index := 15) (ci := 1) (v := .int a3) (ty := .int) (C := RX1) (T := TX1) (N := 9) hx hb hts inX1_init_1 tyX1 tyX1_ok nmX1 hown hK hP hD hS 0 rfl rfl 4 (by decide) (hts (.fieldLink RX1 15 "ReflectModels$Field" "type" "I") (by decide +kernel)) (fun _ h9 => h9) rfl hin rfl (by decide +kernel) rfl rfl (Nat.le_of_ble_eq_true rfl) dX1_init_16 (fun H locs hP hD hS => ?_)
  have hP : va_P (dC, dI) vwCl [(h1, .inr (1, [.ref r1, .int a4, .int a6, .int a2, .int a3, .int 0, .long 0, .int 0, .long 0]))] H := hP
  have hD : va_D A [(h1, .inr (1, [.ref r1, .int a4, .int a6, .int a2, .int a3, .int 0, .long 0, .int 0, .long 0]))] := hD
  refine lv_aload_n hx hb dX1_init_19 rfl (lv_at hl 0 rfl) ?_
  refine lv_iload hx hb dX1_init_20 (lv_at hl 5 rfl) ?_
  refine va_putF (D := (dC, dI)) (own := RX1) (ref := "ReflectModels$Field") (index := 18) (ci := 1) (v := .int a5) (ty := .boolean) (C := RX1) (T := TX1) (N := 9) hx hb hts inX1_init_1 tyX1 tyX1_ok nmX1 hown hK hP hD hS 0 rfl rfl 5 (by decide) (hts (.fieldLink RX1 18 "ReflectModels$Field" "isFinal" "Z") (by decide +kernel)) (fun _ h9 => h9) rfl hin rfl (by decide +kernel) (nar_b h5) (fit_b h5) (Nat.le_of_ble_eq_true rfl) dX1_init_22 (fun H locs hP hD hS => ?_)
  have hP : va_P (dC, dI) vwCl [(h1, .inr (1, [.ref r1, .int a4, .int a6, .int a2, .int a3, .int a5, .long 0, .int 0, .long 0]))] H := hP
  have hD : va_D A [(h1, .inr (1, [.ref r1, .int a4, .int a6, .int a2, .int a3, .int a5, .long 0, .int 0, .long 0]))] := hD
  refine lv_aload_n hx hb dX1_init_25 rfl (lv_at hl 0 rfl) ?_
  refine lv_iload hx hb dX1_init_26 (lv_at hl 7 rfl) ?_
  refine va_putF (D := (dC, dI)) (own := RX1) (ref := "ReflectModels$Field") (index := 22) (ci := 1) (v := .int (-1)) (ty := .int) (C := RX1) (T := TX1) (N := 9) hx hb hts inX1_init_1 tyX1 tyX1_ok nmX1 hown hK hP hD hS 0 rfl rfl 7 (by decide) (hts (.fieldLink RX1 22 "ReflectModels$Field" "slot" "I") (by decide +kernel)) (fun _ h9 => h9) rfl hin rfl (by decide +kernel) rfl rfl (Nat.le_of_ble_eq_true rfl) dX1_init_28 (fun H locs hP hD hS => ?_)
  have hP : va_P (dC, dI) vwCl [(h1, .inr (1, [.ref r1, .int a4, .int a6, .int a2, .int a3, .int a5, .long 0, .int (-1), .long 0]))] H := hP
  have hD : va_D A [(h1, .inr (1, [.ref r1, .int a4, .int a6, .int a2, .int a3, .int a5, .long 0, .int (-1), .long 0]))] := hD
  refine lv_aload_n hx hb dX1_init_31 rfl (lv_at hl 0 rfl) ?_
  refine lv_iload_n hx hb dX1_init_32 rfl (lv_at hl 3 rfl) ?_
  refine lv_if_lt (tgt := 42) hx hb dX1_init_33 (by decide) (fun c2 => ?_) (fun c2 => ?_)
  · have ic2 : a3.toInt < 0 := il2 rfl (by decide) c2
    refine lv_lconst (v := 0) hx hb dX1_init_42 (by decide) ?_
    refine va_putF (D := (dC, dI)) (own := RX1) (ref := "ReflectModels$Field") (index := 27) (ci := 1) (v := .long 0) (ty := .long) (C := RX1) (T := TX1) (N := 9) hx hb hts inX1_init_1 tyX1 tyX1_ok nmX1 hown hK hP hD hS 0 rfl rfl 6 (by decide) (hts (.fieldLink RX1 27 "ReflectModels$Field" "first" "J") (by decide +kernel)) (fun _ h9 => h9) rfl hin rfl (by decide +kernel) rfl rfl (Nat.le_of_ble_eq_true rfl) dX1_init_43 (fun H locs hP hD hS => ?_)
    have hP : va_P (dC, dI) vwCl [(h1, .inr (1, [.ref r1, .int a4, .int a6, .int a2, .int a3, .int a5, .long 0, .int (-1), .long 0]))] H := hP
    have hD : va_D A [(h1, .inr (1, [.ref r1, .int a4, .int a6, .int a2, .int a3, .int a5, .long 0, .int (-1), .long 0]))] := hD
    refine lv_aload_n hx hb dX1_init_46 rfl (lv_at hl 0 rfl) ?_
    refine lv_aload_n hx hb dX1_init_47 rfl (lv_at hl 0 rfl) ?_
    refine va_get (D := (dC, dI)) (own := RX1) (ref := "ReflectModels$Field") (index := 27) (ci := 1) (v := .long 0) (C := RX1) (T := TX1) (N := 9) hx hb hts inX1_init_1 hown hK hP 0 rfl rfl 6 (by decide) (hts (.fieldLink RX1 27 "ReflectModels$Field" "first" "J") (by decide +kernel)) (fun _ h9 => h9) rfl dX1_init_48 ?_
    refine va_put (D := (dC, dI)) (own := RX1) (ref := "ReflectModels$Field") (index := 31) (ci := 1) (v := .long 0) (ty := .long) (C := RX1) (T := TX1) (N := 9) hx hb hts inX1_init_1 tyX1 tyX1_ok nmX1 hown hK hP hD hS 0 rfl rfl 8 (by decide) (hts (.fieldLink RX1 31 "ReflectModels$Field" "held" "J") (by decide +kernel)) (fun _ h9 => h9) rfl (by decide +kernel) rfl rfl (Nat.le_of_ble_eq_true rfl) dX1_init_51 (fun H locs hP hD hS => ?_)
    have hP : va_P (dC, dI) vwCl [(h1, .inr (1, [.ref r1, .int a4, .int a6, .int a2, .int a3, .int a5, .long 0, .int (-1), .long 0]))] H := hP
    have hD : va_D A [(h1, .inr (1, [.ref r1, .int a4, .int a6, .int a2, .int a3, .int a5, .long 0, .int (-1), .long 0]))] := hD
    have hP9 := hP.sub (ws' := [(h1, .inr (1, [.ref r1, .int a4, .int a6, .int a2, .int a3, .int a5, .long 0, .int (-1), .long 0]))]) [0] rfl
    have hD9 := hD.sub (ws' := [(h1, .inr (1, [.ref r1, .int a4, .int a6, .int a2, .int a3, .int a5, .long 0, .int (-1), .long 0]))]) [0] (by decide) rfl
    have hK9 := hK.sub (tys' := []) [] rfl
    exact W.vret hx hb hr (fun t ht hW => ⟨⟨none, rfl, _, _, ⟨rfl, _, rfl, rfl⟩, by rw [ht]; exact hP9, va_K.moved hW.alike hK9, hD9⟩, hS.F ht⟩) hS.2.2 dX1_init_54
  · have ic2 : 0 ≤ a3.toInt := inl2 rfl (by decide) c2
    refine lv_ldc2 (v := (-1)) hx hb hown (hts (.constantLong RX1 25 (-1)) (by decide +kernel)) dX1_init_36 ?_
    refine lv_goto (tgt := 43) hx hb dX1_init_39 (by decide) ?_
    refine va_putF (D := (dC, dI)) (own := RX1) (ref := "ReflectModels$Field") (index := 27) (ci := 1) (v := .long (-1)) (ty := .long) (C := RX1) (T := TX1) (N := 9) hx hb hts inX1_init_1 tyX1 tyX1_ok nmX1 hown hK hP hD hS 0 rfl rfl 6 (by decide) (hts (.fieldLink RX1 27 "ReflectModels$Field" "first" "J") (by decide +kernel)) (fun _ h9 => h9) rfl hin rfl (by decide +kernel) rfl rfl (Nat.le_of_ble_eq_true rfl) dX1_init_43 (fun H locs hP hD hS => ?_)
    have hP : va_P (dC, dI) vwCl [(h1, .inr (1, [.ref r1, .int a4, .int a6, .int a2, .int a3, .int a5, .long (-1), .int (-1), .long 0]))] H := hP
    have hD : va_D A [(h1, .inr (1, [.ref r1, .int a4, .int a6, .int a2, .int a3, .int a5, .long (-1), .int (-1), .long 0]))] := hD
    refine lv_aload_n hx hb dX1_init_46 rfl (lv_at hl 0 rfl) ?_
    refine lv_aload_n hx hb dX1_init_47 rfl (lv_at hl 0 rfl) ?_
    refine va_get (D := (dC, dI)) (own := RX1) (ref := "ReflectModels$Field") (index := 27) (ci := 1) (v := .long (-1)) (C := RX1) (T := TX1) (N := 9) hx hb hts inX1_init_1 hown hK hP 0 rfl rfl 6 (by decide) (hts (.fieldLink RX1 27 "ReflectModels$Field" "first" "J") (by decide +kernel)) (fun _ h9 => h9) rfl dX1_init_48 ?_
    refine va_put (D := (dC, dI)) (own := RX1) (ref := "ReflectModels$Field") (index := 31) (ci := 1) (v := .long (-1)) (ty := .long) (C := RX1) (T := TX1) (N := 9) hx hb hts inX1_init_1 tyX1 tyX1_ok nmX1 hown hK hP hD hS 0 rfl rfl 8 (by decide) (hts (.fieldLink RX1 31 "ReflectModels$Field" "held" "J") (by decide +kernel)) (fun _ h9 => h9) rfl (by decide +kernel) rfl rfl (Nat.le_of_ble_eq_true rfl) dX1_init_51 (fun H locs hP hD hS => ?_)
    have hP : va_P (dC, dI) vwCl [(h1, .inr (1, [.ref r1, .int a4, .int a6, .int a2, .int a3, .int a5, .long (-1), .int (-1), .long (-1)]))] H := hP
    have hD : va_D A [(h1, .inr (1, [.ref r1, .int a4, .int a6, .int a2, .int a3, .int a5, .long (-1), .int (-1), .long (-1)]))] := hD
    have hP9 := hP.sub (ws' := [(h1, .inr (1, [.ref r1, .int a4, .int a6, .int a2, .int a3, .int a5, .long (-1), .int (-1), .long (-1)]))]) [0] rfl
    have hD9 := hD.sub (ws' := [(h1, .inr (1, [.ref r1, .int a4, .int a6, .int a2, .int a3, .int a5, .long (-1), .int (-1), .long (-1)]))]) [0] (by decide) rfl
    have hK9 := hK.sub (tys' := []) [] rfl
    exact W.vret hx hb hr (fun t ht hW => ⟨⟨none, rfl, _, _, ⟨rfl, _, rfl, rfl⟩, by rw [ht]; exact hP9, va_K.moved hW.alike hK9, hD9⟩, hS.F ht⟩) hS.2.2 dX1_init_54

set_option maxHeartbeats 4000000 in
set_option maxRecDepth 100000 in
theorem c8_addMemberF (l : Launch) (dC : Nat → ClassId) (dI : Nat → Nat → Nat) (h0 : Nat) (q : Nat → Nat) (cA : Nat → ClassId) (h1 r1 : Nat) (s1 s2 s3 s4 s5 : Int32) (s6 : Int64) (s7 : Int32) (s8 : Int64) (sz : Nat)  : Met l yX8_addMember wsX8_addMember ({ frames := 0, cells := 0, slots := 0, locals := 0 }) (va_Pc [.ref h0, .ref h1] (pz (dC, dI) [((cA 1), .object "ReflectModels$Member")] [(h0, .inr (7, [.ref (q 0), .int 1, .ref (q 1), .int 0, .int 0, .ref (q 2), .int 0, .ref (q 3), .int 0, .ref (q 4), .int 0, .int 0, .ref (q 5), .int 0, .int 0])), ((q 1), .inl ((cA 1), 40, .inr (.inr (.inr (.inr (fun _ => none)))))), (h1, .inr (1, [.ref r1, .int s1, .int s2, .int s3, .int s4, .int s5, .long s6, .int s7, .long s8])), (r1, .inr (0, [.int 0, .null, .int 0, .null, .int 0, .int 0, .int 1, .int 1, .int 0, .int 0, .int 0, .int 0]))] sz)) (qW (dC, dI) (fun v w1 ty1 => v = some (.int 0) ∧ w1 = [] ∧ ty1 = []) (va_A [(h0, .inr (7, [.ref (q 0), .int 1, .ref (q 1), .int 0, .int 0, .ref (q 2), .int 0, .ref (q 3), .int 0, .ref (q 4), .int 0, .int 0, .ref (q 5), .int 0, .int 0])), ((q 1), .inl ((cA 1), 40, .inr (.inr (.inr (.inr (fun _ => none)))))), (h1, .inr (1, [.ref r1, .int s1, .int s2, .int s3, .int s4, .int s5, .long s6, .int s7, .long s8])), (r1, .inr (0, [.int 0, .null, .int 0, .null, .int 0, .int 0, .int 1, .int 1, .int 0, .int 0, .int 0, .int 0]))] sz)) 0 0 (va_A [(h0, .inr (7, [.ref (q 0), .int 1, .ref (q 1), .int 0, .int 0, .ref (q 2), .int 0, .ref (q 3), .int 0, .ref (q 4), .int 0, .int 0, .ref (q 5), .int 0, .int 0])), ((q 1), .inl ((cA 1), 40, .inr (.inr (.inr (.inr (fun _ => none)))))), (h1, .inr (1, [.ref r1, .int s1, .int s2, .int s3, .int s4, .int s5, .long s6, .int s7, .long s8])), (r1, .inr (0, [.int 0, .null, .int 0, .null, .int 0, .int 0, .int 1, .int 1, .int 0, .int 0, .int 0, .int 0]))] sz) := by
  refine Met.ofW (cc := cX8_addMember) (maxL := 2) (ret := (some .int)) (by decide) rfl ?_
  intro p e s m args below meth c s₁ B hml hv
  obtain ⟨rfl, hsz, hP, hK, hD, hN⟩ := hv
  have hx := B.exec
  have hb := B.bytes
  have hr := B.returns
  have hts := atoms_spec (ws := wsX8_addMember) B.pre
  have hown : s.vm.findClass RX8 = some m.cls := findClass_of_methodNamed B.named
  have hlocks := B.notSynchronized
  subst hsz
  have hD := hD.self (sz := s.heap.size)
  generalize hAe : va_A [(h0, .inr (7, [.ref (q 0), .int 1, .ref (q 1), .int 0, .int 0, .ref (q 2), .int 0, .ref (q 3), .int 0, .ref (q 4), .int 0, .int 0, .ref (q 5), .int 0, .int 0])), ((q 1), .inl ((cA 1), 40, .inr (.inr (.inr (.inr (fun _ => none)))))), (h1, .inr (1, [.ref r1, .int s1, .int s2, .int s3, .int s4, .int s5, .long s6, .int s7, .long s8])), (r1, .inr (0, [.int 0, .null, .int 0, .null, .int 0, .int 0, .int 1, .int 1, .int 0, .int 0, .int 0, .int 0]))] s.heap.size = A at hD ⊢
  have hA : ∀ q : Nat, s.heap.size ≤ q → A q := fun q h => by rw [← hAe]; exact Or.inr h
  have hS : va_S A s.heap s.heap [] := va_S.rf
  have hl := lv_entry ([.ref h0, .ref h1]) (n := 2) (Nat.le_of_ble_eq_true rfl)
  rw [lg_entry_eq]
  generalize (lg_sl ([.ref h0, .ref h1]) ++ List.replicate (2 - (lg_sl ([.ref h0, .ref h1])).length) Slot.unset).toArray = ls at hl ⊢
  have hl : lv_has ls 2 [(0, .ref h0), (1, .ref h1)] := hl
  refine lv_aload_n hx hb dX8_addMember_0 rfl (lv_at hl 0 rfl) ?_
  refine va_get (D := (dC, dI)) (own := RX8) (ref := "ReflectModels") (index := 21) (ci := 7) (v := .ref (q 1)) (C := RX8) (T := TX8) (N := 15) hx hb hts inX8_addMember_8 hown hK hP 0 rfl rfl 2 (by decide) (hts (.fieldLink RX8 21 "ReflectModels" "members" "[LReflectModels$Member;") (by decide +kernel)) (fun _ h9 => h9) rfl dX8_addMember_1 ?_
  refine lv_aload_n hx hb dX8_addMember_4 rfl (lv_at hl 0 rfl) ?_
  refine va_get (D := (dC, dI)) (own := RX8) (ref := "ReflectModels") (index := 25) (ci := 7) (v := .int 0) (C := RX8) (T := TX8) (N := 15) hx hb hts inX8_addMember_8 hown hK hP 0 rfl rfl 3 (by decide) (hts (.fieldLink RX8 25 "ReflectModels" "memberCount" "I") (by decide +kernel)) (fun _ h9 => h9) rfl dX8_addMember_5 ?_
  refine lv_aload_n hx hb dX8_addMember_8 rfl (lv_at hl 1 rfl) ?_
  refine va_astqO (r := (RX1, TX1, 9)) hx hb hK hP hD hS 1 0 2 1 rfl rfl (hN _ (List.mem_of_getElem? (i := 65) rfl)) rfl rfl (vp_in_iff.mpr ⟨by decide, by decide⟩) dX8_addMember_9 (fun H locs hP hD hS => ?_)
  have hP : va_P (dC, dI) vwCl [(h0, .inr (7, [.ref (q 0), .int 1, .ref (q 1), .int 0, .int 0, .ref (q 2), .int 0, .ref (q 3), .int 0, .ref (q 4), .int 0, .int 0, .ref (q 5), .int 0, .int 0])), ((q 1), .inl ((cA 1), 40, .inr (.inr (.inr (.inr (va_up (fun _ => none) 0 (some h1))))))), (h1, .inr (1, [.ref r1, .int s1, .int s2, .int s3, .int s4, .int s5, .long s6, .int s7, .long s8])), (r1, .inr (0, [.int 0, .null, .int 0, .null, .int 0, .int 0, .int 1, .int 1, .int 0, .int 0, .int 0, .int 0]))] H := hP
  have hD : va_D A [(h0, .inr (7, [.ref (q 0), .int 1, .ref (q 1), .int 0, .int 0, .ref (q 2), .int 0, .ref (q 3), .int 0, .ref (q 4), .int 0, .int 0, .ref (q 5), .int 0, .int 0])), ((q 1), .inl ((cA 1), 40, .inr (.inr (.inr (.inr (va_up (fun _ => none) 0 (some h1))))))), (h1, .inr (1, [.ref r1, .int s1, .int s2, .int s3, .int s4, .int s5, .long s6, .int s7, .long s8])), (r1, .inr (0, [.int 0, .null, .int 0, .null, .int 0, .int 0, .int 1, .int 1, .int 0, .int 0, .int 0, .int 0]))] := hD
  refine lv_aload_n hx hb dX8_addMember_10 rfl (lv_at hl 0 rfl) ?_
  refine lv_dup hx hb dX8_addMember_11 rfl ?_
  refine va_get (D := (dC, dI)) (own := RX8) (ref := "ReflectModels") (index := 25) (ci := 7) (v := .int 0) (C := RX8) (T := TX8) (N := 15) hx hb hts inX8_addMember_8 hown hK hP 0 rfl rfl 3 (by decide) (hts (.fieldLink RX8 25 "ReflectModels" "memberCount" "I") (by decide +kernel)) (fun _ h9 => h9) rfl dX8_addMember_12 ?_
  refine lv_iconst (v := 1) hx hb dX8_addMember_15 (by decide) ?_
  refine lv_iadd hx hb dX8_addMember_16 ?_
  refine lv_topi (fun y1 ey1 => ?_)
  obtain rfl : y1 = 1 := ey1.trans (by decide)
  refine va_put (D := (dC, dI)) (own := RX8) (ref := "ReflectModels") (index := 25) (ci := 7) (v := .int 1) (ty := .int) (C := RX8) (T := TX8) (N := 15) hx hb hts inX8_addMember_8 tyX8 tyX8_ok nmX8 hown hK hP hD hS 0 rfl rfl 3 (by decide) (hts (.fieldLink RX8 25 "ReflectModels" "memberCount" "I") (by decide +kernel)) (fun _ h9 => h9) rfl (by decide +kernel) rfl rfl (Nat.le_of_ble_eq_true rfl) dX8_addMember_17 (fun H locs hP hD hS => ?_)
  have hP : va_P (dC, dI) vwCl [(h0, .inr (7, [.ref (q 0), .int 1, .ref (q 1), .int 1, .int 0, .ref (q 2), .int 0, .ref (q 3), .int 0, .ref (q 4), .int 0, .int 0, .ref (q 5), .int 0, .int 0])), ((q 1), .inl ((cA 1), 40, .inr (.inr (.inr (.inr (va_up (fun _ => none) 0 (some h1))))))), (h1, .inr (1, [.ref r1, .int s1, .int s2, .int s3, .int s4, .int s5, .long s6, .int s7, .long s8])), (r1, .inr (0, [.int 0, .null, .int 0, .null, .int 0, .int 0, .int 1, .int 1, .int 0, .int 0, .int 0, .int 0]))] H := hP
  have hD : va_D A [(h0, .inr (7, [.ref (q 0), .int 1, .ref (q 1), .int 1, .int 0, .ref (q 2), .int 0, .ref (q 3), .int 0, .ref (q 4), .int 0, .int 0, .ref (q 5), .int 0, .int 0])), ((q 1), .inl ((cA 1), 40, .inr (.inr (.inr (.inr (va_up (fun _ => none) 0 (some h1))))))), (h1, .inr (1, [.ref r1, .int s1, .int s2, .int s3, .int s4, .int s5, .long s6, .int s7, .long s8])), (r1, .inr (0, [.int 0, .null, .int 0, .null, .int 0, .int 0, .int 1, .int 1, .int 0, .int 0, .int 0, .int 0]))] := hD
  refine lv_aload_n hx hb dX8_addMember_20 rfl (lv_at hl 1 rfl) ?_
  refine va_get (D := (dC, dI)) (own := RX8) (ref := "ReflectModels$Member") (index := 175) (ci := 1) (v := .ref r1) (C := RX1) (T := TX1) (N := 9) hx hb hts inX8_addMember_1 hown hK hP 2 rfl rfl 0 (by decide) (hts (.fieldLink RX8 175 "ReflectModels$Member" "owner" "LReflectModels$ClassModel;") (by decide +kernel)) (fun _ h9 => h9) rfl dX8_addMember_21 ?_
  refine lv_dup hx hb dX8_addMember_24 rfl ?_
  refine va_getN (host := "ReflectModels") (D := (dC, dI)) (own := RX8) (ref := "ReflectModels$ClassModel") (index := 270) (ci := 0) (v := .int 0) (C := RX0) (T := TX0) (N := 12) hx hb hts inX8_addMember_0 hown hK hP 3 rfl rfl 11 (by decide) (va_Nw.use rfl (hN _ (List.mem_of_getElem? (i := 20) rfl))) (fun _ h9 => h9) rfl dX8_addMember_25 ?_
  refine lv_iconst (v := 1) hx hb dX8_addMember_28 (by decide) ?_
  refine lv_iadd hx hb dX8_addMember_29 ?_
  refine lv_topi (fun y2 ey2 => ?_)
  obtain rfl : y2 = 1 := ey2.trans (by decide)
  refine va_putN (host := "ReflectModels") (D := (dC, dI)) (own := RX8) (ref := "ReflectModels$ClassModel") (index := 270) (ci := 0) (v := .int 1) (ty := .int) (C := RX0) (T := TX0) (N := 12) hx hb hts inX8_addMember_0 tyX0 tyX0_ok nmX0 hown hK hP hD hS 3 rfl rfl 11 (by decide) (va_Nw.use rfl (hN _ (List.mem_of_getElem? (i := 20) rfl))) (fun _ h9 => h9) rfl (by decide +kernel) rfl rfl (Nat.le_of_ble_eq_true rfl) dX8_addMember_30 (fun H locs hP hD hS => ?_)
  have hP : va_P (dC, dI) vwCl [(h0, .inr (7, [.ref (q 0), .int 1, .ref (q 1), .int 1, .int 0, .ref (q 2), .int 0, .ref (q 3), .int 0, .ref (q 4), .int 0, .int 0, .ref (q 5), .int 0, .int 0])), ((q 1), .inl ((cA 1), 40, .inr (.inr (.inr (.inr (va_up (fun _ => none) 0 (some h1))))))), (h1, .inr (1, [.ref r1, .int s1, .int s2, .int s3, .int s4, .int s5, .long s6, .int s7, .long s8])), (r1, .inr (0, [.int 0, .null, .int 0, .null, .int 0, .int 0, .int 1, .int 1, .int 0, .int 0, .int 0, .int 1]))] H := hP
  have hD : va_D A [(h0, .inr (7, [.ref (q 0), .int 1, .ref (q 1), .int 1, .int 0, .ref (q 2), .int 0, .ref (q 3), .int 0, .ref (q 4), .int 0, .int 0, .ref (q 5), .int 0, .int 0])), ((q 1), .inl ((cA 1), 40, .inr (.inr (.inr (.inr (va_up (fun _ => none) 0 (some h1))))))), (h1, .inr (1, [.ref r1, .int s1, .int s2, .int s3, .int s4, .int s5, .long s6, .int s7, .long s8])), (r1, .inr (0, [.int 0, .null, .int 0, .null, .int 0, .int 0, .int 1, .int 1, .int 0, .int 0, .int 0, .int 1]))] := hD
  refine lv_aload_n hx hb dX8_addMember_33 rfl (lv_at hl 0 rfl) ?_
  refine va_get (D := (dC, dI)) (own := RX8) (ref := "ReflectModels") (index := 25) (ci := 7) (v := .int 1) (C := RX8) (T := TX8) (N := 15) hx hb hts inX8_addMember_8 hown hK hP 0 rfl rfl 3 (by decide) (hts (.fieldLink RX8 25 "ReflectModels" "memberCount" "I") (by decide +kernel)) (fun _ h9 => h9) rfl dX8_addMember_34 ?_
  refine lv_iconst (v := 1) hx hb dX8_addMember_37 (by decide) ?_
  refine lv_isub hx hb dX8_addMember_38 ?_
  refine lv_topi (fun y3 ey3 => ?_)
  obtain rfl : y3 = 0 := ey3.trans (by decide)
  have hP9 := hP.sub (ws' := []) [] rfl
  have hD9 := hD.sub (ws' := []) [] (by decide) rfl
  have hK9 := hK.sub (tys' := []) [] rfl
  exact W.zret (v := 0) (ty := .int) hx hb hr rfl (fun t ht hW => ⟨⟨(some (.int 0)), rfl, _, _, ⟨rfl, rfl, rfl⟩, by rw [ht]; exact hP9, va_K.moved hW.alike hK9, hD9⟩, hS.F ht⟩) hS.2.2 dX8_addMember_39

set_option maxHeartbeats 4000000 in
set_option maxRecDepth 100000 in
theorem c8_addMemberM (l : Launch) (dC : Nat → ClassId) (dI : Nat → Nat → Nat) (h0 : Nat) (q : Nat → Nat) (cA : Nat → ClassId) (h1 r1 : Nat) (s1 s2 : Int32) (g1 : Nat) (s4 s5 s6 s7 : Int32) (sz : Nat)  : Met l yX8_addMember wsX8_addMember ({ frames := 0, cells := 0, slots := 0, locals := 0 }) (va_Pc [.ref h0, .ref h1] (pz (dC, dI) [((cA 1), .object "ReflectModels$Member")] [(h0, .inr (7, [.ref (q 0), .int 1, .ref (q 1), .int 0, .int 0, .ref (q 2), .int 0, .ref (q 3), .int 0, .ref (q 4), .int 0, .int 0, .ref (q 5), .int 0, .int 0])), ((q 1), .inl ((cA 1), 40, .inr (.inr (.inr (.inr (fun _ => none)))))), (h1, .inr (3, [.ref r1, .int s1, .int s2, .ref g1, .int s4, .int s5, .int s6, .int s7])), (r1, .inr (0, [.int 0, .null, .int 0, .null, .int 0, .int 0, .int 1, .int 1, .int 0, .int 0, .int 0, .int 0]))] sz)) (qW (dC, dI) (fun v w1 ty1 => v = some (.int 0) ∧ w1 = [] ∧ ty1 = []) (va_A [(h0, .inr (7, [.ref (q 0), .int 1, .ref (q 1), .int 0, .int 0, .ref (q 2), .int 0, .ref (q 3), .int 0, .ref (q 4), .int 0, .int 0, .ref (q 5), .int 0, .int 0])), ((q 1), .inl ((cA 1), 40, .inr (.inr (.inr (.inr (fun _ => none)))))), (h1, .inr (3, [.ref r1, .int s1, .int s2, .ref g1, .int s4, .int s5, .int s6, .int s7])), (r1, .inr (0, [.int 0, .null, .int 0, .null, .int 0, .int 0, .int 1, .int 1, .int 0, .int 0, .int 0, .int 0]))] sz)) 0 0 (va_A [(h0, .inr (7, [.ref (q 0), .int 1, .ref (q 1), .int 0, .int 0, .ref (q 2), .int 0, .ref (q 3), .int 0, .ref (q 4), .int 0, .int 0, .ref (q 5), .int 0, .int 0])), ((q 1), .inl ((cA 1), 40, .inr (.inr (.inr (.inr (fun _ => none)))))), (h1, .inr (3, [.ref r1, .int s1, .int s2, .ref g1, .int s4, .int s5, .int s6, .int s7])), (r1, .inr (0, [.int 0, .null, .int 0, .null, .int 0, .int 0, .int 1, .int 1, .int 0, .int 0, .int 0, .int 0]))] sz) := by
  refine Met.ofW (cc := cX8_addMember) (maxL := 2) (ret := (some .int)) (by decide) rfl ?_
  intro p e s m args below meth c s₁ B hml hv
  obtain ⟨rfl, hsz, hP, hK, hD, hN⟩ := hv
  have hx := B.exec
  have hb := B.bytes
  have hr := B.returns
  have hts := atoms_spec (ws := wsX8_addMember) B.pre
  have hown : s.vm.findClass RX8 = some m.cls := findClass_of_methodNamed B.named
  have hlocks := B.notSynchronized
  subst hsz
  have hD := hD.self (sz := s.heap.size)
  generalize hAe : va_A [(h0, .inr (7, [.ref (q 0), .int 1, .ref (q 1), .int 0, .int 0, .ref (q 2), .int 0, .ref (q 3), .int 0, .ref (q 4), .int 0, .int 0, .ref (q 5), .int 0, .int 0])), ((q 1), .inl ((cA 1), 40, .inr (.inr (.inr (.inr (fun _ => none)))))), (h1, .inr (3, [.ref r1, .int s1, .int s2, .ref g1, .int s4, .int s5, .int s6, .int s7])), (r1, .inr (0, [.int 0, .null, .int 0, .null, .int 0, .int 0, .int 1, .int 1, .int 0, .int 0, .int 0, .int 0]))] s.heap.size = A at hD ⊢
  have hA : ∀ q : Nat, s.heap.size ≤ q → A q := fun q h => by rw [← hAe]; exact Or.inr h
  have hS : va_S A s.heap s.heap [] := va_S.rf
  have hl := lv_entry ([.ref h0, .ref h1]) (n := 2) (Nat.le_of_ble_eq_true rfl)
  rw [lg_entry_eq]
  generalize (lg_sl ([.ref h0, .ref h1]) ++ List.replicate (2 - (lg_sl ([.ref h0, .ref h1])).length) Slot.unset).toArray = ls at hl ⊢
  have hl : lv_has ls 2 [(0, .ref h0), (1, .ref h1)] := hl
  refine lv_aload_n hx hb dX8_addMember_0 rfl (lv_at hl 0 rfl) ?_
  refine va_get (D := (dC, dI)) (own := RX8) (ref := "ReflectModels") (index := 21) (ci := 7) (v := .ref (q 1)) (C := RX8) (T := TX8) (N := 15) hx hb hts inX8_addMember_8 hown hK hP 0 rfl rfl 2 (by decide) (hts (.fieldLink RX8 21 "ReflectModels" "members" "[LReflectModels$Member;") (by decide +kernel)) (fun _ h9 => h9) rfl dX8_addMember_1 ?_
  refine lv_aload_n hx hb dX8_addMember_4 rfl (lv_at hl 0 rfl) ?_
  refine va_get (D := (dC, dI)) (own := RX8) (ref := "ReflectModels") (index := 25) (ci := 7) (v := .int 0) (C := RX8) (T := TX8) (N := 15) hx hb hts inX8_addMember_8 hown hK hP 0 rfl rfl 3 (by decide) (hts (.fieldLink RX8 25 "ReflectModels" "memberCount" "I") (by decide +kernel)) (fun _ h9 => h9) rfl dX8_addMember_5 ?_
  refine lv_aload_n hx hb dX8_addMember_8 rfl (lv_at hl 1 rfl) ?_
  refine va_astqO (r := (RX4, TX4, 8)) hx hb hK hP hD hS 1 0 2 3 rfl rfl (hN _ (List.mem_of_getElem? (i := 66) rfl)) rfl rfl (vp_in_iff.mpr ⟨by decide, by decide⟩) dX8_addMember_9 (fun H locs hP hD hS => ?_)
  have hP : va_P (dC, dI) vwCl [(h0, .inr (7, [.ref (q 0), .int 1, .ref (q 1), .int 0, .int 0, .ref (q 2), .int 0, .ref (q 3), .int 0, .ref (q 4), .int 0, .int 0, .ref (q 5), .int 0, .int 0])), ((q 1), .inl ((cA 1), 40, .inr (.inr (.inr (.inr (va_up (fun _ => none) 0 (some h1))))))), (h1, .inr (3, [.ref r1, .int s1, .int s2, .ref g1, .int s4, .int s5, .int s6, .int s7])), (r1, .inr (0, [.int 0, .null, .int 0, .null, .int 0, .int 0, .int 1, .int 1, .int 0, .int 0, .int 0, .int 0]))] H := hP
  have hD : va_D A [(h0, .inr (7, [.ref (q 0), .int 1, .ref (q 1), .int 0, .int 0, .ref (q 2), .int 0, .ref (q 3), .int 0, .ref (q 4), .int 0, .int 0, .ref (q 5), .int 0, .int 0])), ((q 1), .inl ((cA 1), 40, .inr (.inr (.inr (.inr (va_up (fun _ => none) 0 (some h1))))))), (h1, .inr (3, [.ref r1, .int s1, .int s2, .ref g1, .int s4, .int s5, .int s6, .int s7])), (r1, .inr (0, [.int 0, .null, .int 0, .null, .int 0, .int 0, .int 1, .int 1, .int 0, .int 0, .int 0, .int 0]))] := hD
  refine lv_aload_n hx hb dX8_addMember_10 rfl (lv_at hl 0 rfl) ?_
  refine lv_dup hx hb dX8_addMember_11 rfl ?_
  refine va_get (D := (dC, dI)) (own := RX8) (ref := "ReflectModels") (index := 25) (ci := 7) (v := .int 0) (C := RX8) (T := TX8) (N := 15) hx hb hts inX8_addMember_8 hown hK hP 0 rfl rfl 3 (by decide) (hts (.fieldLink RX8 25 "ReflectModels" "memberCount" "I") (by decide +kernel)) (fun _ h9 => h9) rfl dX8_addMember_12 ?_
  refine lv_iconst (v := 1) hx hb dX8_addMember_15 (by decide) ?_
  refine lv_iadd hx hb dX8_addMember_16 ?_
  refine lv_topi (fun y1 ey1 => ?_)
  obtain rfl : y1 = 1 := ey1.trans (by decide)
  refine va_put (D := (dC, dI)) (own := RX8) (ref := "ReflectModels") (index := 25) (ci := 7) (v := .int 1) (ty := .int) (C := RX8) (T := TX8) (N := 15) hx hb hts inX8_addMember_8 tyX8 tyX8_ok nmX8 hown hK hP hD hS 0 rfl rfl 3 (by decide) (hts (.fieldLink RX8 25 "ReflectModels" "memberCount" "I") (by decide +kernel)) (fun _ h9 => h9) rfl (by decide +kernel) rfl rfl (Nat.le_of_ble_eq_true rfl) dX8_addMember_17 (fun H locs hP hD hS => ?_)
  have hP : va_P (dC, dI) vwCl [(h0, .inr (7, [.ref (q 0), .int 1, .ref (q 1), .int 1, .int 0, .ref (q 2), .int 0, .ref (q 3), .int 0, .ref (q 4), .int 0, .int 0, .ref (q 5), .int 0, .int 0])), ((q 1), .inl ((cA 1), 40, .inr (.inr (.inr (.inr (va_up (fun _ => none) 0 (some h1))))))), (h1, .inr (3, [.ref r1, .int s1, .int s2, .ref g1, .int s4, .int s5, .int s6, .int s7])), (r1, .inr (0, [.int 0, .null, .int 0, .null, .int 0, .int 0, .int 1, .int 1, .int 0, .int 0, .int 0, .int 0]))] H := hP
  have hD : va_D A [(h0, .inr (7, [.ref (q 0), .int 1, .ref (q 1), .int 1, .int 0, .ref (q 2), .int 0, .ref (q 3), .int 0, .ref (q 4), .int 0, .int 0, .ref (q 5), .int 0, .int 0])), ((q 1), .inl ((cA 1), 40, .inr (.inr (.inr (.inr (va_up (fun _ => none) 0 (some h1))))))), (h1, .inr (3, [.ref r1, .int s1, .int s2, .ref g1, .int s4, .int s5, .int s6, .int s7])), (r1, .inr (0, [.int 0, .null, .int 0, .null, .int 0, .int 0, .int 1, .int 1, .int 0, .int 0, .int 0, .int 0]))] := hD
  refine lv_aload_n hx hb dX8_addMember_20 rfl (lv_at hl 1 rfl) ?_
  refine va_get (D := (dC, dI)) (own := RX8) (ref := "ReflectModels$Member") (index := 175) (ci := 3) (v := .ref r1) (C := RX4) (T := TX4) (N := 8) hx hb hts inX8_addMember_4 hown hK hP 2 rfl rfl 0 (by decide) (hts (.fieldLink RX8 175 "ReflectModels$Member" "owner" "LReflectModels$ClassModel;") (by decide +kernel)) (fun _ h9 => h9) rfl dX8_addMember_21 ?_
  refine lv_dup hx hb dX8_addMember_24 rfl ?_
  refine va_getN (host := "ReflectModels") (D := (dC, dI)) (own := RX8) (ref := "ReflectModels$ClassModel") (index := 270) (ci := 0) (v := .int 0) (C := RX0) (T := TX0) (N := 12) hx hb hts inX8_addMember_0 hown hK hP 3 rfl rfl 11 (by decide) (va_Nw.use rfl (hN _ (List.mem_of_getElem? (i := 20) rfl))) (fun _ h9 => h9) rfl dX8_addMember_25 ?_
  refine lv_iconst (v := 1) hx hb dX8_addMember_28 (by decide) ?_
  refine lv_iadd hx hb dX8_addMember_29 ?_
  refine lv_topi (fun y2 ey2 => ?_)
  obtain rfl : y2 = 1 := ey2.trans (by decide)
  refine va_putN (host := "ReflectModels") (D := (dC, dI)) (own := RX8) (ref := "ReflectModels$ClassModel") (index := 270) (ci := 0) (v := .int 1) (ty := .int) (C := RX0) (T := TX0) (N := 12) hx hb hts inX8_addMember_0 tyX0 tyX0_ok nmX0 hown hK hP hD hS 3 rfl rfl 11 (by decide) (va_Nw.use rfl (hN _ (List.mem_of_getElem? (i := 20) rfl))) (fun _ h9 => h9) rfl (by decide +kernel) rfl rfl (Nat.le_of_ble_eq_true rfl) dX8_addMember_30 (fun H locs hP hD hS => ?_)
  have hP : va_P (dC, dI) vwCl [(h0, .inr (7, [.ref (q 0), .int 1, .ref (q 1), .int 1, .int 0, .ref (q 2), .int 0, .ref (q 3), .int 0, .ref (q 4), .int 0, .int 0, .ref (q 5), .int 0, .int 0])), ((q 1), .inl ((cA 1), 40, .inr (.inr (.inr (.inr (va_up (fun _ => none) 0 (some h1))))))), (h1, .inr (3, [.ref r1, .int s1, .int s2, .ref g1, .int s4, .int s5, .int s6, .int s7])), (r1, .inr (0, [.int 0, .null, .int 0, .null, .int 0, .int 0, .int 1, .int 1, .int 0, .int 0, .int 0, .int 1]))] H := hP
  have hD : va_D A [(h0, .inr (7, [.ref (q 0), .int 1, .ref (q 1), .int 1, .int 0, .ref (q 2), .int 0, .ref (q 3), .int 0, .ref (q 4), .int 0, .int 0, .ref (q 5), .int 0, .int 0])), ((q 1), .inl ((cA 1), 40, .inr (.inr (.inr (.inr (va_up (fun _ => none) 0 (some h1))))))), (h1, .inr (3, [.ref r1, .int s1, .int s2, .ref g1, .int s4, .int s5, .int s6, .int s7])), (r1, .inr (0, [.int 0, .null, .int 0, .null, .int 0, .int 0, .int 1, .int 1, .int 0, .int 0, .int 0, .int 1]))] := hD
  refine lv_aload_n hx hb dX8_addMember_33 rfl (lv_at hl 0 rfl) ?_
  refine va_get (D := (dC, dI)) (own := RX8) (ref := "ReflectModels") (index := 25) (ci := 7) (v := .int 1) (C := RX8) (T := TX8) (N := 15) hx hb hts inX8_addMember_8 hown hK hP 0 rfl rfl 3 (by decide) (hts (.fieldLink RX8 25 "ReflectModels" "memberCount" "I") (by decide +kernel)) (fun _ h9 => h9) rfl dX8_addMember_34 ?_
  refine lv_iconst (v := 1) hx hb dX8_addMember_37 (by decide) ?_
  refine lv_isub hx hb dX8_addMember_38 ?_
  refine lv_topi (fun y3 ey3 => ?_)
  obtain rfl : y3 = 0 := ey3.trans (by decide)
  have hP9 := hP.sub (ws' := []) [] rfl
  have hD9 := hD.sub (ws' := []) [] (by decide) rfl
  have hK9 := hK.sub (tys' := []) [] rfl
  exact W.zret (v := 0) (ty := .int) hx hb hr rfl (fun t ht hW => ⟨⟨(some (.int 0)), rfl, _, _, ⟨rfl, rfl, rfl⟩, by rw [ht]; exact hP9, va_K.moved hW.alike hK9, hD9⟩, hS.F ht⟩) hS.2.2 dX8_addMember_39

set_option maxHeartbeats 4000000 in
set_option maxRecDepth 100000 in
/-- field on a fresh object -/
theorem c8_field (l : Launch) (dC : Nat → ClassId) (dI : Nat → Nat → Nat) (h0 : Nat) (q : Nat → Nat) (cA : Nat → ClassId) (a1 a2 a3 a4 a5 a6 : Int32) (sz : Nat) (h4 : a4 = 0 ∨ a4 = 1) (h5 : a5 = 0 ∨ a5 = 1) (h6 : a6 = 0 ∨ a6 = 1) : Met l yX8_field wsX8_field ({ frames := 3, cells := 1, slots := 9, locals := 62 }) (va_Pc [.ref h0, .int a1, .int a2, .int a3, .int a4, .int a5, .int a6] (pz (dC, dI) [((cA 0), .object "ReflectModels$ClassModel"), ((cA 1), .object "ReflectModels$Member"), ((cA 2), .object "ReflectModels$Handle"), ((cA 3), .object "ReflectModels$Thing"), ((cA 4), .object "ReflectModels$Value")] [(h0, .inr (7, [.ref (q 0), .int 1, .ref (q 1), .int 0, .int 0, .ref (q 2), .int 0, .ref (q 3), .int 0, .ref (q 4), .int 0, .int 0, .ref (q 5), .int 0, .int 0])), ((q 0), .inl ((cA 0), 16, .inr (.inr (.inr (.inr (va_up (fun _ => none) 0 (some (q 6)))))))), ((q 1), .inl ((cA 1), 40, .inr (.inr (.inr (.inr (fun _ => none)))))), ((q 2), .inl ((cA 2), 60, .inr (.inr (.inr (.inr (fun _ => none)))))), ((q 3), .inl ((cA 3), 124, .inr (.inr (.inr (.inr (fun _ => none)))))), ((q 4), .inl ((cA 4), 3, .inr (.inr (.inr (.inr (va_up (va_up (va_up (fun _ => none) 0 (some (q 7))) 1 (some (q 8))) 2 (some (q 9)))))))), ((q 5), .inr (6, [.int 0, .long 0])), ((q 6), .inr (0, [.int 0, .null, .int 0, .null, .int 0, .int 0, .int 1, .int 1, .int 0, .int 0, .int 0, .int 0])), ((q 7), .inr (6, [.int 0, .long 0])), ((q 8), .inr (6, [.int 0, .long 0])), ((q 9), .inr (6, [.int 0, .long 0]))] sz)) (qW (dC, dI) (fun v w1 ty1 => v = some (.int (an_field a1.toInt a2.toInt a3.toInt a4.toInt)) ∧ w1 = [] ∧ ty1 = []) (va_A [(h0, .inr (7, [.ref (q 0), .int 1, .ref (q 1), .int 0, .int 0, .ref (q 2), .int 0, .ref (q 3), .int 0, .ref (q 4), .int 0, .int 0, .ref (q 5), .int 0, .int 0])), ((q 0), .inl ((cA 0), 16, .inr (.inr (.inr (.inr (va_up (fun _ => none) 0 (some (q 6)))))))), ((q 1), .inl ((cA 1), 40, .inr (.inr (.inr (.inr (fun _ => none)))))), ((q 2), .inl ((cA 2), 60, .inr (.inr (.inr (.inr (fun _ => none)))))), ((q 3), .inl ((cA 3), 124, .inr (.inr (.inr (.inr (fun _ => none)))))), ((q 4), .inl ((cA 4), 3, .inr (.inr (.inr (.inr (va_up (va_up (va_up (fun _ => none) 0 (some (q 7))) 1 (some (q 8))) 2 (some (q 9)))))))), ((q 5), .inr (6, [.int 0, .long 0])), ((q 6), .inr (0, [.int 0, .null, .int 0, .null, .int 0, .int 0, .int 1, .int 1, .int 0, .int 0, .int 0, .int 0])), ((q 7), .inr (6, [.int 0, .long 0])), ((q 8), .inr (6, [.int 0, .long 0])), ((q 9), .inr (6, [.int 0, .long 0]))] sz)) 1 9 (va_A [(h0, .inr (7, [.ref (q 0), .int 1, .ref (q 1), .int 0, .int 0, .ref (q 2), .int 0, .ref (q 3), .int 0, .ref (q 4), .int 0, .int 0, .ref (q 5), .int 0, .int 0])), ((q 0), .inl ((cA 0), 16, .inr (.inr (.inr (.inr (va_up (fun _ => none) 0 (some (q 6)))))))), ((q 1), .inl ((cA 1), 40, .inr (.inr (.inr (.inr (fun _ => none)))))), ((q 2), .inl ((cA 2), 60, .inr (.inr (.inr (.inr (fun _ => none)))))), ((q 3), .inl ((cA 3), 124, .inr (.inr (.inr (.inr (fun _ => none)))))), ((q 4), .inl ((cA 4), 3, .inr (.inr (.inr (.inr (va_up (va_up (va_up (fun _ => none) 0 (some (q 7))) 1 (some (q 8))) 2 (some (q 9)))))))), ((q 5), .inr (6, [.int 0, .long 0])), ((q 6), .inr (0, [.int 0, .null, .int 0, .null, .int 0, .int 0, .int 1, .int 1, .int 0, .int 0, .int 0, .int 0])), ((q 7), .inr (6, [.int 0, .long 0])), ((q 8), .inr (6, [.int 0, .long 0])), ((q 9), .inr (6, [.int 0, .long 0]))] sz) := by
  refine Met.ofW (cc := cX8_field) (maxL := 9) (ret := (some .int)) (by decide) rfl ?_
  intro p e s m args below meth c s₁ B hml hv
  obtain ⟨rfl, hsz, hP, hK, hD, hN⟩ := hv
  have hx := B.exec
  have hb := B.bytes
  have hr := B.returns
  have hts := atoms_spec (ws := wsX8_field) B.pre
  have hown : s.vm.findClass RX8 = some m.cls := findClass_of_methodNamed B.named
  have hlocks := B.notSynchronized
  subst hsz
  have hD := hD.self (sz := s.heap.size)
  generalize hAe : va_A [(h0, .inr (7, [.ref (q 0), .int 1, .ref (q 1), .int 0, .int 0, .ref (q 2), .int 0, .ref (q 3), .int 0, .ref (q 4), .int 0, .int 0, .ref (q 5), .int 0, .int 0])), ((q 0), .inl ((cA 0), 16, .inr (.inr (.inr (.inr (va_up (fun _ => none) 0 (some (q 6)))))))), ((q 1), .inl ((cA 1), 40, .inr (.inr (.inr (.inr (fun _ => none)))))), ((q 2), .inl ((cA 2), 60, .inr (.inr (.inr (.inr (fun _ => none)))))), ((q 3), .inl ((cA 3), 124, .inr (.inr (.inr (.inr (fun _ => none)))))), ((q 4), .inl ((cA 4), 3, .inr (.inr (.inr (.inr (va_up (va_up (va_up (fun _ => none) 0 (some (q 7))) 1 (some (q 8))) 2 (some (q 9)))))))), ((q 5), .inr (6, [.int 0, .long 0])), ((q 6), .inr (0, [.int 0, .null, .int 0, .null, .int 0, .int 0, .int 1, .int 1, .int 0, .int 0, .int 0, .int 0])), ((q 7), .inr (6, [.int 0, .long 0])), ((q 8), .inr (6, [.int 0, .long 0])), ((q 9), .inr (6, [.int 0, .long 0]))] s.heap.size = A at hD ⊢
  have hA : ∀ q : Nat, s.heap.size ≤ q → A q := fun q h => by rw [← hAe]; exact Or.inr h
  have hS : va_S A s.heap s.heap [] := va_S.rf
  have hl := lv_entry ([.ref h0, .int a1, .int a2, .int a3, .int a4, .int a5, .int a6]) (n := 9) (Nat.le_of_ble_eq_true rfl)
  rw [lg_entry_eq]
  generalize (lg_sl ([.ref h0, .int a1, .int a2, .int a3, .int a4, .int a5, .int a6]) ++ List.replicate (9 - (lg_sl ([.ref h0, .int a1, .int a2, .int a3, .int a4, .int a5, .int a6])).length) Slot.unset).toArray = ls at hl ⊢
  have hl : lv_has ls 9 [(0, .ref h0), (1, .int a1), (2, .int a2), (3, .int a3), (4, .int a4), (5, .int a5), (6, .int a6)] := hl
  refine lv_aload_n hx hb dX8_field_0 rfl (lv_at hl 0 rfl) ?_
  refine lv_iload_n hx hb dX8_field_1 rfl (lv_at hl 1 rfl) ?_
  refine clR (va_runV (As := [.int a1]) (rest := []) ⟨hx, hb, hml, hown, hts⟩ (c8_isClass l dC dI h0 q a1 _) (cwV 1 hts gX8_field_X8_isClass rfl rfl rfl (by decide +kernel) ⟨Nat.le_of_ble_eq_true rfl, Nat.le_of_ble_eq_true rfl⟩) ⟨pz_blind, va_recv hK hP (ci := 7) (q0 := 0) rfl rfl, pz_of hP hK hD hN [0] [] rfl (by decide) rfl⟩ rfl rfl hl.1 rfl (lv_room (Nat.le_of_ble_eq_true rfl)) dX8_field_2 ⟨Nat.le_of_ble_eq_true rfl, Nat.le_of_ble_eq_true rfl⟩) hS hP (fun v H locs w2 hP hS => ?_)
  rcases w2 with ⟨rfl, rfl⟩ | ⟨rfl, u1⟩
  · refine W.eq (g2 := F0 m 5 ls [.int 1]) rfl ?_
    refine lv_if_eq (tgt := 16) hx hb dX8_field_5 (by decide) (fun h => absurd h (by decide)) (fun _ => ?_)
    refine lv_aload_n hx hb dX8_field_8 rfl (lv_at hl 0 rfl) ?_
    refine lv_iload_n hx hb dX8_field_9 rfl (lv_at hl 3 rfl) ?_
    refine clR (va_runV (As := [.int a3]) (rest := []) ⟨hx, hb, hml, hown, hts⟩ (c8_isMissingClass l dC dI h0 q a3 _) (cwV 1 hts gX8_field_X8_isMissingClass rfl rfl rfl (by decide +kernel) ⟨Nat.le_of_ble_eq_true rfl, Nat.le_of_ble_eq_true rfl⟩) ⟨pz_blind, va_recv hK hP (ci := 7) (q0 := 0) rfl rfl, pz_of hP hK hD hN [0] [] rfl (by decide) rfl⟩ rfl rfl hl.1 rfl (lv_room (Nat.le_of_ble_eq_true rfl)) dX8_field_10 ⟨Nat.le_of_ble_eq_true rfl, Nat.le_of_ble_eq_true rfl⟩) hS hP (fun v H locs w5 hP hS => ?_)
    rcases w5 with ⟨rfl, u3⟩ | ⟨rfl, u4⟩
    · refine W.eq (g2 := F0 m 13 ls [.int 1]) rfl ?_
      refine lv_if_eq (tgt := 19) hx hb dX8_field_13 (by decide) (fun h => absurd h (by decide)) (fun _ => ?_)
      refine lv_bipush (v := (-2)) hx hb dX8_field_16 (by decide) ?_
      refine W.widen (k := 1) (n := 9) (by omega) (by omega) ?_
      have hP9 := hP.sub (ws' := []) [] rfl
      have hD9 := hD.sub (ws' := []) [] (by decide) rfl
      have hK9 := hK.sub (tys' := []) [] rfl
      exact W.zret (v := (-2)) (ty := .int) hx hb hr rfl (fun t ht hW => ⟨⟨(some (.int (-2))), rfl, _, _, ⟨congrArg (fun z => some (Value.int z)) (by unfold an_field; (repeat' split) <;> first | rfl | (exfalso; first | omega | (have kq := kz; omega))), rfl, rfl⟩, by rw [ht]; exact hP9, va_K.moved hW.alike hK9, hD9⟩, hS.F ht⟩) hS.2.2 dX8_field_18
    · refine W.eq (g2 := F0 m 13 ls [.int 0]) rfl ?_
      refine lv_if_eq (tgt := 19) hx hb dX8_field_13 (by decide) (fun _ => ?_) (fun h => absurd (by decide) h)
      refine lv_iload_n hx hb dX8_field_19 rfl (lv_at hl 2 rfl) ?_
      refine clR (va_runS (As := [.int a2]) (rest := []) ⟨hx, hb, hml, hown, hts⟩ (c8_isOutsideName l dC dI a2 _) (va_cwS 1 hts gX8_field_X8_isOutsideName rfl rfl rfl (by decide +kernel) ⟨Nat.le_of_ble_eq_true rfl, Nat.le_of_ble_eq_true rfl⟩) ⟨pz_blind, pz_of hP hK hD hN [] [] rfl (by decide) rfl⟩ rfl rfl hl.1 rfl (lv_room (Nat.le_of_ble_eq_true rfl)) dX8_field_20 ⟨Nat.le_of_ble_eq_true rfl, Nat.le_of_ble_eq_true rfl⟩) hS hP (fun v H locs w8 hP hS => ?_)
      rcases w8 with ⟨rfl, u6⟩ | ⟨rfl, u7⟩
      · refine W.eq (g2 := F0 m 23 ls [.int 1]) rfl ?_
        refine lv_if_ne (tgt := 32) hx hb dX8_field_23 (by decide) (fun _ => ?_) (fun h => absurd h (by decide))
        refine lv_bipush (v := (-3)) hx hb dX8_field_32 (by decide) ?_
        refine W.widen (k := 1) (n := 9) (by omega) (by omega) ?_
        have hP9 := hP.sub (ws' := []) [] rfl
        have hD9 := hD.sub (ws' := []) [] (by decide) rfl
        have hK9 := hK.sub (tys' := []) [] rfl
        exact W.zret (v := (-3)) (ty := .int) hx hb hr rfl (fun t ht hW => ⟨⟨(some (.int (-3))), rfl, _, _, ⟨congrArg (fun z => some (Value.int z)) (by unfold an_field; (repeat' split) <;> first | rfl | (exfalso; first | omega | (have kq := kz; omega))), rfl, rfl⟩, by rw [ht]; exact hP9, va_K.moved hW.alike hK9, hD9⟩, hS.F ht⟩) hS.2.2 dX8_field_34
      · refine W.eq (g2 := F0 m 23 ls [.int 0]) rfl ?_
        refine lv_if_ne (tgt := 32) hx hb dX8_field_23 (by decide) (fun h => absurd h (by decide)) (fun _ => ?_)
        refine lv_iload_n hx hb dX8_field_26 rfl (lv_at hl 3 rfl) ?_
        refine lv_bipush (v := (-2)) hx hb dX8_field_27 (by decide) ?_
        refine lv_icmp_ge (tgt := 35) hx hb dX8_field_29 (by decide) (fun c9 => ?_) (fun c9 => ?_)
        · have ic9 : (-2) ≤ a3.toInt := ile2 (by decide) rfl c9
          refine lv_aload_n hx hb dX8_field_35 rfl (lv_at hl 0 rfl) ?_
          refine va_get (D := (dC, dI)) (own := RX8) (ref := "ReflectModels") (index := 11) (ci := 7) (v := .ref (q 0)) (C := RX8) (T := TX8) (N := 15) hx hb hts inX8_field_8 hown hK hP 0 rfl rfl 0 (by decide) (hts (.fieldLink RX8 11 "ReflectModels" "classes" "[LReflectModels$ClassModel;") (by decide +kernel)) (fun _ h9 => h9) rfl dX8_field_36 ?_
          refine lv_iload_n hx hb dX8_field_39 rfl (lv_at hl 1 rfl) ?_
          refine va_aldq hx hb hK hP 1 0 rfl rfl (vp_in_iff.mpr ⟨by decide, by decide⟩) dX8_field_40 ?_
          refine W.eq (g2 := F0 m 41 ls [.ref (q 6)]) rfl ?_
          refine lv_astore (lv' := [(7, .ref (q 6)), (0, .ref h0), (1, .int 0), (2, .int a2), (3, .int a3), (4, .int a4), (5, .int a5), (6, .int a6)]) hx hb dX8_field_41 hl (by decide) rfl (fun ls hl => ?_)
          refine lv_aload_n hx hb dX8_field_43 rfl (lv_at hl 1 rfl) ?_
          refine va_get (D := (dC, dI)) (own := RX8) (ref := "ReflectModels") (index := 46) (ci := 7) (v := .int 0) (C := RX8) (T := TX8) (N := 15) hx hb hts inX8_field_8 hown hK hP 0 rfl rfl 8 (by decide) (hts (.fieldLink RX8 46 "ReflectModels" "thingCount" "I") (by decide +kernel)) (fun _ h9 => h9) rfl dX8_field_44 ?_
          refine lv_if_gt (tgt := 73) hx hb dX8_field_47 (by decide) (fun h => absurd h (by decide)) (fun _ => ?_)
          refine lv_aload hx hb dX8_field_50 (lv_at hl 0 rfl) ?_
          refine lv_iload hx hb dX8_field_52 (lv_at hl 5 rfl) ?_
          refine lv_iload hx hb dX8_field_54 (lv_at hl 6 rfl) ?_
          refine clR (va_runS (As := [.ref (q 6), .int a4, .int a5]) (rest := []) ⟨hx, hb, hml, hown, hts⟩ (c8_mayHaveField l dC dI (q 6) a4 a5 _ h4) (va_cwS 3 hts gX8_field_X8_mayHaveField rfl rfl rfl (by decide +kernel) ⟨Nat.le_of_ble_eq_true rfl, Nat.le_of_ble_eq_true rfl⟩) ⟨pz_blind, pz_of hP hK hD hN [7] [] rfl (by decide) rfl⟩ rfl rfl hl.1 rfl (lv_room (Nat.le_of_ble_eq_true rfl)) dX8_field_56 ⟨Nat.le_of_ble_eq_true rfl, Nat.le_of_ble_eq_true rfl⟩) hS hP (fun v H locs w10 hP hS => ?_)
          obtain rfl := w10
          refine W.eq (g2 := F0 m 59 ls [.int a4]) rfl ?_
          refine lv_if_eq (tgt := 73) hx hb dX8_field_59 (by decide) (fun c11 => ?_) (fun c11 => ?_)
          · have ic11 : a4.toInt = 0 := ieq2 rfl (by decide) c11
            refine lv_bipush (v := (-4)) hx hb dX8_field_73 (by decide) ?_
            refine W.widen (k := 1) (n := 9) (by omega) (by omega) ?_
            have hP9 := hP.sub (ws' := []) [] rfl
            have hD9 := hD.sub (ws' := []) [] (by decide) rfl
            have hK9 := hK.sub (tys' := []) [] rfl
            exact W.zret (v := (-4)) (ty := .int) hx hb hr rfl (fun t ht hW => ⟨⟨(some (.int (-4))), rfl, _, _, ⟨congrArg (fun z => some (Value.int z)) (by unfold an_field; (repeat' split) <;> first | rfl | (exfalso; first | omega | (have kq := kz; omega))), rfl, rfl⟩, by rw [ht]; exact hP9, va_K.moved hW.alike hK9, hD9⟩, hS.F ht⟩) hS.2.2 dX8_field_75
          · have ic11 : a4.toInt ≠ 0 := ine2 rfl (by decide) c11
            refine lv_aload_n hx hb dX8_field_62 rfl (lv_at hl 1 rfl) ?_
            refine lv_aload hx hb dX8_field_63 (lv_at hl 0 rfl) ?_
            refine lv_iload_n hx hb dX8_field_65 rfl (lv_at hl 3 rfl) ?_
            refine clR (va_runV (As := [.ref (q 6), .int a2]) (rest := []) ⟨hx, hb, hml, hown, hts⟩ (c8_ownField l dC dI h0 q (q 6) a2 _) (cwV 2 hts gX8_field_X8_ownField rfl rfl rfl (by decide +kernel) ⟨Nat.le_of_ble_eq_true rfl, Nat.le_of_ble_eq_true rfl⟩) ⟨pz_blind, va_recv hK hP (ci := 7) (q0 := 0) rfl rfl, pz_of hP hK hD hN [0] [] rfl (by decide) rfl⟩ rfl rfl hl.1 rfl (lv_room (Nat.le_of_ble_eq_true rfl)) dX8_field_66 ⟨Nat.le_of_ble_eq_true rfl, Nat.le_of_ble_eq_true rfl⟩) hS hP (fun v H locs w12 hP hS => ?_)
            obtain rfl := w12
            refine W.eq (g2 := F0 m 69 ls [.int (-1)]) rfl ?_
            refine lv_iconst (v := (-1)) hx hb dX8_field_69 (by decide) ?_
            refine lv_icmp_eq (tgt := 76) hx hb dX8_field_70 (by decide) (fun _ => ?_) (fun h => absurd (by decide) h)
            refine lv_aload_n hx hb dX8_field_76 rfl (lv_at hl 1 rfl) ?_
            refine va_get (D := (dC, dI)) (own := RX8) (ref := "ReflectModels") (index := 25) (ci := 7) (v := .int 0) (C := RX8) (T := TX8) (N := 15) hx hb hts inX8_field_8 hown hK hP 0 rfl rfl 3 (by decide) (hts (.fieldLink RX8 25 "ReflectModels" "memberCount" "I") (by decide +kernel)) (fun _ h9 => h9) rfl dX8_field_77 ?_
            refine lv_bipush (v := 40) hx hb dX8_field_80 (by decide) ?_
            refine lv_icmp_lt (tgt := 88) hx hb dX8_field_82 (by decide) (fun _ => ?_) (fun h => absurd (by decide) h)
            refine lv_iload hx hb dX8_field_88 (lv_at hl 5 rfl) ?_
            refine lv_if_eq (tgt := 97) hx hb dX8_field_90 (by decide) (fun c13 => ?_) (fun c13 => ?_)
            · have ic13 : a4.toInt = 0 := ieq2 rfl (by decide) c13
              exfalso; first | omega | (have kq := kz; omega)
            · have ic13 : a4.toInt ≠ 0 := ine2 rfl (by decide) c13
              refine lv_iconst (v := (-1)) hx hb dX8_field_93 (by decide) ?_
              refine lv_goto (tgt := 101) hx hb dX8_field_94 (by decide) ?_
              refine lv_istore (lv' := [(8, .int (-1)), (7, .ref (q 6)), (0, .ref h0), (1, .int 0), (2, .int a2), (3, .int a3), (4, .int a4), (5, .int a5), (6, .int a6)]) hx hb dX8_field_101 hl (by decide) rfl (fun ls hl => ?_)
              refine lv_iload hx hb dX8_field_103 (lv_at hl 6 rfl) ?_
              refine lv_if_ne (tgt := 118) hx hb dX8_field_105 (by decide) (fun c14 => ?_) (fun c14 => ?_)
              · have ic14 : a4.toInt ≠ 0 := ine2 rfl (by decide) c14
                refine lv_aload_n hx hb dX8_field_118 rfl (lv_at hl 2 rfl) ?_
                refine va_new (ci := 1) (fs := [.null, .int 0, .int 0, .int 0, .int 0, .int 0, .long 0, .int 0, .long 0]) (C := RX1) (T := TX1) (N := 9) hx hb hts inX8_field_1 tyX1 tyX1_ok hown (hts (.classLink RX8 109 RX1) (by decide +kernel)) (hts (.instantiable RX1 9) (by decide +kernel)) (hts (.initialized RX1) (by decide +kernel)) hK hP hD hS hA rfl df_X1 (Nat.le_of_ble_eq_true rfl) (Nat.le_of_ble_eq_true rfl) dX8_field_119 (fun q15 H hP hD hS => ?_)
                have hP : va_P (dC, dI) vwCl [(h0, .inr (7, [.ref (q 0), .int 1, .ref (q 1), .int 0, .int 0, .ref (q 2), .int 0, .ref (q 3), .int 0, .ref (q 4), .int 0, .int 0, .ref (q 5), .int 0, .int 0])), ((q 0), .inl ((cA 0), 16, .inr (.inr (.inr (.inr (va_up (fun _ => none) 0 (some (q 6)))))))), ((q 1), .inl ((cA 1), 40, .inr (.inr (.inr (.inr (fun _ => none)))))), ((q 2), .inl ((cA 2), 60, .inr (.inr (.inr (.inr (fun _ => none)))))), ((q 3), .inl ((cA 3), 124, .inr (.inr (.inr (.inr (fun _ => none)))))), ((q 4), .inl ((cA 4), 3, .inr (.inr (.inr (.inr (va_up (va_up (va_up (fun _ => none) 0 (some (q 7))) 1 (some (q 8))) 2 (some (q 9)))))))), ((q 5), .inr (6, [.int 0, .long 0])), ((q 6), .inr (0, [.int 0, .null, .int 0, .null, .int 0, .int 0, .int 1, .int 1, .int 0, .int 0, .int 0, .int 0])), ((q 7), .inr (6, [.int 0, .long 0])), ((q 8), .inr (6, [.int 0, .long 0])), ((q 9), .inr (6, [.int 0, .long 0])), (q15, .inr (1, [.null, .int 0, .int 0, .int 0, .int 0, .int 0, .long 0, .int 0, .long 0]))] H := hP
                have hD : va_D A [(h0, .inr (7, [.ref (q 0), .int 1, .ref (q 1), .int 0, .int 0, .ref (q 2), .int 0, .ref (q 3), .int 0, .ref (q 4), .int 0, .int 0, .ref (q 5), .int 0, .int 0])), ((q 0), .inl ((cA 0), 16, .inr (.inr (.inr (.inr (va_up (fun _ => none) 0 (some (q 6)))))))), ((q 1), .inl ((cA 1), 40, .inr (.inr (.inr (.inr (fun _ => none)))))), ((q 2), .inl ((cA 2), 60, .inr (.inr (.inr (.inr (fun _ => none)))))), ((q 3), .inl ((cA 3), 124, .inr (.inr (.inr (.inr (fun _ => none)))))), ((q 4), .inl ((cA 4), 3, .inr (.inr (.inr (.inr (va_up (va_up (va_up (fun _ => none) 0 (some (q 7))) 1 (some (q 8))) 2 (some (q 9)))))))), ((q 5), .inr (6, [.int 0, .long 0])), ((q 6), .inr (0, [.int 0, .null, .int 0, .null, .int 0, .int 0, .int 1, .int 1, .int 0, .int 0, .int 0, .int 0])), ((q 7), .inr (6, [.int 0, .long 0])), ((q 8), .inr (6, [.int 0, .long 0])), ((q 9), .inr (6, [.int 0, .long 0])), (q15, .inr (1, [.null, .int 0, .int 0, .int 0, .int 0, .int 0, .long 0, .int 0, .long 0]))] := hD
                refine W.cs (cells' := 1) (slots' := 9) rfl rfl ?_
                refine lv_dup hx hb dX8_field_122 rfl ?_
                refine lv_aload hx hb dX8_field_123 (lv_at hl 1 rfl) ?_
                refine lv_iload_n hx hb dX8_field_125 rfl (lv_at hl 4 rfl) ?_
                refine lv_iload_n hx hb dX8_field_126 rfl (lv_at hl 5 rfl) ?_
                refine lv_iload hx hb dX8_field_127 (lv_at hl 6 rfl) ?_
                refine lv_iload hx hb dX8_field_129 (lv_at hl 7 rfl) ?_
                refine lv_iload hx hb dX8_field_131 (lv_at hl 8 rfl) ?_
                refine lv_iload hx hb dX8_field_133 (lv_at hl 0 rfl) ?_
                refine clW (wr := [(h0, .inr (7, [.ref (q 0), .int 1, .ref (q 1), .int 0, .int 0, .ref (q 2), .int 0, .ref (q 3), .int 0, .ref (q 4), .int 0, .int 0, .ref (q 5), .int 0, .int 0])), ((q 0), .inl ((cA 0), 16, .inr (.inr (.inr (.inr (va_up (fun _ => none) 0 (some (q 6)))))))), ((q 1), .inl ((cA 1), 40, .inr (.inr (.inr (.inr (fun _ => none)))))), ((q 2), .inl ((cA 2), 60, .inr (.inr (.inr (.inr (fun _ => none)))))), ((q 3), .inl ((cA 3), 124, .inr (.inr (.inr (.inr (fun _ => none)))))), ((q 4), .inl ((cA 4), 3, .inr (.inr (.inr (.inr (va_up (va_up (va_up (fun _ => none) 0 (some (q 7))) 1 (some (q 8))) 2 (some (q 9)))))))), ((q 5), .inr (6, [.int 0, .long 0])), ((q 6), .inr (0, [.int 0, .null, .int 0, .null, .int 0, .int 0, .int 1, .int 1, .int 0, .int 0, .int 0, .int 0])), ((q 7), .inr (6, [.int 0, .long 0])), ((q 8), .inr (6, [.int 0, .long 0])), ((q 9), .inr (6, [.int 0, .long 0]))]) [11] [0, 1, 2, 3, 4, 5, 6, 7, 8, 9, 10] (va_runIN (As := [.ref (q 6), .int a2, .int a3, .int a4, .int a5, .int a6, .int (-1)]) (rest := [.ref q15, .ref h0]) ⟨hx, hb, hml, hown, hts⟩ (c1_init l dC dI q15 (q 6) a2 a3 a4 a5 a6 _ h4 h5 h6) ⟨va_cnB 7 hts gX8_field_X1_init_n111 rfl rfl rfl (hN _ (List.mem_of_getElem? (i := 21) rfl)) (hts (.initialized RX1) (by decide +kernel)) (by decide +kernel) ⟨Nat.le_of_ble_eq_true rfl, Nat.le_of_ble_eq_true rfl⟩, rfl, hts (.instanceMethod yX1_init) (by decide +kernel)⟩ ⟨pz_blind, pz_of hP hK hD hN [11] [] rfl (by decide) rfl⟩ rfl rfl hl.1 rfl (lv_room (Nat.le_of_ble_eq_true rfl)) dX8_field_135 ⟨Nat.le_of_ble_eq_true rfl, Nat.le_of_ble_eq_true rfl⟩) hS hP hD hK hA rfl rfl (by decide) (by decide) (fun v w1 ty1 H locs w17 hP hD hK hS => ?_)
                obtain ⟨rfl, f16, rfl, rfl⟩ := w17
                refine W.eq (g2 := F0 m 138 ls [.ref q15, .ref h0]) rfl ?_
                have hP : va_P (dC, dI) vwCl [(h0, .inr (7, [.ref (q 0), .int 1, .ref (q 1), .int 0, .int 0, .ref (q 2), .int 0, .ref (q 3), .int 0, .ref (q 4), .int 0, .int 0, .ref (q 5), .int 0, .int 0])), ((q 0), .inl ((cA 0), 16, .inr (.inr (.inr (.inr (va_up (fun _ => none) 0 (some (q 6)))))))), ((q 1), .inl ((cA 1), 40, .inr (.inr (.inr (.inr (fun _ => none)))))), ((q 2), .inl ((cA 2), 60, .inr (.inr (.inr (.inr (fun _ => none)))))), ((q 3), .inl ((cA 3), 124, .inr (.inr (.inr (.inr (fun _ => none)))))), ((q 4), .inl ((cA 4), 3, .inr (.inr (.inr (.inr (va_up (va_up (va_up (fun _ => none) 0 (some (q 7))) 1 (some (q 8))) 2 (some (q 9)))))))), ((q 5), .inr (6, [.int 0, .long 0])), ((q 6), .inr (0, [.int 0, .null, .int 0, .null, .int 0, .int 0, .int 1, .int 1, .int 0, .int 0, .int 0, .int 0])), ((q 7), .inr (6, [.int 0, .long 0])), ((q 8), .inr (6, [.int 0, .long 0])), ((q 9), .inr (6, [.int 0, .long 0])), (q15, .inr (1, [.ref (q 6), .int a4, .int a6, .int a2, .int a3, .int a5, .long f16, .int (-1), .long f16]))] H := hP
                have hD : va_D A [(h0, .inr (7, [.ref (q 0), .int 1, .ref (q 1), .int 0, .int 0, .ref (q 2), .int 0, .ref (q 3), .int 0, .ref (q 4), .int 0, .int 0, .ref (q 5), .int 0, .int 0])), ((q 0), .inl ((cA 0), 16, .inr (.inr (.inr (.inr (va_up (fun _ => none) 0 (some (q 6)))))))), ((q 1), .inl ((cA 1), 40, .inr (.inr (.inr (.inr (fun _ => none)))))), ((q 2), .inl ((cA 2), 60, .inr (.inr (.inr (.inr (fun _ => none)))))), ((q 3), .inl ((cA 3), 124, .inr (.inr (.inr (.inr (fun _ => none)))))), ((q 4), .inl ((cA 4), 3, .inr (.inr (.inr (.inr (va_up (va_up (va_up (fun _ => none) 0 (some (q 7))) 1 (some (q 8))) 2 (some (q 9)))))))), ((q 5), .inr (6, [.int 0, .long 0])), ((q 6), .inr (0, [.int 0, .null, .int 0, .null, .int 0, .int 0, .int 1, .int 1, .int 0, .int 0, .int 0, .int 0])), ((q 7), .inr (6, [.int 0, .long 0])), ((q 8), .inr (6, [.int 0, .long 0])), ((q 9), .inr (6, [.int 0, .long 0])), (q15, .inr (1, [.ref (q 6), .int a4, .int a6, .int a2, .int a3, .int a5, .long f16, .int (-1), .long f16]))] := hD
                have hK : va_K (dC, dI) vwCl [((cA 0), .object "ReflectModels$ClassModel"), ((cA 1), .object "ReflectModels$Member"), ((cA 2), .object "ReflectModels$Handle"), ((cA 3), .object "ReflectModels$Thing"), ((cA 4), .object "ReflectModels$Value")] s := hK
                refine W.cs (cells' := 1) (slots' := 9) rfl rfl ?_
                refine clW (wr := [((q 0), .inl ((cA 0), 16, .inr (.inr (.inr (.inr (va_up (fun _ => none) 0 (some (q 6)))))))), ((q 2), .inl ((cA 2), 60, .inr (.inr (.inr (.inr (fun _ => none)))))), ((q 3), .inl ((cA 3), 124, .inr (.inr (.inr (.inr (fun _ => none)))))), ((q 4), .inl ((cA 4), 3, .inr (.inr (.inr (.inr (va_up (va_up (va_up (fun _ => none) 0 (some (q 7))) 1 (some (q 8))) 2 (some (q 9)))))))), ((q 5), .inr (6, [.int 0, .long 0])), ((q 7), .inr (6, [.int 0, .long 0])), ((q 8), .inr (6, [.int 0, .long 0])), ((q 9), .inr (6, [.int 0, .long 0]))]) [0, 2, 11, 7] [1, 3, 4, 5, 6, 8, 9, 10] (va_runV (As := [.ref q15]) (rest := []) ⟨hx, hb, hml, hown, hts⟩ (c8_addMemberF l dC dI h0 q cA q15 (q 6) a4 a6 a2 a3 a5 f16 (-1) f16 _) (cwV 1 hts gX8_field_X8_addMember rfl rfl rfl (by decide +kernel) ⟨Nat.le_of_ble_eq_true rfl, Nat.le_of_ble_eq_true rfl⟩) ⟨pz_blind, va_recv hK hP (ci := 7) (q0 := 0) rfl rfl, pz_of hP hK hD hN [0, 2, 11, 7] [1] rfl (by decide) rfl⟩ rfl rfl hl.1 rfl (lv_room (Nat.le_of_ble_eq_true rfl)) dX8_field_138 ⟨Nat.le_of_ble_eq_true rfl, Nat.le_of_ble_eq_true rfl⟩) hS hP hD hK hA rfl rfl (by decide) (by decide) (fun v w1 ty1 H locs w18 hP hD hK hS => ?_)
                obtain ⟨rfl, rfl, rfl⟩ := w18
                refine W.eq (g2 := F0 m 141 ls [.int 0]) rfl ?_
                have hP : va_P (dC, dI) vwCl [((q 0), .inl ((cA 0), 16, .inr (.inr (.inr (.inr (va_up (fun _ => none) 0 (some (q 6)))))))), ((q 2), .inl ((cA 2), 60, .inr (.inr (.inr (.inr (fun _ => none)))))), ((q 3), .inl ((cA 3), 124, .inr (.inr (.inr (.inr (fun _ => none)))))), ((q 4), .inl ((cA 4), 3, .inr (.inr (.inr (.inr (va_up (va_up (va_up (fun _ => none) 0 (some (q 7))) 1 (some (q 8))) 2 (some (q 9)))))))), ((q 5), .inr (6, [.int 0, .long 0])), ((q 7), .inr (6, [.int 0, .long 0])), ((q 8), .inr (6, [.int 0, .long 0])), ((q 9), .inr (6, [.int 0, .long 0]))] H := hP
                have hD : va_D A [((q 0), .inl ((cA 0), 16, .inr (.inr (.inr (.inr (va_up (fun _ => none) 0 (some (q 6)))))))), ((q 2), .inl ((cA 2), 60, .inr (.inr (.inr (.inr (fun _ => none)))))), ((q 3), .inl ((cA 3), 124, .inr (.inr (.inr (.inr (fun _ => none)))))), ((q 4), .inl ((cA 4), 3, .inr (.inr (.inr (.inr (va_up (va_up (va_up (fun _ => none) 0 (some (q 7))) 1 (some (q 8))) 2 (some (q 9)))))))), ((q 5), .inr (6, [.int 0, .long 0])), ((q 7), .inr (6, [.int 0, .long 0])), ((q 8), .inr (6, [.int 0, .long 0])), ((q 9), .inr (6, [.int 0, .long 0]))] := hD
                have hK : va_K (dC, dI) vwCl [((cA 0), .object "ReflectModels$ClassModel"), ((cA 1), .object "ReflectModels$Member"), ((cA 2), .object "ReflectModels$Handle"), ((cA 3), .object "ReflectModels$Thing"), ((cA 4), .object "ReflectModels$Value")] s := hK
                refine W.cs (cells' := 1) (slots' := 9) rfl rfl ?_
                have hP9 := hP.sub (ws' := []) [] rfl
                have hD9 := hD.sub (ws' := []) [] (by decide) rfl
                have hK9 := hK.sub (tys' := []) [] rfl
                exact W.zret (v := 0) (ty := .int) hx hb hr rfl (fun t ht hW => ⟨⟨(some (.int 0)), rfl, _, _, ⟨congrArg (fun z => some (Value.int z)) (by unfold an_field; (repeat' split) <;> first | rfl | (exfalso; first | omega | (have kq := kz; omega))), rfl, rfl⟩, by rw [ht]; exact hP9, va_K.moved hW.alike hK9, hD9⟩, hS.F ht⟩) hS.2.2 dX8_field_141
              · have ic14 : a4.toInt = 0 := ieq2 rfl (by decide) c14
                exfalso; first | omega | (have kq := kz; omega)
        · have ic9 : a3.toInt < (-2) := inle2 (by decide) rfl c9
          refine lv_bipush (v := (-3)) hx hb dX8_field_32 (by decide) ?_
          refine W.widen (k := 1) (n := 9) (by omega) (by omega) ?_
          have hP9 := hP.sub (ws' := []) [] rfl
          have hD9 := hD.sub (ws' := []) [] (by decide) rfl
          have hK9 := hK.sub (tys' := []) [] rfl
          exact W.zret (v := (-3)) (ty := .int) hx hb hr rfl (fun t ht hW => ⟨⟨(some (.int (-3))), rfl, _, _, ⟨congrArg (fun z => some (Value.int z)) (by unfold an_field; (repeat' split) <;> first | rfl | (exfalso; first | omega | (have kq := kz; omega))), rfl, rfl⟩, by rw [ht]; exact hP9, va_K.moved hW.alike hK9, hD9⟩, hS.F ht⟩) hS.2.2 dX8_field_34
  · refine W.eq (g2 := F0 m 5 ls [.int 0]) rfl ?_
    refine lv_if_eq (tgt := 16) hx hb dX8_field_5 (by decide) (fun _ => ?_) (fun h => absurd (by decide) h)
    refine lv_bipush (v := (-2)) hx hb dX8_field_16 (by decide) ?_
    refine W.widen (k := 1) (n := 9) (by omega) (by omega) ?_
    have hP9 := hP.sub (ws' := []) [] rfl
    have hD9 := hD.sub (ws' := []) [] (by decide) rfl
    have hK9 := hK.sub (tys' := []) [] rfl
    exact W.zret (v := (-2)) (ty := .int) hx hb hr rfl (fun t ht hW => ⟨⟨(some (.int (-2))), rfl, _, _, ⟨congrArg (fun z => some (Value.int z)) (by unfold an_field; (repeat' split) <;> first | rfl | (exfalso; first | omega | (have kq := kz; omega))), rfl, rfl⟩, by rw [ht]; exact hP9, va_K.moved hW.alike hK9, hD9⟩, hS.F ht⟩) hS.2.2 dX8_field_18

set_option maxHeartbeats 4000000 in
set_option maxRecDepth 100000 in
theorem c8_failed (l : Launch) (dC : Nat → ClassId) (dI : Nat → Nat → Nat) (h0 : Nat) (q : Nat → Nat) (sz : Nat)  : Met l yX8_failed wsX8_failed ({ frames := 0, cells := 0, slots := 0, locals := 0 }) (va_Pc [.ref h0, .int 1] (pz (dC, dI) [] [(h0, .inr (7, [.ref (q 0), .int 1, .ref (q 1), .int 0, .int 0, .ref (q 2), .int 0, .ref (q 3), .int 0, .ref (q 4), .int 0, .int 0, .ref (q 5), .int 0, .int 0]))] sz)) (qW (dC, dI) (fun v w1 ty1 => v = some (.int (-11)) ∧ w1 = [] ∧ ty1 = []) (va_A [(h0, .inr (7, [.ref (q 0), .int 1, .ref (q 1), .int 0, .int 0, .ref (q 2), .int 0, .ref (q 3), .int 0, .ref (q 4), .int 0, .int 0, .ref (q 5), .int 0, .int 0]))] sz)) 0 0 (va_A [(h0, .inr (7, [.ref (q 0), .int 1, .ref (q 1), .int 0, .int 0, .ref (q 2), .int 0, .ref (q 3), .int 0, .ref (q 4), .int 0, .int 0, .ref (q 5), .int 0, .int 0]))] sz) := by
  refine Met.ofW (cc := cX8_failed) (maxL := 2) (ret := (some .int)) (by decide) rfl ?_
  intro p e s m args below meth c s₁ B hml hv
  obtain ⟨rfl, hsz, hP, hK, hD, hN⟩ := hv
  have hx := B.exec
  have hb := B.bytes
  have hr := B.returns
  have hts := atoms_spec (ws := wsX8_failed) B.pre
  have hown : s.vm.findClass RX8 = some m.cls := findClass_of_methodNamed B.named
  have hlocks := B.notSynchronized
  subst hsz
  have hD := hD.self (sz := s.heap.size)
  generalize hAe : va_A [(h0, .inr (7, [.ref (q 0), .int 1, .ref (q 1), .int 0, .int 0, .ref (q 2), .int 0, .ref (q 3), .int 0, .ref (q 4), .int 0, .int 0, .ref (q 5), .int 0, .int 0]))] s.heap.size = A at hD ⊢
  have hA : ∀ q : Nat, s.heap.size ≤ q → A q := fun q h => by rw [← hAe]; exact Or.inr h
  have hS : va_S A s.heap s.heap [] := va_S.rf
  have hl := lv_entry ([.ref h0, .int 1]) (n := 2) (Nat.le_of_ble_eq_true rfl)
  rw [lg_entry_eq]
  generalize (lg_sl ([.ref h0, .int 1]) ++ List.replicate (2 - (lg_sl ([.ref h0, .int 1])).length) Slot.unset).toArray = ls at hl ⊢
  have hl : lv_has ls 2 [(0, .ref h0), (1, .int 1)] := hl
  refine lv_aload_n hx hb dX8_failed_0 rfl (lv_at hl 0 rfl) ?_
  refine lv_iload_n hx hb dX8_failed_1 rfl (lv_at hl 1 rfl) ?_
  refine va_put (D := (dC, dI)) (own := RX8) (ref := "ReflectModels") (index := 66) (ci := 7) (v := .int 1) (ty := .int) (C := RX8) (T := TX8) (N := 15) hx hb hts inX8_failed_8 tyX8 tyX8_ok nmX8 hown hK hP hD hS 0 rfl rfl 13 (by decide) (hts (.fieldLink RX8 66 "ReflectModels" "latestFailure" "I") (by decide +kernel)) (fun _ h9 => h9) rfl (by decide +kernel) rfl rfl (Nat.le_of_ble_eq_true rfl) dX8_failed_2 (fun H locs hP hD hS => ?_)
  have hP : va_P (dC, dI) vwCl [(h0, .inr (7, [.ref (q 0), .int 1, .ref (q 1), .int 0, .int 0, .ref (q 2), .int 0, .ref (q 3), .int 0, .ref (q 4), .int 0, .int 0, .ref (q 5), .int 1, .int 0]))] H := hP
  have hD : va_D A [(h0, .inr (7, [.ref (q 0), .int 1, .ref (q 1), .int 0, .int 0, .ref (q 2), .int 0, .ref (q 3), .int 0, .ref (q 4), .int 0, .int 0, .ref (q 5), .int 1, .int 0]))] := hD
  refine lv_bipush (v := (-10)) hx hb dX8_failed_5 (by decide) ?_
  refine lv_iload_n hx hb dX8_failed_7 rfl (lv_at hl 1 rfl) ?_
  refine lv_isub hx hb dX8_failed_8 ?_
  refine lv_topi (fun y1 ey1 => ?_)
  obtain rfl : y1 = (-11) := ey1.trans (by decide)
  have hP9 := hP.sub (ws' := []) [] rfl
  have hD9 := hD.sub (ws' := []) [] (by decide) rfl
  have hK9 := hK.sub (tys' := []) [] rfl
  exact W.zret (v := (-11)) (ty := .int) hx hb hr rfl (fun t ht hW => ⟨⟨(some (.int (-11))), rfl, _, _, ⟨rfl, rfl, rfl⟩, by rw [ht]; exact hP9, va_K.moved hW.alike hK9, hD9⟩, hS.F ht⟩) hS.2.2 dX8_failed_9

set_option maxHeartbeats 4000000 in
set_option maxRecDepth 100000 in
theorem c8_addHandle (l : Launch) (dC : Nat → ClassId) (dI : Nat → Nat → Nat) (h0 : Nat) (q : Nat → Nat) (sz : Nat)  : Met l yX8_addHandle wsX8_addHandle ({ frames := 1, cells := 0, slots := 0, locals := 21 }) (va_Pc [.ref h0, .int (-1)] (pz (dC, dI) [] [(h0, .inr (7, [.ref (q 0), .int 1, .ref (q 1), .int 0, .int 0, .ref (q 2), .int 0, .ref (q 3), .int 0, .ref (q 4), .int 0, .int 0, .ref (q 5), .int 0, .int 0]))] sz)) (qW (dC, dI) (fun v w1 ty1 => v = some (.int (-11)) ∧ w1 = [] ∧ ty1 = []) (va_A [(h0, .inr (7, [.ref (q 0), .int 1, .ref (q 1), .int 0, .int 0, .ref (q 2), .int 0, .ref (q 3), .int 0, .ref (q 4), .int 0, .int 0, .ref (q 5), .int 0, .int 0]))] sz)) 0 0 (va_A [(h0, .inr (7, [.ref (q 0), .int 1, .ref (q 1), .int 0, .int 0, .ref (q 2), .int 0, .ref (q 3), .int 0, .ref (q 4), .int 0, .int 0, .ref (q 5), .int 0, .int 0]))] sz) := by
  refine Met.ofW (cc := cX8_addHandle) (maxL := 2) (ret := (some .int)) (by decide) rfl ?_
  intro p e s m args below meth c s₁ B hml hv
  obtain ⟨rfl, hsz, hP, hK, hD, hN⟩ := hv
  have hx := B.exec
  have hb := B.bytes
  have hr := B.returns
  have hts := atoms_spec (ws := wsX8_addHandle) B.pre
  have hown : s.vm.findClass RX8 = some m.cls := findClass_of_methodNamed B.named
  have hlocks := B.notSynchronized
  subst hsz
  have hD := hD.self (sz := s.heap.size)
  generalize hAe : va_A [(h0, .inr (7, [.ref (q 0), .int 1, .ref (q 1), .int 0, .int 0, .ref (q 2), .int 0, .ref (q 3), .int 0, .ref (q 4), .int 0, .int 0, .ref (q 5), .int 0, .int 0]))] s.heap.size = A at hD ⊢
  have hA : ∀ q : Nat, s.heap.size ≤ q → A q := fun q h => by rw [← hAe]; exact Or.inr h
  have hS : va_S A s.heap s.heap [] := va_S.rf
  have hl := lv_entry ([.ref h0, .int (-1)]) (n := 2) (Nat.le_of_ble_eq_true rfl)
  rw [lg_entry_eq]
  generalize (lg_sl ([.ref h0, .int (-1)]) ++ List.replicate (2 - (lg_sl ([.ref h0, .int (-1)])).length) Slot.unset).toArray = ls at hl ⊢
  have hl : lv_has ls 2 [(0, .ref h0), (1, .int (-1))] := hl
  refine lv_iload_n hx hb dX8_addHandle_0 rfl (lv_at hl 1 rfl) ?_
  refine lv_iconst (v := (-1)) hx hb dX8_addHandle_1 (by decide) ?_
  refine lv_icmp_ne (tgt := 11) hx hb dX8_addHandle_2 (by decide) (fun h => absurd h (by decide)) (fun _ => ?_)
  refine lv_aload_n hx hb dX8_addHandle_5 rfl (lv_at hl 0 rfl) ?_
  refine lv_iconst (v := 1) hx hb dX8_addHandle_6 (by decide) ?_
  refine clW (wr := []) [0] [] (va_runV (As := [.int 1]) (rest := []) ⟨hx, hb, hml, hown, hts⟩ (c8_failed l dC dI h0 q _) (cwV 1 hts gX8_addHandle_X8_failed rfl rfl rfl (by decide +kernel) ⟨Nat.le_of_ble_eq_true rfl, Nat.le_of_ble_eq_true rfl⟩) ⟨pz_blind, va_recv hK hP (ci := 7) (q0 := 0) rfl rfl, pz_of hP hK hD hN [0] [] rfl (by decide) rfl⟩ rfl rfl hl.1 rfl (lv_room (Nat.le_of_ble_eq_true rfl)) dX8_addHandle_7 ⟨Nat.le_of_ble_eq_true rfl, Nat.le_of_ble_eq_true rfl⟩) hS hP hD hK hA rfl rfl (by decide) (by decide) (fun v w1 ty1 H locs w1 hP hD hK hS => ?_)
  obtain ⟨rfl, rfl, rfl⟩ := w1
  refine W.eq (g2 := F0 m 10 ls [.int (-11)]) rfl ?_
  have hP : va_P (dC, dI) vwCl [] H := hP
  have hD : va_D A [] := hD
  have hK : va_K (dC, dI) vwCl [] s := hK
  refine W.cs (cells' := 0) (slots' := 0) rfl rfl ?_
  have hP9 := hP.sub (ws' := []) [] rfl
  have hD9 := hD.sub (ws' := []) [] (by decide) rfl
  have hK9 := hK.sub (tys' := []) [] rfl
  exact W.zret (v := (-11)) (ty := .int) hx hb hr rfl (fun t ht hW => ⟨⟨(some (.int (-11))), rfl, _, _, ⟨rfl, rfl, rfl⟩, by rw [ht]; exact hP9, va_K.moved hW.alike hK9, hD9⟩, hS.F ht⟩) hS.2.2 dX8_addHandle_10

set_option maxHeartbeats 4000000 in
set_option maxRecDepth 100000 in
theorem c8_visibleField (l : Launch) (dC : Nat → ClassId) (dI : Nat → Nat → Nat) (h0 : Nat) (q : Nat → Nat) (r1 : Nat) (a2 : Int32) (sz : Nat)  : Met l yX8_visibleField wsX8_visibleField ({ frames := 1, cells := 0, slots := 0, locals := 25 }) (va_Pc [.ref h0, .ref r1, .int a2] (pz (dC, dI) [] [(h0, .inr (7, [.ref (q 0), .int 1, .ref (q 1), .int 0, .int 0, .ref (q 2), .int 0, .ref (q 3), .int 0, .ref (q 4), .int 0, .int 0, .ref (q 5), .int 0, .int 0])), (r1, .inr (0, [.int 0, .null, .int 0, .null, .int 0, .int 0, .int 1, .int 1, .int 0, .int 0, .int 0, .int 0]))] sz)) (qR (fun v => (v = some (.int (-1))))) 0 0 nA := by
  refine Met.ofW (cc := cX8_visibleField) (maxL := 5) (ret := (some .int)) (by decide) rfl ?_
  intro p e s m args below meth c s₁ B hml hv
  obtain ⟨rfl, hsz, hP, hK, hD, hN⟩ := hv
  have hx := B.exec
  have hb := B.bytes
  have hr := B.returns
  have hts := atoms_spec (ws := wsX8_visibleField) B.pre
  have hown : s.vm.findClass RX8 = some m.cls := findClass_of_methodNamed B.named
  have hlocks := B.notSynchronized
  subst hsz
  have hS : va_S nA s.heap s.heap [] := va_S.rf
  have hl := lv_entry ([.ref h0, .ref r1, .int a2]) (n := 5) (Nat.le_of_ble_eq_true rfl)
  rw [lg_entry_eq]
  generalize (lg_sl ([.ref h0, .ref r1, .int a2]) ++ List.replicate (5 - (lg_sl ([.ref h0, .ref r1, .int a2])).length) Slot.unset).toArray = ls at hl ⊢
  have hl : lv_has ls 5 [(0, .ref h0), (1, .ref r1), (2, .int a2)] := hl
  refine lv_aload_n hx hb dX8_visibleField_0 rfl (lv_at hl 1 rfl) ?_
  refine lv_astore_n (lv' := [(3, .ref r1), (0, .ref h0), (1, .ref r1), (2, .int a2)]) hx hb dX8_visibleField_1 rfl hl (by decide) rfl (fun ls hl => ?_)
  refine lv_aload_n hx hb dX8_visibleField_2 rfl (lv_at hl 0 rfl) ?_
  refine lv_ifnull hx hb dX8_visibleField_3 ?_
  refine lv_aload_n hx hb dX8_visibleField_6 rfl (lv_at hl 1 rfl) ?_
  refine lv_aload_n hx hb dX8_visibleField_7 rfl (lv_at hl 0 rfl) ?_
  refine lv_iload_n hx hb dX8_visibleField_8 rfl (lv_at hl 3 rfl) ?_
  refine clR (va_runV (As := [.ref r1, .int a2]) (rest := []) ⟨hx, hb, hml, hown, hts⟩ (c8_ownField l dC dI h0 q r1 a2 _) (cwV 2 hts gX8_visibleField_X8_ownField rfl rfl rfl (by decide +kernel) ⟨Nat.le_of_ble_eq_true rfl, Nat.le_of_ble_eq_true rfl⟩) ⟨pz_blind, va_recv hK hP (ci := 7) (q0 := 0) rfl rfl, pz_of hP hK hD hN [0] [] rfl (by decide) rfl⟩ rfl rfl hl.1 rfl (lv_room (Nat.le_of_ble_eq_true rfl)) dX8_visibleField_9 ⟨Nat.le_of_ble_eq_true rfl, Nat.le_of_ble_eq_true rfl⟩) hS hP (fun v H locs w1 hP hS => ?_)
  obtain rfl := w1
  refine W.eq (g2 := F0 m 12 ls [.int (-1)]) rfl ?_
  refine lv_istore (lv' := [(4, .int (-1)), (3, .ref r1), (0, .ref h0), (1, .ref r1), (2, .int a2)]) hx hb dX8_visibleField_12 hl (by decide) rfl (fun ls hl => ?_)
  refine lv_iload hx hb dX8_visibleField_14 (lv_at hl 0 rfl) ?_
  refine lv_iconst (v := (-1)) hx hb dX8_visibleField_16 (by decide) ?_
  refine lv_icmp_eq (tgt := 36) hx hb dX8_visibleField_17 (by decide) (fun _ => ?_) (fun h => absurd (by decide) h)
  refine lv_aload_n hx hb dX8_visibleField_36 rfl (lv_at hl 1 rfl) ?_
  refine va_getN (host := "ReflectModels") (D := (dC, dI)) (own := RX8) (ref := "ReflectModels$ClassModel") (index := 264) (ci := 0) (v := .null) (C := RX0) (T := TX0) (N := 12) hx hb hts inX8_visibleField_0 hown hK hP 1 rfl rfl 1 (by decide) (va_Nw.use rfl (hN _ (List.mem_of_getElem? (i := 11) rfl))) (fun _ h9 => h9) rfl dX8_visibleField_37 ?_
  refine lv_astore_nN (lv' := [(3, .null), (4, .int (-1)), (0, .ref h0), (1, .ref r1), (2, .int a2)]) hx hb dX8_visibleField_40 rfl hl (by decide) rfl (fun ls hl => ?_)
  refine lv_goto (tgt := 2) hx hb dX8_visibleField_41 (by decide) ?_
  refine lv_aload_nN hx hb dX8_visibleField_2 rfl (lv_at hl 0 rfl) ?_
  refine lv_ifnullN (tgt := 44) hx hb dX8_visibleField_3 (by decide) ?_
  refine lv_iconst (v := (-1)) hx hb dX8_visibleField_44 (by decide) ?_
  exact W.zret (v := (-1)) (ty := .int) hx hb hr rfl (fun t ht hW => ⟨⟨(some (.int (-1))), rfl, (by first | exact rfl)⟩, hS.F ht⟩) hS.2.2 dX8_visibleField_45

set_option maxHeartbeats 4000000 in
set_option maxRecDepth 100000 in
theorem c8_vmu0 (l : Launch) (dC : Nat → ClassId) (dI : Nat → Nat → Nat) (h0 : Nat) (q : Nat → Nat) (g1 : Nat) (sz : Nat)  : Met l yX8_visibleMethodUpward wsX8_visibleMethodUpward ({ frames := 0, cells := 0, slots := 0, locals := 0 }) (va_Pc [.ref h0, .null, .ref g1] (pz (dC, dI) [] [(h0, .inr (7, [.ref (q 0), .int 1, .ref (q 1), .int 0, .int 0, .ref (q 2), .int 0, .ref (q 3), .int 0, .ref (q 4), .int 0, .int 0, .ref (q 5), .int 0, .int 0]))] sz)) (qR (fun v => (v = some (.int (-1))))) 0 0 nA := by
  refine Met.ofW (cc := cX8_visibleMethodUpward) (maxL := 5) (ret := (some .int)) (by decide) rfl ?_
  intro p e s m args below meth c s₁ B hml hv
  obtain ⟨rfl, hsz, hP, hK, hD, hN⟩ := hv
  have hx := B.exec
  have hb := B.bytes
  have hr := B.returns
  have hts := atoms_spec (ws := wsX8_visibleMethodUpward) B.pre
  have hown : s.vm.findClass RX8 = some m.cls := findClass_of_methodNamed B.named
  have hlocks := B.notSynchronized
  subst hsz
  have hS : va_S nA s.heap s.heap [] := va_S.rf
  have hl := lv_entry ([.ref h0, .null, .ref g1]) (n := 5) (Nat.le_of_ble_eq_true rfl)
  rw [lg_entry_eq]
  generalize (lg_sl ([.ref h0, .null, .ref g1]) ++ List.replicate (5 - (lg_sl ([.ref h0, .null, .ref g1])).length) Slot.unset).toArray = ls at hl ⊢
  have hl : lv_has ls 5 [(0, .ref h0), (1, .null), (2, .ref g1)] := hl
  refine lv_aload_nN hx hb dX8_visibleMethodUpward_0 rfl (lv_at hl 1 rfl) ?_
  refine lv_astore_nN (lv' := [(3, .null), (0, .ref h0), (1, .null), (2, .ref g1)]) hx hb dX8_visibleMethodUpward_1 rfl hl (by decide) rfl (fun ls hl => ?_)
  refine lv_aload_nN hx hb dX8_visibleMethodUpward_2 rfl (lv_at hl 0 rfl) ?_
  refine lv_ifnullN (tgt := 44) hx hb dX8_visibleMethodUpward_3 (by decide) ?_
  refine lv_iconst (v := (-1)) hx hb dX8_visibleMethodUpward_44 (by decide) ?_
  exact W.zret (v := (-1)) (ty := .int) hx hb hr rfl (fun t ht hW => ⟨⟨(some (.int (-1))), rfl, (by first | exact rfl)⟩, hS.F ht⟩) hS.2.2 dX8_visibleMethodUpward_45

set_option maxHeartbeats 4000000 in
set_option maxRecDepth 100000 in
theorem c8_vmu1 (l : Launch) (dC : Nat → ClassId) (dI : Nat → Nat → Nat) (h0 : Nat) (q : Nat → Nat) (r1 g1 : Nat) (sz : Nat)  : Met l yX8_visibleMethodUpward wsX8_visibleMethodUpward ({ frames := 1, cells := 0, slots := 0, locals := 25 }) (va_Pc [.ref h0, .ref r1, .ref g1] (pz (dC, dI) [] [(h0, .inr (7, [.ref (q 0), .int 1, .ref (q 1), .int 0, .int 0, .ref (q 2), .int 0, .ref (q 3), .int 0, .ref (q 4), .int 0, .int 0, .ref (q 5), .int 0, .int 0])), (r1, .inr (0, [.int 0, .null, .int 0, .null, .int 0, .int 0, .int 1, .int 1, .int 0, .int 0, .int 0, .int 0]))] sz)) (qR (fun v => (v = some (.int (-1))))) 0 0 nA := by
  refine Met.ofW (cc := cX8_visibleMethodUpward) (maxL := 5) (ret := (some .int)) (by decide) rfl ?_
  intro p e s m args below meth c s₁ B hml hv
  obtain ⟨rfl, hsz, hP, hK, hD, hN⟩ := hv
  have hx := B.exec
  have hb := B.bytes
  have hr := B.returns
  have hts := atoms_spec (ws := wsX8_visibleMethodUpward) B.pre
  have hown : s.vm.findClass RX8 = some m.cls := findClass_of_methodNamed B.named
  have hlocks := B.notSynchronized
  subst hsz
  have hS : va_S nA s.heap s.heap [] := va_S.rf
  have hl := lv_entry ([.ref h0, .ref r1, .ref g1]) (n := 5) (Nat.le_of_ble_eq_true rfl)
  rw [lg_entry_eq]
  generalize (lg_sl ([.ref h0, .ref r1, .ref g1]) ++ List.replicate (5 - (lg_sl ([.ref h0, .ref r1, .ref g1])).length) Slot.unset).toArray = ls at hl ⊢
  have hl : lv_has ls 5 [(0, .ref h0), (1, .ref r1), (2, .ref g1)] := hl
  refine lv_aload_n hx hb dX8_visibleMethodUpward_0 rfl (lv_at hl 1 rfl) ?_
  refine lv_astore_n (lv' := [(3, .ref r1), (0, .ref h0), (1, .ref r1), (2, .ref g1)]) hx hb dX8_visibleMethodUpward_1 rfl hl (by decide) rfl (fun ls hl => ?_)
  refine lv_aload_n hx hb dX8_visibleMethodUpward_2 rfl (lv_at hl 0 rfl) ?_
  refine lv_ifnull hx hb dX8_visibleMethodUpward_3 ?_
  refine lv_aload_n hx hb dX8_visibleMethodUpward_6 rfl (lv_at hl 1 rfl) ?_
  refine lv_aload_n hx hb dX8_visibleMethodUpward_7 rfl (lv_at hl 0 rfl) ?_
  refine lv_aload_n hx hb dX8_visibleMethodUpward_8 rfl (lv_at hl 3 rfl) ?_
  refine clR (va_runV (As := [.ref r1, .ref g1]) (rest := []) ⟨hx, hb, hml, hown, hts⟩ (c8_ownMethod l dC dI h0 q r1 g1 _) (cwV 2 hts gX8_visibleMethodUpward_X8_ownMethod rfl rfl rfl (by decide +kernel) ⟨Nat.le_of_ble_eq_true rfl, Nat.le_of_ble_eq_true rfl⟩) ⟨pz_blind, va_recv hK hP (ci := 7) (q0 := 0) rfl rfl, pz_of hP hK hD hN [0] [] rfl (by decide) rfl⟩ rfl rfl hl.1 rfl (lv_room (Nat.le_of_ble_eq_true rfl)) dX8_visibleMethodUpward_9 ⟨Nat.le_of_ble_eq_true rfl, Nat.le_of_ble_eq_true rfl⟩) hS hP (fun v H locs w1 hP hS => ?_)
  obtain rfl := w1
  refine W.eq (g2 := F0 m 12 ls [.int (-1)]) rfl ?_
  refine lv_istore (lv' := [(4, .int (-1)), (3, .ref r1), (0, .ref h0), (1, .ref r1), (2, .ref g1)]) hx hb dX8_visibleMethodUpward_12 hl (by decide) rfl (fun ls hl => ?_)
  refine lv_iload hx hb dX8_visibleMethodUpward_14 (lv_at hl 0 rfl) ?_
  refine lv_iconst (v := (-1)) hx hb dX8_visibleMethodUpward_16 (by decide) ?_
  refine lv_icmp_eq (tgt := 36) hx hb dX8_visibleMethodUpward_17 (by decide) (fun _ => ?_) (fun h => absurd (by decide) h)
  refine lv_aload_n hx hb dX8_visibleMethodUpward_36 rfl (lv_at hl 1 rfl) ?_
  refine va_getN (host := "ReflectModels") (D := (dC, dI)) (own := RX8) (ref := "ReflectModels$ClassModel") (index := 264) (ci := 0) (v := .null) (C := RX0) (T := TX0) (N := 12) hx hb hts inX8_visibleMethodUpward_0 hown hK hP 1 rfl rfl 1 (by decide) (va_Nw.use rfl (hN _ (List.mem_of_getElem? (i := 11) rfl))) (fun _ h9 => h9) rfl dX8_visibleMethodUpward_37 ?_
  refine lv_astore_nN (lv' := [(3, .null), (4, .int (-1)), (0, .ref h0), (1, .ref r1), (2, .ref g1)]) hx hb dX8_visibleMethodUpward_40 rfl hl (by decide) rfl (fun ls hl => ?_)
  refine lv_goto (tgt := 2) hx hb dX8_visibleMethodUpward_41 (by decide) ?_
  refine lv_aload_nN hx hb dX8_visibleMethodUpward_2 rfl (lv_at hl 0 rfl) ?_
  refine lv_ifnullN (tgt := 44) hx hb dX8_visibleMethodUpward_3 (by decide) ?_
  refine lv_iconst (v := (-1)) hx hb dX8_visibleMethodUpward_44 (by decide) ?_
  exact W.zret (v := (-1)) (ty := .int) hx hb hr rfl (fun t ht hW => ⟨⟨(some (.int (-1))), rfl, (by first | exact rfl)⟩, hS.F ht⟩) hS.2.2 dX8_visibleMethodUpward_45

set_option maxHeartbeats 4000000 in
set_option maxRecDepth 100000 in
theorem c8_visibleMethod (l : Launch) (dC : Nat → ClassId) (dI : Nat → Nat → Nat) (h0 : Nat) (q : Nat → Nat) (r1 g1 : Nat) (sz : Nat)  : Met l yX8_visibleMethod wsX8_visibleMethod ({ frames := 2, cells := 0, slots := 0, locals := 49 }) (va_Pc [.ref h0, .ref r1, .ref g1] (pz (dC, dI) [] [(h0, .inr (7, [.ref (q 0), .int 1, .ref (q 1), .int 0, .int 0, .ref (q 2), .int 0, .ref (q 3), .int 0, .ref (q 4), .int 0, .int 0, .ref (q 5), .int 0, .int 0])), (r1, .inr (0, [.int 0, .null, .int 0, .null, .int 0, .int 0, .int 1, .int 1, .int 0, .int 0, .int 0, .int 0]))] sz)) (qR (fun v => (v = some (.int (-1))))) 0 0 nA := by
  refine Met.ofW (cc := cX8_visibleMethod) (maxL := 5) (ret := (some .int)) (by decide) rfl ?_
  intro p e s m args below meth c s₁ B hml hv
  obtain ⟨rfl, hsz, hP, hK, hD, hN⟩ := hv
  have hx := B.exec
  have hb := B.bytes
  have hr := B.returns
  have hts := atoms_spec (ws := wsX8_visibleMethod) B.pre
  have hown : s.vm.findClass RX8 = some m.cls := findClass_of_methodNamed B.named
  have hlocks := B.notSynchronized
  subst hsz
  have hS : va_S nA s.heap s.heap [] := va_S.rf
  have hl := lv_entry ([.ref h0, .ref r1, .ref g1]) (n := 5) (Nat.le_of_ble_eq_true rfl)
  rw [lg_entry_eq]
  generalize (lg_sl ([.ref h0, .ref r1, .ref g1]) ++ List.replicate (5 - (lg_sl ([.ref h0, .ref r1, .ref g1])).length) Slot.unset).toArray = ls at hl ⊢
  have hl : lv_has ls 5 [(0, .ref h0), (1, .ref r1), (2, .ref g1)] := hl
  refine lv_aload_n hx hb dX8_visibleMethod_0 rfl (lv_at hl 0 rfl) ?_
  refine lv_aload_n hx hb dX8_visibleMethod_1 rfl (lv_at hl 1 rfl) ?_
  refine lv_aload_n hx hb dX8_visibleMethod_2 rfl (lv_at hl 2 rfl) ?_
  refine clR (va_runV (As := [.ref r1, .ref g1]) (rest := []) ⟨hx, hb, hml, hown, hts⟩ (c8_vmu1 l dC dI h0 q r1 g1 _) (cwV 2 hts gX8_visibleMethod_X8_visibleMethodUpward rfl rfl rfl (by decide +kernel) ⟨Nat.le_of_ble_eq_true rfl, Nat.le_of_ble_eq_true rfl⟩) ⟨pz_blind, va_recv hK hP (ci := 7) (q0 := 0) rfl rfl, pz_of hP hK hD hN [0, 1] [] rfl (by decide) rfl⟩ rfl rfl hl.1 rfl (lv_room (Nat.le_of_ble_eq_true rfl)) dX8_visibleMethod_3 ⟨Nat.le_of_ble_eq_true rfl, Nat.le_of_ble_eq_true rfl⟩) hS hP (fun v H locs w1 hP hS => ?_)
  obtain rfl := w1
  refine W.eq (g2 := F0 m 6 ls [.int (-1)]) rfl ?_
  refine lv_istore_n (lv' := [(3, .int (-1)), (0, .ref h0), (1, .ref r1), (2, .ref g1)]) hx hb dX8_visibleMethod_6 rfl hl (by decide) rfl (fun ls hl => ?_)
  refine lv_aload_n hx hb dX8_visibleMethod_7 rfl (lv_at hl 2 rfl) ?_
  refine lv_astore (lv' := [(4, .ref r1), (3, .int (-1)), (0, .ref h0), (1, .ref r1), (2, .ref g1)]) hx hb dX8_visibleMethod_8 hl (by decide) rfl (fun ls hl => ?_)
  refine lv_aload hx hb dX8_visibleMethod_10 (lv_at hl 0 rfl) ?_
  refine lv_ifnull hx hb dX8_visibleMethod_12 ?_
  refine lv_iload_n hx hb dX8_visibleMethod_15 rfl (lv_at hl 1 rfl) ?_
  refine lv_iconst (v := (-1)) hx hb dX8_visibleMethod_16 (by decide) ?_
  refine lv_icmp_ne (tgt := 41) hx hb dX8_visibleMethod_17 (by decide) (fun h => absurd h (by decide)) (fun _ => ?_)
  refine lv_aload_n hx hb dX8_visibleMethod_20 rfl (lv_at hl 2 rfl) ?_
  refine lv_aload hx hb dX8_visibleMethod_21 (lv_at hl 0 rfl) ?_
  refine va_getN (host := "ReflectModels") (D := (dC, dI)) (own := RX8) (ref := "ReflectModels$ClassModel") (index := 267) (ci := 0) (v := .null) (C := RX0) (T := TX0) (N := 12) hx hb hts inX8_visibleMethod_0 hown hK hP 1 rfl rfl 3 (by decide) (va_Nw.use rfl (hN _ (List.mem_of_getElem? (i := 13) rfl))) (fun _ h9 => h9) rfl dX8_visibleMethod_23 ?_
  refine lv_aload_n hx hb dX8_visibleMethod_26 rfl (lv_at hl 4 rfl) ?_
  refine clR (va_runV (As := [.null, .ref g1]) (rest := []) ⟨hx, hb, hml, hown, hts⟩ (c8_vmu0 l dC dI h0 q g1 _) (cwV 2 hts gX8_visibleMethod_X8_visibleMethodUpward rfl rfl rfl (by decide +kernel) ⟨Nat.le_of_ble_eq_true rfl, Nat.le_of_ble_eq_true rfl⟩) ⟨pz_blind, va_recv hK hP (ci := 7) (q0 := 0) rfl rfl, pz_of hP hK hD hN [0] [] rfl (by decide) rfl⟩ rfl rfl hl.1 rfl (lv_room (Nat.le_of_ble_eq_true rfl)) dX8_visibleMethod_27 ⟨Nat.le_of_ble_eq_true rfl, Nat.le_of_ble_eq_true rfl⟩) hS hP (fun v H locs w2 hP hS => ?_)
  obtain rfl := w2
  refine W.eq (g2 := F0 m 30 ls [.int (-1)]) rfl ?_
  refine lv_istore_n (lv' := [(3, .int (-1)), (4, .ref r1), (0, .ref h0), (1, .ref r1), (2, .ref g1)]) hx hb dX8_visibleMethod_30 rfl hl (by decide) rfl (fun ls hl => ?_)
  refine lv_aload hx hb dX8_visibleMethod_31 (lv_at hl 1 rfl) ?_
  refine va_getN (host := "ReflectModels") (D := (dC, dI)) (own := RX8) (ref := "ReflectModels$ClassModel") (index := 264) (ci := 0) (v := .null) (C := RX0) (T := TX0) (N := 12) hx hb hts inX8_visibleMethod_0 hown hK hP 1 rfl rfl 1 (by decide) (va_Nw.use rfl (hN _ (List.mem_of_getElem? (i := 11) rfl))) (fun _ h9 => h9) rfl dX8_visibleMethod_33 ?_
  refine lv_astoreN (lv' := [(4, .null), (3, .int (-1)), (0, .ref h0), (1, .ref r1), (2, .ref g1)]) hx hb dX8_visibleMethod_36 hl (by decide) rfl (fun ls hl => ?_)
  refine lv_goto (tgt := 10) hx hb dX8_visibleMethod_38 (by decide) ?_
  refine lv_aloadN hx hb dX8_visibleMethod_10 (lv_at hl 0 rfl) ?_
  refine lv_ifnullN (tgt := 41) hx hb dX8_visibleMethod_12 (by decide) ?_
  refine lv_iload_n hx hb dX8_visibleMethod_41 rfl (lv_at hl 1 rfl) ?_
  exact W.zret (v := (-1)) (ty := .int) hx hb hr rfl (fun t ht hW => ⟨⟨(some (.int (-1))), rfl, (by first | exact rfl)⟩, hS.F ht⟩) hS.2.2 dX8_visibleMethod_42

set_option maxHeartbeats 4000000 in
set_option maxRecDepth 100000 in
/-- findField on a fresh object -/
theorem c8_findField (l : Launch) (dC : Nat → ClassId) (dI : Nat → Nat → Nat) (h0 : Nat) (q : Nat → Nat) (cA : Nat → ClassId) (a1 a2 a3 : Int32) (sz : Nat)  : Met l yX8_findField wsX8_findField ({ frames := 2, cells := 0, slots := 0, locals := 49 }) (va_Pc [.ref h0, .int a1, .int a2, .int a3] (pz (dC, dI) [((cA 0), .object "ReflectModels$ClassModel"), ((cA 1), .object "ReflectModels$Member"), ((cA 2), .object "ReflectModels$Handle"), ((cA 3), .object "ReflectModels$Thing"), ((cA 4), .object "ReflectModels$Value")] [(h0, .inr (7, [.ref (q 0), .int 1, .ref (q 1), .int 0, .int 0, .ref (q 2), .int 0, .ref (q 3), .int 0, .ref (q 4), .int 0, .int 0, .ref (q 5), .int 0, .int 0])), ((q 0), .inl ((cA 0), 16, .inr (.inr (.inr (.inr (va_up (fun _ => none) 0 (some (q 6)))))))), ((q 1), .inl ((cA 1), 40, .inr (.inr (.inr (.inr (fun _ => none)))))), ((q 2), .inl ((cA 2), 60, .inr (.inr (.inr (.inr (fun _ => none)))))), ((q 3), .inl ((cA 3), 124, .inr (.inr (.inr (.inr (fun _ => none)))))), ((q 4), .inl ((cA 4), 3, .inr (.inr (.inr (.inr (va_up (va_up (va_up (fun _ => none) 0 (some (q 7))) 1 (some (q 8))) 2 (some (q 9)))))))), ((q 5), .inr (6, [.int 0, .long 0])), ((q 6), .inr (0, [.int 0, .null, .int 0, .null, .int 0, .int 0, .int 1, .int 1, .int 0, .int 0, .int 0, .int 0])), ((q 7), .inr (6, [.int 0, .long 0])), ((q 8), .inr (6, [.int 0, .long 0])), ((q 9), .inr (6, [.int 0, .long 0]))] sz)) (qW (dC, dI) (fun v w1 ty1 => v = some (.int (an_findField a1.toInt a2.toInt)) ∧ w1 = [] ∧ ty1 = []) (va_A [(h0, .inr (7, [.ref (q 0), .int 1, .ref (q 1), .int 0, .int 0, .ref (q 2), .int 0, .ref (q 3), .int 0, .ref (q 4), .int 0, .int 0, .ref (q 5), .int 0, .int 0])), ((q 0), .inl ((cA 0), 16, .inr (.inr (.inr (.inr (va_up (fun _ => none) 0 (some (q 6)))))))), ((q 1), .inl ((cA 1), 40, .inr (.inr (.inr (.inr (fun _ => none)))))), ((q 2), .inl ((cA 2), 60, .inr (.inr (.inr (.inr (fun _ => none)))))), ((q 3), .inl ((cA 3), 124, .inr (.inr (.inr (.inr (fun _ => none)))))), ((q 4), .inl ((cA 4), 3, .inr (.inr (.inr (.inr (va_up (va_up (va_up (fun _ => none) 0 (some (q 7))) 1 (some (q 8))) 2 (some (q 9)))))))), ((q 5), .inr (6, [.int 0, .long 0])), ((q 6), .inr (0, [.int 0, .null, .int 0, .null, .int 0, .int 0, .int 1, .int 1, .int 0, .int 0, .int 0, .int 0])), ((q 7), .inr (6, [.int 0, .long 0])), ((q 8), .inr (6, [.int 0, .long 0])), ((q 9), .inr (6, [.int 0, .long 0]))] sz)) 0 0 (va_A [(h0, .inr (7, [.ref (q 0), .int 1, .ref (q 1), .int 0, .int 0, .ref (q 2), .int 0, .ref (q 3), .int 0, .ref (q 4), .int 0, .int 0, .ref (q 5), .int 0, .int 0])), ((q 0), .inl ((cA 0), 16, .inr (.inr (.inr (.inr (va_up (fun _ => none) 0 (some (q 6)))))))), ((q 1), .inl ((cA 1), 40, .inr (.inr (.inr (.inr (fun _ => none)))))), ((q 2), .inl ((cA 2), 60, .inr (.inr (.inr (.inr (fun _ => none)))))), ((q 3), .inl ((cA 3), 124, .inr (.inr (.inr (.inr (fun _ => none)))))), ((q 4), .inl ((cA 4), 3, .inr (.inr (.inr (.inr (va_up (va_up (va_up (fun _ => none) 0 (some (q 7))) 1 (some (q 8))) 2 (some (q 9)))))))), ((q 5), .inr (6, [.int 0, .long 0])), ((q 6), .inr (0, [.int 0, .null, .int 0, .null, .int 0, .int 0, .int 1, .int 1, .int 0, .int 0, .int 0, .int 0])), ((q 7), .inr (6, [.int 0, .long 0])), ((q 8), .inr (6, [.int 0, .long 0])), ((q 9), .inr (6, [.int 0, .long 0]))] sz) := by
  refine Met.ofW (cc := cX8_findField) (maxL := 4) (ret := (some .int)) (by decide) rfl ?_
  intro p e s m args below meth c s₁ B hml hv
  obtain ⟨rfl, hsz, hP, hK, hD, hN⟩ := hv
  have hx := B.exec
  have hb := B.bytes
  have hr := B.returns
  have hts := atoms_spec (ws := wsX8_findField) B.pre
  have hown : s.vm.findClass RX8 = some m.cls := findClass_of_methodNamed B.named
  have hlocks := B.notSynchronized
  subst hsz
  have hD := hD.self (sz := s.heap.size)
  generalize hAe : va_A [(h0, .inr (7, [.ref (q 0), .int 1, .ref (q 1), .int 0, .int 0, .ref (q 2), .int 0, .ref (q 3), .int 0, .ref (q 4), .int 0, .int 0, .ref (q 5), .int 0, .int 0])), ((q 0), .inl ((cA 0), 16, .inr (.inr (.inr (.inr (va_up (fun _ => none) 0 (some (q 6)))))))), ((q 1), .inl ((cA 1), 40, .inr (.inr (.inr (.inr (fun _ => none)))))), ((q 2), .inl ((cA 2), 60, .inr (.inr (.inr (.inr (fun _ => none)))))), ((q 3), .inl ((cA 3), 124, .inr (.inr (.inr (.inr (fun _ => none)))))), ((q 4), .inl ((cA 4), 3, .inr (.inr (.inr (.inr (va_up (va_up (va_up (fun _ => none) 0 (some (q 7))) 1 (some (q 8))) 2 (some (q 9)))))))), ((q 5), .inr (6, [.int 0, .long 0])), ((q 6), .inr (0, [.int 0, .null, .int 0, .null, .int 0, .int 0, .int 1, .int 1, .int 0, .int 0, .int 0, .int 0])), ((q 7), .inr (6, [.int 0, .long 0])), ((q 8), .inr (6, [.int 0, .long 0])), ((q 9), .inr (6, [.int 0, .long 0]))] s.heap.size = A at hD ⊢
  have hA : ∀ q : Nat, s.heap.size ≤ q → A q := fun q h => by rw [← hAe]; exact Or.inr h
  have hS : va_S A s.heap s.heap [] := va_S.rf
  have hl := lv_entry ([.ref h0, .int a1, .int a2, .int a3]) (n := 4) (Nat.le_of_ble_eq_true rfl)
  rw [lg_entry_eq]
  generalize (lg_sl ([.ref h0, .int a1, .int a2, .int a3]) ++ List.replicate (4 - (lg_sl ([.ref h0, .int a1, .int a2, .int a3])).length) Slot.unset).toArray = ls at hl ⊢
  have hl : lv_has ls 4 [(0, .ref h0), (1, .int a1), (2, .int a2), (3, .int a3)] := hl
  refine lv_aload_n hx hb dX8_findField_0 rfl (lv_at hl 0 rfl) ?_
  refine lv_iload_n hx hb dX8_findField_1 rfl (lv_at hl 1 rfl) ?_
  refine clR (va_runV (As := [.int a1]) (rest := []) ⟨hx, hb, hml, hown, hts⟩ (c8_isClass l dC dI h0 q a1 _) (cwV 1 hts gX8_findField_X8_isClass rfl rfl rfl (by decide +kernel) ⟨Nat.le_of_ble_eq_true rfl, Nat.le_of_ble_eq_true rfl⟩) ⟨pz_blind, va_recv hK hP (ci := 7) (q0 := 0) rfl rfl, pz_of hP hK hD hN [0] [] rfl (by decide) rfl⟩ rfl rfl hl.1 rfl (lv_room (Nat.le_of_ble_eq_true rfl)) dX8_findField_2 ⟨Nat.le_of_ble_eq_true rfl, Nat.le_of_ble_eq_true rfl⟩) hS hP (fun v H locs w2 hP hS => ?_)
  rcases w2 with ⟨rfl, rfl⟩ | ⟨rfl, u1⟩
  · refine W.eq (g2 := F0 m 5 ls [.int 1]) rfl ?_
    refine lv_if_ne (tgt := 11) hx hb dX8_findField_5 (by decide) (fun _ => ?_) (fun h => absurd h (by decide))
    refine lv_iload_n hx hb dX8_findField_11 rfl (lv_at hl 2 rfl) ?_
    refine clR (va_runS (As := [.int a2]) (rest := []) ⟨hx, hb, hml, hown, hts⟩ (c8_isOutsideName l dC dI a2 _) (va_cwS 1 hts gX8_findField_X8_isOutsideName rfl rfl rfl (by decide +kernel) ⟨Nat.le_of_ble_eq_true rfl, Nat.le_of_ble_eq_true rfl⟩) ⟨pz_blind, pz_of hP hK hD hN [] [] rfl (by decide) rfl⟩ rfl rfl hl.1 rfl (lv_room (Nat.le_of_ble_eq_true rfl)) dX8_findField_12 ⟨Nat.le_of_ble_eq_true rfl, Nat.le_of_ble_eq_true rfl⟩) hS hP (fun v H locs w5 hP hS => ?_)
    rcases w5 with ⟨rfl, u3⟩ | ⟨rfl, u4⟩
    · refine W.eq (g2 := F0 m 15 ls [.int 1]) rfl ?_
      refine lv_if_eq (tgt := 21) hx hb dX8_findField_15 (by decide) (fun h => absurd h (by decide)) (fun _ => ?_)
      refine lv_bipush (v := (-3)) hx hb dX8_findField_18 (by decide) ?_
      have hP9 := hP.sub (ws' := []) [] rfl
      have hD9 := hD.sub (ws' := []) [] (by decide) rfl
      have hK9 := hK.sub (tys' := []) [] rfl
      exact W.zret (v := (-3)) (ty := .int) hx hb hr rfl (fun t ht hW => ⟨⟨(some (.int (-3))), rfl, _, _, ⟨congrArg (fun z => some (Value.int z)) (by unfold an_findField; (repeat' split) <;> first | rfl | (exfalso; first | omega | (have kq := kz; omega))), rfl, rfl⟩, by rw [ht]; exact hP9, va_K.moved hW.alike hK9, hD9⟩, hS.F ht⟩) hS.2.2 dX8_findField_20
    · refine W.eq (g2 := F0 m 15 ls [.int 0]) rfl ?_
      refine lv_if_eq (tgt := 21) hx hb dX8_findField_15 (by decide) (fun _ => ?_) (fun h => absurd (by decide) h)
      refine lv_aload_n hx hb dX8_findField_21 rfl (lv_at hl 0 rfl) ?_
      refine lv_iload_n hx hb dX8_findField_22 rfl (lv_at hl 3 rfl) ?_
      refine lv_if_eq (tgt := 40) hx hb dX8_findField_23 (by decide) (fun c6 => ?_) (fun c6 => ?_)
      · have ic6 : a3.toInt = 0 := ieq2 rfl (by decide) c6
        refine lv_aload_n hx hb dX8_findField_40 rfl (lv_at hl 0 rfl) ?_
        refine lv_aload_n hx hb dX8_findField_41 rfl (lv_at hl 0 rfl) ?_
        refine va_get (D := (dC, dI)) (own := RX8) (ref := "ReflectModels") (index := 11) (ci := 7) (v := .ref (q 0)) (C := RX8) (T := TX8) (N := 15) hx hb hts inX8_findField_8 hown hK hP 0 rfl rfl 0 (by decide) (hts (.fieldLink RX8 11 "ReflectModels" "classes" "[LReflectModels$ClassModel;") (by decide +kernel)) (fun _ h9 => h9) rfl dX8_findField_42 ?_
        refine lv_iload_n hx hb dX8_findField_45 rfl (lv_at hl 1 rfl) ?_
        refine va_aldq hx hb hK hP 1 0 rfl rfl (vp_in_iff.mpr ⟨by decide, by decide⟩) dX8_findField_46 ?_
        refine W.eq (g2 := F0 m 47 ls [.ref (q 6), .ref h0, .ref h0]) rfl ?_
        refine lv_iload_n hx hb dX8_findField_47 rfl (lv_at hl 2 rfl) ?_
        refine clR (va_runV (As := [.ref (q 6), .int a2]) (rest := [.ref h0]) ⟨hx, hb, hml, hown, hts⟩ (c8_ownField l dC dI h0 q (q 6) a2 _) (cwV 2 hts gX8_findField_X8_ownField rfl rfl rfl (by decide +kernel) ⟨Nat.le_of_ble_eq_true rfl, Nat.le_of_ble_eq_true rfl⟩) ⟨pz_blind, va_recv hK hP (ci := 7) (q0 := 0) rfl rfl, pz_of hP hK hD hN [0] [] rfl (by decide) rfl⟩ rfl rfl hl.1 rfl (lv_room (Nat.le_of_ble_eq_true rfl)) dX8_findField_48 ⟨Nat.le_of_ble_eq_true rfl, Nat.le_of_ble_eq_true rfl⟩) hS hP (fun v H locs w7 hP hS => ?_)
        obtain rfl := w7
        refine W.eq (g2 := F0 m 51 ls [.int (-1), .ref h0]) rfl ?_
        refine clW (wr := [((q 0), .inl ((cA 0), 16, .inr (.inr (.inr (.inr (va_up (fun _ => none) 0 (some (q 6)))))))), ((q 1), .inl ((cA 1), 40, .inr (.inr (.inr (.inr (fun _ => none)))))), ((q 2), .inl ((cA 2), 60, .inr (.inr (.inr (.inr (fun _ => none)))))), ((q 3), .inl ((cA 3), 124, .inr (.inr (.inr (.inr (fun _ => none)))))), ((q 4), .inl ((cA 4), 3, .inr (.inr (.inr (.inr (va_up (va_up (va_up (fun _ => none) 0 (some (q 7))) 1 (some (q 8))) 2 (some (q 9)))))))), ((q 5), .inr (6, [.int 0, .long 0])), ((q 6), .inr (0, [.int 0, .null, .int 0, .null, .int 0, .int 0, .int 1, .int 1, .int 0, .int 0, .int 0, .int 0])), ((q 7), .inr (6, [.int 0, .long 0])), ((q 8), .inr (6, [.int 0, .long 0])), ((q 9), .inr (6, [.int 0, .long 0]))]) [0] [1, 2, 3, 4, 5, 6, 7, 8, 9, 10] (va_runV (As := [.int (-1)]) (rest := []) ⟨hx, hb, hml, hown, hts⟩ (c8_addHandle l dC dI h0 q _) (cwV 1 hts gX8_findField_X8_addHandle rfl rfl rfl (by decide +kernel) ⟨Nat.le_of_ble_eq_true rfl, Nat.le_of_ble_eq_true rfl⟩) ⟨pz_blind, va_recv hK hP (ci := 7) (q0 := 0) rfl rfl, pz_of hP hK hD hN [0] [] rfl (by decide) rfl⟩ rfl rfl hl.1 rfl (lv_room (Nat.le_of_ble_eq_true rfl)) dX8_findField_51 ⟨Nat.le_of_ble_eq_true rfl, Nat.le_of_ble_eq_true rfl⟩) hS hP hD hK hA rfl rfl (by decide) (by decide) (fun v w1 ty1 H locs w8 hP hD hK hS => ?_)
        obtain ⟨rfl, rfl, rfl⟩ := w8
        refine W.eq (g2 := F0 m 54 ls [.int (-11)]) rfl ?_
        have hP : va_P (dC, dI) vwCl [((q 0), .inl ((cA 0), 16, .inr (.inr (.inr (.inr (va_up (fun _ => none) 0 (some (q 6)))))))), ((q 1), .inl ((cA 1), 40, .inr (.inr (.inr (.inr (fun _ => none)))))), ((q 2), .inl ((cA 2), 60, .inr (.inr (.inr (.inr (fun _ => none)))))), ((q 3), .inl ((cA 3), 124, .inr (.inr (.inr (.inr (fun _ => none)))))), ((q 4), .inl ((cA 4), 3, .inr (.inr (.inr (.inr (va_up (va_up (va_up (fun _ => none) 0 (some (q 7))) 1 (some (q 8))) 2 (some (q 9)))))))), ((q 5), .inr (6, [.int 0, .long 0])), ((q 6), .inr (0, [.int 0, .null, .int 0, .null, .int 0, .int 0, .int 1, .int 1, .int 0, .int 0, .int 0, .int 0])), ((q 7), .inr (6, [.int 0, .long 0])), ((q 8), .inr (6, [.int 0, .long 0])), ((q 9), .inr (6, [.int 0, .long 0]))] H := hP
        have hD : va_D A [((q 0), .inl ((cA 0), 16, .inr (.inr (.inr (.inr (va_up (fun _ => none) 0 (some (q 6)))))))), ((q 1), .inl ((cA 1), 40, .inr (.inr (.inr (.inr (fun _ => none)))))), ((q 2), .inl ((cA 2), 60, .inr (.inr (.inr (.inr (fun _ => none)))))), ((q 3), .inl ((cA 3), 124, .inr (.inr (.inr (.inr (fun _ => none)))))), ((q 4), .inl ((cA 4), 3, .inr (.inr (.inr (.inr (va_up (va_up (va_up (fun _ => none) 0 (some (q 7))) 1 (some (q 8))) 2 (some (q 9)))))))), ((q 5), .inr (6, [.int 0, .long 0])), ((q 6), .inr (0, [.int 0, .null, .int 0, .null, .int 0, .int 0, .int 1, .int 1, .int 0, .int 0, .int 0, .int 0])), ((q 7), .inr (6, [.int 0, .long 0])), ((q 8), .inr (6, [.int 0, .long 0])), ((q 9), .inr (6, [.int 0, .long 0]))] := hD
        have hK : va_K (dC, dI) vwCl [((cA 0), .object "ReflectModels$ClassModel"), ((cA 1), .object "ReflectModels$Member"), ((cA 2), .object "ReflectModels$Handle"), ((cA 3), .object "ReflectModels$Thing"), ((cA 4), .object "ReflectModels$Value")] s := hK
        refine W.cs (cells' := 0) (slots' := 0) rfl rfl ?_
        have hP9 := hP.sub (ws' := []) [] rfl
        have hD9 := hD.sub (ws' := []) [] (by decide) rfl
        have hK9 := hK.sub (tys' := []) [] rfl
        exact W.zret (v := (-11)) (ty := .int) hx hb hr rfl (fun t ht hW => ⟨⟨(some (.int (-11))), rfl, _, _, ⟨congrArg (fun z => some (Value.int z)) (by unfold an_findField; (repeat' split) <;> first | rfl | (exfalso; first | omega | (have kq := kz; omega))), rfl, rfl⟩, by rw [ht]; exact hP9, va_K.moved hW.alike hK9, hD9⟩, hS.F ht⟩) hS.2.2 dX8_findField_54
      · have ic6 : a3.toInt ≠ 0 := ine2 rfl (by decide) c6
        refine lv_aload_n hx hb dX8_findField_26 rfl (lv_at hl 0 rfl) ?_
        refine lv_aload_n hx hb dX8_findField_27 rfl (lv_at hl 0 rfl) ?_
        refine va_get (D := (dC, dI)) (own := RX8) (ref := "ReflectModels") (index := 11) (ci := 7) (v := .ref (q 0)) (C := RX8) (T := TX8) (N := 15) hx hb hts inX8_findField_8 hown hK hP 0 rfl rfl 0 (by decide) (hts (.fieldLink RX8 11 "ReflectModels" "classes" "[LReflectModels$ClassModel;") (by decide +kernel)) (fun _ h9 => h9) rfl dX8_findField_28 ?_
        refine lv_iload_n hx hb dX8_findField_31 rfl (lv_at hl 1 rfl) ?_
        refine va_aldq hx hb hK hP 1 0 rfl rfl (vp_in_iff.mpr ⟨by decide, by decide⟩) dX8_findField_32 ?_
        refine W.eq (g2 := F0 m 33 ls [.ref (q 6), .ref h0, .ref h0]) rfl ?_
        refine lv_iload_n hx hb dX8_findField_33 rfl (lv_at hl 2 rfl) ?_
        refine clR (va_runV (As := [.ref (q 6), .int a2]) (rest := [.ref h0]) ⟨hx, hb, hml, hown, hts⟩ (c8_visibleField l dC dI h0 q (q 6) a2 _) (cwV 2 hts gX8_findField_X8_visibleField rfl rfl rfl (by decide +kernel) ⟨Nat.le_of_ble_eq_true rfl, Nat.le_of_ble_eq_true rfl⟩) ⟨pz_blind, va_recv hK hP (ci := 7) (q0 := 0) rfl rfl, pz_of hP hK hD hN [0, 7] [] rfl (by decide) rfl⟩ rfl rfl hl.1 rfl (lv_room (Nat.le_of_ble_eq_true rfl)) dX8_findField_34 ⟨Nat.le_of_ble_eq_true rfl, Nat.le_of_ble_eq_true rfl⟩) hS hP (fun v H locs w9 hP hS => ?_)
        obtain rfl := w9
        refine W.eq (g2 := F0 m 37 ls [.int (-1), .ref h0]) rfl ?_
        refine lv_goto (tgt := 51) hx hb dX8_findField_37 (by decide) ?_
        refine clW (wr := [((q 0), .inl ((cA 0), 16, .inr (.inr (.inr (.inr (va_up (fun _ => none) 0 (some (q 6)))))))), ((q 1), .inl ((cA 1), 40, .inr (.inr (.inr (.inr (fun _ => none)))))), ((q 2), .inl ((cA 2), 60, .inr (.inr (.inr (.inr (fun _ => none)))))), ((q 3), .inl ((cA 3), 124, .inr (.inr (.inr (.inr (fun _ => none)))))), ((q 4), .inl ((cA 4), 3, .inr (.inr (.inr (.inr (va_up (va_up (va_up (fun _ => none) 0 (some (q 7))) 1 (some (q 8))) 2 (some (q 9)))))))), ((q 5), .inr (6, [.int 0, .long 0])), ((q 6), .inr (0, [.int 0, .null, .int 0, .null, .int 0, .int 0, .int 1, .int 1, .int 0, .int 0, .int 0, .int 0])), ((q 7), .inr (6, [.int 0, .long 0])), ((q 8), .inr (6, [.int 0, .long 0])), ((q 9), .inr (6, [.int 0, .long 0]))]) [0] [1, 2, 3, 4, 5, 6, 7, 8, 9, 10] (va_runV (As := [.int (-1)]) (rest := []) ⟨hx, hb, hml, hown, hts⟩ (c8_addHandle l dC dI h0 q _) (cwV 1 hts gX8_findField_X8_addHandle rfl rfl rfl (by decide +kernel) ⟨Nat.le_of_ble_eq_true rfl, Nat.le_of_ble_eq_true rfl⟩) ⟨pz_blind, va_recv hK hP (ci := 7) (q0 := 0) rfl rfl, pz_of hP hK hD hN [0] [] rfl (by decide) rfl⟩ rfl rfl hl.1 rfl (lv_room (Nat.le_of_ble_eq_true rfl)) dX8_findField_51 ⟨Nat.le_of_ble_eq_true rfl, Nat.le_of_ble_eq_true rfl⟩) hS hP hD hK hA rfl rfl (by decide) (by decide) (fun v w1 ty1 H locs w10 hP hD hK hS => ?_)
        obtain ⟨rfl, rfl, rfl⟩ := w10
        refine W.eq (g2 := F0 m 54 ls [.int (-11)]) rfl ?_
        have hP : va_P (dC, dI) vwCl [((q 0), .inl ((cA 0), 16, .inr (.inr (.inr (.inr (va_up (fun _ => none) 0 (some (q 6)))))))), ((q 1), .inl ((cA 1), 40, .inr (.inr (.inr (.inr (fun _ => none)))))), ((q 2), .inl ((cA 2), 60, .inr (.inr (.inr (.inr (fun _ => none)))))), ((q 3), .inl ((cA 3), 124, .inr (.inr (.inr (.inr (fun _ => none)))))), ((q 4), .inl ((cA 4), 3, .inr (.inr (.inr (.inr (va_up (va_up (va_up (fun _ => none) 0 (some (q 7))) 1 (some (q 8))) 2 (some (q 9)))))))), ((q 5), .inr (6, [.int 0, .long 0])), ((q 6), .inr (0, [.int 0, .null, .int 0, .null, .int 0, .int 0, .int 1, .int 1, .int 0, .int 0, .int 0, .int 0])), ((q 7), .inr (6, [.int 0, .long 0])), ((q 8), .inr (6, [.int 0, .long 0])), ((q 9), .inr (6, [.int 0, .long 0]))] H := hP
        have hD : va_D A [((q 0), .inl ((cA 0), 16, .inr (.inr (.inr (.inr (va_up (fun _ => none) 0 (some (q 6)))))))), ((q 1), .inl ((cA 1), 40, .inr (.inr (.inr (.inr (fun _ => none)))))), ((q 2), .inl ((cA 2), 60, .inr (.inr (.inr (.inr (fun _ => none)))))), ((q 3), .inl ((cA 3), 124, .inr (.inr (.inr (.inr (fun _ => none)))))), ((q 4), .inl ((cA 4), 3, .inr (.inr (.inr (.inr (va_up (va_up (va_up (fun _ => none) 0 (some (q 7))) 1 (some (q 8))) 2 (some (q 9)))))))), ((q 5), .inr (6, [.int 0, .long 0])), ((q 6), .inr (0, [.int 0, .null, .int 0, .null, .int 0, .int 0, .int 1, .int 1, .int 0, .int 0, .int 0, .int 0])), ((q 7), .inr (6, [.int 0, .long 0])), ((q 8), .inr (6, [.int 0, .long 0])), ((q 9), .inr (6, [.int 0, .long 0]))] := hD
        have hK : va_K (dC, dI) vwCl [((cA 0), .object "ReflectModels$ClassModel"), ((cA 1), .object "ReflectModels$Member"), ((cA 2), .object "ReflectModels$Handle"), ((cA 3), .object "ReflectModels$Thing"), ((cA 4), .object "ReflectModels$Value")] s := hK
        refine W.cs (cells' := 0) (slots' := 0) rfl rfl ?_
        have hP9 := hP.sub (ws' := []) [] rfl
        have hD9 := hD.sub (ws' := []) [] (by decide) rfl
        have hK9 := hK.sub (tys' := []) [] rfl
        exact W.zret (v := (-11)) (ty := .int) hx hb hr rfl (fun t ht hW => ⟨⟨(some (.int (-11))), rfl, _, _, ⟨congrArg (fun z => some (Value.int z)) (by unfold an_findField; (repeat' split) <;> first | rfl | (exfalso; first | omega | (have kq := kz; omega))), rfl, rfl⟩, by rw [ht]; exact hP9, va_K.moved hW.alike hK9, hD9⟩, hS.F ht⟩) hS.2.2 dX8_findField_54
  · refine W.eq (g2 := F0 m 5 ls [.int 0]) rfl ?_
    refine lv_if_ne (tgt := 11) hx hb dX8_findField_5 (by decide) (fun h => absurd h (by decide)) (fun _ => ?_)
    refine lv_bipush (v := (-2)) hx hb dX8_findField_8 (by decide) ?_
    have hP9 := hP.sub (ws' := []) [] rfl
    have hD9 := hD.sub (ws' := []) [] (by decide) rfl
    have hK9 := hK.sub (tys' := []) [] rfl
    exact W.zret (v := (-2)) (ty := .int) hx hb hr rfl (fun t ht hW => ⟨⟨(some (.int (-2))), rfl, _, _, ⟨congrArg (fun z => some (Value.int z)) (by unfold an_findField; (repeat' split) <;> first | rfl | (exfalso; first | omega | (have kq := kz; omega))), rfl, rfl⟩, by rw [ht]; exact hP9, va_K.moved hW.alike hK9, hD9⟩, hS.F ht⟩) hS.2.2 dX8_findField_10

set_option maxHeartbeats 4000000 in
set_option maxRecDepth 100000 in
theorem c5_init (l : Launch) (dC : Nat → ClassId) (dI : Nat → Nat → Nat) (g1 : Nat) (a1 a2 a3 a4 : Int32) (sz : Nat)  : Met l yX5_init wsX5_init ({ frames := 1, cells := 0, slots := 0, locals := 12 }) (va_Pc [.ref g1, .int a1, .int a2, .int a3, .int a4] (pz (dC, dI) [] [(g1, .inr (4, [.int 0, .int 0, .int 0, .int 0]))] sz)) (qW (dC, dI) (fun v w1 ty1 => v = none ∧ ∃ f1 f2 : Int32, (((0 < a2.toInt ∧ f1.toInt = a3.toInt) ∨ (a2.toInt ≤ 0 ∧ f1.toInt = -1)) ∧ ((1 < a2.toInt ∧ f2.toInt = a4.toInt) ∨ (a2.toInt ≤ 1 ∧ f2.toInt = -1))) ∧ w1 = [(g1, .inr (4, [.int a1, .int a2, .int f1, .int f2]))] ∧ ty1 = []) (va_A [(g1, .inr (4, [.int 0, .int 0, .int 0, .int 0]))] sz)) 0 0 (va_A [(g1, .inr (4, [.int 0, .int 0, .int 0, .int 0]))] sz) := by
  refine Met.ofW (cc := cX5_init) (maxL := 5) (ret := none) (by decide) rfl ?_
  intro p e s m args below meth c s₁ B hml hv
  obtain ⟨rfl, hsz, hP, hK, hD, hN⟩ := hv
  have hx := B.exec
  have hb := B.bytes
  have hr := B.returns
  have hts := atoms_spec (ws := wsX5_init) B.pre
  have hown : s.vm.findClass RX5 = some m.cls := findClass_of_methodNamed B.named
  have hlocks := B.notSynchronized
  have hin : meth.name = "<init>" := (name_of_methodNamed B.named B.method).1
  subst hsz
  have hD := hD.self (sz := s.heap.size)
  generalize hAe : va_A [(g1, .inr (4, [.int 0, .int 0, .int 0, .int 0]))] s.heap.size = A at hD ⊢
  have hA : ∀ q : Nat, s.heap.size ≤ q → A q := fun q h => by rw [← hAe]; exact Or.inr h
  have hS : va_S A s.heap s.heap [] := va_S.rf
  have hl := lv_entry ([.ref g1, .int a1, .int a2, .int a3, .int a4]) (n := 5) (Nat.le_of_ble_eq_true rfl)
  rw [lg_entry_eq]
  generalize (lg_sl ([.ref g1, .int a1, .int a2, .int a3, .int a4]) ++ List.replicate (5 - (lg_sl ([.ref g1, .int a1, .int a2, .int a3, .int a4])).length) Slot.unset).toArray = ls at hl ⊢
  have hl : lv_has ls 5 [(0, .ref g1), (1, .int a1), (2, .int a2), (3, .int a3), (4, .int a4)] := hl
  refine lv_aload_n hx hb dX5_init_0 rfl (lv_at hl 0 rfl) ?_
  refine W.objInit hx hb hown (hts (.methodLink RX5 3 objectInit) (by decide +kernel)) (hts (.instanceMethod objectInit) (by decide +kernel)) (hts (.code objectInit ⟨#[0xb1]⟩ 1 none) (by decide +kernel)) rfl (by rw [hml]; exact hl.1) rfl dX5_init_1 (Nat.le_of_ble_eq_true rfl) (Nat.le_of_ble_eq_true rfl) ?_
  refine W.eq (g2 := F0 m 4 ls []) rfl ?_
  refine lv_aload_n hx hb dX5_init_4 rfl (lv_at hl 0 rfl) ?_
  refine lv_iload_n hx hb dX5_init_5 rfl (lv_at hl 1 rfl) ?_
  refine va_putF (D := (dC, dI)) (own := RX5) (ref := "ReflectModels$Signature") (index := 9) (ci := 4) (v := .int a1) (ty := .int) (C := RX5) (T := TX5) (N := 4) hx hb hts inX5_init_5 tyX5 tyX5_ok nmX5 hown hK hP hD hS 0 rfl rfl 0 (by decide) (hts (.fieldLink RX5 9 "ReflectModels$Signature" "name" "I") (by decide +kernel)) (fun _ h9 => h9) rfl hin rfl (by decide +kernel) rfl rfl (Nat.le_of_ble_eq_true rfl) dX5_init_6 (fun H locs hP hD hS => ?_)
  have hP : va_P (dC, dI) vwCl [(g1, .inr (4, [.int a1, .int 0, .int 0, .int 0]))] H := hP
  have hD : va_D A [(g1, .inr (4, [.int a1, .int 0, .int 0, .int 0]))] := hD
  refine lv_aload_n hx hb dX5_init_9 rfl (lv_at hl 0 rfl) ?_
  refine lv_iload_n hx hb dX5_init_10 rfl (lv_at hl 2 rfl) ?_
  refine va_putF (D := (dC, dI)) (own := RX5) (ref := "ReflectModels$Signature") (index := 15) (ci := 4) (v := .int a2) (ty := .int) (C := RX5) (T := TX5) (N := 4) hx hb hts inX5_init_5 tyX5 tyX5_ok nmX5 hown hK hP hD hS 0 rfl rfl 1 (by decide) (hts (.fieldLink RX5 15 "ReflectModels$Signature" "n" "I") (by decide +kernel)) (fun _ h9 => h9) rfl hin rfl (by decide +kernel) rfl rfl (Nat.le_of_ble_eq_true rfl) dX5_init_11 (fun H locs hP hD hS => ?_)
  have hP : va_P (dC, dI) vwCl [(g1, .inr (4, [.int a1, .int a2, .int 0, .int 0]))] H := hP
  have hD : va_D A [(g1, .inr (4, [.int a1, .int a2, .int 0, .int 0]))] := hD
  refine lv_aload_n hx hb dX5_init_14 rfl (lv_at hl 0 rfl) ?_
  refine lv_iload_n hx hb dX5_init_15 rfl (lv_at hl 2 rfl) ?_
  refine lv_if_le (tgt := 23) hx hb dX5_init_16 (by decide) (fun c1 => ?_) (fun c1 => ?_)
  · have ic1 : a2.toInt ≤ 0 := ile2 rfl (by decide) c1
    refine lv_iconst (v := (-1)) hx hb dX5_init_23 (by decide) ?_
    refine va_putF (D := (dC, dI)) (own := RX5) (ref := "ReflectModels$Signature") (index := 18) (ci := 4) (v := .int (-1)) (ty := .int) (C := RX5) (T := TX5) (N := 4) hx hb hts inX5_init_5 tyX5 tyX5_ok nmX5 hown hK hP hD hS 0 rfl rfl 2 (by decide) (hts (.fieldLink RX5 18 "ReflectModels$Signature" "first" "I") (by decide +kernel)) (fun _ h9 => h9) rfl hin rfl (by decide +kernel) rfl rfl (Nat.le_of_ble_eq_true rfl) dX5_init_24 (fun H locs hP hD hS => ?_)
    have hP : va_P (dC, dI) vwCl [(g1, .inr (4, [.int a1, .int a2, .int (-1), .int 0]))] H := hP
    have hD : va_D A [(g1, .inr (4, [.int a1, .int a2, .int (-1), .int 0]))] := hD
    refine lv_aload_n hx hb dX5_init_27 rfl (lv_at hl 0 rfl) ?_
    refine lv_iload_n hx hb dX5_init_28 rfl (lv_at hl 2 rfl) ?_
    refine lv_iconst (v := 1) hx hb dX5_init_29 (by decide) ?_
    refine lv_icmp_le (tgt := 38) hx hb dX5_init_30 (by decide) (fun c2 => ?_) (fun c2 => ?_)
    · have ic2 : a2.toInt ≤ 1 := ile2 rfl (by decide) c2
      refine lv_iconst (v := (-1)) hx hb dX5_init_38 (by decide) ?_
      refine va_putF (D := (dC, dI)) (own := RX5) (ref := "ReflectModels$Signature") (index := 21) (ci := 4) (v := .int (-1)) (ty := .int) (C := RX5) (T := TX5) (N := 4) hx hb hts inX5_init_5 tyX5 tyX5_ok nmX5 hown hK hP hD hS 0 rfl rfl 3 (by decide) (hts (.fieldLink RX5 21 "ReflectModels$Signature" "second" "I") (by decide +kernel)) (fun _ h9 => h9) rfl hin rfl (by decide +kernel) rfl rfl (Nat.le_of_ble_eq_true rfl) dX5_init_39 (fun H locs hP hD hS => ?_)
      have hP : va_P (dC, dI) vwCl [(g1, .inr (4, [.int a1, .int a2, .int (-1), .int (-1)]))] H := hP
      have hD : va_D A [(g1, .inr (4, [.int a1, .int a2, .int (-1), .int (-1)]))] := hD
      have hP9 := hP.sub (ws' := [(g1, .inr (4, [.int a1, .int a2, .int (-1), .int (-1)]))]) [0] rfl
      have hD9 := hD.sub (ws' := [(g1, .inr (4, [.int a1, .int a2, .int (-1), .int (-1)]))]) [0] (by decide) rfl
      have hK9 := hK.sub (tys' := []) [] rfl
      exact W.vret hx hb hr (fun t ht hW => ⟨⟨none, rfl, _, _, ⟨rfl, (-1), (-1), ⟨(by first | omega | (have kq := kz; omega)), (by first | omega | (have kq := kz; omega))⟩, rfl, rfl⟩, by rw [ht]; exact hP9, va_K.moved hW.alike hK9, hD9⟩, hS.F ht⟩) hS.2.2 dX5_init_42
    · have ic2 : 1 < a2.toInt := inle2 rfl (by decide) c2
      exfalso; first | omega | (have kq := kz; omega)
  · have ic1 : 0 < a2.toInt := inle2 rfl (by decide) c1
    refine lv_iload_n hx hb dX5_init_19 rfl (lv_at hl 3 rfl) ?_
    refine lv_goto (tgt := 24) hx hb dX5_init_20 (by decide) ?_
    refine va_putF (D := (dC, dI)) (own := RX5) (ref := "ReflectModels$Signature") (index := 18) (ci := 4) (v := .int a3) (ty := .int) (C := RX5) (T := TX5) (N := 4) hx hb hts inX5_init_5 tyX5 tyX5_ok nmX5 hown hK hP hD hS 0 rfl rfl 2 (by decide) (hts (.fieldLink RX5 18 "ReflectModels$Signature" "first" "I") (by decide +kernel)) (fun _ h9 => h9) rfl hin rfl (by decide +kernel) rfl rfl (Nat.le_of_ble_eq_true rfl) dX5_init_24 (fun H locs hP hD hS => ?_)
    have hP : va_P (dC, dI) vwCl [(g1, .inr (4, [.int a1, .int a2, .int a3, .int 0]))] H := hP
    have hD : va_D A [(g1, .inr (4, [.int a1, .int a2, .int a3, .int 0]))] := hD
    refine lv_aload_n hx hb dX5_init_27 rfl (lv_at hl 0 rfl) ?_
    refine lv_iload_n hx hb dX5_init_28 rfl (lv_at hl 2 rfl) ?_
    refine lv_iconst (v := 1) hx hb dX5_init_29 (by decide) ?_
    refine lv_icmp_le (tgt := 38) hx hb dX5_init_30 (by decide) (fun c3 => ?_) (fun c3 => ?_)
    · have ic3 : a2.toInt ≤ 1 := ile2 rfl (by decide) c3
      refine lv_iconst (v := (-1)) hx hb dX5_init_38 (by decide) ?_
      refine va_putF (D := (dC, dI)) (own := RX5) (ref := "ReflectModels$Signature") (index := 21) (ci := 4) (v := .int (-1)) (ty := .int) (C := RX5) (T := TX5) (N := 4) hx hb hts inX5_init_5 tyX5 tyX5_ok nmX5 hown hK hP hD hS 0 rfl rfl 3 (by decide) (hts (.fieldLink RX5 21 "ReflectModels$Signature" "second" "I") (by decide +kernel)) (fun _ h9 => h9) rfl hin rfl (by decide +kernel) rfl rfl (Nat.le_of_ble_eq_true rfl) dX5_init_39 (fun H locs hP hD hS => ?_)
      have hP : va_P (dC, dI) vwCl [(g1, .inr (4, [.int a1, .int a2, .int a3, .int (-1)]))] H := hP
      have hD : va_D A [(g1, .inr (4, [.int a1, .int a2, .int a3, .int (-1)]))] := hD
      have hP9 := hP.sub (ws' := [(g1, .inr (4, [.int a1, .int a2, .int a3, .int (-1)]))]) [0] rfl
      have hD9 := hD.sub (ws' := [(g1, .inr (4, [.int a1, .int a2, .int a3, .int (-1)]))]) [0] (by decide) rfl
      have hK9 := hK.sub (tys' := []) [] rfl
      exact W.vret hx hb hr (fun t ht hW => ⟨⟨none, rfl, _, _, ⟨rfl, a3, (-1), ⟨(by first | omega | (have kq := kz; omega)), (by first | omega | (have kq := kz; omega))⟩, rfl, rfl⟩, by rw [ht]; exact hP9, va_K.moved hW.alike hK9, hD9⟩, hS.F ht⟩) hS.2.2 dX5_init_42
    · have ic3 : 1 < a2.toInt := inle2 rfl (by decide) c3
      refine lv_iload hx hb dX5_init_33 (lv_at hl 4 rfl) ?_
      refine lv_goto (tgt := 39) hx hb dX5_init_35 (by decide) ?_
      refine va_putF (D := (dC, dI)) (own := RX5) (ref := "ReflectModels$Signature") (index := 21) (ci := 4) (v := .int a4) (ty := .int) (C := RX5) (T := TX5) (N := 4) hx hb hts inX5_init_5 tyX5 tyX5_ok nmX5 hown hK hP hD hS 0 rfl rfl 3 (by decide) (hts (.fieldLink RX5 21 "ReflectModels$Signature" "second" "I") (by decide +kernel)) (fun _ h9 => h9) rfl hin rfl (by decide +kernel) rfl rfl (Nat.le_of_ble_eq_true rfl) dX5_init_39 (fun H locs hP hD hS => ?_)
      have hP : va_P (dC, dI) vwCl [(g1, .inr (4, [.int a1, .int a2, .int a3, .int a4]))] H := hP
      have hD : va_D A [(g1, .inr (4, [.int a1, .int a2, .int a3, .int a4]))] := hD
      have hP9 := hP.sub (ws' := [(g1, .inr (4, [.int a1, .int a2, .int a3, .int a4]))]) [0] rfl
      have hD9 := hD.sub (ws' := [(g1, .inr (4, [.int a1, .int a2, .int a3, .int a4]))]) [0] (by decide) rfl
      have hK9 := hK.sub (tys' := []) [] rfl
      exact W.vret hx hb hr (fun t ht hW => ⟨⟨none, rfl, _, _, ⟨rfl, a3, a4, ⟨(by first | omega | (have kq := kz; omega)), (by first | omega | (have kq := kz; omega))⟩, rfl, rfl⟩, by rw [ht]; exact hP9, va_K.moved hW.alike hK9, hD9⟩, hS.F ht⟩) hS.2.2 dX5_init_42

set_option maxHeartbeats 4000000 in
set_option maxRecDepth 100000 in
theorem c8_hasMissingClass (l : Launch) (dC : Nat → ClassId) (dI : Nat → Nat → Nat) (h0 : Nat) (q : Nat → Nat) (g1 : Nat) (a1 a2 f1 f2 : Int32) (sz : Nat)  : Met l yX8_hasMissingClass wsX8_hasMissingClass ({ frames := 1, cells := 0, slots := 0, locals := 21 }) (va_Pc [.ref h0, .ref g1] (pz (dC, dI) [] [(h0, .inr (7, [.ref (q 0), .int 1, .ref (q 1), .int 0, .int 0, .ref (q 2), .int 0, .ref (q 3), .int 0, .ref (q 4), .int 0, .int 0, .ref (q 5), .int 0, .int 0])), (g1, .inr (4, [.int a1, .int a2, .int f1, .int f2]))] sz)) (qR (fun v => (v = some (.int 1) ∧ (1 ≤ f1.toInt ∨ 1 ≤ f2.toInt)) ∨ (v = some (.int 0) ∧ (f1.toInt < 1 ∧ f2.toInt < 1)))) 0 0 nA := by
  refine Met.ofW (cc := cX8_hasMissingClass) (maxL := 2) (ret := (some .boolean)) (by decide) rfl ?_
  intro p e s m args below meth c s₁ B hml hv
  obtain ⟨rfl, hsz, hP, hK, hD, hN⟩ := hv
  have hx := B.exec
  have hb := B.bytes
  have hr := B.returns
  have hts := atoms_spec (ws := wsX8_hasMissingClass) B.pre
  have hown : s.vm.findClass RX8 = some m.cls := findClass_of_methodNamed B.named
  have hlocks := B.notSynchronized
  subst hsz
  have hS : va_S nA s.heap s.heap [] := va_S.rf
  have hl := lv_entry ([.ref h0, .ref g1]) (n := 2) (Nat.le_of_ble_eq_true rfl)
  rw [lg_entry_eq]
  generalize (lg_sl ([.ref h0, .ref g1]) ++ List.replicate (2 - (lg_sl ([.ref h0, .ref g1])).length) Slot.unset).toArray = ls at hl ⊢
  have hl : lv_has ls 2 [(0, .ref h0), (1, .ref g1)] := hl
  refine lv_aload_n hx hb dX8_hasMissingClass_0 rfl (lv_at hl 0 rfl) ?_
  refine lv_aload_n hx hb dX8_hasMissingClass_1 rfl (lv_at hl 1 rfl) ?_
  refine va_getN (host := "ReflectModels") (D := (dC, dI)) (own := RX8) (ref := "ReflectModels$Signature") (index := 287) (ci := 4) (v := .int f1) (C := RX5) (T := TX5) (N := 4) hx hb hts inX8_hasMissingClass_5 hown hK hP 1 rfl rfl 2 (by decide) (va_Nw.use rfl (hN _ (List.mem_of_getElem? (i := 31) rfl))) (fun _ h9 => h9) rfl dX8_hasMissingClass_2 ?_
  refine clR (va_runV (As := [.int f1]) (rest := []) ⟨hx, hb, hml, hown, hts⟩ (c8_isMissingClass l dC dI h0 q f1 _) (cwV 1 hts gX8_hasMissingClass_X8_isMissingClass rfl rfl rfl (by decide +kernel) ⟨Nat.le_of_ble_eq_true rfl, Nat.le_of_ble_eq_true rfl⟩) ⟨pz_blind, va_recv hK hP (ci := 7) (q0 := 0) rfl rfl, pz_of hP hK hD hN [0] [] rfl (by decide) rfl⟩ rfl rfl hl.1 rfl (lv_room (Nat.le_of_ble_eq_true rfl)) dX8_hasMissingClass_5 ⟨Nat.le_of_ble_eq_true rfl, Nat.le_of_ble_eq_true rfl⟩) hS hP (fun v H locs w3 hP hS => ?_)
  rcases w3 with ⟨rfl, u1⟩ | ⟨rfl, u2⟩
  · refine W.eq (g2 := F0 m 8 ls [.int 1]) rfl ?_
    refine lv_if_ne (tgt := 22) hx hb dX8_hasMissingClass_8 (by decide) (fun _ => ?_) (fun h => absurd h (by decide))
    refine lv_iconst (v := 1) hx hb dX8_hasMissingClass_22 (by decide) ?_
    refine lv_goto (tgt := 27) hx hb dX8_hasMissingClass_23 (by decide) ?_
    exact W.zret (v := 1) (ty := .boolean) hx hb hr rfl (fun t ht hW => ⟨⟨(some (.int 1)), rfl, (by first | exact Or.inl ⟨rfl, (by first | omega | (have kq := kz; omega) | decide)⟩)⟩, hS.F ht⟩) hS.2.2 dX8_hasMissingClass_27
  · refine W.eq (g2 := F0 m 8 ls [.int 0]) rfl ?_
    refine lv_if_ne (tgt := 22) hx hb dX8_hasMissingClass_8 (by decide) (fun h => absurd h (by decide)) (fun _ => ?_)
    refine lv_aload_n hx hb dX8_hasMissingClass_11 rfl (lv_at hl 0 rfl) ?_
    refine lv_aload_n hx hb dX8_hasMissingClass_12 rfl (lv_at hl 1 rfl) ?_
    refine va_getN (host := "ReflectModels") (D := (dC, dI)) (own := RX8) (ref := "ReflectModels$Signature") (index := 290) (ci := 4) (v := .int f2) (C := RX5) (T := TX5) (N := 4) hx hb hts inX8_hasMissingClass_5 hown hK hP 1 rfl rfl 3 (by decide) (va_Nw.use rfl (hN _ (List.mem_of_getElem? (i := 32) rfl))) (fun _ h9 => h9) rfl dX8_hasMissingClass_13 ?_
    refine clR (va_runV (As := [.int f2]) (rest := []) ⟨hx, hb, hml, hown, hts⟩ (c8_isMissingClass l dC dI h0 q f2 _) (cwV 1 hts gX8_hasMissingClass_X8_isMissingClass rfl rfl rfl (by decide +kernel) ⟨Nat.le_of_ble_eq_true rfl, Nat.le_of_ble_eq_true rfl⟩) ⟨pz_blind, va_recv hK hP (ci := 7) (q0 := 0) rfl rfl, pz_of hP hK hD hN [0] [] rfl (by decide) rfl⟩ rfl rfl hl.1 rfl (lv_room (Nat.le_of_ble_eq_true rfl)) dX8_hasMissingClass_16 ⟨Nat.le_of_ble_eq_true rfl, Nat.le_of_ble_eq_true rfl⟩) hS hP (fun v H locs w6 hP hS => ?_)
    rcases w6 with ⟨rfl, u4⟩ | ⟨rfl, u5⟩
    · refine W.eq (g2 := F0 m 19 ls [.int 1]) rfl ?_
      refine lv_if_eq (tgt := 26) hx hb dX8_hasMissingClass_19 (by decide) (fun h => absurd h (by decide)) (fun _ => ?_)
      refine lv_iconst (v := 1) hx hb dX8_hasMissingClass_22 (by decide) ?_
      refine lv_goto (tgt := 27) hx hb dX8_hasMissingClass_23 (by decide) ?_
      exact W.zret (v := 1) (ty := .boolean) hx hb hr rfl (fun t ht hW => ⟨⟨(some (.int 1)), rfl, (by first | exact Or.inl ⟨rfl, (by first | omega | (have kq := kz; omega) | decide)⟩)⟩, hS.F ht⟩) hS.2.2 dX8_hasMissingClass_27
    · refine W.eq (g2 := F0 m 19 ls [.int 0]) rfl ?_
      refine lv_if_eq (tgt := 26) hx hb dX8_hasMissingClass_19 (by decide) (fun _ => ?_) (fun h => absurd (by decide) h)
      refine lv_iconst (v := 0) hx hb dX8_hasMissingClass_26 (by decide) ?_
      exact W.zret (v := 0) (ty := .boolean) hx hb hr rfl (fun t ht hW => ⟨⟨(some (.int 0)), rfl, (by first | exact Or.inr (⟨rfl, (by first | omega | (have kq := kz; omega) | decide)⟩))⟩, hS.F ht⟩) hS.2.2 dX8_hasMissingClass_27

set_option maxHeartbeats 4000000 in
set_option maxRecDepth 100000 in
theorem c5_isOutside (l : Launch) (dC : Nat → ClassId) (dI : Nat → Nat → Nat) (g1 : Nat) (a1 a2 f1 f2 : Int32) (sz : Nat)  : Met l yX5_isOutside wsX5_isOutside ({ frames := 1, cells := 0, slots := 0, locals := 20 }) (va_Pc [.ref g1] (pz (dC, dI) [] [(g1, .inr (4, [.int a1, .int a2, .int f1, .int f2]))] sz)) (qR (fun v => (v = some (.int 1) ∧ (a1.toInt < 0 ∨ 19 < a1.toInt ∨ a2.toInt < 0 ∨ 2 < a2.toInt ∨ f1.toInt < -2 ∨ f2.toInt < -2)) ∨ (v = some (.int 0) ∧ (0 ≤ a1.toInt ∧ a1.toInt ≤ 19 ∧ 0 ≤ a2.toInt ∧ a2.toInt ≤ 2 ∧ -2 ≤ f1.toInt ∧ -2 ≤ f2.toInt)))) 0 0 nA := by
  refine Met.ofW (cc := cX5_isOutside) (maxL := 1) (ret := (some .boolean)) (by decide) rfl ?_
  intro p e s m args below meth c s₁ B hml hv
  obtain ⟨rfl, hsz, hP, hK, hD, hN⟩ := hv
  have hx := B.exec
  have hb := B.bytes
  have hr := B.returns
  have hts := atoms_spec (ws := wsX5_isOutside) B.pre
  have hown : s.vm.findClass RX5 = some m.cls := findClass_of_methodNamed B.named
  have hlocks := B.notSynchronized
  subst hsz
  have hS : va_S nA s.heap s.heap [] := va_S.rf
  have hl := lv_entry ([.ref g1]) (n := 1) (Nat.le_of_ble_eq_true rfl)
  rw [lg_entry_eq]
  generalize (lg_sl ([.ref g1]) ++ List.replicate (1 - (lg_sl ([.ref g1])).length) Slot.unset).toArray = ls at hl ⊢
  have hl : lv_has ls 1 [(0, .ref g1)] := hl
  refine lv_aload_n hx hb dX5_isOutside_0 rfl (lv_at hl 0 rfl) ?_
  refine va_get (D := (dC, dI)) (own := RX5) (ref := "ReflectModels$Signature") (index := 9) (ci := 4) (v := .int a1) (C := RX5) (T := TX5) (N := 4) hx hb hts inX5_isOutside_5 hown hK hP 0 rfl rfl 0 (by decide) (hts (.fieldLink RX5 9 "ReflectModels$Signature" "name" "I") (by decide +kernel)) (fun _ h9 => h9) rfl dX5_isOutside_1 ?_
  refine clR (va_runSN (As := [.int a1]) (rest := []) ⟨hx, hb, hml, hown, hts⟩ (c8_isOutsideName l dC dI a1 _) ⟨va_cnB 1 hts gX5_isOutside_X8_isOutsideName_n24 rfl rfl rfl (hN _ (List.mem_of_getElem? (i := 34) rfl)) (hts (.initialized RX8) (by decide +kernel)) (by decide +kernel) ⟨Nat.le_of_ble_eq_true rfl, Nat.le_of_ble_eq_true rfl⟩, hts (.static yX8_isOutsideName) (by decide +kernel), trivial⟩ ⟨pz_blind, pz_of hP hK hD hN [] [] rfl (by decide) rfl⟩ rfl rfl hl.1 rfl (lv_room (Nat.le_of_ble_eq_true rfl)) dX5_isOutside_4 ⟨Nat.le_of_ble_eq_true rfl, Nat.le_of_ble_eq_true rfl⟩) hS hP (fun v H locs w3 hP hS => ?_)
  rcases w3 with ⟨rfl, u1⟩ | ⟨rfl, u2⟩
  · refine W.eq (g2 := F0 m 7 ls [.int 1]) rfl ?_
    refine lv_if_ne (tgt := 43) hx hb dX5_isOutside_7 (by decide) (fun _ => ?_) (fun h => absurd h (by decide))
    refine lv_iconst (v := 1) hx hb dX5_isOutside_43 (by decide) ?_
    refine lv_goto (tgt := 48) hx hb dX5_isOutside_44 (by decide) ?_
    exact W.zret (v := 1) (ty := .boolean) hx hb hr rfl (fun t ht hW => ⟨⟨(some (.int 1)), rfl, (by first | exact Or.inl ⟨rfl, (by first | omega | (have kq := kz; omega) | decide)⟩)⟩, hS.F ht⟩) hS.2.2 dX5_isOutside_48
  · refine W.eq (g2 := F0 m 7 ls [.int 0]) rfl ?_
    refine lv_if_ne (tgt := 43) hx hb dX5_isOutside_7 (by decide) (fun h => absurd h (by decide)) (fun _ => ?_)
    refine lv_aload_n hx hb dX5_isOutside_10 rfl (lv_at hl 0 rfl) ?_
    refine va_get (D := (dC, dI)) (own := RX5) (ref := "ReflectModels$Signature") (index := 15) (ci := 4) (v := .int a2) (C := RX5) (T := TX5) (N := 4) hx hb hts inX5_isOutside_5 hown hK hP 0 rfl rfl 1 (by decide) (hts (.fieldLink RX5 15 "ReflectModels$Signature" "n" "I") (by decide +kernel)) (fun _ h9 => h9) rfl dX5_isOutside_11 ?_
    refine lv_if_lt (tgt := 43) hx hb dX5_isOutside_14 (by decide) (fun c4 => ?_) (fun c4 => ?_)
    · have ic4 : a2.toInt < 0 := il2 rfl (by decide) c4
      refine lv_iconst (v := 1) hx hb dX5_isOutside_43 (by decide) ?_
      refine lv_goto (tgt := 48) hx hb dX5_isOutside_44 (by decide) ?_
      exact W.zret (v := 1) (ty := .boolean) hx hb hr rfl (fun t ht hW => ⟨⟨(some (.int 1)), rfl, (by first | exact Or.inl ⟨rfl, (by first | omega | (have kq := kz; omega) | decide)⟩)⟩, hS.F ht⟩) hS.2.2 dX5_isOutside_48
    · have ic4 : 0 ≤ a2.toInt := inl2 rfl (by decide) c4
      refine lv_aload_n hx hb dX5_isOutside_17 rfl (lv_at hl 0 rfl) ?_
      refine va_get (D := (dC, dI)) (own := RX5) (ref := "ReflectModels$Signature") (index := 15) (ci := 4) (v := .int a2) (C := RX5) (T := TX5) (N := 4) hx hb hts inX5_isOutside_5 hown hK hP 0 rfl rfl 1 (by decide) (hts (.fieldLink RX5 15 "ReflectModels$Signature" "n" "I") (by decide +kernel)) (fun _ h9 => h9) rfl dX5_isOutside_18 ?_
      refine lv_iconst (v := 2) hx hb dX5_isOutside_21 (by decide) ?_
      refine lv_icmp_gt (tgt := 43) hx hb dX5_isOutside_22 (by decide) (fun c5 => ?_) (fun c5 => ?_)
      · have ic5 : 2 < a2.toInt := il2 (by decide) rfl c5
        refine lv_iconst (v := 1) hx hb dX5_isOutside_43 (by decide) ?_
        refine lv_goto (tgt := 48) hx hb dX5_isOutside_44 (by decide) ?_
        exact W.zret (v := 1) (ty := .boolean) hx hb hr rfl (fun t ht hW => ⟨⟨(some (.int 1)), rfl, (by first | exact Or.inl ⟨rfl, (by first | omega | (have kq := kz; omega) | decide)⟩)⟩, hS.F ht⟩) hS.2.2 dX5_isOutside_48
      · have ic5 : a2.toInt ≤ 2 := inl2 (by decide) rfl c5
        refine lv_aload_n hx hb dX5_isOutside_25 rfl (lv_at hl 0 rfl) ?_
        refine va_get (D := (dC, dI)) (own := RX5) (ref := "ReflectModels$Signature") (index := 18) (ci := 4) (v := .int f1) (C := RX5) (T := TX5) (N := 4) hx hb hts inX5_isOutside_5 hown hK hP 0 rfl rfl 2 (by decide) (hts (.fieldLink RX5 18 "ReflectModels$Signature" "first" "I") (by decide +kernel)) (fun _ h9 => h9) rfl dX5_isOutside_26 ?_
        refine lv_bipush (v := (-2)) hx hb dX5_isOutside_29 (by decide) ?_
        refine lv_icmp_lt (tgt := 43) hx hb dX5_isOutside_31 (by decide) (fun c6 => ?_) (fun c6 => ?_)
        · have ic6 : f1.toInt < (-2) := il2 rfl (by decide) c6
          refine lv_iconst (v := 1) hx hb dX5_isOutside_43 (by decide) ?_
          refine lv_goto (tgt := 48) hx hb dX5_isOutside_44 (by decide) ?_
          exact W.zret (v := 1) (ty := .boolean) hx hb hr rfl (fun t ht hW => ⟨⟨(some (.int 1)), rfl, (by first | exact Or.inl ⟨rfl, (by first | omega | (have kq := kz; omega) | decide)⟩)⟩, hS.F ht⟩) hS.2.2 dX5_isOutside_48
        · have ic6 : (-2) ≤ f1.toInt := inl2 rfl (by decide) c6
          refine lv_aload_n hx hb dX5_isOutside_34 rfl (lv_at hl 0 rfl) ?_
          refine va_get (D := (dC, dI)) (own := RX5) (ref := "ReflectModels$Signature") (index := 21) (ci := 4) (v := .int f2) (C := RX5) (T := TX5) (N := 4) hx hb hts inX5_isOutside_5 hown hK hP 0 rfl rfl 3 (by decide) (hts (.fieldLink RX5 21 "ReflectModels$Signature" "second" "I") (by decide +kernel)) (fun _ h9 => h9) rfl dX5_isOutside_35 ?_
          refine lv_bipush (v := (-2)) hx hb dX5_isOutside_38 (by decide) ?_
          refine lv_icmp_ge (tgt := 47) hx hb dX5_isOutside_40 (by decide) (fun c7 => ?_) (fun c7 => ?_)
          · have ic7 : (-2) ≤ f2.toInt := ile2 (by decide) rfl c7
            refine lv_iconst (v := 0) hx hb dX5_isOutside_47 (by decide) ?_
            exact W.zret (v := 0) (ty := .boolean) hx hb hr rfl (fun t ht hW => ⟨⟨(some (.int 0)), rfl, (by first | exact Or.inr (⟨rfl, (by first | omega | (have kq := kz; omega) | decide)⟩))⟩, hS.F ht⟩) hS.2.2 dX5_isOutside_48
          · have ic7 : f2.toInt < (-2) := inle2 (by decide) rfl c7
            refine lv_iconst (v := 1) hx hb dX5_isOutside_43 (by decide) ?_
            refine lv_goto (tgt := 48) hx hb dX5_isOutside_44 (by decide) ?_
            exact W.zret (v := 1) (ty := .boolean) hx hb hr rfl (fun t ht hW => ⟨⟨(some (.int 1)), rfl, (by first | exact Or.inl ⟨rfl, (by first | omega | (have kq := kz; omega) | decide)⟩)⟩, hS.F ht⟩) hS.2.2 dX5_isOutside_48

set_option maxHeartbeats 4000000 in
set_option maxRecDepth 100000 in
theorem c5_startsWithInt (l : Launch) (dC : Nat → ClassId) (dI : Nat → Nat → Nat) (g1 : Nat) (a1 a2 f1 f2 : Int32) (sz : Nat)  : Met l yX5_startsWithInt wsX5_startsWithInt ({ frames := 0, cells := 0, slots := 0, locals := 0 }) (va_Pc [.ref g1] (pz (dC, dI) [] [(g1, .inr (4, [.int a1, .int a2, .int f1, .int f2]))] sz)) (qR (fun v => (v = some (.int 1) ∧ (0 < a2.toInt ∧ f1.toInt = -1)) ∨ (v = some (.int 0) ∧ (a2.toInt ≤ 0 ∨ f1.toInt ≠ -1)))) 0 0 nA := by
  refine Met.ofW (cc := cX5_startsWithInt) (maxL := 1) (ret := (some .boolean)) (by decide) rfl ?_
  intro p e s m args below meth c s₁ B hml hv
  obtain ⟨rfl, hsz, hP, hK, hD, hN⟩ := hv
  have hx := B.exec
  have hb := B.bytes
  have hr := B.returns
  have hts := atoms_spec (ws := wsX5_startsWithInt) B.pre
  have hown : s.vm.findClass RX5 = some m.cls := findClass_of_methodNamed B.named
  have hlocks := B.notSynchronized
  subst hsz
  have hS : va_S nA s.heap s.heap [] := va_S.rf
  have hl := lv_entry ([.ref g1]) (n := 1) (Nat.le_of_ble_eq_true rfl)
  rw [lg_entry_eq]
  generalize (lg_sl ([.ref g1]) ++ List.replicate (1 - (lg_sl ([.ref g1])).length) Slot.unset).toArray = ls at hl ⊢
  have hl : lv_has ls 1 [(0, .ref g1)] := hl
  refine lv_aload_n hx hb dX5_startsWithInt_0 rfl (lv_at hl 0 rfl) ?_
  refine va_get (D := (dC, dI)) (own := RX5) (ref := "ReflectModels$Signature") (index := 15) (ci := 4) (v := .int a2) (C := RX5) (T := TX5) (N := 4) hx hb hts inX5_startsWithInt_5 hown hK hP 0 rfl rfl 1 (by decide) (hts (.fieldLink RX5 15 "ReflectModels$Signature" "n" "I") (by decide +kernel)) (fun _ h9 => h9) rfl dX5_startsWithInt_1 ?_
  refine lv_if_le (tgt := 19) hx hb dX5_startsWithInt_4 (by decide) (fun c1 => ?_) (fun c1 => ?_)
  · have ic1 : a2.toInt ≤ 0 := ile2 rfl (by decide) c1
    refine lv_iconst (v := 0) hx hb dX5_startsWithInt_19 (by decide) ?_
    exact W.zret (v := 0) (ty := .boolean) hx hb hr rfl (fun t ht hW => ⟨⟨(some (.int 0)), rfl, (by first | exact Or.inr (⟨rfl, (by first | omega | (have kq := kz; omega) | decide)⟩))⟩, hS.F ht⟩) hS.2.2 dX5_startsWithInt_20
  · have ic1 : 0 < a2.toInt := inle2 rfl (by decide) c1
    refine lv_aload_n hx hb dX5_startsWithInt_7 rfl (lv_at hl 0 rfl) ?_
    refine va_get (D := (dC, dI)) (own := RX5) (ref := "ReflectModels$Signature") (index := 18) (ci := 4) (v := .int f1) (C := RX5) (T := TX5) (N := 4) hx hb hts inX5_startsWithInt_5 hown hK hP 0 rfl rfl 2 (by decide) (hts (.fieldLink RX5 18 "ReflectModels$Signature" "first" "I") (by decide +kernel)) (fun _ h9 => h9) rfl dX5_startsWithInt_8 ?_
    refine lv_iconst (v := (-1)) hx hb dX5_startsWithInt_11 (by decide) ?_
    refine lv_icmp_ne (tgt := 19) hx hb dX5_startsWithInt_12 (by decide) (fun c2 => ?_) (fun c2 => ?_)
    · have ic2 : f1.toInt ≠ (-1) := ine2 rfl (by decide) c2
      refine lv_iconst (v := 0) hx hb dX5_startsWithInt_19 (by decide) ?_
      exact W.zret (v := 0) (ty := .boolean) hx hb hr rfl (fun t ht hW => ⟨⟨(some (.int 0)), rfl, (by first | exact Or.inr (⟨rfl, (by first | omega | (have kq := kz; omega) | decide)⟩))⟩, hS.F ht⟩) hS.2.2 dX5_startsWithInt_20
    · have ic2 : f1.toInt = (-1) := ieq2 rfl (by decide) c2
      refine lv_iconst (v := 1) hx hb dX5_startsWithInt_15 (by decide) ?_
      refine lv_goto (tgt := 20) hx hb dX5_startsWithInt_16 (by decide) ?_
      exact W.zret (v := 1) (ty := .boolean) hx hb hr rfl (fun t ht hW => ⟨⟨(some (.int 1)), rfl, (by first | exact Or.inl ⟨rfl, (by first | omega | (have kq := kz; omega) | decide)⟩)⟩, hS.F ht⟩) hS.2.2 dX5_startsWithInt_20

set_option maxHeartbeats 4000000 in
set_option maxRecDepth 100000 in
theorem c5_startsWithClass (l : Launch) (dC : Nat → ClassId) (dI : Nat → Nat → Nat) (g1 : Nat) (a1 a2 f1 f2 : Int32) (sz : Nat)  : Met l yX5_startsWithClass wsX5_startsWithClass ({ frames := 0, cells := 0, slots := 0, locals := 0 }) (va_Pc [.ref g1] (pz (dC, dI) [] [(g1, .inr (4, [.int a1, .int a2, .int f1, .int f2]))] sz)) (qR (fun v => (v = some (.int 1) ∧ (0 < a2.toInt ∧ 0 ≤ f1.toInt)) ∨ (v = some (.int 0) ∧ (a2.toInt ≤ 0 ∨ f1.toInt < 0)))) 0 0 nA := by
  refine Met.ofW (cc := cX5_startsWithClass) (maxL := 1) (ret := (some .boolean)) (by decide) rfl ?_
  intro p e s m args below meth c s₁ B hml hv
  obtain ⟨rfl, hsz, hP, hK, hD, hN⟩ := hv
  have hx := B.exec
  have hb := B.bytes
  have hr := B.returns
  have hts := atoms_spec (ws := wsX5_startsWithClass) B.pre
  have hown : s.vm.findClass RX5 = some m.cls := findClass_of_methodNamed B.named
  have hlocks := B.notSynchronized
  subst hsz
  have hS : va_S nA s.heap s.heap [] := va_S.rf
  have hl := lv_entry ([.ref g1]) (n := 1) (Nat.le_of_ble_eq_true rfl)
  rw [lg_entry_eq]
  generalize (lg_sl ([.ref g1]) ++ List.replicate (1 - (lg_sl ([.ref g1])).length) Slot.unset).toArray = ls at hl ⊢
  have hl : lv_has ls 1 [(0, .ref g1)] := hl
  refine lv_aload_n hx hb dX5_startsWithClass_0 rfl (lv_at hl 0 rfl) ?_
  refine va_get (D := (dC, dI)) (own := RX5) (ref := "ReflectModels$Signature") (index := 15) (ci := 4) (v := .int a2) (C := RX5) (T := TX5) (N := 4) hx hb hts inX5_startsWithClass_5 hown hK hP 0 rfl rfl 1 (by decide) (hts (.fieldLink RX5 15 "ReflectModels$Signature" "n" "I") (by decide +kernel)) (fun _ h9 => h9) rfl dX5_startsWithClass_1 ?_
  refine lv_if_le (tgt := 18) hx hb dX5_startsWithClass_4 (by decide) (fun c1 => ?_) (fun c1 => ?_)
  · have ic1 : a2.toInt ≤ 0 := ile2 rfl (by decide) c1
    refine lv_iconst (v := 0) hx hb dX5_startsWithClass_18 (by decide) ?_
    exact W.zret (v := 0) (ty := .boolean) hx hb hr rfl (fun t ht hW => ⟨⟨(some (.int 0)), rfl, (by first | exact Or.inr (⟨rfl, (by first | omega | (have kq := kz; omega) | decide)⟩))⟩, hS.F ht⟩) hS.2.2 dX5_startsWithClass_19
  · have ic1 : 0 < a2.toInt := inle2 rfl (by decide) c1
    refine lv_aload_n hx hb dX5_startsWithClass_7 rfl (lv_at hl 0 rfl) ?_
    refine va_get (D := (dC, dI)) (own := RX5) (ref := "ReflectModels$Signature") (index := 18) (ci := 4) (v := .int f1) (C := RX5) (T := TX5) (N := 4) hx hb hts inX5_startsWithClass_5 hown hK hP 0 rfl rfl 2 (by decide) (hts (.fieldLink RX5 18 "ReflectModels$Signature" "first" "I") (by decide +kernel)) (fun _ h9 => h9) rfl dX5_startsWithClass_8 ?_
    refine lv_if_lt (tgt := 18) hx hb dX5_startsWithClass_11 (by decide) (fun c2 => ?_) (fun c2 => ?_)
    · have ic2 : f1.toInt < 0 := il2 rfl (by decide) c2
      refine lv_iconst (v := 0) hx hb dX5_startsWithClass_18 (by decide) ?_
      exact W.zret (v := 0) (ty := .boolean) hx hb hr rfl (fun t ht hW => ⟨⟨(some (.int 0)), rfl, (by first | exact Or.inr (⟨rfl, (by first | omega | (have kq := kz; omega) | decide)⟩))⟩, hS.F ht⟩) hS.2.2 dX5_startsWithClass_19
    · have ic2 : 0 ≤ f1.toInt := inl2 rfl (by decide) c2
      refine lv_iconst (v := 1) hx hb dX5_startsWithClass_14 (by decide) ?_
      refine lv_goto (tgt := 19) hx hb dX5_startsWithClass_15 (by decide) ?_
      exact W.zret (v := 1) (ty := .boolean) hx hb hr rfl (fun t ht hW => ⟨⟨(some (.int 1)), rfl, (by first | exact Or.inl ⟨rfl, (by first | omega | (have kq := kz; omega) | decide)⟩)⟩, hS.F ht⟩) hS.2.2 dX5_startsWithClass_19

set_option maxHeartbeats 4000000 in
set_option maxRecDepth 100000 in
/-- findMethod on a fresh object -/
theorem c8_findMethod (l : Launch) (dC : Nat → ClassId) (dI : Nat → Nat → Nat) (h0 : Nat) (q : Nat → Nat) (cA : Nat → ClassId) (a1 a2 a3 a4 a5 a6 : Int32) (sz : Nat)  : Met l yX8_findMethod wsX8_findMethod ({ frames := 3, cells := 1, slots := 4, locals := 73 }) (va_Pc [.ref h0, .int a1, .int a2, .int a3, .int a4, .int a5, .int a6] (pz (dC, dI) [((cA 0), .object "ReflectModels$ClassModel"), ((cA 1), .object "ReflectModels$Member"), ((cA 2), .object "ReflectModels$Handle"), ((cA 3), .object "ReflectModels$Thing"), ((cA 4), .object "ReflectModels$Value")] [(h0, .inr (7, [.ref (q 0), .int 1, .ref (q 1), .int 0, .int 0, .ref (q 2), .int 0, .ref (q 3), .int 0, .ref (q 4), .int 0, .int 0, .ref (q 5), .int 0, .int 0])), ((q 0), .inl ((cA 0), 16, .inr (.inr (.inr (.inr (va_up (fun _ => none) 0 (some (q 6)))))))), ((q 1), .inl ((cA 1), 40, .inr (.inr (.inr (.inr (fun _ => none)))))), ((q 2), .inl ((cA 2), 60, .inr (.inr (.inr (.inr (fun _ => none)))))), ((q 3), .inl ((cA 3), 124, .inr (.inr (.inr (.inr (fun _ => none)))))), ((q 4), .inl ((cA 4), 3, .inr (.inr (.inr (.inr (va_up (va_up (va_up (fun _ => none) 0 (some (q 7))) 1 (some (q 8))) 2 (some (q 9)))))))), ((q 5), .inr (6, [.int 0, .long 0])), ((q 6), .inr (0, [.int 0, .null, .int 0, .null, .int 0, .int 0, .int 1, .int 1, .int 0, .int 0, .int 0, .int 0])), ((q 7), .inr (6, [.int 0, .long 0])), ((q 8), .inr (6, [.int 0, .long 0])), ((q 9), .inr (6, [.int 0, .long 0]))] sz)) (qW (dC, dI) (fun v w1 ty1 => v = some (.int (an_findMethod a1.toInt a2.toInt a3.toInt a4.toInt a5.toInt)) ∧ w1 = [] ∧ ty1 = []) (va_A [(h0, .inr (7, [.ref (q 0), .int 1, .ref (q 1), .int 0, .int 0, .ref (q 2), .int 0, .ref (q 3), .int 0, .ref (q 4), .int 0, .int 0, .ref (q 5), .int 0, .int 0])), ((q 0), .inl ((cA 0), 16, .inr (.inr (.inr (.inr (va_up (fun _ => none) 0 (some (q 6)))))))), ((q 1), .inl ((cA 1), 40, .inr (.inr (.inr (.inr (fun _ => none)))))), ((q 2), .inl ((cA 2), 60, .inr (.inr (.inr (.inr (fun _ => none)))))), ((q 3), .inl ((cA 3), 124, .inr (.inr (.inr (.inr (fun _ => none)))))), ((q 4), .inl ((cA 4), 3, .inr (.inr (.inr (.inr (va_up (va_up (va_up (fun _ => none) 0 (some (q 7))) 1 (some (q 8))) 2 (some (q 9)))))))), ((q 5), .inr (6, [.int 0, .long 0])), ((q 6), .inr (0, [.int 0, .null, .int 0, .null, .int 0, .int 0, .int 1, .int 1, .int 0, .int 0, .int 0, .int 0])), ((q 7), .inr (6, [.int 0, .long 0])), ((q 8), .inr (6, [.int 0, .long 0])), ((q 9), .inr (6, [.int 0, .long 0]))] sz)) 1 4 (va_A [(h0, .inr (7, [.ref (q 0), .int 1, .ref (q 1), .int 0, .int 0, .ref (q 2), .int 0, .ref (q 3), .int 0, .ref (q 4), .int 0, .int 0, .ref (q 5), .int 0, .int 0])), ((q 0), .inl ((cA 0), 16, .inr (.inr (.inr (.inr (va_up (fun _ => none) 0 (some (q 6)))))))), ((q 1), .inl ((cA 1), 40, .inr (.inr (.inr (.inr (fun _ => none)))))), ((q 2), .inl ((cA 2), 60, .inr (.inr (.inr (.inr (fun _ => none)))))), ((q 3), .inl ((cA 3), 124, .inr (.inr (.inr (.inr (fun _ => none)))))), ((q 4), .inl ((cA 4), 3, .inr (.inr (.inr (.inr (va_up (va_up (va_up (fun _ => none) 0 (some (q 7))) 1 (some (q 8))) 2 (some (q 9)))))))), ((q 5), .inr (6, [.int 0, .long 0])), ((q 6), .inr (0, [.int 0, .null, .int 0, .null, .int 0, .int 0, .int 1, .int 1, .int 0, .int 0, .int 0, .int 0])), ((q 7), .inr (6, [.int 0, .long 0])), ((q 8), .inr (6, [.int 0, .long 0])), ((q 9), .inr (6, [.int 0, .long 0]))] sz) := by
  refine Met.ofW (cc := cX8_findMethod) (maxL := 8) (ret := (some .int)) (by decide) rfl ?_
  intro p e s m args below meth c s₁ B hml hv
  obtain ⟨rfl, hsz, hP, hK, hD, hN⟩ := hv
  have hx := B.exec
  have hb := B.bytes
  have hr := B.returns
  have hts := atoms_spec (ws := wsX8_findMethod) B.pre
  have hown : s.vm.findClass RX8 = some m.cls := findClass_of_methodNamed B.named
  have hlocks := B.notSynchronized
  subst hsz
  have hD := hD.self (sz := s.heap.size)
  generalize hAe : va_A [(h0, .inr (7, [.ref (q 0), .int 1, .ref (q 1), .int 0, .int 0, .ref (q 2), .int 0, .ref (q 3), .int 0, .ref (q 4), .int 0, .int 0, .ref (q 5), .int 0, .int 0])), ((q 0), .inl ((cA 0), 16, .inr (.inr (.inr (.inr (va_up (fun _ => none) 0 (some (q 6)))))))), ((q 1), .inl ((cA 1), 40, .inr (.inr (.inr (.inr (fun _ => none)))))), ((q 2), .inl ((cA 2), 60, .inr (.inr (.inr (.inr (fun _ => none)))))), ((q 3), .inl ((cA 3), 124, .inr (.inr (.inr (.inr (fun _ => none)))))), ((q 4), .inl ((cA 4), 3, .inr (.inr (.inr (.inr (va_up (va_up (va_up (fun _ => none) 0 (some (q 7))) 1 (some (q 8))) 2 (some (q 9)))))))), ((q 5), .inr (6, [.int 0, .long 0])), ((q 6), .inr (0, [.int 0, .null, .int 0, .null, .int 0, .int 0, .int 1, .int 1, .int 0, .int 0, .int 0, .int 0])), ((q 7), .inr (6, [.int 0, .long 0])), ((q 8), .inr (6, [.int 0, .long 0])), ((q 9), .inr (6, [.int 0, .long 0]))] s.heap.size = A at hD ⊢
  have hA : ∀ q : Nat, s.heap.size ≤ q → A q := fun q h => by rw [← hAe]; exact Or.inr h
  have hS : va_S A s.heap s.heap [] := va_S.rf
  have hl := lv_entry ([.ref h0, .int a1, .int a2, .int a3, .int a4, .int a5, .int a6]) (n := 8) (Nat.le_of_ble_eq_true rfl)
  rw [lg_entry_eq]
  generalize (lg_sl ([.ref h0, .int a1, .int a2, .int a3, .int a4, .int a5, .int a6]) ++ List.replicate (8 - (lg_sl ([.ref h0, .int a1, .int a2, .int a3, .int a4, .int a5, .int a6])).length) Slot.unset).toArray = ls at hl ⊢
  have hl : lv_has ls 8 [(0, .ref h0), (1, .int a1), (2, .int a2), (3, .int a3), (4, .int a4), (5, .int a5), (6, .int a6)] := hl
  refine va_new (ci := 4) (fs := [.int 0, .int 0, .int 0, .int 0]) (C := RX5) (T := TX5) (N := 4) hx hb hts inX8_findMethod_5 tyX5 tyX5_ok hown (hts (.classLink RX8 118 RX5) (by decide +kernel)) (hts (.instantiable RX5 4) (by decide +kernel)) (hts (.initialized RX5) (by decide +kernel)) hK hP hD hS hA rfl df_X5 (Nat.le_of_ble_eq_true rfl) (Nat.le_of_ble_eq_true rfl) dX8_findMethod_0 (fun q1 H hP hD hS => ?_)
  have hP : va_P (dC, dI) vwCl [(h0, .inr (7, [.ref (q 0), .int 1, .ref (q 1), .int 0, .int 0, .ref (q 2), .int 0, .ref (q 3), .int 0, .ref (q 4), .int 0, .int 0, .ref (q 5), .int 0, .int 0])), ((q 0), .inl ((cA 0), 16, .inr (.inr (.inr (.inr (va_up (fun _ => none) 0 (some (q 6)))))))), ((q 1), .inl ((cA 1), 40, .inr (.inr (.inr (.inr (fun _ => none)))))), ((q 2), .inl ((cA 2), 60, .inr (.inr (.inr (.inr (fun _ => none)))))), ((q 3), .inl ((cA 3), 124, .inr (.inr (.inr (.inr (fun _ => none)))))), ((q 4), .inl ((cA 4), 3, .inr (.inr (.inr (.inr (va_up (va_up (va_up (fun _ => none) 0 (some (q 7))) 1 (some (q 8))) 2 (some (q 9)))))))), ((q 5), .inr (6, [.int 0, .long 0])), ((q 6), .inr (0, [.int 0, .null, .int 0, .null, .int 0, .int 0, .int 1, .int 1, .int 0, .int 0, .int 0, .int 0])), ((q 7), .inr (6, [.int 0, .long 0])), ((q 8), .inr (6, [.int 0, .long 0])), ((q 9), .inr (6, [.int 0, .long 0])), (q1, .inr (4, [.int 0, .int 0, .int 0, .int 0]))] H := hP
  have hD : va_D A [(h0, .inr (7, [.ref (q 0), .int 1, .ref (q 1), .int 0, .int 0, .ref (q 2), .int 0, .ref (q 3), .int 0, .ref (q 4), .int 0, .int 0, .ref (q 5), .int 0, .int 0])), ((q 0), .inl ((cA 0), 16, .inr (.inr (.inr (.inr (va_up (fun _ => none) 0 (some (q 6)))))))), ((q 1), .inl ((cA 1), 40, .inr (.inr (.inr (.inr (fun _ => none)))))), ((q 2), .inl ((cA 2), 60, .inr (.inr (.inr (.inr (fun _ => none)))))), ((q 3), .inl ((cA 3), 124, .inr (.inr (.inr (.inr (fun _ => none)))))), ((q 4), .inl ((cA 4), 3, .inr (.inr (.inr (.inr (va_up (va_up (va_up (fun _ => none) 0 (some (q 7))) 1 (some (q 8))) 2 (some (q 9)))))))), ((q 5), .inr (6, [.int 0, .long 0])), ((q 6), .inr (0, [.int 0, .null, .int 0, .null, .int 0, .int 0, .int 1, .int 1, .int 0, .int 0, .int 0, .int 0])), ((q 7), .inr (6, [.int 0, .long 0])), ((q 8), .inr (6, [.int 0, .long 0])), ((q 9), .inr (6, [.int 0, .long 0])), (q1, .inr (4, [.int 0, .int 0, .int 0, .int 0]))] := hD
  refine W.cs (cells' := 1) (slots' := 4) rfl rfl ?_
  refine lv_dup hx hb dX8_findMethod_3 rfl ?_
  refine lv_iload_n hx hb dX8_findMethod_4 rfl (lv_at hl 2 rfl) ?_
  refine lv_iload_n hx hb dX8_findMethod_5 rfl (lv_at hl 3 rfl) ?_
  refine lv_iload hx hb dX8_findMethod_6 (lv_at hl 4 rfl) ?_
  refine lv_iload hx hb dX8_findMethod_8 (lv_at hl 5 rfl) ?_
  refine clW (wr := [(h0, .inr (7, [.ref (q 0), .int 1, .ref (q 1), .int 0, .int 0, .ref (q 2), .int 0, .ref (q 3), .int 0, .ref (q 4), .int 0, .int 0, .ref (q 5), .int 0, .int 0])), ((q 0), .inl ((cA 0), 16, .inr (.inr (.inr (.inr (va_up (fun _ => none) 0 (some (q 6)))))))), ((q 1), .inl ((cA 1), 40, .inr (.inr (.inr (.inr (fun _ => none)))))), ((q 2), .inl ((cA 2), 60, .inr (.inr (.inr (.inr (fun _ => none)))))), ((q 3), .inl ((cA 3), 124, .inr (.inr (.inr (.inr (fun _ => none)))))), ((q 4), .inl ((cA 4), 3, .inr (.inr (.inr (.inr (va_up (va_up (va_up (fun _ => none) 0 (some (q 7))) 1 (some (q 8))) 2 (some (q 9)))))))), ((q 5), .inr (6, [.int 0, .long 0])), ((q 6), .inr (0, [.int 0, .null, .int 0, .null, .int 0, .int 0, .int 1, .int 1, .int 0, .int 0, .int 0, .int 0])), ((q 7), .inr (6, [.int 0, .long 0])), ((q 8), .inr (6, [.int 0, .long 0])), ((q 9), .inr (6, [.int 0, .long 0]))]) [11] [0, 1, 2, 3, 4, 5, 6, 7, 8, 9, 10] (va_runIN (As := [.int a2, .int a3, .int a4, .int a5]) (rest := [.ref q1]) ⟨hx, hb, hml, hown, hts⟩ (c5_init l dC dI q1 a2 a3 a4 a5 _) ⟨va_cnB 4 hts gX8_findMethod_X5_init_n120 rfl rfl rfl (hN _ (List.mem_of_getElem? (i := 29) rfl)) (hts (.initialized RX5) (by decide +kernel)) (by decide +kernel) ⟨Nat.le_of_ble_eq_true rfl, Nat.le_of_ble_eq_true rfl⟩, rfl, hts (.instanceMethod yX5_init) (by decide +kernel)⟩ ⟨pz_blind, pz_of hP hK hD hN [11] [] rfl (by decide) rfl⟩ rfl rfl hl.1 rfl (lv_room (Nat.le_of_ble_eq_true rfl)) dX8_findMethod_10 ⟨Nat.le_of_ble_eq_true rfl, Nat.le_of_ble_eq_true rfl⟩) hS hP hD hK hA rfl rfl (by decide) (by decide) (fun v w1 ty1 H locs w6 hP hD hK hS => ?_)
  obtain ⟨rfl, f2, f3, ⟨u4, u5⟩, rfl, rfl⟩ := w6
  refine W.eq (g2 := F0 m 13 ls [.ref q1]) rfl ?_
  have hP : va_P (dC, dI) vwCl [(h0, .inr (7, [.ref (q 0), .int 1, .ref (q 1), .int 0, .int 0, .ref (q 2), .int 0, .ref (q 3), .int 0, .ref (q 4), .int 0, .int 0, .ref (q 5), .int 0, .int 0])), ((q 0), .inl ((cA 0), 16, .inr (.inr (.inr (.inr (va_up (fun _ => none) 0 (some (q 6)))))))), ((q 1), .inl ((cA 1), 40, .inr (.inr (.inr (.inr (fun _ => none)))))), ((q 2), .inl ((cA 2), 60, .inr (.inr (.inr (.inr (fun _ => none)))))), ((q 3), .inl ((cA 3), 124, .inr (.inr (.inr (.inr (fun _ => none)))))), ((q 4), .inl ((cA 4), 3, .inr (.inr (.inr (.inr (va_up (va_up (va_up (fun _ => none) 0 (some (q 7))) 1 (some (q 8))) 2 (some (q 9)))))))), ((q 5), .inr (6, [.int 0, .long 0])), ((q 6), .inr (0, [.int 0, .null, .int 0, .null, .int 0, .int 0, .int 1, .int 1, .int 0, .int 0, .int 0, .int 0])), ((q 7), .inr (6, [.int 0, .long 0])), ((q 8), .inr (6, [.int 0, .long 0])), ((q 9), .inr (6, [.int 0, .long 0])), (q1, .inr (4, [.int a2, .int a3, .int f2, .int f3]))] H := hP
  have hD : va_D A [(h0, .inr (7, [.ref (q 0), .int 1, .ref (q 1), .int 0, .int 0, .ref (q 2), .int 0, .ref (q 3), .int 0, .ref (q 4), .int 0, .int 0, .ref (q 5), .int 0, .int 0])), ((q 0), .inl ((cA 0), 16, .inr (.inr (.inr (.inr (va_up (fun _ => none) 0 (some (q 6)))))))), ((q 1), .inl ((cA 1), 40, .inr (.inr (.inr (.inr (fun _ => none)))))), ((q 2), .inl ((cA 2), 60, .inr (.inr (.inr (.inr (fun _ => none)))))), ((q 3), .inl ((cA 3), 124, .inr (.inr (.inr (.inr (fun _ => none)))))), ((q 4), .inl ((cA 4), 3, .inr (.inr (.inr (.inr (va_up (va_up (va_up (fun _ => none) 0 (some (q 7))) 1 (some (q 8))) 2 (some (q 9)))))))), ((q 5), .inr (6, [.int 0, .long 0])), ((q 6), .inr (0, [.int 0, .null, .int 0, .null, .int 0, .int 0, .int 1, .int 1, .int 0, .int 0, .int 0, .int 0])), ((q 7), .inr (6, [.int 0, .long 0])), ((q 8), .inr (6, [.int 0, .long 0])), ((q 9), .inr (6, [.int 0, .long 0])), (q1, .inr (4, [.int a2, .int a3, .int f2, .int f3]))] := hD
  have hK : va_K (dC, dI) vwCl [((cA 0), .object "ReflectModels$ClassModel"), ((cA 1), .object "ReflectModels$Member"), ((cA 2), .object "ReflectModels$Handle"), ((cA 3), .object "ReflectModels$Thing"), ((cA 4), .object "ReflectModels$Value")] s := hK
  refine W.cs (cells' := 1) (slots' := 4) rfl rfl ?_
  refine lv_astore (lv' := [(7, .ref q1), (0, .ref h0), (1, .int a1), (2, .int a2), (3, .int a3), (4, .int a4), (5, .int a5), (6, .int a6)]) hx hb dX8_findMethod_13 hl (by decide) rfl (fun ls hl => ?_)
  refine lv_aload_n hx hb dX8_findMethod_15 rfl (lv_at hl 1 rfl) ?_
  refine lv_iload_n hx hb dX8_findMethod_16 rfl (lv_at hl 2 rfl) ?_
  refine clR (va_runV (As := [.int a1]) (rest := []) ⟨hx, hb, hml, hown, hts⟩ (c8_isClass l dC dI h0 q a1 _) (cwV 1 hts gX8_findMethod_X8_isClass rfl rfl rfl (by decide +kernel) ⟨Nat.le_of_ble_eq_true rfl, Nat.le_of_ble_eq_true rfl⟩) ⟨pz_blind, va_recv hK hP (ci := 7) (q0 := 0) rfl rfl, pz_of hP hK hD hN [0] [] rfl (by decide) rfl⟩ rfl rfl hl.1 rfl (lv_room (Nat.le_of_ble_eq_true rfl)) dX8_findMethod_17 ⟨Nat.le_of_ble_eq_true rfl, Nat.le_of_ble_eq_true rfl⟩) hS hP (fun v H locs w8 hP hS => ?_)
  rcases w8 with ⟨rfl, rfl⟩ | ⟨rfl, u7⟩
  · refine W.eq (g2 := F0 m 20 ls [.int 1]) rfl ?_
    refine lv_if_eq (tgt := 32) hx hb dX8_findMethod_20 (by decide) (fun h => absurd h (by decide)) (fun _ => ?_)
    refine lv_aload_n hx hb dX8_findMethod_23 rfl (lv_at hl 1 rfl) ?_
    refine lv_aload hx hb dX8_findMethod_24 (lv_at hl 0 rfl) ?_
    refine clR (va_runV (As := [.ref q1]) (rest := []) ⟨hx, hb, hml, hown, hts⟩ (c8_hasMissingClass l dC dI h0 q q1 a2 a3 f2 f3 _) (cwV 1 hts gX8_findMethod_X8_hasMissingClass rfl rfl rfl (by decide +kernel) ⟨Nat.le_of_ble_eq_true rfl, Nat.le_of_ble_eq_true rfl⟩) ⟨pz_blind, va_recv hK hP (ci := 7) (q0 := 0) rfl rfl, pz_of hP hK hD hN [0, 11] [] rfl (by decide) rfl⟩ rfl rfl hl.1 rfl (lv_room (Nat.le_of_ble_eq_true rfl)) dX8_findMethod_26 ⟨Nat.le_of_ble_eq_true rfl, Nat.le_of_ble_eq_true rfl⟩) hS hP (fun v H locs w11 hP hS => ?_)
    rcases w11 with ⟨rfl, u9⟩ | ⟨rfl, u10⟩
    · refine W.eq (g2 := F0 m 29 ls [.int 1]) rfl ?_
      refine lv_if_eq (tgt := 35) hx hb dX8_findMethod_29 (by decide) (fun h => absurd h (by decide)) (fun _ => ?_)
      refine lv_bipush (v := (-2)) hx hb dX8_findMethod_32 (by decide) ?_
      have hP9 := hP.sub (ws' := []) [] rfl
      have hD9 := hD.sub (ws' := []) [] (by decide) rfl
      have hK9 := hK.sub (tys' := []) [] rfl
      exact W.zret (v := (-2)) (ty := .int) hx hb hr rfl (fun t ht hW => ⟨⟨(some (.int (-2))), rfl, _, _, ⟨congrArg (fun z => some (Value.int z)) (by unfold an_findMethod; (repeat' split) <;> first | rfl | (exfalso; first | omega | (have kq := kz; omega))), rfl, rfl⟩, by rw [ht]; exact hP9, va_K.moved hW.alike hK9, hD9⟩, hS.F ht⟩) hS.2.2 dX8_findMethod_34
    · refine W.eq (g2 := F0 m 29 ls [.int 0]) rfl ?_
      refine lv_if_eq (tgt := 35) hx hb dX8_findMethod_29 (by decide) (fun _ => ?_) (fun h => absurd (by decide) h)
      refine lv_aload hx hb dX8_findMethod_35 (lv_at hl 0 rfl) ?_
      refine clR (va_runVN (As := []) (rest := []) ⟨hx, hb, hml, hown, hts⟩ (c5_isOutside l dC dI q1 a2 a3 f2 f3 _) ⟨va_cnB 0 hts gX8_findMethod_X5_isOutside_n127 rfl rfl rfl (hN _ (List.mem_of_getElem? (i := 33) rfl)) (hts (.initialized RX5) (by decide +kernel)) (by decide +kernel) ⟨Nat.le_of_ble_eq_true rfl, Nat.le_of_ble_eq_true rfl⟩, hts (.instanceMethod yX5_isOutside) (by decide +kernel), hts (.selects RX5 yX5_isOutside yX5_isOutside) (by decide +kernel)⟩ ⟨pz_blind, va_recv hK hP (ci := 4) (q0 := 11) rfl rfl, pz_of hP hK hD hN [11] [] rfl (by decide) rfl⟩ rfl rfl hl.1 rfl (lv_room (Nat.le_of_ble_eq_true rfl)) dX8_findMethod_37 ⟨Nat.le_of_ble_eq_true rfl, Nat.le_of_ble_eq_true rfl⟩) hS hP (fun v H locs w14 hP hS => ?_)
      rcases w14 with ⟨rfl, u12⟩ | ⟨rfl, u13⟩
      · refine W.eq (g2 := F0 m 40 ls [.int 1]) rfl ?_
        refine lv_if_eq (tgt := 46) hx hb dX8_findMethod_40 (by decide) (fun h => absurd h (by decide)) (fun _ => ?_)
        refine lv_bipush (v := (-3)) hx hb dX8_findMethod_43 (by decide) ?_
        have hP9 := hP.sub (ws' := []) [] rfl
        have hD9 := hD.sub (ws' := []) [] (by decide) rfl
        have hK9 := hK.sub (tys' := []) [] rfl
        exact W.zret (v := (-3)) (ty := .int) hx hb hr rfl (fun t ht hW => ⟨⟨(some (.int (-3))), rfl, _, _, ⟨congrArg (fun z => some (Value.int z)) (by unfold an_findMethod; (repeat' split) <;> first | rfl | (exfalso; first | omega | (have kq := kz; omega))), rfl, rfl⟩, by rw [ht]; exact hP9, va_K.moved hW.alike hK9, hD9⟩, hS.F ht⟩) hS.2.2 dX8_findMethod_45
      · refine W.eq (g2 := F0 m 40 ls [.int 0]) rfl ?_
        refine lv_if_eq (tgt := 46) hx hb dX8_findMethod_40 (by decide) (fun _ => ?_) (fun h => absurd (by decide) h)
        refine lv_aload_n hx hb dX8_findMethod_46 rfl (lv_at hl 1 rfl) ?_
        refine lv_iload hx hb dX8_findMethod_47 (lv_at hl 7 rfl) ?_
        refine lv_if_eq (tgt := 67) hx hb dX8_findMethod_49 (by decide) (fun c15 => ?_) (fun c15 => ?_)
        · have ic15 : a6.toInt = 0 := ieq2 rfl (by decide) c15
          refine lv_aload_n hx hb dX8_findMethod_67 rfl (lv_at hl 1 rfl) ?_
          refine lv_aload_n hx hb dX8_findMethod_68 rfl (lv_at hl 1 rfl) ?_
          refine va_get (D := (dC, dI)) (own := RX8) (ref := "ReflectModels") (index := 11) (ci := 7) (v := .ref (q 0)) (C := RX8) (T := TX8) (N := 15) hx hb hts inX8_findMethod_8 hown hK hP 0 rfl rfl 0 (by decide) (hts (.fieldLink RX8 11 "ReflectModels" "classes" "[LReflectModels$ClassModel;") (by decide +kernel)) (fun _ h9 => h9) rfl dX8_findMethod_69 ?_
          refine lv_iload_n hx hb dX8_findMethod_72 rfl (lv_at hl 2 rfl) ?_
          refine va_aldq hx hb hK hP 1 0 rfl rfl (vp_in_iff.mpr ⟨by decide, by decide⟩) dX8_findMethod_73 ?_
          refine W.eq (g2 := F0 m 74 ls [.ref (q 6), .ref h0, .ref h0]) rfl ?_
          refine lv_aload hx hb dX8_findMethod_74 (lv_at hl 0 rfl) ?_
          refine clR (va_runV (As := [.ref (q 6), .ref q1]) (rest := [.ref h0]) ⟨hx, hb, hml, hown, hts⟩ (c8_ownMethod l dC dI h0 q (q 6) q1 _) (cwV 2 hts gX8_findMethod_X8_ownMethod rfl rfl rfl (by decide +kernel) ⟨Nat.le_of_ble_eq_true rfl, Nat.le_of_ble_eq_true rfl⟩) ⟨pz_blind, va_recv hK hP (ci := 7) (q0 := 0) rfl rfl, pz_of hP hK hD hN [0] [] rfl (by decide) rfl⟩ rfl rfl hl.1 rfl (lv_room (Nat.le_of_ble_eq_true rfl)) dX8_findMethod_76 ⟨Nat.le_of_ble_eq_true rfl, Nat.le_of_ble_eq_true rfl⟩) hS hP (fun v H locs w16 hP hS => ?_)
          obtain rfl := w16
          refine W.eq (g2 := F0 m 79 ls [.int (-1), .ref h0]) rfl ?_
          refine clW (wr := [((q 0), .inl ((cA 0), 16, .inr (.inr (.inr (.inr (va_up (fun _ => none) 0 (some (q 6)))))))), ((q 1), .inl ((cA 1), 40, .inr (.inr (.inr (.inr (fun _ => none)))))), ((q 2), .inl ((cA 2), 60, .inr (.inr (.inr (.inr (fun _ => none)))))), ((q 3), .inl ((cA 3), 124, .inr (.inr (.inr (.inr (fun _ => none)))))), ((q 4), .inl ((cA 4), 3, .inr (.inr (.inr (.inr (va_up (va_up (va_up (fun _ => none) 0 (some (q 7))) 1 (some (q 8))) 2 (some (q 9)))))))), ((q 5), .inr (6, [.int 0, .long 0])), ((q 6), .inr (0, [.int 0, .null, .int 0, .null, .int 0, .int 0, .int 1, .int 1, .int 0, .int 0, .int 0, .int 0])), ((q 7), .inr (6, [.int 0, .long 0])), ((q 8), .inr (6, [.int 0, .long 0])), ((q 9), .inr (6, [.int 0, .long 0])), (q1, .inr (4, [.int a2, .int a3, .int f2, .int f3]))]) [0] [1, 2, 3, 4, 5, 6, 7, 8, 9, 10, 11] (va_runV (As := [.int (-1)]) (rest := []) ⟨hx, hb, hml, hown, hts⟩ (c8_addHandle l dC dI h0 q _) (cwV 1 hts gX8_findMethod_X8_addHandle rfl rfl rfl (by decide +kernel) ⟨Nat.le_of_ble_eq_true rfl, Nat.le_of_ble_eq_true rfl⟩) ⟨pz_blind, va_recv hK hP (ci := 7) (q0 := 0) rfl rfl, pz_of hP hK hD hN [0] [] rfl (by decide) rfl⟩ rfl rfl hl.1 rfl (lv_room (Nat.le_of_ble_eq_true rfl)) dX8_findMethod_79 ⟨Nat.le_of_ble_eq_true rfl, Nat.le_of_ble_eq_true rfl⟩) hS hP hD hK hA rfl rfl (by decide) (by decide) (fun v w1 ty1 H locs w17 hP hD hK hS => ?_)
          obtain ⟨rfl, rfl, rfl⟩ := w17
          refine W.eq (g2 := F0 m 82 ls [.int (-11)]) rfl ?_
          have hP : va_P (dC, dI) vwCl [((q 0), .inl ((cA 0), 16, .inr (.inr (.inr (.inr (va_up (fun _ => none) 0 (some (q 6)))))))), ((q 1), .inl ((cA 1), 40, .inr (.inr (.inr (.inr (fun _ => none)))))), ((q 2), .inl ((cA 2), 60, .inr (.inr (.inr (.inr (fun _ => none)))))), ((q 3), .inl ((cA 3), 124, .inr (.inr (.inr (.inr (fun _ => none)))))), ((q 4), .inl ((cA 4), 3, .inr (.inr (.inr (.inr (va_up (va_up (va_up (fun _ => none) 0 (some (q 7))) 1 (some (q 8))) 2 (some (q 9)))))))), ((q 5), .inr (6, [.int 0, .long 0])), ((q 6), .inr (0, [.int 0, .null, .int 0, .null, .int 0, .int 0, .int 1, .int 1, .int 0, .int 0, .int 0, .int 0])), ((q 7), .inr (6, [.int 0, .long 0])), ((q 8), .inr (6, [.int 0, .long 0])), ((q 9), .inr (6, [.int 0, .long 0])), (q1, .inr (4, [.int a2, .int a3, .int f2, .int f3]))] H := hP
          have hD : va_D A [((q 0), .inl ((cA 0), 16, .inr (.inr (.inr (.inr (va_up (fun _ => none) 0 (some (q 6)))))))), ((q 1), .inl ((cA 1), 40, .inr (.inr (.inr (.inr (fun _ => none)))))), ((q 2), .inl ((cA 2), 60, .inr (.inr (.inr (.inr (fun _ => none)))))), ((q 3), .inl ((cA 3), 124, .inr (.inr (.inr (.inr (fun _ => none)))))), ((q 4), .inl ((cA 4), 3, .inr (.inr (.inr (.inr (va_up (va_up (va_up (fun _ => none) 0 (some (q 7))) 1 (some (q 8))) 2 (some (q 9)))))))), ((q 5), .inr (6, [.int 0, .long 0])), ((q 6), .inr (0, [.int 0, .null, .int 0, .null, .int 0, .int 0, .int 1, .int 1, .int 0, .int 0, .int 0, .int 0])), ((q 7), .inr (6, [.int 0, .long 0])), ((q 8), .inr (6, [.int 0, .long 0])), ((q 9), .inr (6, [.int 0, .long 0])), (q1, .inr (4, [.int a2, .int a3, .int f2, .int f3]))] := hD
          have hK : va_K (dC, dI) vwCl [((cA 0), .object "ReflectModels$ClassModel"), ((cA 1), .object "ReflectModels$Member"), ((cA 2), .object "ReflectModels$Handle"), ((cA 3), .object "ReflectModels$Thing"), ((cA 4), .object "ReflectModels$Value")] s := hK
          refine W.cs (cells' := 1) (slots' := 4) rfl rfl ?_
          have hP9 := hP.sub (ws' := []) [] rfl
          have hD9 := hD.sub (ws' := []) [] (by decide) rfl
          have hK9 := hK.sub (tys' := []) [] rfl
          exact W.zret (v := (-11)) (ty := .int) hx hb hr rfl (fun t ht hW => ⟨⟨(some (.int (-11))), rfl, _, _, ⟨congrArg (fun z => some (Value.int z)) (by unfold an_findMethod; (repeat' split) <;> first | rfl | (exfalso; first | omega | (have kq := kz; omega))), rfl, rfl⟩, by rw [ht]; exact hP9, va_K.moved hW.alike hK9, hD9⟩, hS.F ht⟩) hS.2.2 dX8_findMethod_82
        · have ic15 : a6.toInt ≠ 0 := ine2 rfl (by decide) c15
          refine lv_aload_n hx hb dX8_findMethod_52 rfl (lv_at hl 1 rfl) ?_
          refine lv_aload_n hx hb dX8_findMethod_53 rfl (lv_at hl 1 rfl) ?_
          refine va_get (D := (dC, dI)) (own := RX8) (ref := "ReflectModels") (index := 11) (ci := 7) (v := .ref (q 0)) (C := RX8) (T := TX8) (N := 15) hx hb hts inX8_findMethod_8 hown hK hP 0 rfl rfl 0 (by decide) (hts (.fieldLink RX8 11 "ReflectModels" "classes" "[LReflectModels$ClassModel;") (by decide +kernel)) (fun _ h9 => h9) rfl dX8_findMethod_54 ?_
          refine lv_iload_n hx hb dX8_findMethod_57 rfl (lv_at hl 2 rfl) ?_
          refine va_aldq hx hb hK hP 1 0 rfl rfl (vp_in_iff.mpr ⟨by decide, by decide⟩) dX8_findMethod_58 ?_
          refine W.eq (g2 := F0 m 59 ls [.ref (q 6), .ref h0, .ref h0]) rfl ?_
          refine lv_aload hx hb dX8_findMethod_59 (lv_at hl 0 rfl) ?_
          refine clR (va_runV (As := [.ref (q 6), .ref q1]) (rest := [.ref h0]) ⟨hx, hb, hml, hown, hts⟩ (c8_visibleMethod l dC dI h0 q (q 6) q1 _) (cwV 2 hts gX8_findMethod_X8_visibleMethod rfl rfl rfl (by decide +kernel) ⟨Nat.le_of_ble_eq_true rfl, Nat.le_of_ble_eq_true rfl⟩) ⟨pz_blind, va_recv hK hP (ci := 7) (q0 := 0) rfl rfl, pz_of hP hK hD hN [0, 7] [] rfl (by decide) rfl⟩ rfl rfl hl.1 rfl (lv_room (Nat.le_of_ble_eq_true rfl)) dX8_findMethod_61 ⟨Nat.le_of_ble_eq_true rfl, Nat.le_of_ble_eq_true rfl⟩) hS hP (fun v H locs w18 hP hS => ?_)
          obtain rfl := w18
          refine W.eq (g2 := F0 m 64 ls [.int (-1), .ref h0]) rfl ?_
          refine lv_goto (tgt := 79) hx hb dX8_findMethod_64 (by decide) ?_
          refine clW (wr := [((q 0), .inl ((cA 0), 16, .inr (.inr (.inr (.inr (va_up (fun _ => none) 0 (some (q 6)))))))), ((q 1), .inl ((cA 1), 40, .inr (.inr (.inr (.inr (fun _ => none)))))), ((q 2), .inl ((cA 2), 60, .inr (.inr (.inr (.inr (fun _ => none)))))), ((q 3), .inl ((cA 3), 124, .inr (.inr (.inr (.inr (fun _ => none)))))), ((q 4), .inl ((cA 4), 3, .inr (.inr (.inr (.inr (va_up (va_up (va_up (fun _ => none) 0 (some (q 7))) 1 (some (q 8))) 2 (some (q 9)))))))), ((q 5), .inr (6, [.int 0, .long 0])), ((q 6), .inr (0, [.int 0, .null, .int 0, .null, .int 0, .int 0, .int 1, .int 1, .int 0, .int 0, .int 0, .int 0])), ((q 7), .inr (6, [.int 0, .long 0])), ((q 8), .inr (6, [.int 0, .long 0])), ((q 9), .inr (6, [.int 0, .long 0])), (q1, .inr (4, [.int a2, .int a3, .int f2, .int f3]))]) [0] [1, 2, 3, 4, 5, 6, 7, 8, 9, 10, 11] (va_runV (As := [.int (-1)]) (rest := []) ⟨hx, hb, hml, hown, hts⟩ (c8_addHandle l dC dI h0 q _) (cwV 1 hts gX8_findMethod_X8_addHandle rfl rfl rfl (by decide +kernel) ⟨Nat.le_of_ble_eq_true rfl, Nat.le_of_ble_eq_true rfl⟩) ⟨pz_blind, va_recv hK hP (ci := 7) (q0 := 0) rfl rfl, pz_of hP hK hD hN [0] [] rfl (by decide) rfl⟩ rfl rfl hl.1 rfl (lv_room (Nat.le_of_ble_eq_true rfl)) dX8_findMethod_79 ⟨Nat.le_of_ble_eq_true rfl, Nat.le_of_ble_eq_true rfl⟩) hS hP hD hK hA rfl rfl (by decide) (by decide) (fun v w1 ty1 H locs w19 hP hD hK hS => ?_)
          obtain ⟨rfl, rfl, rfl⟩ := w19
          refine W.eq (g2 := F0 m 82 ls [.int (-11)]) rfl ?_
          have hP : va_P (dC, dI) vwCl [((q 0), .inl ((cA 0), 16, .inr (.inr (.inr (.inr (va_up (fun _ => none) 0 (some (q 6)))))))), ((q 1), .inl ((cA 1), 40, .inr (.inr (.inr (.inr (fun _ => none)))))), ((q 2), .inl ((cA 2), 60, .inr (.inr (.inr (.inr (fun _ => none)))))), ((q 3), .inl ((cA 3), 124, .inr (.inr (.inr (.inr (fun _ => none)))))), ((q 4), .inl ((cA 4), 3, .inr (.inr (.inr (.inr (va_up (va_up (va_up (fun _ => none) 0 (some (q 7))) 1 (some (q 8))) 2 (some (q 9)))))))), ((q 5), .inr (6, [.int 0, .long 0])), ((q 6), .inr (0, [.int 0, .null, .int 0, .null, .int 0, .int 0, .int 1, .int 1, .int 0, .int 0, .int 0, .int 0])), ((q 7), .inr (6, [.int 0, .long 0])), ((q 8), .inr (6, [.int 0, .long 0])), ((q 9), .inr (6, [.int 0, .long 0])), (q1, .inr (4, [.int a2, .int a3, .int f2, .int f3]))] H := hP
          have hD : va_D A [((q 0), .inl ((cA 0), 16, .inr (.inr (.inr (.inr (va_up (fun _ => none) 0 (some (q 6)))))))), ((q 1), .inl ((cA 1), 40, .inr (.inr (.inr (.inr (fun _ => none)))))), ((q 2), .inl ((cA 2), 60, .inr (.inr (.inr (.inr (fun _ => none)))))), ((q 3), .inl ((cA 3), 124, .inr (.inr (.inr (.inr (fun _ => none)))))), ((q 4), .inl ((cA 4), 3, .inr (.inr (.inr (.inr (va_up (va_up (va_up (fun _ => none) 0 (some (q 7))) 1 (some (q 8))) 2 (some (q 9)))))))), ((q 5), .inr (6, [.int 0, .long 0])), ((q 6), .inr (0, [.int 0, .null, .int 0, .null, .int 0, .int 0, .int 1, .int 1, .int 0, .int 0, .int 0, .int 0])), ((q 7), .inr (6, [.int 0, .long 0])), ((q 8), .inr (6, [.int 0, .long 0])), ((q 9), .inr (6, [.int 0, .long 0])), (q1, .inr (4, [.int a2, .int a3, .int f2, .int f3]))] := hD
          have hK : va_K (dC, dI) vwCl [((cA 0), .object "ReflectModels$ClassModel"), ((cA 1), .object "ReflectModels$Member"), ((cA 2), .object "ReflectModels$Handle"), ((cA 3), .object "ReflectModels$Thing"), ((cA 4), .object "ReflectModels$Value")] s := hK
          refine W.cs (cells' := 1) (slots' := 4) rfl rfl ?_
          have hP9 := hP.sub (ws' := []) [] rfl
          have hD9 := hD.sub (ws' := []) [] (by decide) rfl
          have hK9 := hK.sub (tys' := []) [] rfl
          exact W.zret (v := (-11)) (ty := .int) hx hb hr rfl (fun t ht hW => ⟨⟨(some (.int (-11))), rfl, _, _, ⟨congrArg (fun z => some (Value.int z)) (by unfold an_findMethod; (repeat' split) <;> first | rfl | (exfalso; first | omega | (have kq := kz; omega))), rfl, rfl⟩, by rw [ht]; exact hP9, va_K.moved hW.alike hK9, hD9⟩, hS.F ht⟩) hS.2.2 dX8_findMethod_82
  · refine W.eq (g2 := F0 m 20 ls [.int 0]) rfl ?_
    refine lv_if_eq (tgt := 32) hx hb dX8_findMethod_20 (by decide) (fun _ => ?_) (fun h => absurd (by decide) h)
    refine lv_bipush (v := (-2)) hx hb dX8_findMethod_32 (by decide) ?_
    have hP9 := hP.sub (ws' := []) [] rfl
    have hD9 := hD.sub (ws' := []) [] (by decide) rfl
    have hK9 := hK.sub (tys' := []) [] rfl
    exact W.zret (v := (-2)) (ty := .int) hx hb hr rfl (fun t ht hW => ⟨⟨(some (.int (-2))), rfl, _, _, ⟨congrArg (fun z => some (Value.int z)) (by unfold an_findMethod; (repeat' split) <;> first | rfl | (exfalso; first | omega | (have kq := kz; omega))), rfl, rfl⟩, by rw [ht]; exact hP9, va_K.moved hW.alike hK9, hD9⟩, hS.F ht⟩) hS.2.2 dX8_findMethod_34
end
