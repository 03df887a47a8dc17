def nwl : List Cond := [.arrayOver (.object "ReflectModels$ClassModel"), .arrayOver (.object "ReflectModels$Member"), .arrayOver (.object "ReflectModels$Handle"), .arrayOver (.object "ReflectModels$Thing"), .arrayOver (.object "ReflectModels$Value"), .methodLinkNest "ReflectModels" 61 ⟨"ReflectModels$Value", "<init>", "()V"⟩ "ReflectModels", .fieldLinkNest "ReflectModels" 258 "ReflectModels$Value" "kind" "I" "ReflectModels", .fieldLinkNest "ReflectModels" 261 "ReflectModels$Value" "number" "J" "ReflectModels", .methodLinkNest "ReflectModels" 72 ⟨"ReflectModels$ClassModel", "<init>", "(ILReflectModels$ClassModel;ILReflectModels$ClassModel;ZZ)V"⟩ "ReflectModels", .fieldLinkNest "ReflectModels$Thing" 30 "ReflectModels$ClassModel" "number" "I" "ReflectModels", .fieldLinkNest "ReflectModels" 180 "ReflectModels$ClassModel" "number" "I" "ReflectModels", .fieldLinkNest "ReflectModels" 264 "ReflectModels$ClassModel" "above" "LReflectModels$ClassModel;" "ReflectModels", .fieldLinkNest "ReflectModels" 86 "ReflectModels$ClassModel" "sort" "I" "ReflectModels", .fieldLinkNest "ReflectModels" 267 "ReflectModels$ClassModel" "face" "LReflectModels$ClassModel;" "ReflectModels", .fieldLinkNest "ReflectModels" 176 "ReflectModels$ClassModel" "shut" "Z" "ReflectModels", .fieldLinkNest "ReflectModels" 348 "ReflectModels$ClassModel" "fails" "Z" "ReflectModels", .fieldLinkNest "ReflectModels$Thing" 24 "ReflectModels$ClassModel" "all" "I" "ReflectModels", .fieldLinkNest "ReflectModels" 92 "ReflectModels$ClassModel" "state" "I" "ReflectModels", .fieldLinkNest "ReflectModels" 89 "ReflectModels$ClassModel" "constantCount" "I" "ReflectModels", .fieldLinkNest "ReflectModels" 255 "ReflectModels$ClassModel" "firstConstant" "I" "ReflectModels", .fieldLinkNest "ReflectModels" 270 "ReflectModels$ClassModel" "ownMembers" "I" "ReflectModels", .methodLinkNest "ReflectModels" 111 ⟨"ReflectModels$Field", "<init>", "(LReflectModels$ClassModel;IIZZZI)V"⟩ "ReflectModels", .methodLinkNest "ReflectModels$Field" 3 ⟨"ReflectModels$Member", "<init>", "(LReflectModels$ClassModel;ZZ)V"⟩ "ReflectModels", .fieldLinkNest "ReflectModels" 327 "ReflectModels$Field" "name" "I" "ReflectModels", .fieldLinkNest "ReflectModels" 206 "ReflectModels$Field" "type" "I" "ReflectModels", .fieldLinkNest "ReflectModels" 359 "ReflectModels$Field" "isFinal" "Z" "ReflectModels", .fieldLinkNest "ReflectModels" 385 "ReflectModels$Field" "first" "J" "ReflectModels", .fieldLinkNest "ReflectModels" 382 "ReflectModels$Field" "slot" "I" "ReflectModels", .fieldLinkNest "ReflectModels" 395 "ReflectModels$Field" "held" "J" "ReflectModels", .methodLinkNest "ReflectModels" 120 ⟨"ReflectModels$Signature", "<init>", "(IIII)V"⟩ "ReflectModels", .fieldLinkNest "ReflectModels" 312 "ReflectModels$Signature" "n" "I" "ReflectModels", .fieldLinkNest "ReflectModels" 287 "ReflectModels$Signature" "first" "I" "ReflectModels", .fieldLinkNest "ReflectModels" 290 "ReflectModels$Signature" "second" "I" "ReflectModels", .methodLinkNest "ReflectModels" 127 ⟨"ReflectModels$Signature", "isOutside", "()Z"⟩ "ReflectModels", .methodLinkNest "ReflectModels$Signature" 24 ⟨"ReflectModels", "isOutsideName", "(I)Z"⟩ "ReflectModels", .methodLinkNest "ReflectModels" 140 ⟨"ReflectModels$Method", "<init>", "(LReflectModels$ClassModel;LReflectModels$Signature;IIII)V"⟩ "ReflectModels", .methodLinkNest "ReflectModels$Method" 3 ⟨"ReflectModels", "hasMark", "(II)Z"⟩ "ReflectModels", .methodLinkNest "ReflectModels$Method" 7 ⟨"ReflectModels$Member", "<init>", "(LReflectModels$ClassModel;ZZ)V"⟩ "ReflectModels", .fieldLinkNest "ReflectModels" 305 "ReflectModels$Method" "signature" "LReflectModels$Signature;" "ReflectModels", .fieldLinkNest "ReflectModels" 406 "ReflectModels$Method" "gives" "I" "ReflectModels", .fieldLinkNest "ReflectModels" 296 "ReflectModels$Method" "isAbstract" "Z" "ReflectModels", .fieldLinkNest "ReflectModels" 302 "ReflectModels$Method" "body" "I" "ReflectModels", .fieldLinkNest "ReflectModels" 318 "ReflectModels$Method" "b" "I" "ReflectModels", .methodLinkNest "ReflectModels" 309 ⟨"ReflectModels$Signature", "startsWithInt", "()Z"⟩ "ReflectModels", .methodLinkNest "ReflectModels" 315 ⟨"ReflectModels$Signature", "startsWithClass", "()Z"⟩ "ReflectModels", .methodLinkNest "ReflectModels" 330 ⟨"ReflectModels$Signature", "matches", "(LReflectModels$Signature;)Z"⟩ "ReflectModels", .methodLinkNest "ReflectModels" 339 ⟨"ReflectModels$Handle", "<init>", "(ILReflectModels$Member;)V"⟩ "ReflectModels", .fieldLinkNest "ReflectModels" 280 "ReflectModels$Handle" "memberNumber" "I" "ReflectModels", .fieldLinkNest "ReflectModels" 171 "ReflectModels$Handle" "member" "LReflectModels$Member;" "ReflectModels", .fieldLinkNest "ReflectModels" 186 "ReflectModels$Handle" "hasLeave" "Z" "ReflectModels", .methodLinkNest "ReflectModels" 195 ⟨"ReflectModels$Value", "become", "(IJ)V"⟩ "ReflectModels", .methodLinkNest "ReflectModels" 342 ⟨"ReflectModels$ClassModel", "standsUnder", "(LReflectModels$ClassModel;)Z"⟩ "ReflectModels", .methodLinkNest "ReflectModels" 379 ⟨"ReflectModels$Thing", "<init>", "(LReflectModels$ClassModel;LReflectModels$ClassModel;I[J)V"⟩ "ReflectModels", .fieldLinkNest "ReflectModels" 430 "ReflectModels$Thing" "model" "LReflectModels$ClassModel;" "ReflectModels", .fieldLinkNest "ReflectModels" 419 "ReflectModels$Thing" "handler" "I" "ReflectModels", .fieldLinkNest "ReflectModels" 387 "ReflectModels$Thing" "slots" "[J" "ReflectModels", .fieldLinkNest "ReflectModels" 422 "ReflectModels$Thing" "asked" "I" "ReflectModels", .methodLinkNest "ReflectModels" 276 ⟨"ReflectModels$Thing", "isOf", "(LReflectModels$ClassModel;)Z"⟩ "ReflectModels", .methodLinkNest "ReflectModels" 213 ⟨"ReflectModels$Value", "load", "(IJ)V"⟩ "ReflectModels", .methodLinkNest "ReflectModels" 216 ⟨"ReflectModels$Value", "widenFor", "(I)V"⟩ "ReflectModels", .methodLinkNest "ReflectModels" 224 ⟨"ReflectModels$Value", "toHold", "()J"⟩ "ReflectModels", .methodLinkNest "ReflectModels" 433 ⟨"ReflectModels$Method", "canBeChosen", "()Z"⟩ "ReflectModels", .methodLinkNest "ReflectModels" 453 ⟨"ReflectModels$Value", "becomeGiven", "(II)V"⟩ "ReflectModels", .castable "ReflectModels$Field" "ReflectModels$Field", .castable "ReflectModels$Method" "ReflectModels$Method", .castable "ReflectModels$Field" "ReflectModels$Member", .castable "ReflectModels$Method" "ReflectModels$Member"]
/-! what every contract here is made of: a start 'pz', an end 'qR' (nothing is written) or 'qW' (a world comes back), calls 'clR', 'clW' -/
def nwt (w : Cond) : Bool := match w with
  | .fieldLinkNest _ _ _ _ _ _ => true
  | .methodLinkNest _ _ _ _ => true
  | .castable _ _ => true
  | .arrayOver (.object _) => true
  | _ => false
def nwk (U : State) : Prop := ∀ w ∈ nwl, va_Nw w U
theorem nwl_t : ∀ w ∈ nwl, nwt w = true := by decide
theorem nwl_tab : ∀ w ∈ nwl, w ∈ tables_1 := by decide +kernel
theorem nwk_warm {s U : State} (hW : s.WarmedH U.vm) (h : nwk s) : nwk U := by
  intro w hw
  have h1 := nwl_t w hw
  have h2 := h w hw
  cases w with
  | fieldLinkNest => exact va_Nw.warmF hW h2
  | methodLinkNest => exact va_Nw.warmM hW h2
  | castable => exact va_Nw.warmC hW h2
  | arrayOver t =>
    cases t with
    | object C => exact va_AO.moved hW.alike h2
    | _ => cases h1
  | _ => cases h1
theorem nwk_same {s U : State} (hv : s.vm = U.vm) (h : nwk s) : nwk U := by
  intro w hw
  have h1 := nwl_t w hw
  have h2 := h w hw
  cases w with
  | fieldLinkNest => exact va_Nw.same rfl hv h2
  | methodLinkNest => exact va_Nw.same rfl hv h2
  | castable => exact va_Nw.same rfl hv h2
  | arrayOver t =>
    cases t with
    | object C => exact va_AO.moved (by rw [hv]; exact Vm.Alike.refl _) h2
    | _ => cases h1
  | _ => cases h1
abbrev tyL : Type := List (ClassId × FieldType)
/-- a method's start: the heap holds the cells ws, the array classes are tys -/
def pz (D : va_G) (tys : tyL) (ws : va_W) (sz : Nat) (U : State) : Prop := U.heap.size = sz ∧ va_P D vwCl ws U.heap ∧ va_K D vwCl tys U ∧ va_D (fun _ => True) ws ∧ nwk U
theorem pz_blind {D : va_G} {tys : tyL} {ws : va_W} {sz : Nat} {av : List Value} : FrameBlind (va_Pc av (pz D tys ws sz)) := by
  intro a U g mk q
  obtain ⟨q0, q1, qP, qK, qD, qN⟩ := q
  exact ⟨q0, q1, qP, va_K.moved (u := U) (U := U.calling g mk a) (Vm.Alike.refl U.vm) qK, qD, nwk_same (s := U) (U := U.calling g mk a) rfl qN⟩
theorem pz_of {D : va_G} {tys tysC : tyL} {ws wc : va_W} {H : Heap} {s : State} {av : List Value} {A : Nat → Prop} (hP : va_P D vwCl ws H) (hK : va_K D vwCl tys s) (hD : va_D A ws) (hN : nwk s) (is js : List Nat) (hw : is.map (fun i => ws[i]?) = wc.map some) (hn : va_nd is = true) (ht : js.filterMap (fun i => tys[i]?) = tysC) :
    ∀ U : State, U.heap = H → s.WarmedH U.vm → va_Pc av (pz D tysC wc H.size) av.toArray U := by
  intro U hU hW
  have hP2 : va_P D vwCl wc H := by
    intro k q hq
    have h1 : (is.map (fun i => ws[i]?))[k]? = some (some q) := by rw [hw, List.getElem?_map, hq]; rfl
    rw [List.getElem?_map] at h1
    cases hi : is[k]? with
    | none => rw [hi] at h1; cases h1
    | some i => rw [hi] at h1; exact hP i q (Option.some.inj h1)
  exact ⟨rfl, by rw [hU], by rw [hU]; exact hP2, va_K.moved hW.alike (hK.sub js ht), (hD.sub is hn hw).weaken (fun _ _ _ _ => trivial), nwk_warm hW hN⟩
def sQ (post : Option Value → State → Prop) (A : Nat → Prop) : Array Value → State → Outcome → State → Prop := fun _ st oc t => (∃ v : Option Value, oc = .returned v ∧ post v t) ∧ va_F A st t
/-- nothing is written, nothing comes -/
abbrev nA : Nat → Prop := fun _ => False
def qR (X : Option Value → Prop) : Array Value → State → Outcome → State → Prop := sQ (fun v _ => X v) nA
/-- a world comes back -/
def qW (D : va_G) (X : Option Value → va_W → tyL → Prop) (A : Nat → Prop) : Array Value → State → Outcome → State → Prop := sQ (fun v t => ∃ (w1 : va_W) (ty1 : tyL), X v w1 ty1 ∧ va_P D vwCl w1 t.heap ∧ va_K D vwCl ty1 t ∧ va_D A w1) A
section CLL
variable {p : Program} {l : Launch} {e : Env} {R : Room} {s : State} {m : MethodId} {args : Array Value} {below : List Frame} {meth : Method} {c : Code} {H : Heap} {locs : List Loc} {cells slots : Nat} {Q : State → Prop}
variable {pc : Nat} {ls : Array Slot} {rest st0 : List Value} {a : Array Value} {A0 A1 : Nat → Prop} {H0 : Heap} {mc ms : Nat} {free : Addr → Prop}
theorem clS {post : Option Value → State → Prop} (hr : va_Run p l e R s m args below meth c H locs cells slots mc ms (F0 m pc ls st0) rest (sQ post A1 a) free) (hS : va_S A0 H0 H locs) (hA : ∀ q, q < H.size → A1 q → A0 q) (hf : ∀ q, free q → A0 q)
    (kk : ∀ (v : Option Value) (t : State) (H1 : Heap) (locs1 : List Loc), t.heap = H1 → s.vm.Alike t.vm → post v t → H.size ≤ H1.size → (∀ q : Nat, q < H.size → ¬ A1 q → H1[q]? = H[q]?) → va_S A0 H0 H1 locs1 → W p l e R s m args below meth c H1 locs1 (cells + mc) (slots + ms) Q (F0 m (pc + 3) ls (v.toList ++ rest))) : W p l e R s m args below meth c H locs cells slots Q (F0 m pc ls st0) := by
  intro T hT X
  obtain ⟨v, st₀, t, T', L, h0, X', hL, e1, e2, ⟨⟨v', hv, hp⟩, hz, hk⟩, st⟩ := hr T hT X
  cases hv
  rw [h0] at hz hk
  obtain ⟨t2, a1, b1⟩ := kk v t T'.heap (locs ++ L) e1.symm (by rw [← e2]; exact X'.warmed.alike) hp (by rw [e1]; exact hz) (fun q h1 h2 => by rw [e1]; exact hk q h1 h2)
    ⟨Nat.le_trans hS.1 (by rw [e1]; exact hz), fun q h1 h2 => by rw [e1, hk q (Nat.lt_of_lt_of_le h1 hS.1) (fun z => h2 (hA q (Nat.lt_of_lt_of_le h1 hS.1) z))]; exact hS.2.1 q h1 h2, fun q hq => by
      rcases List.mem_append.mp hq with h | h
      · exact hS.2.2 q h
      · exact hf _ (hL q h)⟩ T' rfl X'
  exact ⟨t2, st t2 a1, b1⟩
/-- a call that writes nothing: the caller's world stays -/
theorem clR {X : Option Value → Prop} {D : va_G} {ws : va_W} (hr : va_Run p l e R s m args below meth c H locs cells slots 0 0 (F0 m pc ls st0) rest (qR X a) nA) (hS : va_S A0 H0 H locs) (hP : va_P D vwCl ws H)
    (kk : ∀ (v : Option Value) (H1 : Heap) (locs1 : List Loc), X v → va_P D vwCl ws H1 → va_S A0 H0 H1 locs1 → W p l e R s m args below meth c H1 locs1 cells slots Q (F0 m (pc + 3) ls (v.toList ++ rest))) : W p l e R s m args below meth c H locs cells slots Q (F0 m pc ls st0) :=
  clS hr hS (fun _ _ h => h.elim) (fun _ h => h.elim) (fun v t H1 locs1 ht hvm hp hz hk hS1 => kk v H1 locs1 hp (hP.kept (fun k q hq => hk q.1 ((hP k q hq).lt) id)) hS1)
/-- a call that gives a world back: the rest of the caller's world stays -/
theorem clW {X : Option Value → va_W → tyL → Prop} {D : va_G} {ws wc wr : va_W} {tys : tyL} (isC isR : List Nat) (hr : va_Run p l e R s m args below meth c H locs cells slots mc ms (F0 m pc ls st0) rest (qW D X (va_A wc H.size) a) (va_A wc H.size)) (hS : va_S A0 H0 H locs) (hP : va_P D vwCl ws H) (hD : va_D A0 ws) (hK : va_K D vwCl tys s) (hA : ∀ q, H0.size ≤ q → A0 q)
    (hC : isC.map (fun i => ws[i]?) = wc.map some) (hR : isR.map (fun i => ws[i]?) = wr.map some) (hn : va_nd isR = true) (hdis : ∀ i ∈ isR, i ∉ isC)
    (kk : ∀ (v : Option Value) (w1 : va_W) (ty1 : tyL) (H1 : Heap) (locs1 : List Loc), X v w1 ty1 → va_P D vwCl (wr ++ w1) H1 → va_D A0 (wr ++ w1) → va_K D vwCl (tys ++ ty1) s → va_S A0 H0 H1 locs1 → W p l e R s m args below meth c H1 locs1 (cells + mc) (slots + ms) Q (F0 m (pc + 3) ls (v.toList ++ rest))) : W p l e R s m args below meth c H locs cells slots Q (F0 m pc ls st0) := by
  have hF := va_free hD hS hA isC hC
  refine clS hr hS (fun q _ h => hF q h) hF (fun v t H1 locs1 ht hvm hp hz hk hS1 => ?_)
  obtain ⟨w1, ty1, hX, hP1, hK1, hD1⟩ := hp
  rw [ht] at hP1
  obtain ⟨hP2, hD2⟩ := va_join hP hD isC isR hC hR hn hdis hk hF hP1 hD1
  exact kk v w1 ty1 H1 locs1 hX hP2 hD2 (hK.app (va_K.moved hvm.symm hK1)) hS1
end CLL
-- numbers
theorem il2 {x y : Int32} {a b : Int} (hx : x.toInt = a) (hy : y.toInt = b) (h : x < y) : a < b := by rw [← hx, ← hy]; exact Int32.lt_iff_toInt_lt.mp h
theorem inl2 {x y : Int32} {a b : Int} (hx : x.toInt = a) (hy : y.toInt = b) (h : ¬ x < y) : b ≤ a := by rw [← hx, ← hy]; exact Int.not_lt.mp (fun q => h (Int32.lt_iff_toInt_lt.mpr q))
theorem ile2 {x y : Int32} {a b : Int} (hx : x.toInt = a) (hy : y.toInt = b) (h : x ≤ y) : a ≤ b := by rw [← hx, ← hy]; exact Int32.le_iff_toInt_le.mp h
theorem inle2 {x y : Int32} {a b : Int} (hx : x.toInt = a) (hy : y.toInt = b) (h : ¬ x ≤ y) : b < a := by rw [← hx, ← hy]; exact Int.not_le.mp (fun q => h (Int32.le_iff_toInt_le.mpr q))
theorem ieq2 {x y : Int32} {a b : Int} (hx : x.toInt = a) (hy : y.toInt = b) (h : x = y) : a = b := by rw [← hx, ← hy, h]
theorem ine2 {x y : Int32} {a b : Int} (hx : x.toInt = a) (hy : y.toInt = b) (h : ¬ x = y) : a ≠ b := by rw [← hx, ← hy]; exact fun q => h (Int32.toInt_inj.mp q)
theorem iof {x y : Int32} {a : Int} (hy : y.toInt = a) (h : x.toInt = a) : x = y := Int32.toInt_inj.mp (h.trans hy.symm)
theorem Ll2 {x y : Int64} {a b : Int} (hx : x.toInt = a) (hy : y.toInt = b) (h : x < y) : a < b := by rw [← hx, ← hy]; exact Int64.lt_iff_toInt_lt.mp h
theorem Lle2 {x y : Int64} {a b : Int} (hx : x.toInt = a) (hy : y.toInt = b) (h : x ≤ y) : a ≤ b := by rw [← hx, ← hy]; exact Int64.le_iff_toInt_le.mp h
theorem Leq2 {x y : Int64} {a b : Int} (hx : x.toInt = a) (hy : y.toInt = b) (h : x = y) : a = b := by rw [← hx, ← hy, h]
theorem Lnl2 {x y : Int64} {a b : Int} (hx : x.toInt = a) (hy : y.toInt = b) (h : ¬ x < y) : b ≤ a := by rw [← hx, ← hy]; exact Int.not_lt.mp (fun q => h (Int64.lt_iff_toInt_lt.mpr q))
theorem Lnle2 {x y : Int64} {a b : Int} (hx : x.toInt = a) (hy : y.toInt = b) (h : ¬ x ≤ y) : b < a := by rw [← hx, ← hy]; exact Int.not_le.mp (fun q => h (Int64.le_iff_toInt_le.mpr q))
theorem Lne2 {x y : Int64} {a b : Int} (hx : x.toInt = a) (hy : y.toInt = b) (h : ¬ x = y) : a ≠ b := by rw [← hx, ← hy]; exact fun q => h (Int64.toInt_inj.mp q)
theorem i2L (x : Int32) : x.toInt64.toInt = x.toInt := Int32.toInt_toInt64 x
def bz (x : Int32) : Int32 := if x = 0 then 0 else 1
theorem bz_01 (x : Int32) : bz x = 0 ∨ bz x = 1 := by unfold bz; split <;> simp
theorem nar_b {x : Int32} (h : x = 0 ∨ x = 1) : narrow .boolean (.int x) = .int x := by rcases h with rfl | rfl <;> rfl
theorem fit_b {x : Int32} (h : x = 0 ∨ x = 1) : fits .boolean (.int x) = true := by rcases h with rfl | rfl <;> rfl
section LB
variable {p : Program} {l : Launch} {e : Env} {R : Room} {s : State} {m : MethodId} {args : Array Value} {below : List Frame} {meth : Method} {c : Code} {H : Heap} {locs : List Loc} {cells slots : Nat} {Q : State → Prop} {cc : ByteArray} {pc : Nat} {ls : Array Slot} {rest : List Value}
/-- 'x != 0' as a boolean on the stack -/
theorem lw_b (hx : p.tables.exec = Jvm.exec) (hb : c.code = cc) {x : Int32} (d0 : decode cc pc = .ok (.ifCond .eq 7, 3)) (d1 : decode cc (pc + 3) = .ok (.iconst 1, 1)) (d2 : decode cc (pc + 4) = .ok (.goto 4, 3)) (d3 : decode cc (pc + 7) = .ok (.iconst 0, 1))
    (k : W p l e R s m args below meth c H locs cells slots Q (F0 m (pc + 8) ls (.int (bz x) :: rest))) : W p l e R s m args below meth c H locs cells slots Q (F0 m pc ls (.int x :: rest)) := by
  refine lv_if_eq (tgt := pc + 7) hx hb d0 (by omega) (fun h => ?_) (fun h => ?_)
  · refine lv_iconst (v := 0) hx hb d3 (by decide) ?_
    have e : bz x = 0 := by unfold bz; rw [if_pos h]
    rw [e] at k
    exact k
  · refine lv_iconst (v := 1) hx hb d1 (by decide) ?_
    refine lv_goto (tgt := pc + 8) hx hb d2 (by omega) ?_
    have e : bz x = 1 := by unfold bz; rw [if_neg h]
    rw [e] at k
    exact k
end LB
theorem kz : (0 : Int32).toInt = 0 ∧ (1 : Int32).toInt = 1 ∧ (-1 : Int32).toInt = -1 ∧ (2 : Int32).toInt = 2 ∧ (3 : Int32).toInt = 3 ∧ (4 : Int32).toInt = 4 ∧ (5 : Int32).toInt = 5 ∧ (6 : Int32).toInt = 6 ∧ (7 : Int32).toInt = 7 ∧ (-2 : Int32).toInt = -2 := by decide
theorem tw_0_4 {x : Int32} (h1 : ¬ x.toInt < 0) (h2 : ¬ 4 < x.toInt) : x = 0 ∨ x = 1 ∨ x = 2 ∨ x = 3 ∨ x = 4 := by
  have h : x.toInt = 0 ∨ x.toInt = 1 ∨ x.toInt = 2 ∨ x.toInt = 3 ∨ x.toInt = 4 := by omega
  rcases h with h | h | h | h | h
  · exact Or.inl (iof (by decide) h)
  · exact Or.inr (Or.inl (iof (by decide) h))
  · exact Or.inr (Or.inr (Or.inl (iof (by decide) h)))
  · exact Or.inr (Or.inr (Or.inr (Or.inl (iof (by decide) h))))
  · exact Or.inr (Or.inr (Or.inr (Or.inr ((iof (by decide) h)))))
theorem tw_0_5 {x : Int32} (h1 : ¬ x.toInt < 0) (h2 : ¬ 5 < x.toInt) : x = 0 ∨ x = 1 ∨ x = 2 ∨ x = 3 ∨ x = 4 ∨ x = 5 := by
  have h : x.toInt = 0 ∨ x.toInt = 1 ∨ x.toInt = 2 ∨ x.toInt = 3 ∨ x.toInt = 4 ∨ x.toInt = 5 := by omega
  rcases h with h | h | h | h | h | h
  · exact Or.inl (iof (by decide) h)
  · exact Or.inr (Or.inl (iof (by decide) h))
  · exact Or.inr (Or.inr (Or.inl (iof (by decide) h)))
  · exact Or.inr (Or.inr (Or.inr (Or.inl (iof (by decide) h))))
  · exact Or.inr (Or.inr (Or.inr (Or.inr (Or.inl (iof (by decide) h)))))
  · exact Or.inr (Or.inr (Or.inr (Or.inr (Or.inr ((iof (by decide) h))))))
theorem tw_0_7 {x : Int32} (h1 : ¬ x.toInt < 0) (h2 : ¬ 7 < x.toInt) : x = 0 ∨ x = 1 ∨ x = 2 ∨ x = 3 ∨ x = 4 ∨ x = 5 ∨ x = 6 ∨ x = 7 := by
  have h : x.toInt = 0 ∨ x.toInt = 1 ∨ x.toInt = 2 ∨ x.toInt = 3 ∨ x.toInt = 4 ∨ x.toInt = 5 ∨ x.toInt = 6 ∨ x.toInt = 7 := by omega
  rcases h with h | h | h | h | h | h | h | h
  · exact Or.inl (iof (by decide) h)
  · exact Or.inr (Or.inl (iof (by decide) h))
  · exact Or.inr (Or.inr (Or.inl (iof (by decide) h)))
  · exact Or.inr (Or.inr (Or.inr (Or.inl (iof (by decide) h))))
  · exact Or.inr (Or.inr (Or.inr (Or.inr (Or.inl (iof (by decide) h)))))
  · exact Or.inr (Or.inr (Or.inr (Or.inr (Or.inr (Or.inl (iof (by decide) h))))))
  · exact Or.inr (Or.inr (Or.inr (Or.inr (Or.inr (Or.inr (Or.inl (iof (by decide) h)))))))
  · exact Or.inr (Or.inr (Or.inr (Or.inr (Or.inr (Or.inr (Or.inr ((iof (by decide) h))))))))
theorem tw_1_7 {x : Int32} (h1 : ¬ x.toInt < 1) (h2 : ¬ 7 < x.toInt) : x = 1 ∨ x = 2 ∨ x = 3 ∨ x = 4 ∨ x = 5 ∨ x = 6 ∨ x = 7 := by
  have h : x.toInt = 1 ∨ x.toInt = 2 ∨ x.toInt = 3 ∨ x.toInt = 4 ∨ x.toInt = 5 ∨ x.toInt = 6 ∨ x.toInt = 7 := by omega
  rcases h with h | h | h | h | h | h | h
  · exact Or.inl (iof (by decide) h)
  · exact Or.inr (Or.inl (iof (by decide) h))
  · exact Or.inr (Or.inr (Or.inl (iof (by decide) h)))
  · exact Or.inr (Or.inr (Or.inr (Or.inl (iof (by decide) h))))
  · exact Or.inr (Or.inr (Or.inr (Or.inr (Or.inl (iof (by decide) h)))))
  · exact Or.inr (Or.inr (Or.inr (Or.inr (Or.inr (Or.inl (iof (by decide) h))))))
  · exact Or.inr (Or.inr (Or.inr (Or.inr (Or.inr (Or.inr ((iof (by decide) h)))))))
def an_type (a s f : Int) : Int32 := if a ≠ 0 ∨ (f ≠ -1 ∧ f ≠ 0) then -2 else if s < 0 ∨ 4 < s then -3 else if f = 0 then -4 else 1
def an_constants (c n : Int) : Int32 := if c ≠ 0 then -2 else if n < 1 ∨ 4 < n then -3 else -4
def an_caller (c : Int) : Int32 := if c ≠ 0 then -2 else 0
def an_leave (_a1 : Int) : Int32 := -2
def an_set (_a1 _a2 : Int) : Int32 := -2
def an_call (_a1 _a2 : Int) : Int32 := -2
def an_handle (_a1 _a2 : Int) : Int32 := -2
def an_is (_a1 _a2 : Int) : Int32 := -2
def an_get (_a1 _a2 _a3 : Int) : Int32 := -2
def an_proxy (c h : Int) : Int32 := if c ≠ 0 then -2 else if h < 0 ∨ 3 < h then -3 else -4
def an_constant (c _i : Int) : Int32 := if c ≠ 0 then -2 else -4
def an_resultKind : Int32 := 0
def an_result : Int64 := 0
def an_cause : Int32 := 0
def an_about (c w : Int) : Int32 := if c ≠ 0 then -2 else if w = 0 then 0 else if w = 1 ∨ w = 2 then -1 else if w = 3 ∨ w = 4 then 0 else -3
def an_told (w : Int) : Int32 := if w = 0 then 1 else if 1 ≤ w ∧ w ≤ 5 then 0 else -3
def an_field (c n t s : Int) : Int32 := if c ≠ 0 ∨ 1 ≤ t then -2 else if n < 0 ∨ 19 < n ∨ t < -2 then -3 else if s = 0 then -4 else 0
def an_findField (c n : Int) : Int32 := if c ≠ 0 then -2 else if n < 0 ∨ 19 < n then -3 else -11
def an_findMethod (c n k x y : Int) : Int32 := if c ≠ 0 ∨ (0 < k ∧ 1 ≤ x) ∨ (1 < k ∧ 1 ≤ y) then -2 else if n < 0 ∨ 19 < n ∨ k < 0 ∨ 2 < k ∨ (0 < k ∧ x < -2) ∨ (1 < k ∧ y < -2) then -3 else -11
def an_method (c n k x y g m b v : Int) : Int32 := if c ≠ 0 ∨ (0 < k ∧ 1 ≤ x) ∨ (1 < k ∧ 1 ≤ y) ∨ 1 ≤ g then -2
  else if n < 0 ∨ 19 < n ∨ k < 0 ∨ 2 < k ∨ (0 < k ∧ x < -2) ∨ (1 < k ∧ y < -2) ∨ g < -3 ∨ m < 0 ∨ 7 < m ∨ m = 3 ∨ m = 6 ∨ m = 7 ∨ b < 0 ∨ 7 < b ∨ (b = 5 ∧ (v < 0 ∨ 99 < v)) then -3
  else if m = 2 ∨ (b = 1 ∧ (k ≤ 1 ∨ x ≠ -1 ∨ y ≠ -1)) ∨ ((b = 2 ∨ b = 7) ∧ (k ≤ 0 ∨ x < 0 ∨ v ≠ 0)) ∨ b = 3 ∨ (b = 4 ∧ (k ≤ 0 ∨ x ≠ -1)) ∨ (b = 6 ∧ (m = 1 ∨ m = 5)) then -4 else 0
def an_value (k i v : Int) : Int32 := if i = 3 then -2 else if k ≠ 0 ∨ i < 0 ∨ 3 < i then -3 else if i = 1 ∧ (v < -2147483648 ∨ 2147483647 < v) then -3 else 1
def an_start (c : Int) : Int32 := if c ≠ 0 then -2 else 1
def an_make (c : Int) : Int32 := if c ≠ 0 then -2 else 0
