set_option maxHeartbeats 4000000 in
set_option maxRecDepth 100000 in
theorem c8_isClass (l : Launch) (dC : Nat → ClassId) (dI : Nat → Nat → Nat) (h0 : Nat) (q : Nat → Nat) (a1 : Int32) (sz : Nat)  : Met l yX8_isClass wsX8_isClass ({ frames := 0, cells := 0, slots := 0, locals := 0 }) (va_Pc [.ref h0, .int a1] (pz (dC, dI) [] [(h0, .inr (7, [.ref (q 0), .int 1, .ref (q 1), .int 0, .int 0, .ref (q 2), .int 0, .ref (q 3), .int 0, .ref (q 4), .int 0, .int 0, .ref (q 5), .int 0, .int 0]))] sz)) (qR (fun v => (v = some (.int 1) ∧ a1 = 0) ∨ (v = some (.int 0) ∧ (a1.toInt ≠ 0)))) 0 0 nA := by
  refine Met.ofW (cc := cX8_isClass) (maxL := 2) (ret := (some .boolean)) (by decide) rfl ?_
  intro p e s m args below meth c s₁ B hml hv
  obtain ⟨rfl, hsz, hP, hK, hD, hN⟩ := hv
  have hx := B.exec
  have hb := B.bytes
  have hr := B.returns
  have hts := atoms_spec (ws := wsX8_isClass) B.pre
  have hown : s.vm.findClass RX8 = some m.cls := findClass_of_methodNamed B.named
  have hlocks := B.notSynchronized
  subst hsz
  have hS : va_S nA s.heap s.heap [] := va_S.rf
  have hl := lv_entry ([.ref h0, .int a1]) (n := 2) (Nat.le_of_ble_eq_true rfl)
  rw [lg_entry_eq]
  generalize (lg_sl ([.ref h0, .int a1]) ++ List.replicate (2 - (lg_sl ([.ref h0, .int a1])).length) Slot.unset).toArray = ls at hl ⊢
  have hl : lv_has ls 2 [(0, .ref h0), (1, .int a1)] := hl
  refine lv_iload_n hx hb dX8_isClass_0 rfl (lv_at hl 1 rfl) ?_
  refine lv_if_lt (tgt := 16) hx hb dX8_isClass_1 (by decide) (fun c1 => ?_) (fun c1 => ?_)
  · have ic1 : a1.toInt < 0 := il2 rfl (by decide) c1
    refine lv_iconst (v := 0) hx hb dX8_isClass_16 (by decide) ?_
    exact W.zret (v := 0) (ty := .boolean) hx hb hr rfl (fun t ht hW => ⟨⟨(some (.int 0)), rfl, (by first | exact Or.inr (⟨rfl, (by first | omega | (have kq := kz; omega) | decide)⟩))⟩, hS.F ht⟩) hS.2.2 dX8_isClass_17
  · have ic1 : 0 ≤ a1.toInt := inl2 rfl (by decide) c1
    refine lv_iload_n hx hb dX8_isClass_4 rfl (lv_at hl 1 rfl) ?_
    refine lv_aload_n hx hb dX8_isClass_5 rfl (lv_at hl 0 rfl) ?_
    refine va_get (D := (dC, dI)) (own := RX8) (ref := "ReflectModels") (index := 15) (ci := 7) (v := .int 1) (C := RX8) (T := TX8) (N := 15) hx hb hts inX8_isClass_8 hown hK hP 0 rfl rfl 1 (by decide) (hts (.fieldLink RX8 15 "ReflectModels" "classCount" "I") (by decide +kernel)) (fun _ h9 => h9) rfl dX8_isClass_6 ?_
    refine lv_icmp_ge (tgt := 16) hx hb dX8_isClass_9 (by decide) (fun c2 => ?_) (fun c2 => ?_)
    · have ic2 : 1 ≤ a1.toInt := ile2 (by decide) rfl c2
      refine lv_iconst (v := 0) hx hb dX8_isClass_16 (by decide) ?_
      exact W.zret (v := 0) (ty := .boolean) hx hb hr rfl (fun t ht hW => ⟨⟨(some (.int 0)), rfl, (by first | exact Or.inr (⟨rfl, (by first | omega | (have kq := kz; omega) | decide)⟩))⟩, hS.F ht⟩) hS.2.2 dX8_isClass_17
    · have ic2 : a1.toInt < 1 := inle2 (by decide) rfl c2
      refine lv_iconst (v := 1) hx hb dX8_isClass_12 (by decide) ?_
      refine lv_goto (tgt := 17) hx hb dX8_isClass_13 (by decide) ?_
      exact W.zret (v := 1) (ty := .boolean) hx hb hr rfl (fun t ht hW => ⟨⟨(some (.int 1)), rfl, (by first | exact Or.inl ⟨rfl, (iof (a := 0) (by decide) (by omega))⟩)⟩, hS.F ht⟩) hS.2.2 dX8_isClass_17

set_option maxHeartbeats 4000000 in
set_option maxRecDepth 100000 in
theorem c8_isMissingClass (l : Launch) (dC : Nat → ClassId) (dI : Nat → Nat → Nat) (h0 : Nat) (q : Nat → Nat) (a1 : Int32) (sz : Nat)  : Met l yX8_isMissingClass wsX8_isMissingClass ({ frames := 0, cells := 0, slots := 0, locals := 0 }) (va_Pc [.ref h0, .int a1] (pz (dC, dI) [] [(h0, .inr (7, [.ref (q 0), .int 1, .ref (q 1), .int 0, .int 0, .ref (q 2), .int 0, .ref (q 3), .int 0, .ref (q 4), .int 0, .int 0, .ref (q 5), .int 0, .int 0]))] sz)) (qR (fun v => (v = some (.int 1) ∧ (1 ≤ a1.toInt)) ∨ (v = some (.int 0) ∧ (a1.toInt < 1)))) 0 0 nA := by
  refine Met.ofW (cc := cX8_isMissingClass) (maxL := 2) (ret := (some .boolean)) (by decide) rfl ?_
  intro p e s m args below meth c s₁ B hml hv
  obtain ⟨rfl, hsz, hP, hK, hD, hN⟩ := hv
  have hx := B.exec
  have hb := B.bytes
  have hr := B.returns
  have hts := atoms_spec (ws := wsX8_isMissingClass) B.pre
  have hown : s.vm.findClass RX8 = some m.cls := findClass_of_methodNamed B.named
  have hlocks := B.notSynchronized
  subst hsz
  have hS : va_S nA s.heap s.heap [] := va_S.rf
  have hl := lv_entry ([.ref h0, .int a1]) (n := 2) (Nat.le_of_ble_eq_true rfl)
  rw [lg_entry_eq]
  generalize (lg_sl ([.ref h0, .int a1]) ++ List.replicate (2 - (lg_sl ([.ref h0, .int a1])).length) Slot.unset).toArray = ls at hl ⊢
  have hl : lv_has ls 2 [(0, .ref h0), (1, .int a1)] := hl
  refine lv_iload_n hx hb dX8_isMissingClass_0 rfl (lv_at hl 1 rfl) ?_
  refine lv_aload_n hx hb dX8_isMissingClass_1 rfl (lv_at hl 0 rfl) ?_
  refine va_get (D := (dC, dI)) (own := RX8) (ref := "ReflectModels") (index := 15) (ci := 7) (v := .int 1) (C := RX8) (T := TX8) (N := 15) hx hb hts inX8_isMissingClass_8 hown hK hP 0 rfl rfl 1 (by decide) (hts (.fieldLink RX8 15 "ReflectModels" "classCount" "I") (by decide +kernel)) (fun _ h9 => h9) rfl dX8_isMissingClass_2 ?_
  refine lv_icmp_lt (tgt := 12) hx hb dX8_isMissingClass_5 (by decide) (fun c1 => ?_) (fun c1 => ?_)
  · have ic1 : a1.toInt < 1 := il2 rfl (by decide) c1
    refine lv_iconst (v := 0) hx hb dX8_isMissingClass_12 (by decide) ?_
    exact W.zret (v := 0) (ty := .boolean) hx hb hr rfl (fun t ht hW => ⟨⟨(some (.int 0)), rfl, (by first | exact Or.inr (⟨rfl, (by first | omega | (have kq := kz; omega) | decide)⟩))⟩, hS.F ht⟩) hS.2.2 dX8_isMissingClass_13
  · have ic1 : 1 ≤ a1.toInt := inl2 rfl (by decide) c1
    refine lv_iconst (v := 1) hx hb dX8_isMissingClass_8 (by decide) ?_
    refine lv_goto (tgt := 13) hx hb dX8_isMissingClass_9 (by decide) ?_
    exact W.zret (v := 1) (ty := .boolean) hx hb hr rfl (fun t ht hW => ⟨⟨(some (.int 1)), rfl, (by first | exact Or.inl ⟨rfl, (by first | omega | (have kq := kz; omega) | decide)⟩)⟩, hS.F ht⟩) hS.2.2 dX8_isMissingClass_13

set_option maxHeartbeats 4000000 in
set_option maxRecDepth 100000 in
theorem c8_isHandle (l : Launch) (dC : Nat → ClassId) (dI : Nat → Nat → Nat) (h0 : Nat) (q : Nat → Nat) (a1 : Int32) (sz : Nat)  : Met l yX8_isHandle wsX8_isHandle ({ frames := 0, cells := 0, slots := 0, locals := 0 }) (va_Pc [.ref h0, .int a1] (pz (dC, dI) [] [(h0, .inr (7, [.ref (q 0), .int 1, .ref (q 1), .int 0, .int 0, .ref (q 2), .int 0, .ref (q 3), .int 0, .ref (q 4), .int 0, .int 0, .ref (q 5), .int 0, .int 0]))] sz)) (qR (fun v => (v = some (.int 0)))) 0 0 nA := by
  refine Met.ofW (cc := cX8_isHandle) (maxL := 2) (ret := (some .boolean)) (by decide) rfl ?_
  intro p e s m args below meth c s₁ B hml hv
  obtain ⟨rfl, hsz, hP, hK, hD, hN⟩ := hv
  have hx := B.exec
  have hb := B.bytes
  have hr := B.returns
  have hts := atoms_spec (ws := wsX8_isHandle) B.pre
  have hown : s.vm.findClass RX8 = some m.cls := findClass_of_methodNamed B.named
  have hlocks := B.notSynchronized
  subst hsz
  have hS : va_S nA s.heap s.heap [] := va_S.rf
  have hl := lv_entry ([.ref h0, .int a1]) (n := 2) (Nat.le_of_ble_eq_true rfl)
  rw [lg_entry_eq]
  generalize (lg_sl ([.ref h0, .int a1]) ++ List.replicate (2 - (lg_sl ([.ref h0, .int a1])).length) Slot.unset).toArray = ls at hl ⊢
  have hl : lv_has ls 2 [(0, .ref h0), (1, .int a1)] := hl
  refine lv_iload_n hx hb dX8_isHandle_0 rfl (lv_at hl 1 rfl) ?_
  refine lv_if_lt (tgt := 16) hx hb dX8_isHandle_1 (by decide) (fun c1 => ?_) (fun c1 => ?_)
  · have ic1 : a1.toInt < 0 := il2 rfl (by decide) c1
    refine lv_iconst (v := 0) hx hb dX8_isHandle_16 (by decide) ?_
    exact W.zret (v := 0) (ty := .boolean) hx hb hr rfl (fun t ht hW => ⟨⟨(some (.int 0)), rfl, (by first | exact rfl)⟩, hS.F ht⟩) hS.2.2 dX8_isHandle_17
  · have ic1 : 0 ≤ a1.toInt := inl2 rfl (by decide) c1
    refine lv_iload_n hx hb dX8_isHandle_4 rfl (lv_at hl 1 rfl) ?_
    refine lv_aload_n hx hb dX8_isHandle_5 rfl (lv_at hl 0 rfl) ?_
    refine va_get (D := (dC, dI)) (own := RX8) (ref := "ReflectModels") (index := 37) (ci := 7) (v := .int 0) (C := RX8) (T := TX8) (N := 15) hx hb hts inX8_isHandle_8 hown hK hP 0 rfl rfl 6 (by decide) (hts (.fieldLink RX8 37 "ReflectModels" "handleCount" "I") (by decide +kernel)) (fun _ h9 => h9) rfl dX8_isHandle_6 ?_
    refine lv_icmp_ge (tgt := 16) hx hb dX8_isHandle_9 (by decide) (fun c2 => ?_) (fun c2 => ?_)
    · have ic2 : 0 ≤ a1.toInt := ile2 (by decide) rfl c2
      refine lv_iconst (v := 0) hx hb dX8_isHandle_16 (by decide) ?_
      exact W.zret (v := 0) (ty := .boolean) hx hb hr rfl (fun t ht hW => ⟨⟨(some (.int 0)), rfl, (by first | exact rfl)⟩, hS.F ht⟩) hS.2.2 dX8_isHandle_17
    · have ic2 : a1.toInt < 0 := inle2 (by decide) rfl c2
      exfalso; first | omega | (have kq := kz; omega)

set_option maxHeartbeats 4000000 in
set_option maxRecDepth 100000 in
theorem c8_isThing (l : Launch) (dC : Nat → ClassId) (dI : Nat → Nat → Nat) (h0 : Nat) (q : Nat → Nat) (a1 : Int32) (sz : Nat)  : Met l yX8_isThing wsX8_isThing ({ frames := 0, cells := 0, slots := 0, locals := 0 }) (va_Pc [.ref h0, .int a1] (pz (dC, dI) [] [(h0, .inr (7, [.ref (q 0), .int 1, .ref (q 1), .int 0, .int 0, .ref (q 2), .int 0, .ref (q 3), .int 0, .ref (q 4), .int 0, .int 0, .ref (q 5), .int 0, .int 0]))] sz)) (qR (fun v => (v = some (.int 0)))) 0 0 nA := by
  refine Met.ofW (cc := cX8_isThing) (maxL := 2) (ret := (some .boolean)) (by decide) rfl ?_
  intro p e s m args below meth c s₁ B hml hv
  obtain ⟨rfl, hsz, hP, hK, hD, hN⟩ := hv
  have hx := B.exec
  have hb := B.bytes
  have hr := B.returns
  have hts := atoms_spec (ws := wsX8_isThing) B.pre
  have hown : s.vm.findClass RX8 = some m.cls := findClass_of_methodNamed B.named
  have hlocks := B.notSynchronized
  subst hsz
  have hS : va_S nA s.heap s.heap [] := va_S.rf
  have hl := lv_entry ([.ref h0, .int a1]) (n := 2) (Nat.le_of_ble_eq_true rfl)
  rw [lg_entry_eq]
  generalize (lg_sl ([.ref h0, .int a1]) ++ List.replicate (2 - (lg_sl ([.ref h0, .int a1])).length) Slot.unset).toArray = ls at hl ⊢
  have hl : lv_has ls 2 [(0, .ref h0), (1, .int a1)] := hl
  refine lv_iload_n hx hb dX8_isThing_0 rfl (lv_at hl 1 rfl) ?_
  refine lv_if_lt (tgt := 16) hx hb dX8_isThing_1 (by decide) (fun c1 => ?_) (fun c1 => ?_)
  · have ic1 : a1.toInt < 0 := il2 rfl (by decide) c1
    refine lv_iconst (v := 0) hx hb dX8_isThing_16 (by decide) ?_
    exact W.zret (v := 0) (ty := .boolean) hx hb hr rfl (fun t ht hW => ⟨⟨(some (.int 0)), rfl, (by first | exact rfl)⟩, hS.F ht⟩) hS.2.2 dX8_isThing_17
  · have ic1 : 0 ≤ a1.toInt := inl2 rfl (by decide) c1
    refine lv_iload_n hx hb dX8_isThing_4 rfl (lv_at hl 1 rfl) ?_
    refine lv_aload_n hx hb dX8_isThing_5 rfl (lv_at hl 0 rfl) ?_
    refine va_get (D := (dC, dI)) (own := RX8) (ref := "ReflectModels") (index := 46) (ci := 7) (v := .int 0) (C := RX8) (T := TX8) (N := 15) hx hb hts inX8_isThing_8 hown hK hP 0 rfl rfl 8 (by decide) (hts (.fieldLink RX8 46 "ReflectModels" "thingCount" "I") (by decide +kernel)) (fun _ h9 => h9) rfl dX8_isThing_6 ?_
    refine lv_icmp_ge (tgt := 16) hx hb dX8_isThing_9 (by decide) (fun c2 => ?_) (fun c2 => ?_)
    · have ic2 : 0 ≤ a1.toInt := ile2 (by decide) rfl c2
      refine lv_iconst (v := 0) hx hb dX8_isThing_16 (by decide) ?_
      exact W.zret (v := 0) (ty := .boolean) hx hb hr rfl (fun t ht hW => ⟨⟨(some (.int 0)), rfl, (by first | exact rfl)⟩, hS.F ht⟩) hS.2.2 dX8_isThing_17
    · have ic2 : a1.toInt < 0 := inle2 (by decide) rfl c2
      exfalso; first | omega | (have kq := kz; omega)

set_option maxHeartbeats 4000000 in
set_option maxRecDepth 100000 in
theorem c8_isOutsideName (l : Launch) (dC : Nat → ClassId) (dI : Nat → Nat → Nat) (a1 : Int32) (sz : Nat)  : Met l yX8_isOutsideName wsX8_isOutsideName ({ frames := 0, cells := 0, slots := 0, locals := 0 }) (va_Pc [.int a1] (pz (dC, dI) [] [] sz)) (qR (fun v => (v = some (.int 1) ∧ (a1.toInt < 0 ∨ 19 < a1.toInt)) ∨ (v = some (.int 0) ∧ (0 ≤ a1.toInt ∧ a1.toInt ≤ 19)))) 0 0 nA := by
  refine Met.ofW (cc := cX8_isOutsideName) (maxL := 1) (ret := (some .boolean)) (by decide) rfl ?_
  intro p e s m args below meth c s₁ B hml hv
  obtain ⟨rfl, hsz, hP, hK, hD, hN⟩ := hv
  have hx := B.exec
  have hb := B.bytes
  have hr := B.returns
  have hts := atoms_spec (ws := wsX8_isOutsideName) B.pre
  have hown : s.vm.findClass RX8 = some m.cls := findClass_of_methodNamed B.named
  have hlocks := B.notSynchronized
  subst hsz
  have hS : va_S nA s.heap s.heap [] := va_S.rf
  have hl := lv_entry ([.int a1]) (n := 1) (Nat.le_of_ble_eq_true rfl)
  rw [lg_entry_eq]
  generalize (lg_sl ([.int a1]) ++ List.replicate (1 - (lg_sl ([.int a1])).length) Slot.unset).toArray = ls at hl ⊢
  have hl : lv_has ls 1 [(0, .int a1)] := hl
  refine lv_iload_n hx hb dX8_isOutsideName_0 rfl (lv_at hl 0 rfl) ?_
  refine lv_if_lt (tgt := 10) hx hb dX8_isOutsideName_1 (by decide) (fun c1 => ?_) (fun c1 => ?_)
  · have ic1 : a1.toInt < 0 := il2 rfl (by decide) c1
    refine lv_iconst (v := 1) hx hb dX8_isOutsideName_10 (by decide) ?_
    refine lv_goto (tgt := 15) hx hb dX8_isOutsideName_11 (by decide) ?_
    exact W.zret (v := 1) (ty := .boolean) hx hb hr rfl (fun t ht hW => ⟨⟨(some (.int 1)), rfl, (by first | exact Or.inl ⟨rfl, (by first | omega | (have kq := kz; omega) | decide)⟩)⟩, hS.F ht⟩) hS.2.2 dX8_isOutsideName_15
  · have ic1 : 0 ≤ a1.toInt := inl2 rfl (by decide) c1
    refine lv_iload_n hx hb dX8_isOutsideName_4 rfl (lv_at hl 0 rfl) ?_
    refine lv_bipush (v := 19) hx hb dX8_isOutsideName_5 (by decide) ?_
    refine lv_icmp_le (tgt := 14) hx hb dX8_isOutsideName_7 (by decide) (fun c2 => ?_) (fun c2 => ?_)
    · have ic2 : a1.toInt ≤ 19 := ile2 rfl (by decide) c2
      refine lv_iconst (v := 0) hx hb dX8_isOutsideName_14 (by decide) ?_
      exact W.zret (v := 0) (ty := .boolean) hx hb hr rfl (fun t ht hW => ⟨⟨(some (.int 0)), rfl, (by first | exact Or.inr (⟨rfl, (by first | omega | (have kq := kz; omega) | decide)⟩))⟩, hS.F ht⟩) hS.2.2 dX8_isOutsideName_15
    · have ic2 : 19 < a1.toInt := inle2 rfl (by decide) c2
      refine lv_iconst (v := 1) hx hb dX8_isOutsideName_10 (by decide) ?_
      refine lv_goto (tgt := 15) hx hb dX8_isOutsideName_11 (by decide) ?_
      exact W.zret (v := 1) (ty := .boolean) hx hb hr rfl (fun t ht hW => ⟨⟨(some (.int 1)), rfl, (by first | exact Or.inl ⟨rfl, (by first | omega | (have kq := kz; omega) | decide)⟩)⟩, hS.F ht⟩) hS.2.2 dX8_isOutsideName_15

set_option maxHeartbeats 4000000 in
set_option maxRecDepth 100000 in
theorem c7_init (l : Launch) (dC : Nat → ClassId) (dI : Nat → Nat → Nat) (h1 : Nat) (sz : Nat)  : Met l yX7_init wsX7_init ({ frames := 1, cells := 0, slots := 0, locals := 12 }) (va_Pc [.ref h1] (pz (dC, dI) [] [(h1, .inr (6, [.int 0, .long 0]))] sz)) (qW (dC, dI) (fun v w1 ty1 => v = none ∧ w1 = [(h1, .inr (6, [.int 0, .long 0]))] ∧ ty1 = []) (va_A [(h1, .inr (6, [.int 0, .long 0]))] sz)) 0 0 (va_A [(h1, .inr (6, [.int 0, .long 0]))] sz) := by
  refine Met.ofW (cc := cX7_init) (maxL := 1) (ret := none) (by decide) rfl ?_
  intro p e s m args below meth c s₁ B hml hv
  obtain ⟨rfl, hsz, hP, hK, hD, hN⟩ := hv
  have hx := B.exec
  have hb := B.bytes
  have hr := B.returns
  have hts := atoms_spec (ws := wsX7_init) B.pre
  have hown : s.vm.findClass RX7 = some m.cls := findClass_of_methodNamed B.named
  have hlocks := B.notSynchronized
  have hin : meth.name = "<init>" := (name_of_methodNamed B.named B.method).1
  subst hsz
  have hD := hD.self (sz := s.heap.size)
  generalize hAe : va_A [(h1, .inr (6, [.int 0, .long 0]))] s.heap.size = A at hD ⊢
  have hA : ∀ q : Nat, s.heap.size ≤ q → A q := fun q h => by rw [← hAe]; exact Or.inr h
  have hS : va_S A s.heap s.heap [] := va_S.rf
  have hl := lv_entry ([.ref h1]) (n := 1) (Nat.le_of_ble_eq_true rfl)
  rw [lg_entry_eq]
  generalize (lg_sl ([.ref h1]) ++ List.replicate (1 - (lg_sl ([.ref h1])).length) Slot.unset).toArray = ls at hl ⊢
  have hl : lv_has ls 1 [(0, .ref h1)] := hl
  refine lv_aload_n hx hb dX7_init_0 rfl (lv_at hl 0 rfl) ?_
  refine W.objInit hx hb hown (hts (.methodLink RX7 3 objectInit) (by decide +kernel)) (hts (.instanceMethod objectInit) (by decide +kernel)) (hts (.code objectInit ⟨#[0xb1]⟩ 1 none) (by decide +kernel)) rfl (by rw [hml]; exact hl.1) rfl dX7_init_1 (Nat.le_of_ble_eq_true rfl) (Nat.le_of_ble_eq_true rfl) ?_
  refine W.eq (g2 := F0 m 4 ls []) rfl ?_
  refine lv_aload_n hx hb dX7_init_4 rfl (lv_at hl 0 rfl) ?_
  refine lv_iconst (v := 0) hx hb dX7_init_5 (by decide) ?_
  refine va_put (D := (dC, dI)) (own := RX7) (ref := "ReflectModels$Value") (index := 9) (ci := 6) (v := .int 0) (ty := .int) (C := RX7) (T := TX7) (N := 2) hx hb hts inX7_init_7 tyX7 tyX7_ok nmX7 hown hK hP hD hS 0 rfl rfl 0 (by decide) (hts (.fieldLink RX7 9 "ReflectModels$Value" "kind" "I") (by decide +kernel)) (fun _ h9 => h9) rfl (by decide +kernel) rfl rfl (Nat.le_of_ble_eq_true rfl) dX7_init_6 (fun H locs hP hD hS => ?_)
  have hP : va_P (dC, dI) vwCl [(h1, .inr (6, [.int 0, .long 0]))] H := hP
  have hD : va_D A [(h1, .inr (6, [.int 0, .long 0]))] := hD
  refine lv_aload_n hx hb dX7_init_9 rfl (lv_at hl 0 rfl) ?_
  refine lv_lconst (v := 0) hx hb dX7_init_10 (by decide) ?_
  refine va_put (D := (dC, dI)) (own := RX7) (ref := "ReflectModels$Value") (index := 15) (ci := 6) (v := .long 0) (ty := .long) (C := RX7) (T := TX7) (N := 2) hx hb hts inX7_init_7 tyX7 tyX7_ok nmX7 hown hK hP hD hS 0 rfl rfl 1 (by decide) (hts (.fieldLink RX7 15 "ReflectModels$Value" "number" "J") (by decide +kernel)) (fun _ h9 => h9) rfl (by decide +kernel) rfl rfl (Nat.le_of_ble_eq_true rfl) dX7_init_11 (fun H locs hP hD hS => ?_)
  have hP : va_P (dC, dI) vwCl [(h1, .inr (6, [.int 0, .long 0]))] H := hP
  have hD : va_D A [(h1, .inr (6, [.int 0, .long 0]))] := hD
  have hP9 := hP.sub (ws' := [(h1, .inr (6, [.int 0, .long 0]))]) [0] rfl
  have hD9 := hD.sub (ws' := [(h1, .inr (6, [.int 0, .long 0]))]) [0] (by decide) rfl
  have hK9 := hK.sub (tys' := []) [] rfl
  exact W.vret hx hb hr (fun t ht hW => ⟨⟨none, rfl, _, _, ⟨rfl, rfl, rfl⟩, by rw [ht]; exact hP9, va_K.moved hW.alike hK9, hD9⟩, hS.F ht⟩) hS.2.2 dX7_init_14

set_option maxHeartbeats 4000000 in
set_option maxRecDepth 100000 in
theorem c0_init0 (l : Launch) (dC : Nat → ClassId) (dI : Nat → Nat → Nat) (h1 : Nat) (sz : Nat)  : Met l yX0_init wsX0_init ({ frames := 1, cells := 0, slots := 0, locals := 12 }) (va_Pc [.ref h1, .int 0, .null, .int 0, .null, .int 0, .int 0] (pz (dC, dI) [] [(h1, .inr (0, [.int 0, .null, .int 0, .null, .int 0, .int 0, .int 0, .int 0, .int 0, .int 0, .int 0, .int 0]))] sz)) (qW (dC, dI) (fun v w1 ty1 => v = none ∧ w1 = [(h1, .inr (0, [.int 0, .null, .int 0, .null, .int 0, .int 0, .int 1, .int 1, .int 0, .int 0, .int 0, .int 0]))] ∧ ty1 = []) (va_A [(h1, .inr (0, [.int 0, .null, .int 0, .null, .int 0, .int 0, .int 0, .int 0, .int 0, .int 0, .int 0, .int 0]))] sz)) 0 0 (va_A [(h1, .inr (0, [.int 0, .null, .int 0, .null, .int 0, .int 0, .int 0, .int 0, .int 0, .int 0, .int 0, .int 0]))] sz) := by
  refine Met.ofW (cc := cX0_init) (maxL := 8) (ret := none) (by decide) rfl ?_
  intro p e s m args below meth c s₁ B hml hv
  obtain ⟨rfl, hsz, hP, hK, hD, hN⟩ := hv
  have hx := B.exec
  have hb := B.bytes
  have hr := B.returns
  have hts := atoms_spec (ws := wsX0_init) B.pre
  have hown : s.vm.findClass RX0 = some m.cls := findClass_of_methodNamed B.named
  have hlocks := B.notSynchronized
  have hin : meth.name = "<init>" := (name_of_methodNamed B.named B.method).1
  subst hsz
  have hD := hD.self (sz := s.heap.size)
  generalize hAe : va_A [(h1, .inr (0, [.int 0, .null, .int 0, .null, .int 0, .int 0, .int 0, .int 0, .int 0, .int 0, .int 0, .int 0]))] s.heap.size = A at hD ⊢
  have hA : ∀ q : Nat, s.heap.size ≤ q → A q := fun q h => by rw [← hAe]; exact Or.inr h
  have hS : va_S A s.heap s.heap [] := va_S.rf
  have hl := lv_entry ([.ref h1, .int 0, .null, .int 0, .null, .int 0, .int 0]) (n := 8) (Nat.le_of_ble_eq_true rfl)
  rw [lg_entry_eq]
  generalize (lg_sl ([.ref h1, .int 0, .null, .int 0, .null, .int 0, .int 0]) ++ List.replicate (8 - (lg_sl ([.ref h1, .int 0, .null, .int 0, .null, .int 0, .int 0])).length) Slot.unset).toArray = ls at hl ⊢
  have hl : lv_has ls 8 [(0, .ref h1), (1, .int 0), (2, .null), (3, .int 0), (4, .null), (5, .int 0), (6, .int 0)] := hl
  refine lv_aload_n hx hb dX0_init_0 rfl (lv_at hl 0 rfl) ?_
  refine W.objInit hx hb hown (hts (.methodLink RX0 3 objectInit) (by decide +kernel)) (hts (.instanceMethod objectInit) (by decide +kernel)) (hts (.code objectInit ⟨#[0xb1]⟩ 1 none) (by decide +kernel)) rfl (by rw [hml]; exact hl.1) rfl dX0_init_1 (Nat.le_of_ble_eq_true rfl) (Nat.le_of_ble_eq_true rfl) ?_
  refine W.eq (g2 := F0 m 4 ls []) rfl ?_
  refine lv_aload_n hx hb dX0_init_4 rfl (lv_at hl 0 rfl) ?_
  refine lv_iconst (v := 0) hx hb dX0_init_5 (by decide) ?_
  refine va_put (D := (dC, dI)) (own := RX0) (ref := "ReflectModels$ClassModel") (index := 9) (ci := 0) (v := .int 0) (ty := .int) (C := RX0) (T := TX0) (N := 12) hx hb hts inX0_init_0 tyX0 tyX0_ok nmX0 hown hK hP hD hS 0 rfl rfl 8 (by decide) (hts (.fieldLink RX0 9 "ReflectModels$ClassModel" "state" "I") (by decide +kernel)) (fun _ h9 => h9) rfl (by decide +kernel) rfl rfl (Nat.le_of_ble_eq_true rfl) dX0_init_6 (fun H locs hP hD hS => ?_)
  have hP : va_P (dC, dI) vwCl [(h1, .inr (0, [.int 0, .null, .int 0, .null, .int 0, .int 0, .int 0, .int 0, .int 0, .int 0, .int 0, .int 0]))] H := hP
  have hD : va_D A [(h1, .inr (0, [.int 0, .null, .int 0, .null, .int 0, .int 0, .int 0, .int 0, .int 0, .int 0, .int 0, .int 0]))] := hD
  refine lv_aload_n hx hb dX0_init_9 rfl (lv_at hl 0 rfl) ?_
  refine lv_iconst (v := 0) hx hb dX0_init_10 (by decide) ?_
  refine va_put (D := (dC, dI)) (own := RX0) (ref := "ReflectModels$ClassModel") (index := 15) (ci := 0) (v := .int 0) (ty := .int) (C := RX0) (T := TX0) (N := 12) hx hb hts inX0_init_0 tyX0 tyX0_ok nmX0 hown hK hP hD hS 0 rfl rfl 9 (by decide) (hts (.fieldLink RX0 15 "ReflectModels$ClassModel" "constantCount" "I") (by decide +kernel)) (fun _ h9 => h9) rfl (by decide +kernel) rfl rfl (Nat.le_of_ble_eq_true rfl) dX0_init_11 (fun H locs hP hD hS => ?_)
  have hP : va_P (dC, dI) vwCl [(h1, .inr (0, [.int 0, .null, .int 0, .null, .int 0, .int 0, .int 0, .int 0, .int 0, .int 0, .int 0, .int 0]))] H := hP
  have hD : va_D A [(h1, .inr (0, [.int 0, .null, .int 0, .null, .int 0, .int 0, .int 0, .int 0, .int 0, .int 0, .int 0, .int 0]))] := hD
  refine lv_aload_n hx hb dX0_init_14 rfl (lv_at hl 0 rfl) ?_
  refine lv_iconst (v := 0) hx hb dX0_init_15 (by decide) ?_
  refine va_put (D := (dC, dI)) (own := RX0) (ref := "ReflectModels$ClassModel") (index := 18) (ci := 0) (v := .int 0) (ty := .int) (C := RX0) (T := TX0) (N := 12) hx hb hts inX0_init_0 tyX0 tyX0_ok nmX0 hown hK hP hD hS 0 rfl rfl 10 (by decide) (hts (.fieldLink RX0 18 "ReflectModels$ClassModel" "firstConstant" "I") (by decide +kernel)) (fun _ h9 => h9) rfl (by decide +kernel) rfl rfl (Nat.le_of_ble_eq_true rfl) dX0_init_16 (fun H locs hP hD hS => ?_)
  have hP : va_P (dC, dI) vwCl [(h1, .inr (0, [.int 0, .null, .int 0, .null, .int 0, .int 0, .int 0, .int 0, .int 0, .int 0, .int 0, .int 0]))] H := hP
  have hD : va_D A [(h1, .inr (0, [.int 0, .null, .int 0, .null, .int 0, .int 0, .int 0, .int 0, .int 0, .int 0, .int 0, .int 0]))] := hD
  refine lv_aload_n hx hb dX0_init_19 rfl (lv_at hl 0 rfl) ?_
  refine lv_iconst (v := 0) hx hb dX0_init_20 (by decide) ?_
  refine va_put (D := (dC, dI)) (own := RX0) (ref := "ReflectModels$ClassModel") (index := 21) (ci := 0) (v := .int 0) (ty := .int) (C := RX0) (T := TX0) (N := 12) hx hb hts inX0_init_0 tyX0 tyX0_ok nmX0 hown hK hP hD hS 0 rfl rfl 11 (by decide) (hts (.fieldLink RX0 21 "ReflectModels$ClassModel" "ownMembers" "I") (by decide +kernel)) (fun _ h9 => h9) rfl (by decide +kernel) rfl rfl (Nat.le_of_ble_eq_true rfl) dX0_init_21 (fun H locs hP hD hS => ?_)
  have hP : va_P (dC, dI) vwCl [(h1, .inr (0, [.int 0, .null, .int 0, .null, .int 0, .int 0, .int 0, .int 0, .int 0, .int 0, .int 0, .int 0]))] H := hP
  have hD : va_D A [(h1, .inr (0, [.int 0, .null, .int 0, .null, .int 0, .int 0, .int 0, .int 0, .int 0, .int 0, .int 0, .int 0]))] := hD
  refine lv_aload_n hx hb dX0_init_24 rfl (lv_at hl 0 rfl) ?_
  refine lv_iload_n hx hb dX0_init_25 rfl (lv_at hl 1 rfl) ?_
  refine va_putF (D := (dC, dI)) (own := RX0) (ref := "ReflectModels$ClassModel") (index := 24) (ci := 0) (v := .int 0) (ty := .int) (C := RX0) (T := TX0) (N := 12) hx hb hts inX0_init_0 tyX0 tyX0_ok nmX0 hown hK hP hD hS 0 rfl rfl 0 (by decide) (hts (.fieldLink RX0 24 "ReflectModels$ClassModel" "number" "I") (by decide +kernel)) (fun _ h9 => h9) rfl hin rfl (by decide +kernel) rfl rfl (Nat.le_of_ble_eq_true rfl) dX0_init_26 (fun H locs hP hD hS => ?_)
  have hP : va_P (dC, dI) vwCl [(h1, .inr (0, [.int 0, .null, .int 0, .null, .int 0, .int 0, .int 0, .int 0, .int 0, .int 0, .int 0, .int 0]))] H := hP
  have hD : va_D A [(h1, .inr (0, [.int 0, .null, .int 0, .null, .int 0, .int 0, .int 0, .int 0, .int 0, .int 0, .int 0, .int 0]))] := hD
  refine lv_aload_n hx hb dX0_init_29 rfl (lv_at hl 0 rfl) ?_
  refine lv_aload_nN hx hb dX0_init_30 rfl (lv_at hl 2 rfl) ?_
  refine va_putF (D := (dC, dI)) (own := RX0) (ref := "ReflectModels$ClassModel") (index := 27) (ci := 0) (v := .null) (ty := .object "ReflectModels$ClassModel") (C := RX0) (T := TX0) (N := 12) hx hb hts inX0_init_0 tyX0 tyX0_ok nmX0 hown hK hP hD hS 0 rfl rfl 1 (by decide) (hts (.fieldLink RX0 27 "ReflectModels$ClassModel" "above" "LReflectModels$ClassModel;") (by decide +kernel)) (fun _ h9 => h9) rfl hin rfl (by decide +kernel) rfl rfl (Nat.le_of_ble_eq_true rfl) dX0_init_31 (fun H locs hP hD hS => ?_)
  have hP : va_P (dC, dI) vwCl [(h1, .inr (0, [.int 0, .null, .int 0, .null, .int 0, .int 0, .int 0, .int 0, .int 0, .int 0, .int 0, .int 0]))] H := hP
  have hD : va_D A [(h1, .inr (0, [.int 0, .null, .int 0, .null, .int 0, .int 0, .int 0, .int 0, .int 0, .int 0, .int 0, .int 0]))] := hD
  refine lv_aload_n hx hb dX0_init_34 rfl (lv_at hl 0 rfl) ?_
  refine lv_iload_n hx hb dX0_init_35 rfl (lv_at hl 3 rfl) ?_
  refine va_putF (D := (dC, dI)) (own := RX0) (ref := "ReflectModels$ClassModel") (index := 31) (ci := 0) (v := .int 0) (ty := .int) (C := RX0) (T := TX0) (N := 12) hx hb hts inX0_init_0 tyX0 tyX0_ok nmX0 hown hK hP hD hS 0 rfl rfl 2 (by decide) (hts (.fieldLink RX0 31 "ReflectModels$ClassModel" "sort" "I") (by decide +kernel)) (fun _ h9 => h9) rfl hin rfl (by decide +kernel) rfl rfl (Nat.le_of_ble_eq_true rfl) dX0_init_36 (fun H locs hP hD hS => ?_)
  have hP : va_P (dC, dI) vwCl [(h1, .inr (0, [.int 0, .null, .int 0, .null, .int 0, .int 0, .int 0, .int 0, .int 0, .int 0, .int 0, .int 0]))] H := hP
  have hD : va_D A [(h1, .inr (0, [.int 0, .null, .int 0, .null, .int 0, .int 0, .int 0, .int 0, .int 0, .int 0, .int 0, .int 0]))] := hD
  refine lv_aload_n hx hb dX0_init_39 rfl (lv_at hl 0 rfl) ?_
  refine lv_aloadN hx hb dX0_init_40 (lv_at hl 4 rfl) ?_
  refine va_putF (D := (dC, dI)) (own := RX0) (ref := "ReflectModels$ClassModel") (index := 34) (ci := 0) (v := .null) (ty := .object "ReflectModels$ClassModel") (C := RX0) (T := TX0) (N := 12) hx hb hts inX0_init_0 tyX0 tyX0_ok nmX0 hown hK hP hD hS 0 rfl rfl 3 (by decide) (hts (.fieldLink RX0 34 "ReflectModels$ClassModel" "face" "LReflectModels$ClassModel;") (by decide +kernel)) (fun _ h9 => h9) rfl hin rfl (by decide +kernel) rfl rfl (Nat.le_of_ble_eq_true rfl) dX0_init_42 (fun H locs hP hD hS => ?_)
  have hP : va_P (dC, dI) vwCl [(h1, .inr (0, [.int 0, .null, .int 0, .null, .int 0, .int 0, .int 0, .int 0, .int 0, .int 0, .int 0, .int 0]))] H := hP
  have hD : va_D A [(h1, .inr (0, [.int 0, .null, .int 0, .null, .int 0, .int 0, .int 0, .int 0, .int 0, .int 0, .int 0, .int 0]))] := hD
  refine lv_aload_n hx hb dX0_init_45 rfl (lv_at hl 0 rfl) ?_
  refine lv_iload hx hb dX0_init_46 (lv_at hl 5 rfl) ?_
  refine va_putF (D := (dC, dI)) (own := RX0) (ref := "ReflectModels$ClassModel") (index := 37) (ci := 0) (v := .int 0) (ty := .boolean) (C := RX0) (T := TX0) (N := 12) hx hb hts inX0_init_0 tyX0 tyX0_ok nmX0 hown hK hP hD hS 0 rfl rfl 4 (by decide) (hts (.fieldLink RX0 37 "ReflectModels$ClassModel" "shut" "Z") (by decide +kernel)) (fun _ h9 => h9) rfl hin rfl (by decide +kernel) rfl rfl (Nat.le_of_ble_eq_true rfl) dX0_init_48 (fun H locs hP hD hS => ?_)
  have hP : va_P (dC, dI) vwCl [(h1, .inr (0, [.int 0, .null, .int 0, .null, .int 0, .int 0, .int 0, .int 0, .int 0, .int 0, .int 0, .int 0]))] H := hP
  have hD : va_D A [(h1, .inr (0, [.int 0, .null, .int 0, .null, .int 0, .int 0, .int 0, .int 0, .int 0, .int 0, .int 0, .int 0]))] := hD
  refine lv_aload_n hx hb dX0_init_51 rfl (lv_at hl 0 rfl) ?_
  refine lv_iload hx hb dX0_init_52 (lv_at hl 6 rfl) ?_
  refine va_putF (D := (dC, dI)) (own := RX0) (ref := "ReflectModels$ClassModel") (index := 41) (ci := 0) (v := .int 0) (ty := .boolean) (C := RX0) (T := TX0) (N := 12) hx hb hts inX0_init_0 tyX0 tyX0_ok nmX0 hown hK hP hD hS 0 rfl rfl 5 (by decide) (hts (.fieldLink RX0 41 "ReflectModels$ClassModel" "fails" "Z") (by decide +kernel)) (fun _ h9 => h9) rfl hin rfl (by decide +kernel) rfl rfl (Nat.le_of_ble_eq_true rfl) dX0_init_54 (fun H locs hP hD hS => ?_)
  have hP : va_P (dC, dI) vwCl [(h1, .inr (0, [.int 0, .null, .int 0, .null, .int 0, .int 0, .int 0, .int 0, .int 0, .int 0, .int 0, .int 0]))] H := hP
  have hD : va_D A [(h1, .inr (0, [.int 0, .null, .int 0, .null, .int 0, .int 0, .int 0, .int 0, .int 0, .int 0, .int 0, .int 0]))] := hD
  refine lv_iconst (v := 1) hx hb dX0_init_57 (by decide) ?_
  refine lv_iload_n hx hb dX0_init_58 rfl (lv_at hl 1 rfl) ?_
  refine lv_ishl hx hb dX0_init_59 ?_
  refine lv_topi (fun y1 ey1 => ?_)
  obtain rfl : y1 = 1 := ey1.trans (by decide)
  refine lv_istore (lv' := [(7, .int 1), (0, .ref h1), (1, .int 0), (2, .null), (3, .int 0), (4, .null), (5, .int 0), (6, .int 0)]) hx hb dX0_init_60 hl (by decide) rfl (fun ls hl => ?_)
  refine lv_aload_n hx hb dX0_init_62 rfl (lv_at hl 1 rfl) ?_
  refine lv_iload hx hb dX0_init_63 (lv_at hl 0 rfl) ?_
  refine lv_aload_nN hx hb dX0_init_65 rfl (lv_at hl 3 rfl) ?_
  refine lv_ifnonnullN hx hb dX0_init_66 ?_
  refine lv_iconst (v := 0) hx hb dX0_init_69 (by decide) ?_
  refine lv_goto (tgt := 77) hx hb dX0_init_70 (by decide) ?_
  refine lv_ior hx hb dX0_init_77 ?_
  refine lv_topi (fun y2 ey2 => ?_)
  obtain rfl : y2 = 1 := ey2.trans (by decide)
  refine va_putF (D := (dC, dI)) (own := RX0) (ref := "ReflectModels$ClassModel") (index := 44) (ci := 0) (v := .int 1) (ty := .int) (C := RX0) (T := TX0) (N := 12) hx hb hts inX0_init_0 tyX0 tyX0_ok nmX0 hown hK hP hD hS 0 rfl rfl 6 (by decide) (hts (.fieldLink RX0 44 "ReflectModels$ClassModel" "line" "I") (by decide +kernel)) (fun _ h9 => h9) rfl hin rfl (by decide +kernel) rfl rfl (Nat.le_of_ble_eq_true rfl) dX0_init_78 (fun H locs hP hD hS => ?_)
  have hP : va_P (dC, dI) vwCl [(h1, .inr (0, [.int 0, .null, .int 0, .null, .int 0, .int 0, .int 1, .int 0, .int 0, .int 0, .int 0, .int 0]))] H := hP
  have hD : va_D A [(h1, .inr (0, [.int 0, .null, .int 0, .null, .int 0, .int 0, .int 1, .int 0, .int 0, .int 0, .int 0, .int 0]))] := hD
  refine lv_aload_n hx hb dX0_init_81 rfl (lv_at hl 1 rfl) ?_
  refine lv_iload hx hb dX0_init_82 (lv_at hl 0 rfl) ?_
  refine lv_aload_nN hx hb dX0_init_84 rfl (lv_at hl 3 rfl) ?_
  refine lv_ifnonnullN hx hb dX0_init_85 ?_
  refine lv_iconst (v := 0) hx hb dX0_init_88 (by decide) ?_
  refine lv_goto (tgt := 96) hx hb dX0_init_89 (by decide) ?_
  refine lv_ior hx hb dX0_init_96 ?_
  refine lv_topi (fun y3 ey3 => ?_)
  obtain rfl : y3 = 1 := ey3.trans (by decide)
  refine lv_aloadN hx hb dX0_init_97 (lv_at hl 5 rfl) ?_
  refine lv_ifnonnullN hx hb dX0_init_99 ?_
  refine lv_iconst (v := 0) hx hb dX0_init_102 (by decide) ?_
  refine lv_goto (tgt := 111) hx hb dX0_init_103 (by decide) ?_
  refine lv_ior hx hb dX0_init_111 ?_
  refine lv_topi (fun y4 ey4 => ?_)
  obtain rfl : y4 = 1 := ey4.trans (by decide)
  refine va_putF (D := (dC, dI)) (own := RX0) (ref := "ReflectModels$ClassModel") (index := 47) (ci := 0) (v := .int 1) (ty := .int) (C := RX0) (T := TX0) (N := 12) hx hb hts inX0_init_0 tyX0 tyX0_ok nmX0 hown hK hP hD hS 0 rfl rfl 7 (by decide) (hts (.fieldLink RX0 47 "ReflectModels$ClassModel" "all" "I") (by decide +kernel)) (fun _ h9 => h9) rfl hin rfl (by decide +kernel) rfl rfl (Nat.le_of_ble_eq_true rfl) dX0_init_112 (fun H locs hP hD hS => ?_)
  have hP : va_P (dC, dI) vwCl [(h1, .inr (0, [.int 0, .null, .int 0, .null, .int 0, .int 0, .int 1, .int 1, .int 0, .int 0, .int 0, .int 0]))] H := hP
  have hD : va_D A [(h1, .inr (0, [.int 0, .null, .int 0, .null, .int 0, .int 0, .int 1, .int 1, .int 0, .int 0, .int 0, .int 0]))] := hD
  have hP9 := hP.sub (ws' := [(h1, .inr (0, [.int 0, .null, .int 0, .null, .int 0, .int 0, .int 1, .int 1, .int 0, .int 0, .int 0, .int 0]))]) [0] rfl
  have hD9 := hD.sub (ws' := [(h1, .inr (0, [.int 0, .null, .int 0, .null, .int 0, .int 0, .int 1, .int 1, .int 0, .int 0, .int 0, .int 0]))]) [0] (by decide) rfl
  have hK9 := hK.sub (tys' := []) [] rfl
  exact W.vret hx hb hr (fun t ht hW => ⟨⟨none, rfl, _, _, ⟨rfl, rfl, rfl⟩, by rw [ht]; exact hP9, va_K.moved hW.alike hK9, hD9⟩, hS.F ht⟩) hS.2.2 dX0_init_115

set_option maxHeartbeats 4000000 in
set_option maxRecDepth 100000 in
theorem c0_init1 (l : Launch) (dC : Nat → ClassId) (dI : Nat → Nat → Nat) (h1 r1 : Nat) (a3 a5 a6 : Int32) (sz : Nat) (h5 : a5 = 0 ∨ a5 = 1) (h6 : a6 = 0 ∨ a6 = 1) : Met l yX0_init wsX0_init ({ frames := 1, cells := 0, slots := 0, locals := 12 }) (va_Pc [.ref h1, .int 1, .ref r1, .int a3, .null, .int a5, .int a6] (pz (dC, dI) [] [(h1, .inr (0, [.int 0, .null, .int 0, .null, .int 0, .int 0, .int 0, .int 0, .int 0, .int 0, .int 0, .int 0])), (r1, .inr (0, [.int 0, .null, .int 0, .null, .int 0, .int 0, .int 1, .int 1, .int 0, .int 0, .int 0, .int 0]))] sz)) (qW (dC, dI) (fun v w1 ty1 => v = none ∧ w1 = [(h1, .inr (0, [.int 1, .ref r1, .int a3, .null, .int a5, .int a6, .int 3, .int 3, .int 0, .int 0, .int 0, .int 0])), (r1, .inr (0, [.int 0, .null, .int 0, .null, .int 0, .int 0, .int 1, .int 1, .int 0, .int 0, .int 0, .int 0]))] ∧ ty1 = []) (va_A [(h1, .inr (0, [.int 0, .null, .int 0, .null, .int 0, .int 0, .int 0, .int 0, .int 0, .int 0, .int 0, .int 0])), (r1, .inr (0, [.int 0, .null, .int 0, .null, .int 0, .int 0, .int 1, .int 1, .int 0, .int 0, .int 0, .int 0]))] sz)) 0 0 (va_A [(h1, .inr (0, [.int 0, .null, .int 0, .null, .int 0, .int 0, .int 0, .int 0, .int 0, .int 0, .int 0, .int 0])), (r1, .inr (0, [.int 0, .null, .int 0, .null, .int 0, .int 0, .int 1, .int 1, .int 0, .int 0, .int 0, .int 0]))] sz) := by
  refine Met.ofW (cc := cX0_init) (maxL := 8) (ret := none) (by decide) rfl ?_
  intro p e s m args below meth c s₁ B hml hv
  obtain ⟨rfl, hsz, hP, hK, hD, hN⟩ := hv
  have hx := B.exec
  have hb := B.bytes
  have hr := B.returns
  have hts := atoms_spec (ws := wsX0_init) B.pre
  have hown : s.vm.findClass RX0 = some m.cls := findClass_of_methodNamed B.named
  have hlocks := B.notSynchronized
  have hin : meth.name = "<init>" := (name_of_methodNamed B.named B.method).1
  subst hsz
  have hD := hD.self (sz := s.heap.size)
  generalize hAe : va_A [(h1, .inr (0, [.int 0, .null, .int 0, .null, .int 0, .int 0, .int 0, .int 0, .int 0, .int 0, .int 0, .int 0])), (r1, .inr (0, [.int 0, .null, .int 0, .null, .int 0, .int 0, .int 1, .int 1, .int 0, .int 0, .int 0, .int 0]))] s.heap.size = A at hD ⊢
  have hA : ∀ q : Nat, s.heap.size ≤ q → A q := fun q h => by rw [← hAe]; exact Or.inr h
  have hS : va_S A s.heap s.heap [] := va_S.rf
  have hl := lv_entry ([.ref h1, .int 1, .ref r1, .int a3, .null, .int a5, .int a6]) (n := 8) (Nat.le_of_ble_eq_true rfl)
  rw [lg_entry_eq]
  generalize (lg_sl ([.ref h1, .int 1, .ref r1, .int a3, .null, .int a5, .int a6]) ++ List.replicate (8 - (lg_sl ([.ref h1, .int 1, .ref r1, .int a3, .null, .int a5, .int a6])).length) Slot.unset).toArray = ls at hl ⊢
  have hl : lv_has ls 8 [(0, .ref h1), (1, .int 1), (2, .ref r1), (3, .int a3), (4, .null), (5, .int a5), (6, .int a6)] := hl
  refine lv_aload_n hx hb dX0_init_0 rfl (lv_at hl 0 rfl) ?_
  refine W.objInit hx hb hown (hts (.methodLink RX0 3 objectInit) (by decide +kernel)) (hts (.instanceMethod objectInit) (by decide +kernel)) (hts (.code objectInit ⟨#[0xb1]⟩ 1 none) (by decide +kernel)) rfl (by rw [hml]; exact hl.1) rfl dX0_init_1 (Nat.le_of_ble_eq_true rfl) (Nat.le_of_ble_eq_true rfl) ?_
  refine W.eq (g2 := F0 m 4 ls []) rfl ?_
  refine lv_aload_n hx hb dX0_init_4 rfl (lv_at hl 0 rfl) ?_
  refine lv_iconst (v := 0) hx hb dX0_init_5 (by decide) ?_
  refine va_put (D := (dC, dI)) (own := RX0) (ref := "ReflectModels$ClassModel") (index := 9) (ci := 0) (v := .int 0) (ty := .int) (C := RX0) (T := TX0) (N := 12) hx hb hts inX0_init_0 tyX0 tyX0_ok nmX0 hown hK hP hD hS 0 rfl rfl 8 (by decide) (hts (.fieldLink RX0 9 "ReflectModels$ClassModel" "state" "I") (by decide +kernel)) (fun _ h9 => h9) rfl (by decide +kernel) rfl rfl (Nat.le_of_ble_eq_true rfl) dX0_init_6 (fun H locs hP hD hS => ?_)
  have hP : va_P (dC, dI) vwCl [(h1, .inr (0, [.int 0, .null, .int 0, .null, .int 0, .int 0, .int 0, .int 0, .int 0, .int 0, .int 0, .int 0])), (r1, .inr (0, [.int 0, .null, .int 0, .null, .int 0, .int 0, .int 1, .int 1, .int 0, .int 0, .int 0, .int 0]))] H := hP
  have hD : va_D A [(h1, .inr (0, [.int 0, .null, .int 0, .null, .int 0, .int 0, .int 0, .int 0, .int 0, .int 0, .int 0, .int 0])), (r1, .inr (0, [.int 0, .null, .int 0, .null, .int 0, .int 0, .int 1, .int 1, .int 0, .int 0, .int 0, .int 0]))] := hD
  refine lv_aload_n hx hb dX0_init_9 rfl (lv_at hl 0 rfl) ?_
  refine lv_iconst (v := 0) hx hb dX0_init_10 (by decide) ?_
  refine va_put (D := (dC, dI)) (own := RX0) (ref := "ReflectModels$ClassModel") (index := 15) (ci := 0) (v := .int 0) (ty := .int) (C := RX0) (T := TX0) (N := 12) hx hb hts inX0_init_0 tyX0 tyX0_ok nmX0 hown hK hP hD hS 0 rfl rfl 9 (by decide) (hts (.fieldLink RX0 15 "ReflectModels$ClassModel" "constantCount" "I") (by decide +kernel)) (fun _ h9 => h9) rfl (by decide +kernel) rfl rfl (Nat.le_of_ble_eq_true rfl) dX0_init_11 (fun H locs hP hD hS => ?_)
  have hP : va_P (dC, dI) vwCl [(h1, .inr (0, [.int 0, .null, .int 0, .null, .int 0, .int 0, .int 0, .int 0, .int 0, .int 0, .int 0, .int 0])), (r1, .inr (0, [.int 0, .null, .int 0, .null, .int 0, .int 0, .int 1, .int 1, .int 0, .int 0, .int 0, .int 0]))] H := hP
  have hD : va_D A [(h1, .inr (0, [.int 0, .null, .int 0, .null, .int 0, .int 0, .int 0, .int 0, .int 0, .int 0, .int 0, .int 0])), (r1, .inr (0, [.int 0, .null, .int 0, .null, .int 0, .int 0, .int 1, .int 1, .int 0, .int 0, .int 0, .int 0]))] := hD
  refine lv_aload_n hx hb dX0_init_14 rfl (lv_at hl 0 rfl) ?_
  refine lv_iconst (v := 0) hx hb dX0_init_15 (by decide) ?_
  refine va_put (D := (dC, dI)) (own := RX0) (ref := "ReflectModels$ClassModel") (index := 18) (ci := 0) (v := .int 0) (ty := .int) (C := RX0) (T := TX0) (N := 12) hx hb hts inX0_init_0 tyX0 tyX0_ok nmX0 hown hK hP hD hS 0 rfl rfl 10 (by decide) (hts (.fieldLink RX0 18 "ReflectModels$ClassModel" "firstConstant" "I") (by decide +kernel)) (fun _ h9 => h9) rfl (by decide +kernel) rfl rfl (Nat.le_of_ble_eq_true rfl) dX0_init_16 (fun H locs hP hD hS => ?_)
  have hP : va_P (dC, dI) vwCl [(h1, .inr (0, [.int 0, .null, .int 0, .null, .int 0, .int 0, .int 0, .int 0, .int 0, .int 0, .int 0, .int 0])), (r1, .inr (0, [.int 0, .null, .int 0, .null, .int 0, .int 0, .int 1, .int 1, .int 0, .int 0, .int 0, .int 0]))] H := hP
  have hD : va_D A [(h1, .inr (0, [.int 0, .null, .int 0, .null, .int 0, .int 0, .int 0, .int 0, .int 0, .int 0, .int 0, .int 0])), (r1, .inr (0, [.int 0, .null, .int 0, .null, .int 0, .int 0, .int 1, .int 1, .int 0, .int 0, .int 0, .int 0]))] := hD
  refine lv_aload_n hx hb dX0_init_19 rfl (lv_at hl 0 rfl) ?_
  refine lv_iconst (v := 0) hx hb dX0_init_20 (by decide) ?_
  refine va_put (D := (dC, dI)) (own := RX0) (ref := "ReflectModels$ClassModel") (index := 21) (ci := 0) (v := .int 0) (ty := .int) (C := RX0) (T := TX0) (N := 12) hx hb hts inX0_init_0 tyX0 tyX0_ok nmX0 hown hK hP hD hS 0 rfl rfl 11 (by decide) (hts (.fieldLink RX0 21 "ReflectModels$ClassModel" "ownMembers" "I") (by decide +kernel)) (fun _ h9 => h9) rfl (by decide +kernel) rfl rfl (Nat.le_of_ble_eq_true rfl) dX0_init_21 (fun H locs hP hD hS => ?_)
  have hP : va_P (dC, dI) vwCl [(h1, .inr (0, [.int 0, .null, .int 0, .null, .int 0, .int 0, .int 0, .int 0, .int 0, .int 0, .int 0, .int 0])), (r1, .inr (0, [.int 0, .null, .int 0, .null, .int 0, .int 0, .int 1, .int 1, .int 0, .int 0, .int 0, .int 0]))] H := hP
  have hD : va_D A [(h1, .inr (0, [.int 0, .null, .int 0, .null, .int 0, .int 0, .int 0, .int 0, .int 0, .int 0, .int 0, .int 0])), (r1, .inr (0, [.int 0, .null, .int 0, .null, .int 0, .int 0, .int 1, .int 1, .int 0, .int 0, .int 0, .int 0]))] := hD
  refine lv_aload_n hx hb dX0_init_24 rfl (lv_at hl 0 rfl) ?_
  refine lv_iload_n hx hb dX0_init_25 rfl (lv_at hl 1 rfl) ?_
  refine va_putF (D := (dC, dI)) (own := RX0) (ref := "ReflectModels$ClassModel") (index := 24) (ci := 0) (v := .int 1) (ty := .int) (C := RX0) (T := TX0) (N := 12) hx hb hts inX0_init_0 tyX0 tyX0_ok nmX0 hown hK hP hD hS 0 rfl rfl 0 (by decide) (hts (.fieldLink RX0 24 "ReflectModels$ClassModel" "number" "I") (by decide +kernel)) (fun _ h9 => h9) rfl hin rfl (by decide +kernel) rfl rfl (Nat.le_of_ble_eq_true rfl) dX0_init_26 (fun H locs hP hD hS => ?_)
  have hP : va_P (dC, dI) vwCl [(h1, .inr (0, [.int 1, .null, .int 0, .null, .int 0, .int 0, .int 0, .int 0, .int 0, .int 0, .int 0, .int 0])), (r1, .inr (0, [.int 0, .null, .int 0, .null, .int 0, .int 0, .int 1, .int 1, .int 0, .int 0, .int 0, .int 0]))] H := hP
  have hD : va_D A [(h1, .inr (0, [.int 1, .null, .int 0, .null, .int 0, .int 0, .int 0, .int 0, .int 0, .int 0, .int 0, .int 0])), (r1, .inr (0, [.int 0, .null, .int 0, .null, .int 0, .int 0, .int 1, .int 1, .int 0, .int 0, .int 0, .int 0]))] := hD
  refine lv_aload_n hx hb dX0_init_29 rfl (lv_at hl 0 rfl) ?_
  refine lv_aload_n hx hb dX0_init_30 rfl (lv_at hl 2 rfl) ?_
  refine va_putF (D := (dC, dI)) (own := RX0) (ref := "ReflectModels$ClassModel") (index := 27) (ci := 0) (v := .ref r1) (ty := .object "ReflectModels$ClassModel") (C := RX0) (T := TX0) (N := 12) hx hb hts inX0_init_0 tyX0 tyX0_ok nmX0 hown hK hP hD hS 0 rfl rfl 1 (by decide) (hts (.fieldLink RX0 27 "ReflectModels$ClassModel" "above" "LReflectModels$ClassModel;") (by decide +kernel)) (fun _ h9 => h9) rfl hin rfl (by decide +kernel) rfl rfl (Nat.le_of_ble_eq_true rfl) dX0_init_31 (fun H locs hP hD hS => ?_)
  have hP : va_P (dC, dI) vwCl [(h1, .inr (0, [.int 1, .ref r1, .int 0, .null, .int 0, .int 0, .int 0, .int 0, .int 0, .int 0, .int 0, .int 0])), (r1, .inr (0, [.int 0, .null, .int 0, .null, .int 0, .int 0, .int 1, .int 1, .int 0, .int 0, .int 0, .int 0]))] H := hP
  have hD : va_D A [(h1, .inr (0, [.int 1, .ref r1, .int 0, .null, .int 0, .int 0, .int 0, .int 0, .int 0, .int 0, .int 0, .int 0])), (r1, .inr (0, [.int 0, .null, .int 0, .null, .int 0, .int 0, .int 1, .int 1, .int 0, .int 0, .int 0, .int 0]))] := hD
  refine lv_aload_n hx hb dX0_init_34 rfl (lv_at hl 0 rfl) ?_
  refine lv_iload_n hx hb dX0_init_35 rfl (lv_at hl 3 rfl) ?_
  refine va_putF (D := (dC, dI)) (own := RX0) (ref := "ReflectModels$ClassModel") (index := 31) (ci := 0) (v := .int a3) (ty := .int) (C := RX0) (T := TX0) (N := 12) hx hb hts inX0_init_0 tyX0 tyX0_ok nmX0 hown hK hP hD hS 0 rfl rfl 2 (by decide) (hts (.fieldLink RX0 31 "ReflectModels$ClassModel" "sort" "I") (by decide +kernel)) (fun _ h9 => h9) rfl hin rfl (by decide +kernel) rfl rfl (Nat.le_of_ble_eq_true rfl) dX0_init_36 (fun H locs hP hD hS => ?_)
  have hP : va_P (dC, dI) vwCl [(h1, .inr (0, [.int 1, .ref r1, .int a3, .null, .int 0, .int 0, .int 0, .int 0, .int 0, .int 0, .int 0, .int 0])), (r1, .inr (0, [.int 0, .null, .int 0, .null, .int 0, .int 0, .int 1, .int 1, .int 0, .int 0, .int 0, .int 0]))] H := hP
  have hD : va_D A [(h1, .inr (0, [.int 1, .ref r1, .int a3, .null, .int 0, .int 0, .int 0, .int 0, .int 0, .int 0, .int 0, .int 0])), (r1, .inr (0, [.int 0, .null, .int 0, .null, .int 0, .int 0, .int 1, .int 1, .int 0, .int 0, .int 0, .int 0]))] := hD
  refine lv_aload_n hx hb dX0_init_39 rfl (lv_at hl 0 rfl) ?_
  refine lv_aloadN hx hb dX0_init_40 (lv_at hl 4 rfl) ?_
  refine va_putF (D := (dC, dI)) (own := RX0) (ref := "ReflectModels$ClassModel") (index := 34) (ci := 0) (v := .null) (ty := .object "ReflectModels$ClassModel") (C := RX0) (T := TX0) (N := 12) hx hb hts inX0_init_0 tyX0 tyX0_ok nmX0 hown hK hP hD hS 0 rfl rfl 3 (by decide) (hts (.fieldLink RX0 34 "ReflectModels$ClassModel" "face" "LReflectModels$ClassModel;") (by decide +kernel)) (fun _ h9 => h9) rfl hin rfl (by decide +kernel) rfl rfl (Nat.le_of_ble_eq_true rfl) dX0_init_42 (fun H locs hP hD hS => ?_)
  have hP : va_P (dC, dI) vwCl [(h1, .inr (0, [.int 1, .ref r1, .int a3, .null, .int 0, .int 0, .int 0, .int 0, .int 0, .int 0, .int 0, .int 0])), (r1, .inr (0, [.int 0, .null, .int 0, .null, .int 0, .int 0, .int 1, .int 1, .int 0, .int 0, .int 0, .int 0]))] H := hP
  have hD : va_D A [(h1, .inr (0, [.int 1, .ref r1, .int a3, .null, .int 0, .int 0, .int 0, .int 0, .int 0, .int 0, .int 0, .int 0])), (r1, .inr (0, [.int 0, .null, .int 0, .null, .int 0, .int 0, .int 1, .int 1, .int 0, .int 0, .int 0, .int 0]))] := hD
  refine lv_aload_n hx hb dX0_init_45 rfl (lv_at hl 0 rfl) ?_
  refine lv_iload hx hb dX0_init_46 (lv_at hl 5 rfl) ?_
  refine va_putF (D := (dC, dI)) (own := RX0) (ref := "ReflectModels$ClassModel") (index := 37) (ci := 0) (v := .int a5) (ty := .boolean) (C := RX0) (T := TX0) (N := 12) hx hb hts inX0_init_0 tyX0 tyX0_ok nmX0 hown hK hP hD hS 0 rfl rfl 4 (by decide) (hts (.fieldLink RX0 37 "ReflectModels$ClassModel" "shut" "Z") (by decide +kernel)) (fun _ h9 => h9) rfl hin rfl (by decide +kernel) (nar_b h5) (fit_b h5) (Nat.le_of_ble_eq_true rfl) dX0_init_48 (fun H locs hP hD hS => ?_)
  have hP : va_P (dC, dI) vwCl [(h1, .inr (0, [.int 1, .ref r1, .int a3, .null, .int a5, .int 0, .int 0, .int 0, .int 0, .int 0, .int 0, .int 0])), (r1, .inr (0, [.int 0, .null, .int 0, .null, .int 0, .int 0, .int 1, .int 1, .int 0, .int 0, .int 0, .int 0]))] H := hP
  have hD : va_D A [(h1, .inr (0, [.int 1, .ref r1, .int a3, .null, .int a5, .int 0, .int 0, .int 0, .int 0, .int 0, .int 0, .int 0])), (r1, .inr (0, [.int 0, .null, .int 0, .null, .int 0, .int 0, .int 1, .int 1, .int 0, .int 0, .int 0, .int 0]))] := hD
  refine lv_aload_n hx hb dX0_init_51 rfl (lv_at hl 0 rfl) ?_
  refine lv_iload hx hb dX0_init_52 (lv_at hl 6 rfl) ?_
  refine va_putF (D := (dC, dI)) (own := RX0) (ref := "ReflectModels$ClassModel") (index := 41) (ci := 0) (v := .int a6) (ty := .boolean) (C := RX0) (T := TX0) (N := 12) hx hb hts inX0_init_0 tyX0 tyX0_ok nmX0 hown hK hP hD hS 0 rfl rfl 5 (by decide) (hts (.fieldLink RX0 41 "ReflectModels$ClassModel" "fails" "Z") (by decide +kernel)) (fun _ h9 => h9) rfl hin rfl (by decide +kernel) (nar_b h6) (fit_b h6) (Nat.le_of_ble_eq_true rfl) dX0_init_54 (fun H locs hP hD hS => ?_)
  have hP : va_P (dC, dI) vwCl [(h1, .inr (0, [.int 1, .ref r1, .int a3, .null, .int a5, .int a6, .int 0, .int 0, .int 0, .int 0, .int 0, .int 0])), (r1, .inr (0, [.int 0, .null, .int 0, .null, .int 0, .int 0, .int 1, .int 1, .int 0, .int 0, .int 0, .int 0]))] H := hP
  have hD : va_D A [(h1, .inr (0, [.int 1, .ref r1, .int a3, .null, .int a5, .int a6, .int 0, .int 0, .int 0, .int 0, .int 0, .int 0])), (r1, .inr (0, [.int 0, .null, .int 0, .null, .int 0, .int 0, .int 1, .int 1, .int 0, .int 0, .int 0, .int 0]))] := hD
  refine lv_iconst (v := 1) hx hb dX0_init_57 (by decide) ?_
  refine lv_iload_n hx hb dX0_init_58 rfl (lv_at hl 1 rfl) ?_
  refine lv_ishl hx hb dX0_init_59 ?_
  refine lv_topi (fun y1 ey1 => ?_)
  obtain rfl : y1 = 2 := ey1.trans (by decide)
  refine lv_istore (lv' := [(7, .int 2), (0, .ref h1), (1, .int 1), (2, .ref r1), (3, .int a3), (4, .null), (5, .int a5), (6, .int a6)]) hx hb dX0_init_60 hl (by decide) rfl (fun ls hl => ?_)
  refine lv_aload_n hx hb dX0_init_62 rfl (lv_at hl 1 rfl) ?_
  refine lv_iload hx hb dX0_init_63 (lv_at hl 0 rfl) ?_
  refine lv_aload_n hx hb dX0_init_65 rfl (lv_at hl 3 rfl) ?_
  refine lv_ifnonnull (tgt := 73) hx hb dX0_init_66 (by decide) ?_
  refine lv_aload_n hx hb dX0_init_73 rfl (lv_at hl 3 rfl) ?_
  refine va_get (D := (dC, dI)) (own := RX0) (ref := "ReflectModels$ClassModel") (index := 44) (ci := 0) (v := .int 1) (C := RX0) (T := TX0) (N := 12) hx hb hts inX0_init_0 hown hK hP 1 rfl rfl 6 (by decide) (hts (.fieldLink RX0 44 "ReflectModels$ClassModel" "line" "I") (by decide +kernel)) (fun _ h9 => h9) rfl dX0_init_74 ?_
  refine lv_ior hx hb dX0_init_77 ?_
  refine lv_topi (fun y2 ey2 => ?_)
  obtain rfl : y2 = 3 := ey2.trans (by decide)
  refine va_putF (D := (dC, dI)) (own := RX0) (ref := "ReflectModels$ClassModel") (index := 44) (ci := 0) (v := .int 3) (ty := .int) (C := RX0) (T := TX0) (N := 12) hx hb hts inX0_init_0 tyX0 tyX0_ok nmX0 hown hK hP hD hS 0 rfl rfl 6 (by decide) (hts (.fieldLink RX0 44 "ReflectModels$ClassModel" "line" "I") (by decide +kernel)) (fun _ h9 => h9) rfl hin rfl (by decide +kernel) rfl rfl (Nat.le_of_ble_eq_true rfl) dX0_init_78 (fun H locs hP hD hS => ?_)
  have hP : va_P (dC, dI) vwCl [(h1, .inr (0, [.int 1, .ref r1, .int a3, .null, .int a5, .int a6, .int 3, .int 0, .int 0, .int 0, .int 0, .int 0])), (r1, .inr (0, [.int 0, .null, .int 0, .null, .int 0, .int 0, .int 1, .int 1, .int 0, .int 0, .int 0, .int 0]))] H := hP
  have hD : va_D A [(h1, .inr (0, [.int 1, .ref r1, .int a3, .null, .int a5, .int a6, .int 3, .int 0, .int 0, .int 0, .int 0, .int 0])), (r1, .inr (0, [.int 0, .null, .int 0, .null, .int 0, .int 0, .int 1, .int 1, .int 0, .int 0, .int 0, .int 0]))] := hD
  refine lv_aload_n hx hb dX0_init_81 rfl (lv_at hl 1 rfl) ?_
  refine lv_iload hx hb dX0_init_82 (lv_at hl 0 rfl) ?_
  refine lv_aload_n hx hb dX0_init_84 rfl (lv_at hl 3 rfl) ?_
  refine lv_ifnonnull (tgt := 92) hx hb dX0_init_85 (by decide) ?_
  refine lv_aload_n hx hb dX0_init_92 rfl (lv_at hl 3 rfl) ?_
  refine va_get (D := (dC, dI)) (own := RX0) (ref := "ReflectModels$ClassModel") (index := 47) (ci := 0) (v := .int 1) (C := RX0) (T := TX0) (N := 12) hx hb hts inX0_init_0 hown hK hP 1 rfl rfl 7 (by decide) (hts (.fieldLink RX0 47 "ReflectModels$ClassModel" "all" "I") (by decide +kernel)) (fun _ h9 => h9) rfl dX0_init_93 ?_
  refine lv_ior hx hb dX0_init_96 ?_
  refine lv_topi (fun y3 ey3 => ?_)
  obtain rfl : y3 = 3 := ey3.trans (by decide)
  refine lv_aloadN hx hb dX0_init_97 (lv_at hl 5 rfl) ?_
  refine lv_ifnonnullN hx hb dX0_init_99 ?_
  refine lv_iconst (v := 0) hx hb dX0_init_102 (by decide) ?_
  refine lv_goto (tgt := 111) hx hb dX0_init_103 (by decide) ?_
  refine lv_ior hx hb dX0_init_111 ?_
  refine lv_topi (fun y4 ey4 => ?_)
  obtain rfl : y4 = 3 := ey4.trans (by decide)
  refine va_putF (D := (dC, dI)) (own := RX0) (ref := "ReflectModels$ClassModel") (index := 47) (ci := 0) (v := .int 3) (ty := .int) (C := RX0) (T := TX0) (N := 12) hx hb hts inX0_init_0 tyX0 tyX0_ok nmX0 hown hK hP hD hS 0 rfl rfl 7 (by decide) (hts (.fieldLink RX0 47 "ReflectModels$ClassModel" "all" "I") (by decide +kernel)) (fun _ h9 => h9) rfl hin rfl (by decide +kernel) rfl rfl (Nat.le_of_ble_eq_true rfl) dX0_init_112 (fun H locs hP hD hS => ?_)
  have hP : va_P (dC, dI) vwCl [(h1, .inr (0, [.int 1, .ref r1, .int a3, .null, .int a5, .int a6, .int 3, .int 3, .int 0, .int 0, .int 0, .int 0])), (r1, .inr (0, [.int 0, .null, .int 0, .null, .int 0, .int 0, .int 1, .int 1, .int 0, .int 0, .int 0, .int 0]))] H := hP
  have hD : va_D A [(h1, .inr (0, [.int 1, .ref r1, .int a3, .null, .int a5, .int a6, .int 3, .int 3, .int 0, .int 0, .int 0, .int 0])), (r1, .inr (0, [.int 0, .null, .int 0, .null, .int 0, .int 0, .int 1, .int 1, .int 0, .int 0, .int 0, .int 0]))] := hD
  have hP9 := hP.sub (ws' := [(h1, .inr (0, [.int 1, .ref r1, .int a3, .null, .int a5, .int a6, .int 3, .int 3, .int 0, .int 0, .int 0, .int 0])), (r1, .inr (0, [.int 0, .null, .int 0, .null, .int 0, .int 0, .int 1, .int 1, .int 0, .int 0, .int 0, .int 0]))]) [0, 1] rfl
  have hD9 := hD.sub (ws' := [(h1, .inr (0, [.int 1, .ref r1, .int a3, .null, .int a5, .int a6, .int 3, .int 3, .int 0, .int 0, .int 0, .int 0])), (r1, .inr (0, [.int 0, .null, .int 0, .null, .int 0, .int 0, .int 1, .int 1, .int 0, .int 0, .int 0, .int 0]))]) [0, 1] (by decide) rfl
  have hK9 := hK.sub (tys' := []) [] rfl
  exact W.vret hx hb hr (fun t ht hW => ⟨⟨none, rfl, _, _, ⟨rfl, rfl, rfl⟩, by rw [ht]; exact hP9, va_K.moved hW.alike hK9, hD9⟩, hS.F ht⟩) hS.2.2 dX0_init_115

set_option maxHeartbeats 4000000 in
set_option maxRecDepth 100000 in
theorem c8_init (l : Launch) (dC : Nat → ClassId) (dI : Nat → Nat → Nat) (h0 : Nat) (sz : Nat)  : Met l yX8_init wsX8_init ({ frames := 2, cells := 10, slots := 263, locals := 39 }) (va_Pc [.ref h0] (pz (dC, dI) [] [(h0, .inr (7, [.null, .int 0, .null, .int 0, .int 0, .null, .int 0, .null, .int 0, .null, .int 0, .int 0, .null, .int 0, .int 0]))] sz)) (qW (dC, dI) (fun v w1 ty1 => v = none ∧ ∃ (q : Nat → Nat) (cA : Nat → ClassId), w1 = [(h0, .inr (7, [.ref (q 0), .int 1, .ref (q 1), .int 0, .int 0, .ref (q 2), .int 0, .ref (q 3), .int 0, .ref (q 4), .int 0, .int 0, .ref (q 5), .int 0, .int 0])), ((q 0), .inl ((cA 0), 16, .inr (.inr (.inr (.inr (va_up (fun _ => none) 0 (some (q 6)))))))), ((q 1), .inl ((cA 1), 40, .inr (.inr (.inr (.inr (fun _ => none)))))), ((q 2), .inl ((cA 2), 60, .inr (.inr (.inr (.inr (fun _ => none)))))), ((q 3), .inl ((cA 3), 124, .inr (.inr (.inr (.inr (fun _ => none)))))), ((q 4), .inl ((cA 4), 3, .inr (.inr (.inr (.inr (va_up (va_up (va_up (fun _ => none) 0 (some (q 7))) 1 (some (q 8))) 2 (some (q 9)))))))), ((q 5), .inr (6, [.int 0, .long 0])), ((q 6), .inr (0, [.int 0, .null, .int 0, .null, .int 0, .int 0, .int 1, .int 1, .int 0, .int 0, .int 0, .int 0])), ((q 7), .inr (6, [.int 0, .long 0])), ((q 8), .inr (6, [.int 0, .long 0])), ((q 9), .inr (6, [.int 0, .long 0]))] ∧ ty1 = [((cA 0), .object "ReflectModels$ClassModel"), ((cA 1), .object "ReflectModels$Member"), ((cA 2), .object "ReflectModels$Handle"), ((cA 3), .object "ReflectModels$Thing"), ((cA 4), .object "ReflectModels$Value")]) (va_A [(h0, .inr (7, [.null, .int 0, .null, .int 0, .int 0, .null, .int 0, .null, .int 0, .null, .int 0, .int 0, .null, .int 0, .int 0]))] sz)) 10 263 (va_A [(h0, .inr (7, [.null, .int 0, .null, .int 0, .int 0, .null, .int 0, .null, .int 0, .null, .int 0, .int 0, .null, .int 0, .int 0]))] sz) := by
  refine Met.ofW (cc := cX8_init) (maxL := 2) (ret := none) (by decide) rfl ?_
  intro p e s m args below meth c s₁ B hml hv
  obtain ⟨rfl, hsz, hP, hK, hD, hN⟩ := hv
  have hx := B.exec
  have hb := B.bytes
  have hr := B.returns
  have hts := atoms_spec (ws := wsX8_init) B.pre
  have hown : s.vm.findClass RX8 = some m.cls := findClass_of_methodNamed B.named
  have hlocks := B.notSynchronized
  have hin : meth.name = "<init>" := (name_of_methodNamed B.named B.method).1
  subst hsz
  have hD := hD.self (sz := s.heap.size)
  generalize hAe : va_A [(h0, .inr (7, [.null, .int 0, .null, .int 0, .int 0, .null, .int 0, .null, .int 0, .null, .int 0, .int 0, .null, .int 0, .int 0]))] s.heap.size = A at hD ⊢
  have hA : ∀ q : Nat, s.heap.size ≤ q → A q := fun q h => by rw [← hAe]; exact Or.inr h
  have hS : va_S A s.heap s.heap [] := va_S.rf
  have hl := lv_entry ([.ref h0]) (n := 2) (Nat.le_of_ble_eq_true rfl)
  rw [lg_entry_eq]
  generalize (lg_sl ([.ref h0]) ++ List.replicate (2 - (lg_sl ([.ref h0])).length) Slot.unset).toArray = ls at hl ⊢
  have hl : lv_has ls 2 [(0, .ref h0)] := hl
  refine lv_aload_n hx hb dX8_init_0 rfl (lv_at hl 0 rfl) ?_
  refine W.objInit hx hb hown (hts (.methodLink RX8 1 objectInit) (by decide +kernel)) (hts (.instanceMethod objectInit) (by decide +kernel)) (hts (.code objectInit ⟨#[0xb1]⟩ 1 none) (by decide +kernel)) rfl (by rw [hml]; exact hl.1) rfl dX8_init_1 (Nat.le_of_ble_eq_true rfl) (Nat.le_of_ble_eq_true rfl) ?_
  refine W.eq (g2 := F0 m 4 ls []) rfl ?_
  refine lv_aload_n hx hb dX8_init_4 rfl (lv_at hl 0 rfl) ?_
  refine lv_bipush (v := 16) hx hb dX8_init_5 (by decide) ?_
  refine va_newq (C := "ReflectModels$ClassModel") (N' := 16) hx hb hown (hts (.classLink RX8 9 "ReflectModels$ClassModel") (by decide +kernel)) (hN _ (List.mem_of_getElem? (i := 0) rfl)) hK hP hD hS hA (by decide) (by decide) (by decide) (Nat.le_of_ble_eq_true rfl) (Nat.le_of_ble_eq_true rfl) dX8_init_7 (fun q1 cA2 H hK hP hD hS => ?_)
  have hP : va_P (dC, dI) vwCl [(h0, .inr (7, [.null, .int 0, .null, .int 0, .int 0, .null, .int 0, .null, .int 0, .null, .int 0, .int 0, .null, .int 0, .int 0])), (q1, .inl (cA2, 16, .inr (.inr (.inr (.inr (fun _ => none))))))] H := hP
  have hD : va_D A [(h0, .inr (7, [.null, .int 0, .null, .int 0, .int 0, .null, .int 0, .null, .int 0, .null, .int 0, .int 0, .null, .int 0, .int 0])), (q1, .inl (cA2, 16, .inr (.inr (.inr (.inr (fun _ => none))))))] := hD
  have hK : va_K (dC, dI) vwCl [(cA2, .object "ReflectModels$ClassModel")] s := hK
  refine W.cs (cells' := 1) (slots' := 16) rfl rfl ?_
  refine va_putF (D := (dC, dI)) (own := RX8) (ref := "ReflectModels") (index := 11) (ci := 7) (v := .ref q1) (ty := .array (.object "ReflectModels$ClassModel")) (C := RX8) (T := TX8) (N := 15) hx hb hts inX8_init_8 tyX8 tyX8_ok nmX8 hown hK hP hD hS 0 rfl rfl 0 (by decide) (hts (.fieldLink RX8 11 "ReflectModels" "classes" "[LReflectModels$ClassModel;") (by decide +kernel)) (fun _ h9 => h9) rfl hin rfl (by decide +kernel) rfl rfl (Nat.le_of_ble_eq_true rfl) dX8_init_10 (fun H locs hP hD hS => ?_)
  have hP : va_P (dC, dI) vwCl [(h0, .inr (7, [.ref q1, .int 0, .null, .int 0, .int 0, .null, .int 0, .null, .int 0, .null, .int 0, .int 0, .null, .int 0, .int 0])), (q1, .inl (cA2, 16, .inr (.inr (.inr (.inr (fun _ => none))))))] H := hP
  have hD : va_D A [(h0, .inr (7, [.ref q1, .int 0, .null, .int 0, .int 0, .null, .int 0, .null, .int 0, .null, .int 0, .int 0, .null, .int 0, .int 0])), (q1, .inl (cA2, 16, .inr (.inr (.inr (.inr (fun _ => none))))))] := hD
  refine lv_aload_n hx hb dX8_init_13 rfl (lv_at hl 0 rfl) ?_
  refine lv_iconst (v := 1) hx hb dX8_init_14 (by decide) ?_
  refine va_put (D := (dC, dI)) (own := RX8) (ref := "ReflectModels") (index := 15) (ci := 7) (v := .int 1) (ty := .int) (C := RX8) (T := TX8) (N := 15) hx hb hts inX8_init_8 tyX8 tyX8_ok nmX8 hown hK hP hD hS 0 rfl rfl 1 (by decide) (hts (.fieldLink RX8 15 "ReflectModels" "classCount" "I") (by decide +kernel)) (fun _ h9 => h9) rfl (by decide +kernel) rfl rfl (Nat.le_of_ble_eq_true rfl) dX8_init_15 (fun H locs hP hD hS => ?_)
  have hP : va_P (dC, dI) vwCl [(h0, .inr (7, [.ref q1, .int 1, .null, .int 0, .int 0, .null, .int 0, .null, .int 0, .null, .int 0, .int 0, .null, .int 0, .int 0])), (q1, .inl (cA2, 16, .inr (.inr (.inr (.inr (fun _ => none))))))] H := hP
  have hD : va_D A [(h0, .inr (7, [.ref q1, .int 1, .null, .int 0, .int 0, .null, .int 0, .null, .int 0, .null, .int 0, .int 0, .null, .int 0, .int 0])), (q1, .inl (cA2, 16, .inr (.inr (.inr (.inr (fun _ => none))))))] := hD
  refine lv_aload_n hx hb dX8_init_18 rfl (lv_at hl 0 rfl) ?_
  refine lv_bipush (v := 40) hx hb dX8_init_19 (by decide) ?_
  refine va_newq (C := "ReflectModels$Member") (N' := 40) hx hb hown (hts (.classLink RX8 19 "ReflectModels$Member") (by decide +kernel)) (hN _ (List.mem_of_getElem? (i := 1) rfl)) hK hP hD hS hA (by decide) (by decide) (by decide) (Nat.le_of_ble_eq_true rfl) (Nat.le_of_ble_eq_true rfl) dX8_init_21 (fun q3 cA4 H hK hP hD hS => ?_)
  have hP : va_P (dC, dI) vwCl [(h0, .inr (7, [.ref q1, .int 1, .null, .int 0, .int 0, .null, .int 0, .null, .int 0, .null, .int 0, .int 0, .null, .int 0, .int 0])), (q1, .inl (cA2, 16, .inr (.inr (.inr (.inr (fun _ => none)))))), (q3, .inl (cA4, 40, .inr (.inr (.inr (.inr (fun _ => none))))))] H := hP
  have hD : va_D A [(h0, .inr (7, [.ref q1, .int 1, .null, .int 0, .int 0, .null, .int 0, .null, .int 0, .null, .int 0, .int 0, .null, .int 0, .int 0])), (q1, .inl (cA2, 16, .inr (.inr (.inr (.inr (fun _ => none)))))), (q3, .inl (cA4, 40, .inr (.inr (.inr (.inr (fun _ => none))))))] := hD
  have hK : va_K (dC, dI) vwCl [(cA2, .object "ReflectModels$ClassModel"), (cA4, .object "ReflectModels$Member")] s := hK
  refine W.cs (cells' := 2) (slots' := 56) rfl rfl ?_
  refine va_putF (D := (dC, dI)) (own := RX8) (ref := "ReflectModels") (index := 21) (ci := 7) (v := .ref q3) (ty := .array (.object "ReflectModels$Member")) (C := RX8) (T := TX8) (N := 15) hx hb hts inX8_init_8 tyX8 tyX8_ok nmX8 hown hK hP hD hS 0 rfl rfl 2 (by decide) (hts (.fieldLink RX8 21 "ReflectModels" "members" "[LReflectModels$Member;") (by decide +kernel)) (fun _ h9 => h9) rfl hin rfl (by decide +kernel) rfl rfl (Nat.le_of_ble_eq_true rfl) dX8_init_24 (fun H locs hP hD hS => ?_)
  have hP : va_P (dC, dI) vwCl [(h0, .inr (7, [.ref q1, .int 1, .ref q3, .int 0, .int 0, .null, .int 0, .null, .int 0, .null, .int 0, .int 0, .null, .int 0, .int 0])), (q1, .inl (cA2, 16, .inr (.inr (.inr (.inr (fun _ => none)))))), (q3, .inl (cA4, 40, .inr (.inr (.inr (.inr (fun _ => none))))))] H := hP
  have hD : va_D A [(h0, .inr (7, [.ref q1, .int 1, .ref q3, .int 0, .int 0, .null, .int 0, .null, .int 0, .null, .int 0, .int 0, .null, .int 0, .int 0])), (q1, .inl (cA2, 16, .inr (.inr (.inr (.inr (fun _ => none)))))), (q3, .inl (cA4, 40, .inr (.inr (.inr (.inr (fun _ => none))))))] := hD
  refine lv_aload_n hx hb dX8_init_27 rfl (lv_at hl 0 rfl) ?_
  refine lv_iconst (v := 0) hx hb dX8_init_28 (by decide) ?_
  refine va_put (D := (dC, dI)) (own := RX8) (ref := "ReflectModels") (index := 25) (ci := 7) (v := .int 0) (ty := .int) (C := RX8) (T := TX8) (N := 15) hx hb hts inX8_init_8 tyX8 tyX8_ok nmX8 hown hK hP hD hS 0 rfl rfl 3 (by decide) (hts (.fieldLink RX8 25 "ReflectModels" "memberCount" "I") (by decide +kernel)) (fun _ h9 => h9) rfl (by decide +kernel) rfl rfl (Nat.le_of_ble_eq_true rfl) dX8_init_29 (fun H locs hP hD hS => ?_)
  have hP : va_P (dC, dI) vwCl [(h0, .inr (7, [.ref q1, .int 1, .ref q3, .int 0, .int 0, .null, .int 0, .null, .int 0, .null, .int 0, .int 0, .null, .int 0, .int 0])), (q1, .inl (cA2, 16, .inr (.inr (.inr (.inr (fun _ => none)))))), (q3, .inl (cA4, 40, .inr (.inr (.inr (.inr (fun _ => none))))))] H := hP
  have hD : va_D A [(h0, .inr (7, [.ref q1, .int 1, .ref q3, .int 0, .int 0, .null, .int 0, .null, .int 0, .null, .int 0, .int 0, .null, .int 0, .int 0])), (q1, .inl (cA2, 16, .inr (.inr (.inr (.inr (fun _ => none)))))), (q3, .inl (cA4, 40, .inr (.inr (.inr (.inr (fun _ => none))))))] := hD
  refine lv_aload_n hx hb dX8_init_32 rfl (lv_at hl 0 rfl) ?_
  refine lv_iconst (v := 0) hx hb dX8_init_33 (by decide) ?_
  refine va_put (D := (dC, dI)) (own := RX8) (ref := "ReflectModels") (index := 28) (ci := 7) (v := .int 0) (ty := .int) (C := RX8) (T := TX8) (N := 15) hx hb hts inX8_init_8 tyX8 tyX8_ok nmX8 hown hK hP hD hS 0 rfl rfl 4 (by decide) (hts (.fieldLink RX8 28 "ReflectModels" "slotCount" "I") (by decide +kernel)) (fun _ h9 => h9) rfl (by decide +kernel) rfl rfl (Nat.le_of_ble_eq_true rfl) dX8_init_34 (fun H locs hP hD hS => ?_)
  have hP : va_P (dC, dI) vwCl [(h0, .inr (7, [.ref q1, .int 1, .ref q3, .int 0, .int 0, .null, .int 0, .null, .int 0, .null, .int 0, .int 0, .null, .int 0, .int 0])), (q1, .inl (cA2, 16, .inr (.inr (.inr (.inr (fun _ => none)))))), (q3, .inl (cA4, 40, .inr (.inr (.inr (.inr (fun _ => none))))))] H := hP
  have hD : va_D A [(h0, .inr (7, [.ref q1, .int 1, .ref q3, .int 0, .int 0, .null, .int 0, .null, .int 0, .null, .int 0, .int 0, .null, .int 0, .int 0])), (q1, .inl (cA2, 16, .inr (.inr (.inr (.inr (fun _ => none)))))), (q3, .inl (cA4, 40, .inr (.inr (.inr (.inr (fun _ => none))))))] := hD
  refine lv_aload_n hx hb dX8_init_37 rfl (lv_at hl 0 rfl) ?_
  refine lv_bipush (v := 60) hx hb dX8_init_38 (by decide) ?_
  refine va_newq (C := "ReflectModels$Handle") (N' := 60) hx hb hown (hts (.classLink RX8 31 "ReflectModels$Handle") (by decide +kernel)) (hN _ (List.mem_of_getElem? (i := 2) rfl)) hK hP hD hS hA (by decide) (by decide) (by decide) (Nat.le_of_ble_eq_true rfl) (Nat.le_of_ble_eq_true rfl) dX8_init_40 (fun q5 cA6 H hK hP hD hS => ?_)
  have hP : va_P (dC, dI) vwCl [(h0, .inr (7, [.ref q1, .int 1, .ref q3, .int 0, .int 0, .null, .int 0, .null, .int 0, .null, .int 0, .int 0, .null, .int 0, .int 0])), (q1, .inl (cA2, 16, .inr (.inr (.inr (.inr (fun _ => none)))))), (q3, .inl (cA4, 40, .inr (.inr (.inr (.inr (fun _ => none)))))), (q5, .inl (cA6, 60, .inr (.inr (.inr (.inr (fun _ => none))))))] H := hP
  have hD : va_D A [(h0, .inr (7, [.ref q1, .int 1, .ref q3, .int 0, .int 0, .null, .int 0, .null, .int 0, .null, .int 0, .int 0, .null, .int 0, .int 0])), (q1, .inl (cA2, 16, .inr (.inr (.inr (.inr (fun _ => none)))))), (q3, .inl (cA4, 40, .inr (.inr (.inr (.inr (fun _ => none)))))), (q5, .inl (cA6, 60, .inr (.inr (.inr (.inr (fun _ => none))))))] := hD
  have hK : va_K (dC, dI) vwCl [(cA2, .object "ReflectModels$ClassModel"), (cA4, .object "ReflectModels$Member"), (cA6, .object "ReflectModels$Handle")] s := hK
  refine W.cs (cells' := 3) (slots' := 116) rfl rfl ?_
  refine va_putF (D := (dC, dI)) (own := RX8) (ref := "ReflectModels") (index := 33) (ci := 7) (v := .ref q5) (ty := .array (.object "ReflectModels$Handle")) (C := RX8) (T := TX8) (N := 15) hx hb hts inX8_init_8 tyX8 tyX8_ok nmX8 hown hK hP hD hS 0 rfl rfl 5 (by decide) (hts (.fieldLink RX8 33 "ReflectModels" "handles" "[LReflectModels$Handle;") (by decide +kernel)) (fun _ h9 => h9) rfl hin rfl (by decide +kernel) rfl rfl (Nat.le_of_ble_eq_true rfl) dX8_init_43 (fun H locs hP hD hS => ?_)
  have hP : va_P (dC, dI) vwCl [(h0, .inr (7, [.ref q1, .int 1, .ref q3, .int 0, .int 0, .ref q5, .int 0, .null, .int 0, .null, .int 0, .int 0, .null, .int 0, .int 0])), (q1, .inl (cA2, 16, .inr (.inr (.inr (.inr (fun _ => none)))))), (q3, .inl (cA4, 40, .inr (.inr (.inr (.inr (fun _ => none)))))), (q5, .inl (cA6, 60, .inr (.inr (.inr (.inr (fun _ => none))))))] H := hP
  have hD : va_D A [(h0, .inr (7, [.ref q1, .int 1, .ref q3, .int 0, .int 0, .ref q5, .int 0, .null, .int 0, .null, .int 0, .int 0, .null, .int 0, .int 0])), (q1, .inl (cA2, 16, .inr (.inr (.inr (.inr (fun _ => none)))))), (q3, .inl (cA4, 40, .inr (.inr (.inr (.inr (fun _ => none)))))), (q5, .inl (cA6, 60, .inr (.inr (.inr (.inr (fun _ => none))))))] := hD
  refine lv_aload_n hx hb dX8_init_46 rfl (lv_at hl 0 rfl) ?_
  refine lv_iconst (v := 0) hx hb dX8_init_47 (by decide) ?_
  refine va_put (D := (dC, dI)) (own := RX8) (ref := "ReflectModels") (index := 37) (ci := 7) (v := .int 0) (ty := .int) (C := RX8) (T := TX8) (N := 15) hx hb hts inX8_init_8 tyX8 tyX8_ok nmX8 hown hK hP hD hS 0 rfl rfl 6 (by decide) (hts (.fieldLink RX8 37 "ReflectModels" "handleCount" "I") (by decide +kernel)) (fun _ h9 => h9) rfl (by decide +kernel) rfl rfl (Nat.le_of_ble_eq_true rfl) dX8_init_48 (fun H locs hP hD hS => ?_)
  have hP : va_P (dC, dI) vwCl [(h0, .inr (7, [.ref q1, .int 1, .ref q3, .int 0, .int 0, .ref q5, .int 0, .null, .int 0, .null, .int 0, .int 0, .null, .int 0, .int 0])), (q1, .inl (cA2, 16, .inr (.inr (.inr (.inr (fun _ => none)))))), (q3, .inl (cA4, 40, .inr (.inr (.inr (.inr (fun _ => none)))))), (q5, .inl (cA6, 60, .inr (.inr (.inr (.inr (fun _ => none))))))] H := hP
  have hD : va_D A [(h0, .inr (7, [.ref q1, .int 1, .ref q3, .int 0, .int 0, .ref q5, .int 0, .null, .int 0, .null, .int 0, .int 0, .null, .int 0, .int 0])), (q1, .inl (cA2, 16, .inr (.inr (.inr (.inr (fun _ => none)))))), (q3, .inl (cA4, 40, .inr (.inr (.inr (.inr (fun _ => none)))))), (q5, .inl (cA6, 60, .inr (.inr (.inr (.inr (fun _ => none))))))] := hD
  refine lv_aload_n hx hb dX8_init_51 rfl (lv_at hl 0 rfl) ?_
  refine lv_bipush (v := 124) hx hb dX8_init_52 (by decide) ?_
  refine va_newq (C := "ReflectModels$Thing") (N' := 124) hx hb hown (hts (.classLink RX8 40 "ReflectModels$Thing") (by decide +kernel)) (hN _ (List.mem_of_getElem? (i := 3) rfl)) hK hP hD hS hA (by decide) (by decide) (by decide) (Nat.le_of_ble_eq_true rfl) (Nat.le_of_ble_eq_true rfl) dX8_init_54 (fun q7 cA8 H hK hP hD hS => ?_)
  have hP : va_P (dC, dI) vwCl [(h0, .inr (7, [.ref q1, .int 1, .ref q3, .int 0, .int 0, .ref q5, .int 0, .null, .int 0, .null, .int 0, .int 0, .null, .int 0, .int 0])), (q1, .inl (cA2, 16, .inr (.inr (.inr (.inr (fun _ => none)))))), (q3, .inl (cA4, 40, .inr (.inr (.inr (.inr (fun _ => none)))))), (q5, .inl (cA6, 60, .inr (.inr (.inr (.inr (fun _ => none)))))), (q7, .inl (cA8, 124, .inr (.inr (.inr (.inr (fun _ => none))))))] H := hP
  have hD : va_D A [(h0, .inr (7, [.ref q1, .int 1, .ref q3, .int 0, .int 0, .ref q5, .int 0, .null, .int 0, .null, .int 0, .int 0, .null, .int 0, .int 0])), (q1, .inl (cA2, 16, .inr (.inr (.inr (.inr (fun _ => none)))))), (q3, .inl (cA4, 40, .inr (.inr (.inr (.inr (fun _ => none)))))), (q5, .inl (cA6, 60, .inr (.inr (.inr (.inr (fun _ => none)))))), (q7, .inl (cA8, 124, .inr (.inr (.inr (.inr (fun _ => none))))))] := hD
  have hK : va_K (dC, dI) vwCl [(cA2, .object "ReflectModels$ClassModel"), (cA4, .object "ReflectModels$Member"), (cA6, .object "ReflectModels$Handle"), (cA8, .object "ReflectModels$Thing")] s := hK
  refine W.cs (cells' := 4) (slots' := 240) rfl rfl ?_
  refine va_putF (D := (dC, dI)) (own := RX8) (ref := "ReflectModels") (index := 42) (ci := 7) (v := .ref q7) (ty := .array (.object "ReflectModels$Thing")) (C := RX8) (T := TX8) (N := 15) hx hb hts inX8_init_8 tyX8 tyX8_ok nmX8 hown hK hP hD hS 0 rfl rfl 7 (by decide) (hts (.fieldLink RX8 42 "ReflectModels" "things" "[LReflectModels$Thing;") (by decide +kernel)) (fun _ h9 => h9) rfl hin rfl (by decide +kernel) rfl rfl (Nat.le_of_ble_eq_true rfl) dX8_init_57 (fun H locs hP hD hS => ?_)
  have hP : va_P (dC, dI) vwCl [(h0, .inr (7, [.ref q1, .int 1, .ref q3, .int 0, .int 0, .ref q5, .int 0, .ref q7, .int 0, .null, .int 0, .int 0, .null, .int 0, .int 0])), (q1, .inl (cA2, 16, .inr (.inr (.inr (.inr (fun _ => none)))))), (q3, .inl (cA4, 40, .inr (.inr (.inr (.inr (fun _ => none)))))), (q5, .inl (cA6, 60, .inr (.inr (.inr (.inr (fun _ => none)))))), (q7, .inl (cA8, 124, .inr (.inr (.inr (.inr (fun _ => none))))))] H := hP
  have hD : va_D A [(h0, .inr (7, [.ref q1, .int 1, .ref q3, .int 0, .int 0, .ref q5, .int 0, .ref q7, .int 0, .null, .int 0, .int 0, .null, .int 0, .int 0])), (q1, .inl (cA2, 16, .inr (.inr (.inr (.inr (fun _ => none)))))), (q3, .inl (cA4, 40, .inr (.inr (.inr (.inr (fun _ => none)))))), (q5, .inl (cA6, 60, .inr (.inr (.inr (.inr (fun _ => none)))))), (q7, .inl (cA8, 124, .inr (.inr (.inr (.inr (fun _ => none))))))] := hD
  refine lv_aload_n hx hb dX8_init_60 rfl (lv_at hl 0 rfl) ?_
  refine lv_iconst (v := 0) hx hb dX8_init_61 (by decide) ?_
  refine va_put (D := (dC, dI)) (own := RX8) (ref := "ReflectModels") (index := 46) (ci := 7) (v := .int 0) (ty := .int) (C := RX8) (T := TX8) (N := 15) hx hb hts inX8_init_8 tyX8 tyX8_ok nmX8 hown hK hP hD hS 0 rfl rfl 8 (by decide) (hts (.fieldLink RX8 46 "ReflectModels" "thingCount" "I") (by decide +kernel)) (fun _ h9 => h9) rfl (by decide +kernel) rfl rfl (Nat.le_of_ble_eq_true rfl) dX8_init_62 (fun H locs hP hD hS => ?_)
  have hP : va_P (dC, dI) vwCl [(h0, .inr (7, [.ref q1, .int 1, .ref q3, .int 0, .int 0, .ref q5, .int 0, .ref q7, .int 0, .null, .int 0, .int 0, .null, .int 0, .int 0])), (q1, .inl (cA2, 16, .inr (.inr (.inr (.inr (fun _ => none)))))), (q3, .inl (cA4, 40, .inr (.inr (.inr (.inr (fun _ => none)))))), (q5, .inl (cA6, 60, .inr (.inr (.inr (.inr (fun _ => none)))))), (q7, .inl (cA8, 124, .inr (.inr (.inr (.inr (fun _ => none))))))] H := hP
  have hD : va_D A [(h0, .inr (7, [.ref q1, .int 1, .ref q3, .int 0, .int 0, .ref q5, .int 0, .ref q7, .int 0, .null, .int 0, .int 0, .null, .int 0, .int 0])), (q1, .inl (cA2, 16, .inr (.inr (.inr (.inr (fun _ => none)))))), (q3, .inl (cA4, 40, .inr (.inr (.inr (.inr (fun _ => none)))))), (q5, .inl (cA6, 60, .inr (.inr (.inr (.inr (fun _ => none)))))), (q7, .inl (cA8, 124, .inr (.inr (.inr (.inr (fun _ => none))))))] := hD
  refine lv_aload_n hx hb dX8_init_65 rfl (lv_at hl 0 rfl) ?_
  refine lv_iconst (v := 3) hx hb dX8_init_66 (by decide) ?_
  refine va_newq (C := "ReflectModels$Value") (N' := 3) hx hb hown (hts (.classLink RX8 49 "ReflectModels$Value") (by decide +kernel)) (hN _ (List.mem_of_getElem? (i := 4) rfl)) hK hP hD hS hA (by decide) (by decide) (by decide) (Nat.le_of_ble_eq_true rfl) (Nat.le_of_ble_eq_true rfl) dX8_init_67 (fun q9 cA10 H hK hP hD hS => ?_)
  have hP : va_P (dC, dI) vwCl [(h0, .inr (7, [.ref q1, .int 1, .ref q3, .int 0, .int 0, .ref q5, .int 0, .ref q7, .int 0, .null, .int 0, .int 0, .null, .int 0, .int 0])), (q1, .inl (cA2, 16, .inr (.inr (.inr (.inr (fun _ => none)))))), (q3, .inl (cA4, 40, .inr (.inr (.inr (.inr (fun _ => none)))))), (q5, .inl (cA6, 60, .inr (.inr (.inr (.inr (fun _ => none)))))), (q7, .inl (cA8, 124, .inr (.inr (.inr (.inr (fun _ => none)))))), (q9, .inl (cA10, 3, .inr (.inr (.inr (.inr (fun _ => none))))))] H := hP
  have hD : va_D A [(h0, .inr (7, [.ref q1, .int 1, .ref q3, .int 0, .int 0, .ref q5, .int 0, .ref q7, .int 0, .null, .int 0, .int 0, .null, .int 0, .int 0])), (q1, .inl (cA2, 16, .inr (.inr (.inr (.inr (fun _ => none)))))), (q3, .inl (cA4, 40, .inr (.inr (.inr (.inr (fun _ => none)))))), (q5, .inl (cA6, 60, .inr (.inr (.inr (.inr (fun _ => none)))))), (q7, .inl (cA8, 124, .inr (.inr (.inr (.inr (fun _ => none)))))), (q9, .inl (cA10, 3, .inr (.inr (.inr (.inr (fun _ => none))))))] := hD
  have hK : va_K (dC, dI) vwCl [(cA2, .object "ReflectModels$ClassModel"), (cA4, .object "ReflectModels$Member"), (cA6, .object "ReflectModels$Handle"), (cA8, .object "ReflectModels$Thing"), (cA10, .object "ReflectModels$Value")] s := hK
  refine W.cs (cells' := 5) (slots' := 243) rfl rfl ?_
  refine va_putF (D := (dC, dI)) (own := RX8) (ref := "ReflectModels") (index := 51) (ci := 7) (v := .ref q9) (ty := .array (.object "ReflectModels$Value")) (C := RX8) (T := TX8) (N := 15) hx hb hts inX8_init_8 tyX8 tyX8_ok nmX8 hown hK hP hD hS 0 rfl rfl 9 (by decide) (hts (.fieldLink RX8 51 "ReflectModels" "values" "[LReflectModels$Value;") (by decide +kernel)) (fun _ h9 => h9) rfl hin rfl (by decide +kernel) rfl rfl (Nat.le_of_ble_eq_true rfl) dX8_init_70 (fun H locs hP hD hS => ?_)
  have hP : va_P (dC, dI) vwCl [(h0, .inr (7, [.ref q1, .int 1, .ref q3, .int 0, .int 0, .ref q5, .int 0, .ref q7, .int 0, .ref q9, .int 0, .int 0, .null, .int 0, .int 0])), (q1, .inl (cA2, 16, .inr (.inr (.inr (.inr (fun _ => none)))))), (q3, .inl (cA4, 40, .inr (.inr (.inr (.inr (fun _ => none)))))), (q5, .inl (cA6, 60, .inr (.inr (.inr (.inr (fun _ => none)))))), (q7, .inl (cA8, 124, .inr (.inr (.inr (.inr (fun _ => none)))))), (q9, .inl (cA10, 3, .inr (.inr (.inr (.inr (fun _ => none))))))] H := hP
  have hD : va_D A [(h0, .inr (7, [.ref q1, .int 1, .ref q3, .int 0, .int 0, .ref q5, .int 0, .ref q7, .int 0, .ref q9, .int 0, .int 0, .null, .int 0, .int 0])), (q1, .inl (cA2, 16, .inr (.inr (.inr (.inr (fun _ => none)))))), (q3, .inl (cA4, 40, .inr (.inr (.inr (.inr (fun _ => none)))))), (q5, .inl (cA6, 60, .inr (.inr (.inr (.inr (fun _ => none)))))), (q7, .inl (cA8, 124, .inr (.inr (.inr (.inr (fun _ => none)))))), (q9, .inl (cA10, 3, .inr (.inr (.inr (.inr (fun _ => none))))))] := hD
  refine lv_aload_n hx hb dX8_init_73 rfl (lv_at hl 0 rfl) ?_
  refine lv_iconst (v := 0) hx hb dX8_init_74 (by decide) ?_
  refine va_put (D := (dC, dI)) (own := RX8) (ref := "ReflectModels") (index := 55) (ci := 7) (v := .int 0) (ty := .int) (C := RX8) (T := TX8) (N := 15) hx hb hts inX8_init_8 tyX8 tyX8_ok nmX8 hown hK hP hD hS 0 rfl rfl 10 (by decide) (hts (.fieldLink RX8 55 "ReflectModels" "valueCount" "I") (by decide +kernel)) (fun _ h9 => h9) rfl (by decide +kernel) rfl rfl (Nat.le_of_ble_eq_true rfl) dX8_init_75 (fun H locs hP hD hS => ?_)
  have hP : va_P (dC, dI) vwCl [(h0, .inr (7, [.ref q1, .int 1, .ref q3, .int 0, .int 0, .ref q5, .int 0, .ref q7, .int 0, .ref q9, .int 0, .int 0, .null, .int 0, .int 0])), (q1, .inl (cA2, 16, .inr (.inr (.inr (.inr (fun _ => none)))))), (q3, .inl (cA4, 40, .inr (.inr (.inr (.inr (fun _ => none)))))), (q5, .inl (cA6, 60, .inr (.inr (.inr (.inr (fun _ => none)))))), (q7, .inl (cA8, 124, .inr (.inr (.inr (.inr (fun _ => none)))))), (q9, .inl (cA10, 3, .inr (.inr (.inr (.inr (fun _ => none))))))] H := hP
  have hD : va_D A [(h0, .inr (7, [.ref q1, .int 1, .ref q3, .int 0, .int 0, .ref q5, .int 0, .ref q7, .int 0, .ref q9, .int 0, .int 0, .null, .int 0, .int 0])), (q1, .inl (cA2, 16, .inr (.inr (.inr (.inr (fun _ => none)))))), (q3, .inl (cA4, 40, .inr (.inr (.inr (.inr (fun _ => none)))))), (q5, .inl (cA6, 60, .inr (.inr (.inr (.inr (fun _ => none)))))), (q7, .inl (cA8, 124, .inr (.inr (.inr (.inr (fun _ => none)))))), (q9, .inl (cA10, 3, .inr (.inr (.inr (.inr (fun _ => none))))))] := hD
  refine lv_aload_n hx hb dX8_init_78 rfl (lv_at hl 0 rfl) ?_
  refine lv_iconst (v := 0) hx hb dX8_init_79 (by decide) ?_
  refine va_put (D := (dC, dI)) (own := RX8) (ref := "ReflectModels") (index := 58) (ci := 7) (v := .int 0) (ty := .int) (C := RX8) (T := TX8) (N := 15) hx hb hts inX8_init_8 tyX8 tyX8_ok nmX8 hown hK hP hD hS 0 rfl rfl 11 (by decide) (hts (.fieldLink RX8 58 "ReflectModels" "callerNumber" "I") (by decide +kernel)) (fun _ h9 => h9) rfl (by decide +kernel) rfl rfl (Nat.le_of_ble_eq_true rfl) dX8_init_80 (fun H locs hP hD hS => ?_)
  have hP : va_P (dC, dI) vwCl [(h0, .inr (7, [.ref q1, .int 1, .ref q3, .int 0, .int 0, .ref q5, .int 0, .ref q7, .int 0, .ref q9, .int 0, .int 0, .null, .int 0, .int 0])), (q1, .inl (cA2, 16, .inr (.inr (.inr (.inr (fun _ => none)))))), (q3, .inl (cA4, 40, .inr (.inr (.inr (.inr (fun _ => none)))))), (q5, .inl (cA6, 60, .inr (.inr (.inr (.inr (fun _ => none)))))), (q7, .inl (cA8, 124, .inr (.inr (.inr (.inr (fun _ => none)))))), (q9, .inl (cA10, 3, .inr (.inr (.inr (.inr (fun _ => none))))))] H := hP
  have hD : va_D A [(h0, .inr (7, [.ref q1, .int 1, .ref q3, .int 0, .int 0, .ref q5, .int 0, .ref q7, .int 0, .ref q9, .int 0, .int 0, .null, .int 0, .int 0])), (q1, .inl (cA2, 16, .inr (.inr (.inr (.inr (fun _ => none)))))), (q3, .inl (cA4, 40, .inr (.inr (.inr (.inr (fun _ => none)))))), (q5, .inl (cA6, 60, .inr (.inr (.inr (.inr (fun _ => none)))))), (q7, .inl (cA8, 124, .inr (.inr (.inr (.inr (fun _ => none)))))), (q9, .inl (cA10, 3, .inr (.inr (.inr (.inr (fun _ => none))))))] := hD
  refine lv_aload_n hx hb dX8_init_83 rfl (lv_at hl 0 rfl) ?_
  refine va_new (ci := 6) (fs := [.int 0, .long 0]) (C := RX7) (T := TX7) (N := 2) hx hb hts inX8_init_7 tyX7 tyX7_ok hown (hts (.classLink RX8 49 RX7) (by decide +kernel)) (hts (.instantiable RX7 2) (by decide +kernel)) (hts (.initialized RX7) (by decide +kernel)) hK hP hD hS hA rfl df_X7 (Nat.le_of_ble_eq_true rfl) (Nat.le_of_ble_eq_true rfl) dX8_init_84 (fun q11 H hP hD hS => ?_)
  have hP : va_P (dC, dI) vwCl [(h0, .inr (7, [.ref q1, .int 1, .ref q3, .int 0, .int 0, .ref q5, .int 0, .ref q7, .int 0, .ref q9, .int 0, .int 0, .null, .int 0, .int 0])), (q1, .inl (cA2, 16, .inr (.inr (.inr (.inr (fun _ => none)))))), (q3, .inl (cA4, 40, .inr (.inr (.inr (.inr (fun _ => none)))))), (q5, .inl (cA6, 60, .inr (.inr (.inr (.inr (fun _ => none)))))), (q7, .inl (cA8, 124, .inr (.inr (.inr (.inr (fun _ => none)))))), (q9, .inl (cA10, 3, .inr (.inr (.inr (.inr (fun _ => none)))))), (q11, .inr (6, [.int 0, .long 0]))] H := hP
  have hD : va_D A [(h0, .inr (7, [.ref q1, .int 1, .ref q3, .int 0, .int 0, .ref q5, .int 0, .ref q7, .int 0, .ref q9, .int 0, .int 0, .null, .int 0, .int 0])), (q1, .inl (cA2, 16, .inr (.inr (.inr (.inr (fun _ => none)))))), (q3, .inl (cA4, 40, .inr (.inr (.inr (.inr (fun _ => none)))))), (q5, .inl (cA6, 60, .inr (.inr (.inr (.inr (fun _ => none)))))), (q7, .inl (cA8, 124, .inr (.inr (.inr (.inr (fun _ => none)))))), (q9, .inl (cA10, 3, .inr (.inr (.inr (.inr (fun _ => none)))))), (q11, .inr (6, [.int 0, .long 0]))] := hD
  refine W.cs (cells' := 6) (slots' := 245) rfl rfl ?_
  refine lv_dup hx hb dX8_init_87 rfl ?_
  refine clW (wr := [(h0, .inr (7, [.ref q1, .int 1, .ref q3, .int 0, .int 0, .ref q5, .int 0, .ref q7, .int 0, .ref q9, .int 0, .int 0, .null, .int 0, .int 0])), (q1, .inl (cA2, 16, .inr (.inr (.inr (.inr (fun _ => none)))))), (q3, .inl (cA4, 40, .inr (.inr (.inr (.inr (fun _ => none)))))), (q5, .inl (cA6, 60, .inr (.inr (.inr (.inr (fun _ => none)))))), (q7, .inl (cA8, 124, .inr (.inr (.inr (.inr (fun _ => none)))))), (q9, .inl (cA10, 3, .inr (.inr (.inr (.inr (fun _ => none))))))]) [6] [0, 1, 2, 3, 4, 5] (va_runIN (As := []) (rest := [.ref q11, .ref h0]) ⟨hx, hb, hml, hown, hts⟩ (c7_init l dC dI q11 _) ⟨va_cnB 0 hts gX8_init_X7_init_n61 rfl rfl rfl (hN _ (List.mem_of_getElem? (i := 5) rfl)) (hts (.initialized RX7) (by decide +kernel)) (by decide +kernel) ⟨Nat.le_of_ble_eq_true rfl, Nat.le_of_ble_eq_true rfl⟩, rfl, hts (.instanceMethod yX7_init) (by decide +kernel)⟩ ⟨pz_blind, pz_of hP hK hD hN [6] [] rfl (by decide) rfl⟩ rfl rfl hl.1 rfl (lv_room (Nat.le_of_ble_eq_true rfl)) dX8_init_88 ⟨Nat.le_of_ble_eq_true rfl, Nat.le_of_ble_eq_true rfl⟩) hS hP hD hK hA rfl rfl (by decide) (by decide) (fun v w1 ty1 H locs w12 hP hD hK hS => ?_)
  obtain ⟨rfl, rfl, rfl⟩ := w12
  refine W.eq (g2 := F0 m 91 ls [.ref q11, .ref h0]) rfl ?_
  have hP : va_P (dC, dI) vwCl [(h0, .inr (7, [.ref q1, .int 1, .ref q3, .int 0, .int 0, .ref q5, .int 0, .ref q7, .int 0, .ref q9, .int 0, .int 0, .null, .int 0, .int 0])), (q1, .inl (cA2, 16, .inr (.inr (.inr (.inr (fun _ => none)))))), (q3, .inl (cA4, 40, .inr (.inr (.inr (.inr (fun _ => none)))))), (q5, .inl (cA6, 60, .inr (.inr (.inr (.inr (fun _ => none)))))), (q7, .inl (cA8, 124, .inr (.inr (.inr (.inr (fun _ => none)))))), (q9, .inl (cA10, 3, .inr (.inr (.inr (.inr (fun _ => none)))))), (q11, .inr (6, [.int 0, .long 0]))] H := hP
  have hD : va_D A [(h0, .inr (7, [.ref q1, .int 1, .ref q3, .int 0, .int 0, .ref q5, .int 0, .ref q7, .int 0, .ref q9, .int 0, .int 0, .null, .int 0, .int 0])), (q1, .inl (cA2, 16, .inr (.inr (.inr (.inr (fun _ => none)))))), (q3, .inl (cA4, 40, .inr (.inr (.inr (.inr (fun _ => none)))))), (q5, .inl (cA6, 60, .inr (.inr (.inr (.inr (fun _ => none)))))), (q7, .inl (cA8, 124, .inr (.inr (.inr (.inr (fun _ => none)))))), (q9, .inl (cA10, 3, .inr (.inr (.inr (.inr (fun _ => none)))))), (q11, .inr (6, [.int 0, .long 0]))] := hD
  have hK : va_K (dC, dI) vwCl [(cA2, .object "ReflectModels$ClassModel"), (cA4, .object "ReflectModels$Member"), (cA6, .object "ReflectModels$Handle"), (cA8, .object "ReflectModels$Thing"), (cA10, .object "ReflectModels$Value")] s := hK
  refine W.cs (cells' := 6) (slots' := 245) rfl rfl ?_
  refine va_putF (D := (dC, dI)) (own := RX8) (ref := "ReflectModels") (index := 62) (ci := 7) (v := .ref q11) (ty := .object "ReflectModels$Value") (C := RX8) (T := TX8) (N := 15) hx hb hts inX8_init_8 tyX8 tyX8_ok nmX8 hown hK hP hD hS 0 rfl rfl 12 (by decide) (hts (.fieldLink RX8 62 "ReflectModels" "outcome" "LReflectModels$Value;") (by decide +kernel)) (fun _ h9 => h9) rfl hin rfl (by decide +kernel) rfl rfl (Nat.le_of_ble_eq_true rfl) dX8_init_91 (fun H locs hP hD hS => ?_)
  have hP : va_P (dC, dI) vwCl [(h0, .inr (7, [.ref q1, .int 1, .ref q3, .int 0, .int 0, .ref q5, .int 0, .ref q7, .int 0, .ref q9, .int 0, .int 0, .ref q11, .int 0, .int 0])), (q1, .inl (cA2, 16, .inr (.inr (.inr (.inr (fun _ => none)))))), (q3, .inl (cA4, 40, .inr (.inr (.inr (.inr (fun _ => none)))))), (q5, .inl (cA6, 60, .inr (.inr (.inr (.inr (fun _ => none)))))), (q7, .inl (cA8, 124, .inr (.inr (.inr (.inr (fun _ => none)))))), (q9, .inl (cA10, 3, .inr (.inr (.inr (.inr (fun _ => none)))))), (q11, .inr (6, [.int 0, .long 0]))] H := hP
  have hD : va_D A [(h0, .inr (7, [.ref q1, .int 1, .ref q3, .int 0, .int 0, .ref q5, .int 0, .ref q7, .int 0, .ref q9, .int 0, .int 0, .ref q11, .int 0, .int 0])), (q1, .inl (cA2, 16, .inr (.inr (.inr (.inr (fun _ => none)))))), (q3, .inl (cA4, 40, .inr (.inr (.inr (.inr (fun _ => none)))))), (q5, .inl (cA6, 60, .inr (.inr (.inr (.inr (fun _ => none)))))), (q7, .inl (cA8, 124, .inr (.inr (.inr (.inr (fun _ => none)))))), (q9, .inl (cA10, 3, .inr (.inr (.inr (.inr (fun _ => none)))))), (q11, .inr (6, [.int 0, .long 0]))] := hD
  refine lv_aload_n hx hb dX8_init_94 rfl (lv_at hl 0 rfl) ?_
  refine lv_iconst (v := 0) hx hb dX8_init_95 (by decide) ?_
  refine va_put (D := (dC, dI)) (own := RX8) (ref := "ReflectModels") (index := 66) (ci := 7) (v := .int 0) (ty := .int) (C := RX8) (T := TX8) (N := 15) hx hb hts inX8_init_8 tyX8 tyX8_ok nmX8 hown hK hP hD hS 0 rfl rfl 13 (by decide) (hts (.fieldLink RX8 66 "ReflectModels" "latestFailure" "I") (by decide +kernel)) (fun _ h9 => h9) rfl (by decide +kernel) rfl rfl (Nat.le_of_ble_eq_true rfl) dX8_init_96 (fun H locs hP hD hS => ?_)
  have hP : va_P (dC, dI) vwCl [(h0, .inr (7, [.ref q1, .int 1, .ref q3, .int 0, .int 0, .ref q5, .int 0, .ref q7, .int 0, .ref q9, .int 0, .int 0, .ref q11, .int 0, .int 0])), (q1, .inl (cA2, 16, .inr (.inr (.inr (.inr (fun _ => none)))))), (q3, .inl (cA4, 40, .inr (.inr (.inr (.inr (fun _ => none)))))), (q5, .inl (cA6, 60, .inr (.inr (.inr (.inr (fun _ => none)))))), (q7, .inl (cA8, 124, .inr (.inr (.inr (.inr (fun _ => none)))))), (q9, .inl (cA10, 3, .inr (.inr (.inr (.inr (fun _ => none)))))), (q11, .inr (6, [.int 0, .long 0]))] H := hP
  have hD : va_D A [(h0, .inr (7, [.ref q1, .int 1, .ref q3, .int 0, .int 0, .ref q5, .int 0, .ref q7, .int 0, .ref q9, .int 0, .int 0, .ref q11, .int 0, .int 0])), (q1, .inl (cA2, 16, .inr (.inr (.inr (.inr (fun _ => none)))))), (q3, .inl (cA4, 40, .inr (.inr (.inr (.inr (fun _ => none)))))), (q5, .inl (cA6, 60, .inr (.inr (.inr (.inr (fun _ => none)))))), (q7, .inl (cA8, 124, .inr (.inr (.inr (.inr (fun _ => none)))))), (q9, .inl (cA10, 3, .inr (.inr (.inr (.inr (fun _ => none)))))), (q11, .inr (6, [.int 0, .long 0]))] := hD
  refine lv_aload_n hx hb dX8_init_99 rfl (lv_at hl 0 rfl) ?_
  refine lv_iconst (v := 0) hx hb dX8_init_100 (by decide) ?_
  refine va_put (D := (dC, dI)) (own := RX8) (ref := "ReflectModels") (index := 69) (ci := 7) (v := .int 0) (ty := .int) (C := RX8) (T := TX8) (N := 15) hx hb hts inX8_init_8 tyX8 tyX8_ok nmX8 hown hK hP hD hS 0 rfl rfl 14 (by decide) (hts (.fieldLink RX8 69 "ReflectModels" "latestCause" "I") (by decide +kernel)) (fun _ h9 => h9) rfl (by decide +kernel) rfl rfl (Nat.le_of_ble_eq_true rfl) dX8_init_101 (fun H locs hP hD hS => ?_)
  have hP : va_P (dC, dI) vwCl [(h0, .inr (7, [.ref q1, .int 1, .ref q3, .int 0, .int 0, .ref q5, .int 0, .ref q7, .int 0, .ref q9, .int 0, .int 0, .ref q11, .int 0, .int 0])), (q1, .inl (cA2, 16, .inr (.inr (.inr (.inr (fun _ => none)))))), (q3, .inl (cA4, 40, .inr (.inr (.inr (.inr (fun _ => none)))))), (q5, .inl (cA6, 60, .inr (.inr (.inr (.inr (fun _ => none)))))), (q7, .inl (cA8, 124, .inr (.inr (.inr (.inr (fun _ => none)))))), (q9, .inl (cA10, 3, .inr (.inr (.inr (.inr (fun _ => none)))))), (q11, .inr (6, [.int 0, .long 0]))] H := hP
  have hD : va_D A [(h0, .inr (7, [.ref q1, .int 1, .ref q3, .int 0, .int 0, .ref q5, .int 0, .ref q7, .int 0, .ref q9, .int 0, .int 0, .ref q11, .int 0, .int 0])), (q1, .inl (cA2, 16, .inr (.inr (.inr (.inr (fun _ => none)))))), (q3, .inl (cA4, 40, .inr (.inr (.inr (.inr (fun _ => none)))))), (q5, .inl (cA6, 60, .inr (.inr (.inr (.inr (fun _ => none)))))), (q7, .inl (cA8, 124, .inr (.inr (.inr (.inr (fun _ => none)))))), (q9, .inl (cA10, 3, .inr (.inr (.inr (.inr (fun _ => none)))))), (q11, .inr (6, [.int 0, .long 0]))] := hD
  refine lv_aload_n hx hb dX8_init_104 rfl (lv_at hl 0 rfl) ?_
  refine va_get (D := (dC, dI)) (own := RX8) (ref := "ReflectModels") (index := 11) (ci := 7) (v := .ref q1) (C := RX8) (T := TX8) (N := 15) hx hb hts inX8_init_8 hown hK hP 0 rfl rfl 0 (by decide) (hts (.fieldLink RX8 11 "ReflectModels" "classes" "[LReflectModels$ClassModel;") (by decide +kernel)) (fun _ h9 => h9) rfl dX8_init_105 ?_
  refine lv_iconst (v := 0) hx hb dX8_init_108 (by decide) ?_
  refine va_new (ci := 0) (fs := [.int 0, .null, .int 0, .null, .int 0, .int 0, .int 0, .int 0, .int 0, .int 0, .int 0, .int 0]) (C := RX0) (T := TX0) (N := 12) hx hb hts inX8_init_0 tyX0 tyX0_ok hown (hts (.classLink RX8 9 RX0) (by decide +kernel)) (hts (.instantiable RX0 12) (by decide +kernel)) (hts (.initialized RX0) (by decide +kernel)) hK hP hD hS hA rfl df_X0 (Nat.le_of_ble_eq_true rfl) (Nat.le_of_ble_eq_true rfl) dX8_init_109 (fun q13 H hP hD hS => ?_)
  have hP : va_P (dC, dI) vwCl [(h0, .inr (7, [.ref q1, .int 1, .ref q3, .int 0, .int 0, .ref q5, .int 0, .ref q7, .int 0, .ref q9, .int 0, .int 0, .ref q11, .int 0, .int 0])), (q1, .inl (cA2, 16, .inr (.inr (.inr (.inr (fun _ => none)))))), (q3, .inl (cA4, 40, .inr (.inr (.inr (.inr (fun _ => none)))))), (q5, .inl (cA6, 60, .inr (.inr (.inr (.inr (fun _ => none)))))), (q7, .inl (cA8, 124, .inr (.inr (.inr (.inr (fun _ => none)))))), (q9, .inl (cA10, 3, .inr (.inr (.inr (.inr (fun _ => none)))))), (q11, .inr (6, [.int 0, .long 0])), (q13, .inr (0, [.int 0, .null, .int 0, .null, .int 0, .int 0, .int 0, .int 0, .int 0, .int 0, .int 0, .int 0]))] H := hP
  have hD : va_D A [(h0, .inr (7, [.ref q1, .int 1, .ref q3, .int 0, .int 0, .ref q5, .int 0, .ref q7, .int 0, .ref q9, .int 0, .int 0, .ref q11, .int 0, .int 0])), (q1, .inl (cA2, 16, .inr (.inr (.inr (.inr (fun _ => none)))))), (q3, .inl (cA4, 40, .inr (.inr (.inr (.inr (fun _ => none)))))), (q5, .inl (cA6, 60, .inr (.inr (.inr (.inr (fun _ => none)))))), (q7, .inl (cA8, 124, .inr (.inr (.inr (.inr (fun _ => none)))))), (q9, .inl (cA10, 3, .inr (.inr (.inr (.inr (fun _ => none)))))), (q11, .inr (6, [.int 0, .long 0])), (q13, .inr (0, [.int 0, .null, .int 0, .null, .int 0, .int 0, .int 0, .int 0, .int 0, .int 0, .int 0, .int 0]))] := hD
  refine W.cs (cells' := 7) (slots' := 257) rfl rfl ?_
  refine lv_dup hx hb dX8_init_112 rfl ?_
  refine lv_iconst (v := 0) hx hb dX8_init_113 (by decide) ?_
  refine lv_null hx hb dX8_init_114 ?_
  refine lv_iconst (v := 0) hx hb dX8_init_115 (by decide) ?_
  refine lv_null hx hb dX8_init_116 ?_
  refine lv_iconst (v := 0) hx hb dX8_init_117 (by decide) ?_
  refine lv_iconst (v := 0) hx hb dX8_init_118 (by decide) ?_
  refine clW (wr := [(h0, .inr (7, [.ref q1, .int 1, .ref q3, .int 0, .int 0, .ref q5, .int 0, .ref q7, .int 0, .ref q9, .int 0, .int 0, .ref q11, .int 0, .int 0])), (q1, .inl (cA2, 16, .inr (.inr (.inr (.inr (fun _ => none)))))), (q3, .inl (cA4, 40, .inr (.inr (.inr (.inr (fun _ => none)))))), (q5, .inl (cA6, 60, .inr (.inr (.inr (.inr (fun _ => none)))))), (q7, .inl (cA8, 124, .inr (.inr (.inr (.inr (fun _ => none)))))), (q9, .inl (cA10, 3, .inr (.inr (.inr (.inr (fun _ => none)))))), (q11, .inr (6, [.int 0, .long 0]))]) [7] [0, 1, 2, 3, 4, 5, 6] (va_runIN (As := [.int 0, .null, .int 0, .null, .int 0, .int 0]) (rest := [.ref q13, .int 0, .ref q1]) ⟨hx, hb, hml, hown, hts⟩ (c0_init0 l dC dI q13 _) ⟨va_cnB 6 hts gX8_init_X0_init_n72 rfl rfl rfl (hN _ (List.mem_of_getElem? (i := 8) rfl)) (hts (.initialized RX0) (by decide +kernel)) (by decide +kernel) ⟨Nat.le_of_ble_eq_true rfl, Nat.le_of_ble_eq_true rfl⟩, rfl, hts (.instanceMethod yX0_init) (by decide +kernel)⟩ ⟨pz_blind, pz_of hP hK hD hN [7] [] rfl (by decide) rfl⟩ rfl rfl hl.1 rfl (lv_room (Nat.le_of_ble_eq_true rfl)) dX8_init_119 ⟨Nat.le_of_ble_eq_true rfl, Nat.le_of_ble_eq_true rfl⟩) hS hP hD hK hA rfl rfl (by decide) (by decide) (fun v w1 ty1 H locs w14 hP hD hK hS => ?_)
  obtain ⟨rfl, rfl, rfl⟩ := w14
  refine W.eq (g2 := F0 m 122 ls [.ref q13, .int 0, .ref q1]) rfl ?_
  have hP : va_P (dC, dI) vwCl [(h0, .inr (7, [.ref q1, .int 1, .ref q3, .int 0, .int 0, .ref q5, .int 0, .ref q7, .int 0, .ref q9, .int 0, .int 0, .ref q11, .int 0, .int 0])), (q1, .inl (cA2, 16, .inr (.inr (.inr (.inr (fun _ => none)))))), (q3, .inl (cA4, 40, .inr (.inr (.inr (.inr (fun _ => none)))))), (q5, .inl (cA6, 60, .inr (.inr (.inr (.inr (fun _ => none)))))), (q7, .inl (cA8, 124, .inr (.inr (.inr (.inr (fun _ => none)))))), (q9, .inl (cA10, 3, .inr (.inr (.inr (.inr (fun _ => none)))))), (q11, .inr (6, [.int 0, .long 0])), (q13, .inr (0, [.int 0, .null, .int 0, .null, .int 0, .int 0, .int 1, .int 1, .int 0, .int 0, .int 0, .int 0]))] H := hP
  have hD : va_D A [(h0, .inr (7, [.ref q1, .int 1, .ref q3, .int 0, .int 0, .ref q5, .int 0, .ref q7, .int 0, .ref q9, .int 0, .int 0, .ref q11, .int 0, .int 0])), (q1, .inl (cA2, 16, .inr (.inr (.inr (.inr (fun _ => none)))))), (q3, .inl (cA4, 40, .inr (.inr (.inr (.inr (fun _ => none)))))), (q5, .inl (cA6, 60, .inr (.inr (.inr (.inr (fun _ => none)))))), (q7, .inl (cA8, 124, .inr (.inr (.inr (.inr (fun _ => none)))))), (q9, .inl (cA10, 3, .inr (.inr (.inr (.inr (fun _ => none)))))), (q11, .inr (6, [.int 0, .long 0])), (q13, .inr (0, [.int 0, .null, .int 0, .null, .int 0, .int 0, .int 1, .int 1, .int 0, .int 0, .int 0, .int 0]))] := hD
  have hK : va_K (dC, dI) vwCl [(cA2, .object "ReflectModels$ClassModel"), (cA4, .object "ReflectModels$Member"), (cA6, .object "ReflectModels$Handle"), (cA8, .object "ReflectModels$Thing"), (cA10, .object "ReflectModels$Value")] s := hK
  refine W.cs (cells' := 7) (slots' := 257) rfl rfl ?_
  refine va_astq (r := (RX0, TX0, 12)) hx hb hK hP hD hS 1 0 7 0 rfl rfl rfl rfl (vp_in_iff.mpr ⟨by decide, by decide⟩) dX8_init_122 (fun H locs hP hD hS => ?_)
  have hP : va_P (dC, dI) vwCl [(h0, .inr (7, [.ref q1, .int 1, .ref q3, .int 0, .int 0, .ref q5, .int 0, .ref q7, .int 0, .ref q9, .int 0, .int 0, .ref q11, .int 0, .int 0])), (q1, .inl (cA2, 16, .inr (.inr (.inr (.inr (va_up (fun _ => none) 0 (some q13))))))), (q3, .inl (cA4, 40, .inr (.inr (.inr (.inr (fun _ => none)))))), (q5, .inl (cA6, 60, .inr (.inr (.inr (.inr (fun _ => none)))))), (q7, .inl (cA8, 124, .inr (.inr (.inr (.inr (fun _ => none)))))), (q9, .inl (cA10, 3, .inr (.inr (.inr (.inr (fun _ => none)))))), (q11, .inr (6, [.int 0, .long 0])), (q13, .inr (0, [.int 0, .null, .int 0, .null, .int 0, .int 0, .int 1, .int 1, .int 0, .int 0, .int 0, .int 0]))] H := hP
  have hD : va_D A [(h0, .inr (7, [.ref q1, .int 1, .ref q3, .int 0, .int 0, .ref q5, .int 0, .ref q7, .int 0, .ref q9, .int 0, .int 0, .ref q11, .int 0, .int 0])), (q1, .inl (cA2, 16, .inr (.inr (.inr (.inr (va_up (fun _ => none) 0 (some q13))))))), (q3, .inl (cA4, 40, .inr (.inr (.inr (.inr (fun _ => none)))))), (q5, .inl (cA6, 60, .inr (.inr (.inr (.inr (fun _ => none)))))), (q7, .inl (cA8, 124, .inr (.inr (.inr (.inr (fun _ => none)))))), (q9, .inl (cA10, 3, .inr (.inr (.inr (.inr (fun _ => none)))))), (q11, .inr (6, [.int 0, .long 0])), (q13, .inr (0, [.int 0, .null, .int 0, .null, .int 0, .int 0, .int 1, .int 1, .int 0, .int 0, .int 0, .int 0]))] := hD
  refine lv_iconst (v := 0) hx hb dX8_init_123 (by decide) ?_
  refine lv_istore_n (lv' := [(1, .int 0), (0, .ref h0)]) hx hb dX8_init_124 rfl hl (by decide) rfl (fun ls hl => ?_)
  refine lv_iload_n hx hb dX8_init_125 rfl (lv_at hl 0 rfl) ?_
  refine lv_iconst (v := 3) hx hb dX8_init_126 (by decide) ?_
  refine lv_icmp_ge (tgt := 149) hx hb dX8_init_127 (by decide) (fun h => absurd h (by decide)) (fun _ => ?_)
  refine lv_aload_n hx hb dX8_init_130 rfl (lv_at hl 1 rfl) ?_
  refine va_get (D := (dC, dI)) (own := RX8) (ref := "ReflectModels") (index := 51) (ci := 7) (v := .ref q9) (C := RX8) (T := TX8) (N := 15) hx hb hts inX8_init_8 hown hK hP 0 rfl rfl 9 (by decide) (hts (.fieldLink RX8 51 "ReflectModels" "values" "[LReflectModels$Value;") (by decide +kernel)) (fun _ h9 => h9) rfl dX8_init_131 ?_
  refine lv_iload_n hx hb dX8_init_134 rfl (lv_at hl 0 rfl) ?_
  refine va_new (ci := 6) (fs := [.int 0, .long 0]) (C := RX7) (T := TX7) (N := 2) hx hb hts inX8_init_7 tyX7 tyX7_ok hown (hts (.classLink RX8 49 RX7) (by decide +kernel)) (hts (.instantiable RX7 2) (by decide +kernel)) (hts (.initialized RX7) (by decide +kernel)) hK hP hD hS hA rfl df_X7 (Nat.le_of_ble_eq_true rfl) (Nat.le_of_ble_eq_true rfl) dX8_init_135 (fun q15 H hP hD hS => ?_)
  have hP : va_P (dC, dI) vwCl [(h0, .inr (7, [.ref q1, .int 1, .ref q3, .int 0, .int 0, .ref q5, .int 0, .ref q7, .int 0, .ref q9, .int 0, .int 0, .ref q11, .int 0, .int 0])), (q1, .inl (cA2, 16, .inr (.inr (.inr (.inr (va_up (fun _ => none) 0 (some q13))))))), (q3, .inl (cA4, 40, .inr (.inr (.inr (.inr (fun _ => none)))))), (q5, .inl (cA6, 60, .inr (.inr (.inr (.inr (fun _ => none)))))), (q7, .inl (cA8, 124, .inr (.inr (.inr (.inr (fun _ => none)))))), (q9, .inl (cA10, 3, .inr (.inr (.inr (.inr (fun _ => none)))))), (q11, .inr (6, [.int 0, .long 0])), (q13, .inr (0, [.int 0, .null, .int 0, .null, .int 0, .int 0, .int 1, .int 1, .int 0, .int 0, .int 0, .int 0])), (q15, .inr (6, [.int 0, .long 0]))] H := hP
  have hD : va_D A [(h0, .inr (7, [.ref q1, .int 1, .ref q3, .int 0, .int 0, .ref q5, .int 0, .ref q7, .int 0, .ref q9, .int 0, .int 0, .ref q11, .int 0, .int 0])), (q1, .inl (cA2, 16, .inr (.inr (.inr (.inr (va_up (fun _ => none) 0 (some q13))))))), (q3, .inl (cA4, 40, .inr (.inr (.inr (.inr (fun _ => none)))))), (q5, .inl (cA6, 60, .inr (.inr (.inr (.inr (fun _ => none)))))), (q7, .inl (cA8, 124, .inr (.inr (.inr (.inr (fun _ => none)))))), (q9, .inl (cA10, 3, .inr (.inr (.inr (.inr (fun _ => none)))))), (q11, .inr (6, [.int 0, .long 0])), (q13, .inr (0, [.int 0, .null, .int 0, .null, .int 0, .int 0, .int 1, .int 1, .int 0, .int 0, .int 0, .int 0])), (q15, .inr (6, [.int 0, .long 0]))] := hD
  refine W.cs (cells' := 8) (slots' := 259) rfl rfl ?_
  refine lv_dup hx hb dX8_init_138 rfl ?_
  refine clW (wr := [(h0, .inr (7, [.ref q1, .int 1, .ref q3, .int 0, .int 0, .ref q5, .int 0, .ref q7, .int 0, .ref q9, .int 0, .int 0, .ref q11, .int 0, .int 0])), (q1, .inl (cA2, 16, .inr (.inr (.inr (.inr (va_up (fun _ => none) 0 (some q13))))))), (q3, .inl (cA4, 40, .inr (.inr (.inr (.inr (fun _ => none)))))), (q5, .inl (cA6, 60, .inr (.inr (.inr (.inr (fun _ => none)))))), (q7, .inl (cA8, 124, .inr (.inr (.inr (.inr (fun _ => none)))))), (q9, .inl (cA10, 3, .inr (.inr (.inr (.inr (fun _ => none)))))), (q11, .inr (6, [.int 0, .long 0])), (q13, .inr (0, [.int 0, .null, .int 0, .null, .int 0, .int 0, .int 1, .int 1, .int 0, .int 0, .int 0, .int 0]))]) [8] [0, 1, 2, 3, 4, 5, 6, 7] (va_runIN (As := []) (rest := [.ref q15, .int 0, .ref q9]) ⟨hx, hb, hml, hown, hts⟩ (c7_init l dC dI q15 _) ⟨va_cnB 0 hts gX8_init_X7_init_n61 rfl rfl rfl (hN _ (List.mem_of_getElem? (i := 5) rfl)) (hts (.initialized RX7) (by decide +kernel)) (by decide +kernel) ⟨Nat.le_of_ble_eq_true rfl, Nat.le_of_ble_eq_true rfl⟩, rfl, hts (.instanceMethod yX7_init) (by decide +kernel)⟩ ⟨pz_blind, pz_of hP hK hD hN [8] [] rfl (by decide) rfl⟩ rfl rfl hl.1 rfl (lv_room (Nat.le_of_ble_eq_true rfl)) dX8_init_139 ⟨Nat.le_of_ble_eq_true rfl, Nat.le_of_ble_eq_true rfl⟩) hS hP hD hK hA rfl rfl (by decide) (by decide) (fun v w1 ty1 H locs w16 hP hD hK hS => ?_)
  obtain ⟨rfl, rfl, rfl⟩ := w16
  refine W.eq (g2 := F0 m 142 ls [.ref q15, .int 0, .ref q9]) rfl ?_
  have hP : va_P (dC, dI) vwCl [(h0, .inr (7, [.ref q1, .int 1, .ref q3, .int 0, .int 0, .ref q5, .int 0, .ref q7, .int 0, .ref q9, .int 0, .int 0, .ref q11, .int 0, .int 0])), (q1, .inl (cA2, 16, .inr (.inr (.inr (.inr (va_up (fun _ => none) 0 (some q13))))))), (q3, .inl (cA4, 40, .inr (.inr (.inr (.inr (fun _ => none)))))), (q5, .inl (cA6, 60, .inr (.inr (.inr (.inr (fun _ => none)))))), (q7, .inl (cA8, 124, .inr (.inr (.inr (.inr (fun _ => none)))))), (q9, .inl (cA10, 3, .inr (.inr (.inr (.inr (fun _ => none)))))), (q11, .inr (6, [.int 0, .long 0])), (q13, .inr (0, [.int 0, .null, .int 0, .null, .int 0, .int 0, .int 1, .int 1, .int 0, .int 0, .int 0, .int 0])), (q15, .inr (6, [.int 0, .long 0]))] H := hP
  have hD : va_D A [(h0, .inr (7, [.ref q1, .int 1, .ref q3, .int 0, .int 0, .ref q5, .int 0, .ref q7, .int 0, .ref q9, .int 0, .int 0, .ref q11, .int 0, .int 0])), (q1, .inl (cA2, 16, .inr (.inr (.inr (.inr (va_up (fun _ => none) 0 (some q13))))))), (q3, .inl (cA4, 40, .inr (.inr (.inr (.inr (fun _ => none)))))), (q5, .inl (cA6, 60, .inr (.inr (.inr (.inr (fun _ => none)))))), (q7, .inl (cA8, 124, .inr (.inr (.inr (.inr (fun _ => none)))))), (q9, .inl (cA10, 3, .inr (.inr (.inr (.inr (fun _ => none)))))), (q11, .inr (6, [.int 0, .long 0])), (q13, .inr (0, [.int 0, .null, .int 0, .null, .int 0, .int 0, .int 1, .int 1, .int 0, .int 0, .int 0, .int 0])), (q15, .inr (6, [.int 0, .long 0]))] := hD
  have hK : va_K (dC, dI) vwCl [(cA2, .object "ReflectModels$ClassModel"), (cA4, .object "ReflectModels$Member"), (cA6, .object "ReflectModels$Handle"), (cA8, .object "ReflectModels$Thing"), (cA10, .object "ReflectModels$Value")] s := hK
  refine W.cs (cells' := 8) (slots' := 259) rfl rfl ?_
  refine va_astq (r := (RX7, TX7, 2)) hx hb hK hP hD hS 5 4 8 6 rfl rfl rfl rfl (vp_in_iff.mpr ⟨by decide, by decide⟩) dX8_init_142 (fun H locs hP hD hS => ?_)
  have hP : va_P (dC, dI) vwCl [(h0, .inr (7, [.ref q1, .int 1, .ref q3, .int 0, .int 0, .ref q5, .int 0, .ref q7, .int 0, .ref q9, .int 0, .int 0, .ref q11, .int 0, .int 0])), (q1, .inl (cA2, 16, .inr (.inr (.inr (.inr (va_up (fun _ => none) 0 (some q13))))))), (q3, .inl (cA4, 40, .inr (.inr (.inr (.inr (fun _ => none)))))), (q5, .inl (cA6, 60, .inr (.inr (.inr (.inr (fun _ => none)))))), (q7, .inl (cA8, 124, .inr (.inr (.inr (.inr (fun _ => none)))))), (q9, .inl (cA10, 3, .inr (.inr (.inr (.inr (va_up (fun _ => none) 0 (some q15))))))), (q11, .inr (6, [.int 0, .long 0])), (q13, .inr (0, [.int 0, .null, .int 0, .null, .int 0, .int 0, .int 1, .int 1, .int 0, .int 0, .int 0, .int 0])), (q15, .inr (6, [.int 0, .long 0]))] H := hP
  have hD : va_D A [(h0, .inr (7, [.ref q1, .int 1, .ref q3, .int 0, .int 0, .ref q5, .int 0, .ref q7, .int 0, .ref q9, .int 0, .int 0, .ref q11, .int 0, .int 0])), (q1, .inl (cA2, 16, .inr (.inr (.inr (.inr (va_up (fun _ => none) 0 (some q13))))))), (q3, .inl (cA4, 40, .inr (.inr (.inr (.inr (fun _ => none)))))), (q5, .inl (cA6, 60, .inr (.inr (.inr (.inr (fun _ => none)))))), (q7, .inl (cA8, 124, .inr (.inr (.inr (.inr (fun _ => none)))))), (q9, .inl (cA10, 3, .inr (.inr (.inr (.inr (va_up (fun _ => none) 0 (some q15))))))), (q11, .inr (6, [.int 0, .long 0])), (q13, .inr (0, [.int 0, .null, .int 0, .null, .int 0, .int 0, .int 1, .int 1, .int 0, .int 0, .int 0, .int 0])), (q15, .inr (6, [.int 0, .long 0]))] := hD
  refine lv_iinc (v := 1) (lv' := [(1, .int 1), (0, .ref h0)]) hx hb dX8_init_143 hl (k := 0) rfl (by decide) (by decide) rfl (fun ls hl => ?_)
  refine lv_goto (tgt := 125) hx hb dX8_init_146 (by decide) ?_
  refine lv_iload_n hx hb dX8_init_125 rfl (lv_at hl 0 rfl) ?_
  refine lv_iconst (v := 3) hx hb dX8_init_126 (by decide) ?_
  refine lv_icmp_ge (tgt := 149) hx hb dX8_init_127 (by decide) (fun h => absurd h (by decide)) (fun _ => ?_)
  refine lv_aload_n hx hb dX8_init_130 rfl (lv_at hl 1 rfl) ?_
  refine va_get (D := (dC, dI)) (own := RX8) (ref := "ReflectModels") (index := 51) (ci := 7) (v := .ref q9) (C := RX8) (T := TX8) (N := 15) hx hb hts inX8_init_8 hown hK hP 0 rfl rfl 9 (by decide) (hts (.fieldLink RX8 51 "ReflectModels" "values" "[LReflectModels$Value;") (by decide +kernel)) (fun _ h9 => h9) rfl dX8_init_131 ?_
  refine lv_iload_n hx hb dX8_init_134 rfl (lv_at hl 0 rfl) ?_
  refine va_new (ci := 6) (fs := [.int 0, .long 0]) (C := RX7) (T := TX7) (N := 2) hx hb hts inX8_init_7 tyX7 tyX7_ok hown (hts (.classLink RX8 49 RX7) (by decide +kernel)) (hts (.instantiable RX7 2) (by decide +kernel)) (hts (.initialized RX7) (by decide +kernel)) hK hP hD hS hA rfl df_X7 (Nat.le_of_ble_eq_true rfl) (Nat.le_of_ble_eq_true rfl) dX8_init_135 (fun q17 H hP hD hS => ?_)
  have hP : va_P (dC, dI) vwCl [(h0, .inr (7, [.ref q1, .int 1, .ref q3, .int 0, .int 0, .ref q5, .int 0, .ref q7, .int 0, .ref q9, .int 0, .int 0, .ref q11, .int 0, .int 0])), (q1, .inl (cA2, 16, .inr (.inr (.inr (.inr (va_up (fun _ => none) 0 (some q13))))))), (q3, .inl (cA4, 40, .inr (.inr (.inr (.inr (fun _ => none)))))), (q5, .inl (cA6, 60, .inr (.inr (.inr (.inr (fun _ => none)))))), (q7, .inl (cA8, 124, .inr (.inr (.inr (.inr (fun _ => none)))))), (q9, .inl (cA10, 3, .inr (.inr (.inr (.inr (va_up (fun _ => none) 0 (some q15))))))), (q11, .inr (6, [.int 0, .long 0])), (q13, .inr (0, [.int 0, .null, .int 0, .null, .int 0, .int 0, .int 1, .int 1, .int 0, .int 0, .int 0, .int 0])), (q15, .inr (6, [.int 0, .long 0])), (q17, .inr (6, [.int 0, .long 0]))] H := hP
  have hD : va_D A [(h0, .inr (7, [.ref q1, .int 1, .ref q3, .int 0, .int 0, .ref q5, .int 0, .ref q7, .int 0, .ref q9, .int 0, .int 0, .ref q11, .int 0, .int 0])), (q1, .inl (cA2, 16, .inr (.inr (.inr (.inr (va_up (fun _ => none) 0 (some q13))))))), (q3, .inl (cA4, 40, .inr (.inr (.inr (.inr (fun _ => none)))))), (q5, .inl (cA6, 60, .inr (.inr (.inr (.inr (fun _ => none)))))), (q7, .inl (cA8, 124, .inr (.inr (.inr (.inr (fun _ => none)))))), (q9, .inl (cA10, 3, .inr (.inr (.inr (.inr (va_up (fun _ => none) 0 (some q15))))))), (q11, .inr (6, [.int 0, .long 0])), (q13, .inr (0, [.int 0, .null, .int 0, .null, .int 0, .int 0, .int 1, .int 1, .int 0, .int 0, .int 0, .int 0])), (q15, .inr (6, [.int 0, .long 0])), (q17, .inr (6, [.int 0, .long 0]))] := hD
  refine W.cs (cells' := 9) (slots' := 261) rfl rfl ?_
  refine lv_dup hx hb dX8_init_138 rfl ?_
  refine clW (wr := [(h0, .inr (7, [.ref q1, .int 1, .ref q3, .int 0, .int 0, .ref q5, .int 0, .ref q7, .int 0, .ref q9, .int 0, .int 0, .ref q11, .int 0, .int 0])), (q1, .inl (cA2, 16, .inr (.inr (.inr (.inr (va_up (fun _ => none) 0 (some q13))))))), (q3, .inl (cA4, 40, .inr (.inr (.inr (.inr (fun _ => none)))))), (q5, .inl (cA6, 60, .inr (.inr (.inr (.inr (fun _ => none)))))), (q7, .inl (cA8, 124, .inr (.inr (.inr (.inr (fun _ => none)))))), (q9, .inl (cA10, 3, .inr (.inr (.inr (.inr (va_up (fun _ => none) 0 (some q15))))))), (q11, .inr (6, [.int 0, .long 0])), (q13, .inr (0, [.int 0, .null, .int 0, .null, .int 0, .int 0, .int 1, .int 1, .int 0, .int 0, .int 0, .int 0])), (q15, .inr (6, [.int 0, .long 0]))]) [9] [0, 1, 2, 3, 4, 5, 6, 7, 8] (va_runIN (As := []) (rest := [.ref q17, .int 1, .ref q9]) ⟨hx, hb, hml, hown, hts⟩ (c7_init l dC dI q17 _) ⟨va_cnB 0 hts gX8_init_X7_init_n61 rfl rfl rfl (hN _ (List.mem_of_getElem? (i := 5) rfl)) (hts (.initialized RX7) (by decide +kernel)) (by decide +kernel) ⟨Nat.le_of_ble_eq_true rfl, Nat.le_of_ble_eq_true rfl⟩, rfl, hts (.instanceMethod yX7_init) (by decide +kernel)⟩ ⟨pz_blind, pz_of hP hK hD hN [9] [] rfl (by decide) rfl⟩ rfl rfl hl.1 rfl (lv_room (Nat.le_of_ble_eq_true rfl)) dX8_init_139 ⟨Nat.le_of_ble_eq_true rfl, Nat.le_of_ble_eq_true rfl⟩) hS hP hD hK hA rfl rfl (by decide) (by decide) (fun v w1 ty1 H locs w18 hP hD hK hS => ?_)
  obtain ⟨rfl, rfl, rfl⟩ := w18
  refine W.eq (g2 := F0 m 142 ls [.ref q17, .int 1, .ref q9]) rfl ?_
  have hP : va_P (dC, dI) vwCl [(h0, .inr (7, [.ref q1, .int 1, .ref q3, .int 0, .int 0, .ref q5, .int 0, .ref q7, .int 0, .ref q9, .int 0, .int 0, .ref q11, .int 0, .int 0])), (q1, .inl (cA2, 16, .inr (.inr (.inr (.inr (va_up (fun _ => none) 0 (some q13))))))), (q3, .inl (cA4, 40, .inr (.inr (.inr (.inr (fun _ => none)))))), (q5, .inl (cA6, 60, .inr (.inr (.inr (.inr (fun _ => none)))))), (q7, .inl (cA8, 124, .inr (.inr (.inr (.inr (fun _ => none)))))), (q9, .inl (cA10, 3, .inr (.inr (.inr (.inr (va_up (fun _ => none) 0 (some q15))))))), (q11, .inr (6, [.int 0, .long 0])), (q13, .inr (0, [.int 0, .null, .int 0, .null, .int 0, .int 0, .int 1, .int 1, .int 0, .int 0, .int 0, .int 0])), (q15, .inr (6, [.int 0, .long 0])), (q17, .inr (6, [.int 0, .long 0]))] H := hP
  have hD : va_D A [(h0, .inr (7, [.ref q1, .int 1, .ref q3, .int 0, .int 0, .ref q5, .int 0, .ref q7, .int 0, .ref q9, .int 0, .int 0, .ref q11, .int 0, .int 0])), (q1, .inl (cA2, 16, .inr (.inr (.inr (.inr (va_up (fun _ => none) 0 (some q13))))))), (q3, .inl (cA4, 40, .inr (.inr (.inr (.inr (fun _ => none)))))), (q5, .inl (cA6, 60, .inr (.inr (.inr (.inr (fun _ => none)))))), (q7, .inl (cA8, 124, .inr (.inr (.inr (.inr (fun _ => none)))))), (q9, .inl (cA10, 3, .inr (.inr (.inr (.inr (va_up (fun _ => none) 0 (some q15))))))), (q11, .inr (6, [.int 0, .long 0])), (q13, .inr (0, [.int 0, .null, .int 0, .null, .int 0, .int 0, .int 1, .int 1, .int 0, .int 0, .int 0, .int 0])), (q15, .inr (6, [.int 0, .long 0])), (q17, .inr (6, [.int 0, .long 0]))] := hD
  have hK : va_K (dC, dI) vwCl [(cA2, .object "ReflectModels$ClassModel"), (cA4, .object "ReflectModels$Member"), (cA6, .object "ReflectModels$Handle"), (cA8, .object "ReflectModels$Thing"), (cA10, .object "ReflectModels$Value")] s := hK
  refine W.cs (cells' := 9) (slots' := 261) rfl rfl ?_
  refine va_astq (r := (RX7, TX7, 2)) hx hb hK hP hD hS 5 4 9 6 rfl rfl rfl rfl (vp_in_iff.mpr ⟨by decide, by decide⟩) dX8_init_142 (fun H locs hP hD hS => ?_)
  have hP : va_P (dC, dI) vwCl [(h0, .inr (7, [.ref q1, .int 1, .ref q3, .int 0, .int 0, .ref q5, .int 0, .ref q7, .int 0, .ref q9, .int 0, .int 0, .ref q11, .int 0, .int 0])), (q1, .inl (cA2, 16, .inr (.inr (.inr (.inr (va_up (fun _ => none) 0 (some q13))))))), (q3, .inl (cA4, 40, .inr (.inr (.inr (.inr (fun _ => none)))))), (q5, .inl (cA6, 60, .inr (.inr (.inr (.inr (fun _ => none)))))), (q7, .inl (cA8, 124, .inr (.inr (.inr (.inr (fun _ => none)))))), (q9, .inl (cA10, 3, .inr (.inr (.inr (.inr (va_up (va_up (fun _ => none) 0 (some q15)) 1 (some q17))))))), (q11, .inr (6, [.int 0, .long 0])), (q13, .inr (0, [.int 0, .null, .int 0, .null, .int 0, .int 0, .int 1, .int 1, .int 0, .int 0, .int 0, .int 0])), (q15, .inr (6, [.int 0, .long 0])), (q17, .inr (6, [.int 0, .long 0]))] H := hP
  have hD : va_D A [(h0, .inr (7, [.ref q1, .int 1, .ref q3, .int 0, .int 0, .ref q5, .int 0, .ref q7, .int 0, .ref q9, .int 0, .int 0, .ref q11, .int 0, .int 0])), (q1, .inl (cA2, 16, .inr (.inr (.inr (.inr (va_up (fun _ => none) 0 (some q13))))))), (q3, .inl (cA4, 40, .inr (.inr (.inr (.inr (fun _ => none)))))), (q5, .inl (cA6, 60, .inr (.inr (.inr (.inr (fun _ => none)))))), (q7, .inl (cA8, 124, .inr (.inr (.inr (.inr (fun _ => none)))))), (q9, .inl (cA10, 3, .inr (.inr (.inr (.inr (va_up (va_up (fun _ => none) 0 (some q15)) 1 (some q17))))))), (q11, .inr (6, [.int 0, .long 0])), (q13, .inr (0, [.int 0, .null, .int 0, .null, .int 0, .int 0, .int 1, .int 1, .int 0, .int 0, .int 0, .int 0])), (q15, .inr (6, [.int 0, .long 0])), (q17, .inr (6, [.int 0, .long 0]))] := hD
  refine lv_iinc (v := 2) (lv' := [(1, .int 2), (0, .ref h0)]) hx hb dX8_init_143 hl (k := 0) rfl (by decide) (by decide) rfl (fun ls hl => ?_)
  refine lv_goto (tgt := 125) hx hb dX8_init_146 (by decide) ?_
  refine lv_iload_n hx hb dX8_init_125 rfl (lv_at hl 0 rfl) ?_
  refine lv_iconst (v := 3) hx hb dX8_init_126 (by decide) ?_
  refine lv_icmp_ge (tgt := 149) hx hb dX8_init_127 (by decide) (fun h => absurd h (by decide)) (fun _ => ?_)
  refine lv_aload_n hx hb dX8_init_130 rfl (lv_at hl 1 rfl) ?_
  refine va_get (D := (dC, dI)) (own := RX8) (ref := "ReflectModels") (index := 51) (ci := 7) (v := .ref q9) (C := RX8) (T := TX8) (N := 15) hx hb hts inX8_init_8 hown hK hP 0 rfl rfl 9 (by decide) (hts (.fieldLink RX8 51 "ReflectModels" "values" "[LReflectModels$Value;") (by decide +kernel)) (fun _ h9 => h9) rfl dX8_init_131 ?_
  refine lv_iload_n hx hb dX8_init_134 rfl (lv_at hl 0 rfl) ?_
  refine va_new (ci := 6) (fs := [.int 0, .long 0]) (C := RX7) (T := TX7) (N := 2) hx hb hts inX8_init_7 tyX7 tyX7_ok hown (hts (.classLink RX8 49 RX7) (by decide +kernel)) (hts (.instantiable RX7 2) (by decide +kernel)) (hts (.initialized RX7) (by decide +kernel)) hK hP hD hS hA rfl df_X7 (Nat.le_of_ble_eq_true rfl) (Nat.le_of_ble_eq_true rfl) dX8_init_135 (fun q19 H hP hD hS => ?_)
  have hP : va_P (dC, dI) vwCl [(h0, .inr (7, [.ref q1, .int 1, .ref q3, .int 0, .int 0, .ref q5, .int 0, .ref q7, .int 0, .ref q9, .int 0, .int 0, .ref q11, .int 0, .int 0])), (q1, .inl (cA2, 16, .inr (.inr (.inr (.inr (va_up (fun _ => none) 0 (some q13))))))), (q3, .inl (cA4, 40, .inr (.inr (.inr (.inr (fun _ => none)))))), (q5, .inl (cA6, 60, .inr (.inr (.inr (.inr (fun _ => none)))))), (q7, .inl (cA8, 124, .inr (.inr (.inr (.inr (fun _ => none)))))), (q9, .inl (cA10, 3, .inr (.inr (.inr (.inr (va_up (va_up (fun _ => none) 0 (some q15)) 1 (some q17))))))), (q11, .inr (6, [.int 0, .long 0])), (q13, .inr (0, [.int 0, .null, .int 0, .null, .int 0, .int 0, .int 1, .int 1, .int 0, .int 0, .int 0, .int 0])), (q15, .inr (6, [.int 0, .long 0])), (q17, .inr (6, [.int 0, .long 0])), (q19, .inr (6, [.int 0, .long 0]))] H := hP
  have hD : va_D A [(h0, .inr (7, [.ref q1, .int 1, .ref q3, .int 0, .int 0, .ref q5, .int 0, .ref q7, .int 0, .ref q9, .int 0, .int 0, .ref q11, .int 0, .int 0])), (q1, .inl (cA2, 16, .inr (.inr (.inr (.inr (va_up (fun _ => none) 0 (some q13))))))), (q3, .inl (cA4, 40, .inr (.inr (.inr (.inr (fun _ => none)))))), (q5, .inl (cA6, 60, .inr (.inr (.inr (.inr (fun _ => none)))))), (q7, .inl (cA8, 124, .inr (.inr (.inr (.inr (fun _ => none)))))), (q9, .inl (cA10, 3, .inr (.inr (.inr (.inr (va_up (va_up (fun _ => none) 0 (some q15)) 1 (some q17))))))), (q11, .inr (6, [.int 0, .long 0])), (q13, .inr (0, [.int 0, .null, .int 0, .null, .int 0, .int 0, .int 1, .int 1, .int 0, .int 0, .int 0, .int 0])), (q15, .inr (6, [.int 0, .long 0])), (q17, .inr (6, [.int 0, .long 0])), (q19, .inr (6, [.int 0, .long 0]))] := hD
  refine W.cs (cells' := 10) (slots' := 263) rfl rfl ?_
  refine lv_dup hx hb dX8_init_138 rfl ?_
  refine clW (wr := [(h0, .inr (7, [.ref q1, .int 1, .ref q3, .int 0, .int 0, .ref q5, .int 0, .ref q7, .int 0, .ref q9, .int 0, .int 0, .ref q11, .int 0, .int 0])), (q1, .inl (cA2, 16, .inr (.inr (.inr (.inr (va_up (fun _ => none) 0 (some q13))))))), (q3, .inl (cA4, 40, .inr (.inr (.inr (.inr (fun _ => none)))))), (q5, .inl (cA6, 60, .inr (.inr (.inr (.inr (fun _ => none)))))), (q7, .inl (cA8, 124, .inr (.inr (.inr (.inr (fun _ => none)))))), (q9, .inl (cA10, 3, .inr (.inr (.inr (.inr (va_up (va_up (fun _ => none) 0 (some q15)) 1 (some q17))))))), (q11, .inr (6, [.int 0, .long 0])), (q13, .inr (0, [.int 0, .null, .int 0, .null, .int 0, .int 0, .int 1, .int 1, .int 0, .int 0, .int 0, .int 0])), (q15, .inr (6, [.int 0, .long 0])), (q17, .inr (6, [.int 0, .long 0]))]) [10] [0, 1, 2, 3, 4, 5, 6, 7, 8, 9] (va_runIN (As := []) (rest := [.ref q19, .int 2, .ref q9]) ⟨hx, hb, hml, hown, hts⟩ (c7_init l dC dI q19 _) ⟨va_cnB 0 hts gX8_init_X7_init_n61 rfl rfl rfl (hN _ (List.mem_of_getElem? (i := 5) rfl)) (hts (.initialized RX7) (by decide +kernel)) (by decide +kernel) ⟨Nat.le_of_ble_eq_true rfl, Nat.le_of_ble_eq_true rfl⟩, rfl, hts (.instanceMethod yX7_init) (by decide +kernel)⟩ ⟨pz_blind, pz_of hP hK hD hN [10] [] rfl (by decide) rfl⟩ rfl rfl hl.1 rfl (lv_room (Nat.le_of_ble_eq_true rfl)) dX8_init_139 ⟨Nat.le_of_ble_eq_true rfl, Nat.le_of_ble_eq_true rfl⟩) hS hP hD hK hA rfl rfl (by decide) (by decide) (fun v w1 ty1 H locs w20 hP hD hK hS => ?_)
  obtain ⟨rfl, rfl, rfl⟩ := w20
  refine W.eq (g2 := F0 m 142 ls [.ref q19, .int 2, .ref q9]) rfl ?_
  have hP : va_P (dC, dI) vwCl [(h0, .inr (7, [.ref q1, .int 1, .ref q3, .int 0, .int 0, .ref q5, .int 0, .ref q7, .int 0, .ref q9, .int 0, .int 0, .ref q11, .int 0, .int 0])), (q1, .inl (cA2, 16, .inr (.inr (.inr (.inr (va_up (fun _ => none) 0 (some q13))))))), (q3, .inl (cA4, 40, .inr (.inr (.inr (.inr (fun _ => none)))))), (q5, .inl (cA6, 60, .inr (.inr (.inr (.inr (fun _ => none)))))), (q7, .inl (cA8, 124, .inr (.inr (.inr (.inr (fun _ => none)))))), (q9, .inl (cA10, 3, .inr (.inr (.inr (.inr (va_up (va_up (fun _ => none) 0 (some q15)) 1 (some q17))))))), (q11, .inr (6, [.int 0, .long 0])), (q13, .inr (0, [.int 0, .null, .int 0, .null, .int 0, .int 0, .int 1, .int 1, .int 0, .int 0, .int 0, .int 0])), (q15, .inr (6, [.int 0, .long 0])), (q17, .inr (6, [.int 0, .long 0])), (q19, .inr (6, [.int 0, .long 0]))] H := hP
  have hD : va_D A [(h0, .inr (7, [.ref q1, .int 1, .ref q3, .int 0, .int 0, .ref q5, .int 0, .ref q7, .int 0, .ref q9, .int 0, .int 0, .ref q11, .int 0, .int 0])), (q1, .inl (cA2, 16, .inr (.inr (.inr (.inr (va_up (fun _ => none) 0 (some q13))))))), (q3, .inl (cA4, 40, .inr (.inr (.inr (.inr (fun _ => none)))))), (q5, .inl (cA6, 60, .inr (.inr (.inr (.inr (fun _ => none)))))), (q7, .inl (cA8, 124, .inr (.inr (.inr (.inr (fun _ => none)))))), (q9, .inl (cA10, 3, .inr (.inr (.inr (.inr (va_up (va_up (fun _ => none) 0 (some q15)) 1 (some q17))))))), (q11, .inr (6, [.int 0, .long 0])), (q13, .inr (0, [.int 0, .null, .int 0, .null, .int 0, .int 0, .int 1, .int 1, .int 0, .int 0, .int 0, .int 0])), (q15, .inr (6, [.int 0, .long 0])), (q17, .inr (6, [.int 0, .long 0])), (q19, .inr (6, [.int 0, .long 0]))] := hD
  have hK : va_K (dC, dI) vwCl [(cA2, .object "ReflectModels$ClassModel"), (cA4, .object "ReflectModels$Member"), (cA6, .object "ReflectModels$Handle"), (cA8, .object "ReflectModels$Thing"), (cA10, .object "ReflectModels$Value")] s := hK
  refine W.cs (cells' := 10) (slots' := 263) rfl rfl ?_
  refine va_astq (r := (RX7, TX7, 2)) hx hb hK hP hD hS 5 4 10 6 rfl rfl rfl rfl (vp_in_iff.mpr ⟨by decide, by decide⟩) dX8_init_142 (fun H locs hP hD hS => ?_)
  have hP : va_P (dC, dI) vwCl [(h0, .inr (7, [.ref q1, .int 1, .ref q3, .int 0, .int 0, .ref q5, .int 0, .ref q7, .int 0, .ref q9, .int 0, .int 0, .ref q11, .int 0, .int 0])), (q1, .inl (cA2, 16, .inr (.inr (.inr (.inr (va_up (fun _ => none) 0 (some q13))))))), (q3, .inl (cA4, 40, .inr (.inr (.inr (.inr (fun _ => none)))))), (q5, .inl (cA6, 60, .inr (.inr (.inr (.inr (fun _ => none)))))), (q7, .inl (cA8, 124, .inr (.inr (.inr (.inr (fun _ => none)))))), (q9, .inl (cA10, 3, .inr (.inr (.inr (.inr (va_up (va_up (va_up (fun _ => none) 0 (some q15)) 1 (some q17)) 2 (some q19))))))), (q11, .inr (6, [.int 0, .long 0])), (q13, .inr (0, [.int 0, .null, .int 0, .null, .int 0, .int 0, .int 1, .int 1, .int 0, .int 0, .int 0, .int 0])), (q15, .inr (6, [.int 0, .long 0])), (q17, .inr (6, [.int 0, .long 0])), (q19, .inr (6, [.int 0, .long 0]))] H := hP
  have hD : va_D A [(h0, .inr (7, [.ref q1, .int 1, .ref q3, .int 0, .int 0, .ref q5, .int 0, .ref q7, .int 0, .ref q9, .int 0, .int 0, .ref q11, .int 0, .int 0])), (q1, .inl (cA2, 16, .inr (.inr (.inr (.inr (va_up (fun _ => none) 0 (some q13))))))), (q3, .inl (cA4, 40, .inr (.inr (.inr (.inr (fun _ => none)))))), (q5, .inl (cA6, 60, .inr (.inr (.inr (.inr (fun _ => none)))))), (q7, .inl (cA8, 124, .inr (.inr (.inr (.inr (fun _ => none)))))), (q9, .inl (cA10, 3, .inr (.inr (.inr (.inr (va_up (va_up (va_up (fun _ => none) 0 (some q15)) 1 (some q17)) 2 (some q19))))))), (q11, .inr (6, [.int 0, .long 0])), (q13, .inr (0, [.int 0, .null, .int 0, .null, .int 0, .int 0, .int 1, .int 1, .int 0, .int 0, .int 0, .int 0])), (q15, .inr (6, [.int 0, .long 0])), (q17, .inr (6, [.int 0, .long 0])), (q19, .inr (6, [.int 0, .long 0]))] := hD
  refine lv_iinc (v := 3) (lv' := [(1, .int 3), (0, .ref h0)]) hx hb dX8_init_143 hl (k := 0) rfl (by decide) (by decide) rfl (fun ls hl => ?_)
  refine lv_goto (tgt := 125) hx hb dX8_init_146 (by decide) ?_
  refine lv_iload_n hx hb dX8_init_125 rfl (lv_at hl 0 rfl) ?_
  refine lv_iconst (v := 3) hx hb dX8_init_126 (by decide) ?_
  refine lv_icmp_ge (tgt := 149) hx hb dX8_init_127 (by decide) (fun _ => ?_) (fun h => absurd (by decide) h)
  have hP9 := hP.sub (ws' := [(h0, .inr (7, [.ref q1, .int 1, .ref q3, .int 0, .int 0, .ref q5, .int 0, .ref q7, .int 0, .ref q9, .int 0, .int 0, .ref q11, .int 0, .int 0])), (q1, .inl (cA2, 16, .inr (.inr (.inr (.inr (va_up (fun _ => none) 0 (some q13))))))), (q3, .inl (cA4, 40, .inr (.inr (.inr (.inr (fun _ => none)))))), (q5, .inl (cA6, 60, .inr (.inr (.inr (.inr (fun _ => none)))))), (q7, .inl (cA8, 124, .inr (.inr (.inr (.inr (fun _ => none)))))), (q9, .inl (cA10, 3, .inr (.inr (.inr (.inr (va_up (va_up (va_up (fun _ => none) 0 (some q15)) 1 (some q17)) 2 (some q19))))))), (q11, .inr (6, [.int 0, .long 0])), (q13, .inr (0, [.int 0, .null, .int 0, .null, .int 0, .int 0, .int 1, .int 1, .int 0, .int 0, .int 0, .int 0])), (q15, .inr (6, [.int 0, .long 0])), (q17, .inr (6, [.int 0, .long 0])), (q19, .inr (6, [.int 0, .long 0]))]) [0, 1, 2, 3, 4, 5, 6, 7, 8, 9, 10] rfl
  have hD9 := hD.sub (ws' := [(h0, .inr (7, [.ref q1, .int 1, .ref q3, .int 0, .int 0, .ref q5, .int 0, .ref q7, .int 0, .ref q9, .int 0, .int 0, .ref q11, .int 0, .int 0])), (q1, .inl (cA2, 16, .inr (.inr (.inr (.inr (va_up (fun _ => none) 0 (some q13))))))), (q3, .inl (cA4, 40, .inr (.inr (.inr (.inr (fun _ => none)))))), (q5, .inl (cA6, 60, .inr (.inr (.inr (.inr (fun _ => none)))))), (q7, .inl (cA8, 124, .inr (.inr (.inr (.inr (fun _ => none)))))), (q9, .inl (cA10, 3, .inr (.inr (.inr (.inr (va_up (va_up (va_up (fun _ => none) 0 (some q15)) 1 (some q17)) 2 (some q19))))))), (q11, .inr (6, [.int 0, .long 0])), (q13, .inr (0, [.int 0, .null, .int 0, .null, .int 0, .int 0, .int 1, .int 1, .int 0, .int 0, .int 0, .int 0])), (q15, .inr (6, [.int 0, .long 0])), (q17, .inr (6, [.int 0, .long 0])), (q19, .inr (6, [.int 0, .long 0]))]) [0, 1, 2, 3, 4, 5, 6, 7, 8, 9, 10] (by decide) rfl
  have hK9 := hK.sub (tys' := [(cA2, .object "ReflectModels$ClassModel"), (cA4, .object "ReflectModels$Member"), (cA6, .object "ReflectModels$Handle"), (cA8, .object "ReflectModels$Thing"), (cA10, .object "ReflectModels$Value")]) [0, 1, 2, 3, 4] rfl
  exact W.vret hx hb hr (fun t ht hW => ⟨⟨none, rfl, _, _, ⟨rfl, fun k => [q1, q3, q5, q7, q9, q11, q13, q15, q17, q19].getD k 0, fun k => [cA2, cA4, cA6, cA8, cA10].getD k cA2, rfl, rfl⟩, by rw [ht]; exact hP9, va_K.moved hW.alike hK9, hD9⟩, hS.F ht⟩) hS.2.2 dX8_init_149

set_option maxHeartbeats 4000000 in
set_option maxRecDepth 100000 in
theorem c8_mayHaveAbove (l : Launch) (dC : Nat → ClassId) (dI : Nat → Nat → Nat) (r1 : Nat) (a0 : Int32) (sz : Nat)  : Met l yX8_mayHaveAbove wsX8_mayHaveAbove ({ frames := 0, cells := 0, slots := 0, locals := 0 }) (va_Pc [.int a0, .ref r1] (pz (dC, dI) [] [(r1, .inr (0, [.int 0, .null, .int 0, .null, .int 0, .int 0, .int 1, .int 1, .int 0, .int 0, .int 0, .int 0]))] sz)) (qR (fun v => (v = some (.int 1)))) 0 0 nA := by
  refine Met.ofW (cc := cX8_mayHaveAbove) (maxL := 2) (ret := (some .boolean)) (by decide) rfl ?_
  intro p e s m args below meth c s₁ B hml hv
  obtain ⟨rfl, hsz, hP, hK, hD, hN⟩ := hv
  have hx := B.exec
  have hb := B.bytes
  have hr := B.returns
  have hts := atoms_spec (ws := wsX8_mayHaveAbove) B.pre
  have hown : s.vm.findClass RX8 = some m.cls := findClass_of_methodNamed B.named
  have hlocks := B.notSynchronized
  subst hsz
  have hS : va_S nA s.heap s.heap [] := va_S.rf
  have hl := lv_entry ([.int a0, .ref r1]) (n := 2) (Nat.le_of_ble_eq_true rfl)
  rw [lg_entry_eq]
  generalize (lg_sl ([.int a0, .ref r1]) ++ List.replicate (2 - (lg_sl ([.int a0, .ref r1])).length) Slot.unset).toArray = ls at hl ⊢
  have hl : lv_has ls 2 [(0, .int a0), (1, .ref r1)] := hl
  refine lv_aload_n hx hb dX8_mayHaveAbove_0 rfl (lv_at hl 1 rfl) ?_
  refine va_getN (host := "ReflectModels") (D := (dC, dI)) (own := RX8) (ref := "ReflectModels$ClassModel") (index := 86) (ci := 0) (v := .int 0) (C := RX0) (T := TX0) (N := 12) hx hb hts inX8_mayHaveAbove_0 hown hK hP 0 rfl rfl 2 (by decide) (va_Nw.use rfl (hN _ (List.mem_of_getElem? (i := 12) rfl))) (fun _ h9 => h9) rfl dX8_mayHaveAbove_1 ?_
  refine lv_iconst (v := 3) hx hb dX8_mayHaveAbove_4 (by decide) ?_
  refine lv_icmp_eq (tgt := 16) hx hb dX8_mayHaveAbove_5 (by decide) (fun h => absurd h (by decide)) (fun _ => ?_)
  refine lv_aload_n hx hb dX8_mayHaveAbove_8 rfl (lv_at hl 1 rfl) ?_
  refine va_getN (host := "ReflectModels") (D := (dC, dI)) (own := RX8) (ref := "ReflectModels$ClassModel") (index := 86) (ci := 0) (v := .int 0) (C := RX0) (T := TX0) (N := 12) hx hb hts inX8_mayHaveAbove_0 hown hK hP 0 rfl rfl 2 (by decide) (va_Nw.use rfl (hN _ (List.mem_of_getElem? (i := 12) rfl))) (fun _ h9 => h9) rfl dX8_mayHaveAbove_9 ?_
  refine lv_iconst (v := 4) hx hb dX8_mayHaveAbove_12 (by decide) ?_
  refine lv_icmp_ne (tgt := 18) hx hb dX8_mayHaveAbove_13 (by decide) (fun _ => ?_) (fun h => absurd h (by decide))
  refine lv_iload_n hx hb dX8_mayHaveAbove_18 rfl (lv_at hl 0 rfl) ?_
  refine lv_if_eq (tgt := 27) hx hb dX8_mayHaveAbove_19 (by decide) (fun c1 => ?_) (fun c1 => ?_)
  · have ic1 : a0.toInt = 0 := ieq2 rfl (by decide) c1
    refine lv_iconst (v := 1) hx hb dX8_mayHaveAbove_27 (by decide) ?_
    exact W.zret (v := 1) (ty := .boolean) hx hb hr rfl (fun t ht hW => ⟨⟨(some (.int 1)), rfl, (by first | exact rfl)⟩, hS.F ht⟩) hS.2.2 dX8_mayHaveAbove_28
  · have ic1 : a0.toInt ≠ 0 := ine2 rfl (by decide) c1
    refine lv_iload_n hx hb dX8_mayHaveAbove_22 rfl (lv_at hl 0 rfl) ?_
    refine lv_iconst (v := 1) hx hb dX8_mayHaveAbove_23 (by decide) ?_
    refine lv_icmp_ne (tgt := 29) hx hb dX8_mayHaveAbove_24 (by decide) (fun c2 => ?_) (fun c2 => ?_)
    · have ic2 : a0.toInt ≠ 1 := ine2 rfl (by decide) c2
      refine lv_aload_n hx hb dX8_mayHaveAbove_29 rfl (lv_at hl 1 rfl) ?_
      refine va_getN (host := "ReflectModels") (D := (dC, dI)) (own := RX8) (ref := "ReflectModels$ClassModel") (index := 180) (ci := 0) (v := .int 0) (C := RX0) (T := TX0) (N := 12) hx hb hts inX8_mayHaveAbove_0 hown hK hP 0 rfl rfl 0 (by decide) (va_Nw.use rfl (hN _ (List.mem_of_getElem? (i := 10) rfl))) (fun _ h9 => h9) rfl dX8_mayHaveAbove_30 ?_
      refine lv_if_eq (tgt := 49) hx hb dX8_mayHaveAbove_33 (by decide) (fun _ => ?_) (fun h => absurd (by decide) h)
      refine lv_iconst (v := 1) hx hb dX8_mayHaveAbove_49 (by decide) ?_
      refine lv_goto (tgt := 54) hx hb dX8_mayHaveAbove_50 (by decide) ?_
      exact W.zret (v := 1) (ty := .boolean) hx hb hr rfl (fun t ht hW => ⟨⟨(some (.int 1)), rfl, (by first | exact rfl)⟩, hS.F ht⟩) hS.2.2 dX8_mayHaveAbove_54
    · have ic2 : a0.toInt = 1 := ieq2 rfl (by decide) c2
      refine lv_iconst (v := 1) hx hb dX8_mayHaveAbove_27 (by decide) ?_
      exact W.zret (v := 1) (ty := .boolean) hx hb hr rfl (fun t ht hW => ⟨⟨(some (.int 1)), rfl, (by first | exact rfl)⟩, hS.F ht⟩) hS.2.2 dX8_mayHaveAbove_28

set_option maxHeartbeats 4000000 in
set_option maxRecDepth 100000 in
theorem c8_mayActAs0 (l : Launch) (dC : Nat → ClassId) (dI : Nat → Nat → Nat) (a0 : Int32) (sz : Nat)  : Met l yX8_mayActAs wsX8_mayActAs ({ frames := 0, cells := 0, slots := 0, locals := 0 }) (va_Pc [.int a0, .null] (pz (dC, dI) [] [] sz)) (qR (fun v => (v = some (.int 1)))) 0 0 nA := by
  refine Met.ofW (cc := cX8_mayActAs) (maxL := 2) (ret := (some .boolean)) (by decide) rfl ?_
  intro p e s m args below meth c s₁ B hml hv
  obtain ⟨rfl, hsz, hP, hK, hD, hN⟩ := hv
  have hx := B.exec
  have hb := B.bytes
  have hr := B.returns
  have hts := atoms_spec (ws := wsX8_mayActAs) B.pre
  have hown : s.vm.findClass RX8 = some m.cls := findClass_of_methodNamed B.named
  have hlocks := B.notSynchronized
  subst hsz
  have hS : va_S nA s.heap s.heap [] := va_S.rf
  have hl := lv_entry ([.int a0, .null]) (n := 2) (Nat.le_of_ble_eq_true rfl)
  rw [lg_entry_eq]
  generalize (lg_sl ([.int a0, .null]) ++ List.replicate (2 - (lg_sl ([.int a0, .null])).length) Slot.unset).toArray = ls at hl ⊢
  have hl : lv_has ls 2 [(0, .int a0), (1, .null)] := hl
  refine lv_aload_nN hx hb dX8_mayActAs_0 rfl (lv_at hl 1 rfl) ?_
  refine lv_ifnullN (tgt := 17) hx hb dX8_mayActAs_1 (by decide) ?_
  refine lv_iconst (v := 1) hx hb dX8_mayActAs_17 (by decide) ?_
  refine lv_goto (tgt := 22) hx hb dX8_mayActAs_18 (by decide) ?_
  exact W.zret (v := 1) (ty := .boolean) hx hb hr rfl (fun t ht hW => ⟨⟨(some (.int 1)), rfl, (by first | exact rfl)⟩, hS.F ht⟩) hS.2.2 dX8_mayActAs_22

set_option maxHeartbeats 4000000 in
set_option maxRecDepth 100000 in
theorem c8_mayActAs1 (l : Launch) (dC : Nat → ClassId) (dI : Nat → Nat → Nat) (r1 : Nat) (a0 : Int32) (sz : Nat)  : Met l yX8_mayActAs wsX8_mayActAs ({ frames := 0, cells := 0, slots := 0, locals := 0 }) (va_Pc [.int a0, .ref r1] (pz (dC, dI) [] [(r1, .inr (0, [.int 0, .null, .int 0, .null, .int 0, .int 0, .int 1, .int 1, .int 0, .int 0, .int 0, .int 0]))] sz)) (qR (fun v => (v = some (.int 0)))) 0 0 nA := by
  refine Met.ofW (cc := cX8_mayActAs) (maxL := 2) (ret := (some .boolean)) (by decide) rfl ?_
  intro p e s m args below meth c s₁ B hml hv
  obtain ⟨rfl, hsz, hP, hK, hD, hN⟩ := hv
  have hx := B.exec
  have hb := B.bytes
  have hr := B.returns
  have hts := atoms_spec (ws := wsX8_mayActAs) B.pre
  have hown : s.vm.findClass RX8 = some m.cls := findClass_of_methodNamed B.named
  have hlocks := B.notSynchronized
  subst hsz
  have hS : va_S nA s.heap s.heap [] := va_S.rf
  have hl := lv_entry ([.int a0, .ref r1]) (n := 2) (Nat.le_of_ble_eq_true rfl)
  rw [lg_entry_eq]
  generalize (lg_sl ([.int a0, .ref r1]) ++ List.replicate (2 - (lg_sl ([.int a0, .ref r1])).length) Slot.unset).toArray = ls at hl ⊢
  have hl : lv_has ls 2 [(0, .int a0), (1, .ref r1)] := hl
  refine lv_aload_n hx hb dX8_mayActAs_0 rfl (lv_at hl 1 rfl) ?_
  refine lv_ifnull hx hb dX8_mayActAs_1 ?_
  refine lv_iload_n hx hb dX8_mayActAs_4 rfl (lv_at hl 0 rfl) ?_
  refine lv_iconst (v := 2) hx hb dX8_mayActAs_5 (by decide) ?_
  refine lv_icmp_eq (tgt := 21) hx hb dX8_mayActAs_6 (by decide) (fun c1 => ?_) (fun c1 => ?_)
  · have ic1 : a0.toInt = 2 := ieq2 rfl (by decide) c1
    refine lv_iconst (v := 0) hx hb dX8_mayActAs_21 (by decide) ?_
    exact W.zret (v := 0) (ty := .boolean) hx hb hr rfl (fun t ht hW => ⟨⟨(some (.int 0)), rfl, (by first | exact rfl)⟩, hS.F ht⟩) hS.2.2 dX8_mayActAs_22
  · have ic1 : a0.toInt ≠ 2 := ine2 rfl (by decide) c1
    refine lv_aload_n hx hb dX8_mayActAs_9 rfl (lv_at hl 1 rfl) ?_
    refine va_getN (host := "ReflectModels") (D := (dC, dI)) (own := RX8) (ref := "ReflectModels$ClassModel") (index := 86) (ci := 0) (v := .int 0) (C := RX0) (T := TX0) (N := 12) hx hb hts inX8_mayActAs_0 hown hK hP 0 rfl rfl 2 (by decide) (va_Nw.use rfl (hN _ (List.mem_of_getElem? (i := 12) rfl))) (fun _ h9 => h9) rfl dX8_mayActAs_10 ?_
    refine lv_iconst (v := 2) hx hb dX8_mayActAs_13 (by decide) ?_
    refine lv_icmp_ne (tgt := 21) hx hb dX8_mayActAs_14 (by decide) (fun _ => ?_) (fun h => absurd h (by decide))
    refine lv_iconst (v := 0) hx hb dX8_mayActAs_21 (by decide) ?_
    exact W.zret (v := 0) (ty := .boolean) hx hb hr rfl (fun t ht hW => ⟨⟨(some (.int 0)), rfl, (by first | exact rfl)⟩, hS.F ht⟩) hS.2.2 dX8_mayActAs_22

set_option maxHeartbeats 4000000 in
set_option maxRecDepth 100000 in
/-- type on a fresh object -/
theorem c8_type (l : Launch) (dC : Nat → ClassId) (dI : Nat → Nat → Nat) (h0 : Nat) (q : Nat → Nat) (cA : Nat → ClassId) (a1 a2 a3 a4 a5 : Int32) (sz : Nat) (h4 : a4 = 0 ∨ a4 = 1) (h5 : a5 = 0 ∨ a5 = 1) : Met l yX8_type wsX8_type ({ frames := 2, cells := 1, slots := 12, locals := 39 }) (va_Pc [.ref h0, .int a1, .int a2, .int a3, .int a4, .int a5] (pz (dC, dI) [((cA 0), .object "ReflectModels$ClassModel"), ((cA 1), .object "ReflectModels$Member"), ((cA 2), .object "ReflectModels$Handle"), ((cA 3), .object "ReflectModels$Thing"), ((cA 4), .object "ReflectModels$Value")] [(h0, .inr (7, [.ref (q 0), .int 1, .ref (q 1), .int 0, .int 0, .ref (q 2), .int 0, .ref (q 3), .int 0, .ref (q 4), .int 0, .int 0, .ref (q 5), .int 0, .int 0])), ((q 0), .inl ((cA 0), 16, .inr (.inr (.inr (.inr (va_up (fun _ => none) 0 (some (q 6)))))))), ((q 1), .inl ((cA 1), 40, .inr (.inr (.inr (.inr (fun _ => none)))))), ((q 2), .inl ((cA 2), 60, .inr (.inr (.inr (.inr (fun _ => none)))))), ((q 3), .inl ((cA 3), 124, .inr (.inr (.inr (.inr (fun _ => none)))))), ((q 4), .inl ((cA 4), 3, .inr (.inr (.inr (.inr (va_up (va_up (va_up (fun _ => none) 0 (some (q 7))) 1 (some (q 8))) 2 (some (q 9)))))))), ((q 5), .inr (6, [.int 0, .long 0])), ((q 6), .inr (0, [.int 0, .null, .int 0, .null, .int 0, .int 0, .int 1, .int 1, .int 0, .int 0, .int 0, .int 0])), ((q 7), .inr (6, [.int 0, .long 0])), ((q 8), .inr (6, [.int 0, .long 0])), ((q 9), .inr (6, [.int 0, .long 0]))] sz)) (qW (dC, dI) (fun v w1 ty1 => v = some (.int (an_type a1.toInt a2.toInt a3.toInt)) ∧ w1 = [] ∧ ty1 = []) (va_A [(h0, .inr (7, [.ref (q 0), .int 1, .ref (q 1), .int 0, .int 0, .ref (q 2), .int 0, .ref (q 3), .int 0, .ref (q 4), .int 0, .int 0, .ref (q 5), .int 0, .int 0])), ((q 0), .inl ((cA 0), 16, .inr (.inr (.inr (.inr (va_up (fun _ => none) 0 (some (q 6)))))))), ((q 1), .inl ((cA 1), 40, .inr (.inr (.inr (.inr (fun _ => none)))))), ((q 2), .inl ((cA 2), 60, .inr (.inr (.inr (.inr (fun _ => none)))))), ((q 3), .inl ((cA 3), 124, .inr (.inr (.inr (.inr (fun _ => none)))))), ((q 4), .inl ((cA 4), 3, .inr (.inr (.inr (.inr (va_up (va_up (va_up (fun _ => none) 0 (some (q 7))) 1 (some (q 8))) 2 (some (q 9)))))))), ((q 5), .inr (6, [.int 0, .long 0])), ((q 6), .inr (0, [.int 0, .null, .int 0, .null, .int 0, .int 0, .int 1, .int 1, .int 0, .int 0, .int 0, .int 0])), ((q 7), .inr (6, [.int 0, .long 0])), ((q 8), .inr (6, [.int 0, .long 0])), ((q 9), .inr (6, [.int 0, .long 0]))] sz)) 1 12 (va_A [(h0, .inr (7, [.ref (q 0), .int 1, .ref (q 1), .int 0, .int 0, .ref (q 2), .int 0, .ref (q 3), .int 0, .ref (q 4), .int 0, .int 0, .ref (q 5), .int 0, .int 0])), ((q 0), .inl ((cA 0), 16, .inr (.inr (.inr (.inr (va_up (fun _ => none) 0 (some (q 6)))))))), ((q 1), .inl ((cA 1), 40, .inr (.inr (.inr (.inr (fun _ => none)))))), ((q 2), .inl ((cA 2), 60, .inr (.inr (.inr (.inr (fun _ => none)))))), ((q 3), .inl ((cA 3), 124, .inr (.inr (.inr (.inr (fun _ => none)))))), ((q 4), .inl ((cA 4), 3, .inr (.inr (.inr (.inr (va_up (va_up (va_up (fun _ => none) 0 (some (q 7))) 1 (some (q 8))) 2 (some (q 9)))))))), ((q 5), .inr (6, [.int 0, .long 0])), ((q 6), .inr (0, [.int 0, .null, .int 0, .null, .int 0, .int 0, .int 1, .int 1, .int 0, .int 0, .int 0, .int 0])), ((q 7), .inr (6, [.int 0, .long 0])), ((q 8), .inr (6, [.int 0, .long 0])), ((q 9), .inr (6, [.int 0, .long 0]))] sz) := by
  refine Met.ofW (cc := cX8_type) (maxL := 7) (ret := (some .int)) (by decide) rfl ?_
  intro p e s m args below meth c s₁ B hml hv
  obtain ⟨rfl, hsz, hP, hK, hD, hN⟩ := hv
  have hx := B.exec
  have hb := B.bytes
  have hr := B.returns
  have hts := atoms_spec (ws := wsX8_type) B.pre
  have hown : s.vm.findClass RX8 = some m.cls := findClass_of_methodNamed B.named
  have hlocks := B.notSynchronized
  subst hsz
  have hD := hD.self (sz := s.heap.size)
  generalize hAe : va_A [(h0, .inr (7, [.ref (q 0), .int 1, .ref (q 1), .int 0, .int 0, .ref (q 2), .int 0, .ref (q 3), .int 0, .ref (q 4), .int 0, .int 0, .ref (q 5), .int 0, .int 0])), ((q 0), .inl ((cA 0), 16, .inr (.inr (.inr (.inr (va_up (fun _ => none) 0 (some (q 6)))))))), ((q 1), .inl ((cA 1), 40, .inr (.inr (.inr (.inr (fun _ => none)))))), ((q 2), .inl ((cA 2), 60, .inr (.inr (.inr (.inr (fun _ => none)))))), ((q 3), .inl ((cA 3), 124, .inr (.inr (.inr (.inr (fun _ => none)))))), ((q 4), .inl ((cA 4), 3, .inr (.inr (.inr (.inr (va_up (va_up (va_up (fun _ => none) 0 (some (q 7))) 1 (some (q 8))) 2 (some (q 9)))))))), ((q 5), .inr (6, [.int 0, .long 0])), ((q 6), .inr (0, [.int 0, .null, .int 0, .null, .int 0, .int 0, .int 1, .int 1, .int 0, .int 0, .int 0, .int 0])), ((q 7), .inr (6, [.int 0, .long 0])), ((q 8), .inr (6, [.int 0, .long 0])), ((q 9), .inr (6, [.int 0, .long 0]))] s.heap.size = A at hD ⊢
  have hA : ∀ q : Nat, s.heap.size ≤ q → A q := fun q h => by rw [← hAe]; exact Or.inr h
  have hS : va_S A s.heap s.heap [] := va_S.rf
  have hl := lv_entry ([.ref h0, .int a1, .int a2, .int a3, .int a4, .int a5]) (n := 7) (Nat.le_of_ble_eq_true rfl)
  rw [lg_entry_eq]
  generalize (lg_sl ([.ref h0, .int a1, .int a2, .int a3, .int a4, .int a5]) ++ List.replicate (7 - (lg_sl ([.ref h0, .int a1, .int a2, .int a3, .int a4, .int a5])).length) Slot.unset).toArray = ls at hl ⊢
  have hl : lv_has ls 7 [(0, .ref h0), (1, .int a1), (2, .int a2), (3, .int a3), (4, .int a4), (5, .int a5)] := hl
  refine lv_aload_n hx hb dX8_type_0 rfl (lv_at hl 0 rfl) ?_
  refine lv_iload_n hx hb dX8_type_1 rfl (lv_at hl 1 rfl) ?_
  refine clR (va_runV (As := [.int a1]) (rest := []) ⟨hx, hb, hml, hown, hts⟩ (c8_isClass l dC dI h0 q a1 _) (cwV 1 hts gX8_type_X8_isClass rfl rfl rfl (by decide +kernel) ⟨Nat.le_of_ble_eq_true rfl, Nat.le_of_ble_eq_true rfl⟩) ⟨pz_blind, va_recv hK hP (ci := 7) (q0 := 0) rfl rfl, pz_of hP hK hD hN [0] [] rfl (by decide) rfl⟩ rfl rfl hl.1 rfl (lv_room (Nat.le_of_ble_eq_true rfl)) dX8_type_2 ⟨Nat.le_of_ble_eq_true rfl, Nat.le_of_ble_eq_true rfl⟩) hS hP (fun v H locs w2 hP hS => ?_)
  rcases w2 with ⟨rfl, rfl⟩ | ⟨rfl, u1⟩
  · refine W.eq (g2 := F0 m 5 ls [.int 1]) rfl ?_
    refine lv_if_eq (tgt := 21) hx hb dX8_type_5 (by decide) (fun h => absurd h (by decide)) (fun _ => ?_)
    refine lv_iload_n hx hb dX8_type_8 rfl (lv_at hl 3 rfl) ?_
    refine lv_iconst (v := (-1)) hx hb dX8_type_9 (by decide) ?_
    refine lv_icmp_eq (tgt := 24) hx hb dX8_type_10 (by decide) (fun c3 => ?_) (fun c3 => ?_)
    · have ic3 : a3.toInt = (-1) := ieq2 rfl (by decide) c3
      refine lv_iload_n hx hb dX8_type_24 rfl (lv_at hl 2 rfl) ?_
      refine lv_if_lt (tgt := 33) hx hb dX8_type_25 (by decide) (fun c4 => ?_) (fun c4 => ?_)
      · have ic4 : a2.toInt < 0 := il2 rfl (by decide) c4
        refine lv_bipush (v := (-3)) hx hb dX8_type_33 (by decide) ?_
        refine W.widen (k := 1) (n := 12) (by omega) (by omega) ?_
        have hP9 := hP.sub (ws' := []) [] rfl
        have hD9 := hD.sub (ws' := []) [] (by decide) rfl
        have hK9 := hK.sub (tys' := []) [] rfl
        exact W.zret (v := (-3)) (ty := .int) hx hb hr rfl (fun t ht hW => ⟨⟨(some (.int (-3))), rfl, _, _, ⟨congrArg (fun z => some (Value.int z)) (by unfold an_type; (repeat' split) <;> first | rfl | (exfalso; first | omega | (have kq := kz; omega))), rfl, rfl⟩, by rw [ht]; exact hP9, va_K.moved hW.alike hK9, hD9⟩, hS.F ht⟩) hS.2.2 dX8_type_35
      · have ic4 : 0 ≤ a2.toInt := inl2 rfl (by decide) c4
        refine lv_iload_n hx hb dX8_type_28 rfl (lv_at hl 2 rfl) ?_
        refine lv_iconst (v := 4) hx hb dX8_type_29 (by decide) ?_
        refine lv_icmp_le (tgt := 36) hx hb dX8_type_30 (by decide) (fun c5 => ?_) (fun c5 => ?_)
        · have ic5 : a2.toInt ≤ 4 := ile2 rfl (by decide) c5
          refine lv_iload_n hx hb dX8_type_36 rfl (lv_at hl 3 rfl) ?_
          refine lv_iconst (v := (-1)) hx hb dX8_type_37 (by decide) ?_
          refine lv_icmp_ne (tgt := 45) hx hb dX8_type_38 (by decide) (fun c6 => ?_) (fun c6 => ?_)
          · have ic6 : a3.toInt ≠ (-1) := ine2 rfl (by decide) c6
            exfalso; first | omega | (have kq := kz; omega)
          · have ic6 : a3.toInt = (-1) := ieq2 rfl (by decide) c6
            refine lv_null hx hb dX8_type_41 ?_
            refine lv_goto (tgt := 51) hx hb dX8_type_42 (by decide) ?_
            refine lv_astoreN (lv' := [(6, .null), (0, .ref h0), (1, .int 0), (2, .int a2), (3, .int a3), (4, .int a4), (5, .int a5)]) hx hb dX8_type_51 hl (by decide) rfl (fun ls hl => ?_)
            refine lv_iload_n hx hb dX8_type_53 rfl (lv_at hl 3 rfl) ?_
            refine lv_aload_n hx hb dX8_type_54 rfl (lv_at hl 1 rfl) ?_
            refine va_get (D := (dC, dI)) (own := RX8) (ref := "ReflectModels") (index := 11) (ci := 7) (v := .ref (q 0)) (C := RX8) (T := TX8) (N := 15) hx hb hts inX8_type_8 hown hK hP 0 rfl rfl 0 (by decide) (hts (.fieldLink RX8 11 "ReflectModels" "classes" "[LReflectModels$ClassModel;") (by decide +kernel)) (fun _ h9 => h9) rfl dX8_type_55 ?_
            refine lv_iload_n hx hb dX8_type_58 rfl (lv_at hl 2 rfl) ?_
            refine va_aldq hx hb hK hP 1 0 rfl rfl (vp_in_iff.mpr ⟨by decide, by decide⟩) dX8_type_59 ?_
            refine W.eq (g2 := F0 m 60 ls [.ref (q 6), .int a2]) rfl ?_
            refine clR (va_runS (As := [.int a2, .ref (q 6)]) (rest := []) ⟨hx, hb, hml, hown, hts⟩ (c8_mayHaveAbove l dC dI (q 6) a2 _) (va_cwS 2 hts gX8_type_X8_mayHaveAbove rfl rfl rfl (by decide +kernel) ⟨Nat.le_of_ble_eq_true rfl, Nat.le_of_ble_eq_true rfl⟩) ⟨pz_blind, pz_of hP hK hD hN [7] [] rfl (by decide) rfl⟩ rfl rfl hl.1 rfl (lv_room (Nat.le_of_ble_eq_true rfl)) dX8_type_60 ⟨Nat.le_of_ble_eq_true rfl, Nat.le_of_ble_eq_true rfl⟩) hS hP (fun v H locs w7 hP hS => ?_)
            obtain rfl := w7
            refine W.eq (g2 := F0 m 63 ls [.int 1]) rfl ?_
            refine lv_if_eq (tgt := 75) hx hb dX8_type_63 (by decide) (fun h => absurd h (by decide)) (fun _ => ?_)
            refine lv_iload_n hx hb dX8_type_66 rfl (lv_at hl 3 rfl) ?_
            refine lv_aloadN hx hb dX8_type_67 (lv_at hl 0 rfl) ?_
            refine clR (va_runS (As := [.int a2, .null]) (rest := []) ⟨hx, hb, hml, hown, hts⟩ (c8_mayActAs0 l dC dI a2 _) (va_cwS 2 hts gX8_type_X8_mayActAs rfl rfl rfl (by decide +kernel) ⟨Nat.le_of_ble_eq_true rfl, Nat.le_of_ble_eq_true rfl⟩) ⟨pz_blind, pz_of hP hK hD hN [] [] rfl (by decide) rfl⟩ rfl rfl hl.1 rfl (lv_room (Nat.le_of_ble_eq_true rfl)) dX8_type_69 ⟨Nat.le_of_ble_eq_true rfl, Nat.le_of_ble_eq_true rfl⟩) hS hP (fun v H locs w8 hP hS => ?_)
            obtain rfl := w8
            refine W.eq (g2 := F0 m 72 ls [.int 1]) rfl ?_
            refine lv_if_ne (tgt := 78) hx hb dX8_type_72 (by decide) (fun _ => ?_) (fun h => absurd h (by decide))
            refine lv_aload_n hx hb dX8_type_78 rfl (lv_at hl 1 rfl) ?_
            refine va_get (D := (dC, dI)) (own := RX8) (ref := "ReflectModels") (index := 15) (ci := 7) (v := .int 1) (C := RX8) (T := TX8) (N := 15) hx hb hts inX8_type_8 hown hK hP 0 rfl rfl 1 (by decide) (hts (.fieldLink RX8 15 "ReflectModels" "classCount" "I") (by decide +kernel)) (fun _ h9 => h9) rfl dX8_type_79 ?_
            refine lv_bipush (v := 16) hx hb dX8_type_82 (by decide) ?_
            refine lv_icmp_lt (tgt := 90) hx hb dX8_type_84 (by decide) (fun _ => ?_) (fun h => absurd (by decide) h)
            refine lv_aload_n hx hb dX8_type_90 rfl (lv_at hl 1 rfl) ?_
            refine va_get (D := (dC, dI)) (own := RX8) (ref := "ReflectModels") (index := 11) (ci := 7) (v := .ref (q 0)) (C := RX8) (T := TX8) (N := 15) hx hb hts inX8_type_8 hown hK hP 0 rfl rfl 0 (by decide) (hts (.fieldLink RX8 11 "ReflectModels" "classes" "[LReflectModels$ClassModel;") (by decide +kernel)) (fun _ h9 => h9) rfl dX8_type_91 ?_
            refine lv_aload_n hx hb dX8_type_94 rfl (lv_at hl 1 rfl) ?_
            refine va_get (D := (dC, dI)) (own := RX8) (ref := "ReflectModels") (index := 15) (ci := 7) (v := .int 1) (C := RX8) (T := TX8) (N := 15) hx hb hts inX8_type_8 hown hK hP 0 rfl rfl 1 (by decide) (hts (.fieldLink RX8 15 "ReflectModels" "classCount" "I") (by decide +kernel)) (fun _ h9 => h9) rfl dX8_type_95 ?_
            refine va_new (ci := 0) (fs := [.int 0, .null, .int 0, .null, .int 0, .int 0, .int 0, .int 0, .int 0, .int 0, .int 0, .int 0]) (C := RX0) (T := TX0) (N := 12) hx hb hts inX8_type_0 tyX0 tyX0_ok hown (hts (.classLink RX8 9 RX0) (by decide +kernel)) (hts (.instantiable RX0 12) (by decide +kernel)) (hts (.initialized RX0) (by decide +kernel)) hK hP hD hS hA rfl df_X0 (Nat.le_of_ble_eq_true rfl) (Nat.le_of_ble_eq_true rfl) dX8_type_98 (fun q9 H hP hD hS => ?_)
            have hP : va_P (dC, dI) vwCl [(h0, .inr (7, [.ref (q 0), .int 1, .ref (q 1), .int 0, .int 0, .ref (q 2), .int 0, .ref (q 3), .int 0, .ref (q 4), .int 0, .int 0, .ref (q 5), .int 0, .int 0])), ((q 0), .inl ((cA 0), 16, .inr (.inr (.inr (.inr (va_up (fun _ => none) 0 (some (q 6)))))))), ((q 1), .inl ((cA 1), 40, .inr (.inr (.inr (.inr (fun _ => none)))))), ((q 2), .inl ((cA 2), 60, .inr (.inr (.inr (.inr (fun _ => none)))))), ((q 3), .inl ((cA 3), 124, .inr (.inr (.inr (.inr (fun _ => none)))))), ((q 4), .inl ((cA 4), 3, .inr (.inr (.inr (.inr (va_up (va_up (va_up (fun _ => none) 0 (some (q 7))) 1 (some (q 8))) 2 (some (q 9)))))))), ((q 5), .inr (6, [.int 0, .long 0])), ((q 6), .inr (0, [.int 0, .null, .int 0, .null, .int 0, .int 0, .int 1, .int 1, .int 0, .int 0, .int 0, .int 0])), ((q 7), .inr (6, [.int 0, .long 0])), ((q 8), .inr (6, [.int 0, .long 0])), ((q 9), .inr (6, [.int 0, .long 0])), (q9, .inr (0, [.int 0, .null, .int 0, .null, .int 0, .int 0, .int 0, .int 0, .int 0, .int 0, .int 0, .int 0]))] H := hP
            have hD : va_D A [(h0, .inr (7, [.ref (q 0), .int 1, .ref (q 1), .int 0, .int 0, .ref (q 2), .int 0, .ref (q 3), .int 0, .ref (q 4), .int 0, .int 0, .ref (q 5), .int 0, .int 0])), ((q 0), .inl ((cA 0), 16, .inr (.inr (.inr (.inr (va_up (fun _ => none) 0 (some (q 6)))))))), ((q 1), .inl ((cA 1), 40, .inr (.inr (.inr (.inr (fun _ => none)))))), ((q 2), .inl ((cA 2), 60, .inr (.inr (.inr (.inr (fun _ => none)))))), ((q 3), .inl ((cA 3), 124, .inr (.inr (.inr (.inr (fun _ => none)))))), ((q 4), .inl ((cA 4), 3, .inr (.inr (.inr (.inr (va_up (va_up (va_up (fun _ => none) 0 (some (q 7))) 1 (some (q 8))) 2 (some (q 9)))))))), ((q 5), .inr (6, [.int 0, .long 0])), ((q 6), .inr (0, [.int 0, .null, .int 0, .null, .int 0, .int 0, .int 1, .int 1, .int 0, .int 0, .int 0, .int 0])), ((q 7), .inr (6, [.int 0, .long 0])), ((q 8), .inr (6, [.int 0, .long 0])), ((q 9), .inr (6, [.int 0, .long 0])), (q9, .inr (0, [.int 0, .null, .int 0, .null, .int 0, .int 0, .int 0, .int 0, .int 0, .int 0, .int 0, .int 0]))] := hD
            refine W.cs (cells' := 1) (slots' := 12) rfl rfl ?_
            refine lv_dup hx hb dX8_type_101 rfl ?_
            refine lv_aload_n hx hb dX8_type_102 rfl (lv_at hl 1 rfl) ?_
            refine va_get (D := (dC, dI)) (own := RX8) (ref := "ReflectModels") (index := 15) (ci := 7) (v := .int 1) (C := RX8) (T := TX8) (N := 15) hx hb hts inX8_type_8 hown hK hP 0 rfl rfl 1 (by decide) (hts (.fieldLink RX8 15 "ReflectModels" "classCount" "I") (by decide +kernel)) (fun _ h9 => h9) rfl dX8_type_103 ?_
            refine lv_aload_n hx hb dX8_type_106 rfl (lv_at hl 1 rfl) ?_
            refine va_get (D := (dC, dI)) (own := RX8) (ref := "ReflectModels") (index := 11) (ci := 7) (v := .ref (q 0)) (C := RX8) (T := TX8) (N := 15) hx hb hts inX8_type_8 hown hK hP 0 rfl rfl 0 (by decide) (hts (.fieldLink RX8 11 "ReflectModels" "classes" "[LReflectModels$ClassModel;") (by decide +kernel)) (fun _ h9 => h9) rfl dX8_type_107 ?_
            refine lv_iload_n hx hb dX8_type_110 rfl (lv_at hl 2 rfl) ?_
            refine va_aldq hx hb hK hP 1 0 rfl rfl (vp_in_iff.mpr ⟨by decide, by decide⟩) dX8_type_111 ?_
            refine W.eq (g2 := F0 m 112 ls [.ref (q 6), .int 1, .ref q9, .ref q9, .int 1, .ref (q 0)]) rfl ?_
            refine lv_iload_n hx hb dX8_type_112 rfl (lv_at hl 3 rfl) ?_
            refine lv_aloadN hx hb dX8_type_113 (lv_at hl 0 rfl) ?_
            refine lv_iload hx hb dX8_type_115 (lv_at hl 5 rfl) ?_
            refine lv_iload hx hb dX8_type_117 (lv_at hl 6 rfl) ?_
            refine clW (wr := [(h0, .inr (7, [.ref (q 0), .int 1, .ref (q 1), .int 0, .int 0, .ref (q 2), .int 0, .ref (q 3), .int 0, .ref (q 4), .int 0, .int 0, .ref (q 5), .int 0, .int 0])), ((q 0), .inl ((cA 0), 16, .inr (.inr (.inr (.inr (va_up (fun _ => none) 0 (some (q 6)))))))), ((q 1), .inl ((cA 1), 40, .inr (.inr (.inr (.inr (fun _ => none)))))), ((q 2), .inl ((cA 2), 60, .inr (.inr (.inr (.inr (fun _ => none)))))), ((q 3), .inl ((cA 3), 124, .inr (.inr (.inr (.inr (fun _ => none)))))), ((q 4), .inl ((cA 4), 3, .inr (.inr (.inr (.inr (va_up (va_up (va_up (fun _ => none) 0 (some (q 7))) 1 (some (q 8))) 2 (some (q 9)))))))), ((q 5), .inr (6, [.int 0, .long 0])), ((q 7), .inr (6, [.int 0, .long 0])), ((q 8), .inr (6, [.int 0, .long 0])), ((q 9), .inr (6, [.int 0, .long 0]))]) [11, 7] [0, 1, 2, 3, 4, 5, 6, 8, 9, 10] (va_runIN (As := [.int 1, .ref (q 6), .int a2, .null, .int a4, .int a5]) (rest := [.ref q9, .int 1, .ref (q 0)]) ⟨hx, hb, hml, hown, hts⟩ (c0_init1 l dC dI q9 (q 6) a2 a4 a5 _ h4 h5) ⟨va_cnB 6 hts gX8_type_X0_init_n72 rfl rfl rfl (hN _ (List.mem_of_getElem? (i := 8) rfl)) (hts (.initialized RX0) (by decide +kernel)) (by decide +kernel) ⟨Nat.le_of_ble_eq_true rfl, Nat.le_of_ble_eq_true rfl⟩, rfl, hts (.instanceMethod yX0_init) (by decide +kernel)⟩ ⟨pz_blind, pz_of hP hK hD hN [11, 7] [] rfl (by decide) rfl⟩ rfl rfl hl.1 rfl (lv_room (Nat.le_of_ble_eq_true rfl)) dX8_type_119 ⟨Nat.le_of_ble_eq_true rfl, Nat.le_of_ble_eq_true rfl⟩) hS hP hD hK hA rfl rfl (by decide) (by decide) (fun v w1 ty1 H locs w10 hP hD hK hS => ?_)
            obtain ⟨rfl, rfl, rfl⟩ := w10
            refine W.eq (g2 := F0 m 122 ls [.ref q9, .int 1, .ref (q 0)]) rfl ?_
            have hP : va_P (dC, dI) vwCl [(h0, .inr (7, [.ref (q 0), .int 1, .ref (q 1), .int 0, .int 0, .ref (q 2), .int 0, .ref (q 3), .int 0, .ref (q 4), .int 0, .int 0, .ref (q 5), .int 0, .int 0])), ((q 0), .inl ((cA 0), 16, .inr (.inr (.inr (.inr (va_up (fun _ => none) 0 (some (q 6)))))))), ((q 1), .inl ((cA 1), 40, .inr (.inr (.inr (.inr (fun _ => none)))))), ((q 2), .inl ((cA 2), 60, .inr (.inr (.inr (.inr (fun _ => none)))))), ((q 3), .inl ((cA 3), 124, .inr (.inr (.inr (.inr (fun _ => none)))))), ((q 4), .inl ((cA 4), 3, .inr (.inr (.inr (.inr (va_up (va_up (va_up (fun _ => none) 0 (some (q 7))) 1 (some (q 8))) 2 (some (q 9)))))))), ((q 5), .inr (6, [.int 0, .long 0])), ((q 7), .inr (6, [.int 0, .long 0])), ((q 8), .inr (6, [.int 0, .long 0])), ((q 9), .inr (6, [.int 0, .long 0])), (q9, .inr (0, [.int 1, .ref (q 6), .int a2, .null, .int a4, .int a5, .int 3, .int 3, .int 0, .int 0, .int 0, .int 0])), ((q 6), .inr (0, [.int 0, .null, .int 0, .null, .int 0, .int 0, .int 1, .int 1, .int 0, .int 0, .int 0, .int 0]))] H := hP
            have hD : va_D A [(h0, .inr (7, [.ref (q 0), .int 1, .ref (q 1), .int 0, .int 0, .ref (q 2), .int 0, .ref (q 3), .int 0, .ref (q 4), .int 0, .int 0, .ref (q 5), .int 0, .int 0])), ((q 0), .inl ((cA 0), 16, .inr (.inr (.inr (.inr (va_up (fun _ => none) 0 (some (q 6)))))))), ((q 1), .inl ((cA 1), 40, .inr (.inr (.inr (.inr (fun _ => none)))))), ((q 2), .inl ((cA 2), 60, .inr (.inr (.inr (.inr (fun _ => none)))))), ((q 3), .inl ((cA 3), 124, .inr (.inr (.inr (.inr (fun _ => none)))))), ((q 4), .inl ((cA 4), 3, .inr (.inr (.inr (.inr (va_up (va_up (va_up (fun _ => none) 0 (some (q 7))) 1 (some (q 8))) 2 (some (q 9)))))))), ((q 5), .inr (6, [.int 0, .long 0])), ((q 7), .inr (6, [.int 0, .long 0])), ((q 8), .inr (6, [.int 0, .long 0])), ((q 9), .inr (6, [.int 0, .long 0])), (q9, .inr (0, [.int 1, .ref (q 6), .int a2, .null, .int a4, .int a5, .int 3, .int 3, .int 0, .int 0, .int 0, .int 0])), ((q 6), .inr (0, [.int 0, .null, .int 0, .null, .int 0, .int 0, .int 1, .int 1, .int 0, .int 0, .int 0, .int 0]))] := hD
            have hK : va_K (dC, dI) vwCl [((cA 0), .object "ReflectModels$ClassModel"), ((cA 1), .object "ReflectModels$Member"), ((cA 2), .object "ReflectModels$Handle"), ((cA 3), .object "ReflectModels$Thing"), ((cA 4), .object "ReflectModels$Value")] s := hK
            refine W.cs (cells' := 1) (slots' := 12) rfl rfl ?_
            refine va_astq (r := (RX0, TX0, 12)) hx hb hK hP hD hS 1 0 10 0 rfl rfl rfl rfl (vp_in_iff.mpr ⟨by decide, by decide⟩) dX8_type_122 (fun H locs hP hD hS => ?_)
            have hP : va_P (dC, dI) vwCl [(h0, .inr (7, [.ref (q 0), .int 1, .ref (q 1), .int 0, .int 0, .ref (q 2), .int 0, .ref (q 3), .int 0, .ref (q 4), .int 0, .int 0, .ref (q 5), .int 0, .int 0])), ((q 0), .inl ((cA 0), 16, .inr (.inr (.inr (.inr (va_up (va_up (fun _ => none) 0 (some (q 6))) 1 (some q9))))))), ((q 1), .inl ((cA 1), 40, .inr (.inr (.inr (.inr (fun _ => none)))))), ((q 2), .inl ((cA 2), 60, .inr (.inr (.inr (.inr (fun _ => none)))))), ((q 3), .inl ((cA 3), 124, .inr (.inr (.inr (.inr (fun _ => none)))))), ((q 4), .inl ((cA 4), 3, .inr (.inr (.inr (.inr (va_up (va_up (va_up (fun _ => none) 0 (some (q 7))) 1 (some (q 8))) 2 (some (q 9)))))))), ((q 5), .inr (6, [.int 0, .long 0])), ((q 7), .inr (6, [.int 0, .long 0])), ((q 8), .inr (6, [.int 0, .long 0])), ((q 9), .inr (6, [.int 0, .long 0])), (q9, .inr (0, [.int 1, .ref (q 6), .int a2, .null, .int a4, .int a5, .int 3, .int 3, .int 0, .int 0, .int 0, .int 0])), ((q 6), .inr (0, [.int 0, .null, .int 0, .null, .int 0, .int 0, .int 1, .int 1, .int 0, .int 0, .int 0, .int 0]))] H := hP
            have hD : va_D A [(h0, .inr (7, [.ref (q 0), .int 1, .ref (q 1), .int 0, .int 0, .ref (q 2), .int 0, .ref (q 3), .int 0, .ref (q 4), .int 0, .int 0, .ref (q 5), .int 0, .int 0])), ((q 0), .inl ((cA 0), 16, .inr (.inr (.inr (.inr (va_up (va_up (fun _ => none) 0 (some (q 6))) 1 (some q9))))))), ((q 1), .inl ((cA 1), 40, .inr (.inr (.inr (.inr (fun _ => none)))))), ((q 2), .inl ((cA 2), 60, .inr (.inr (.inr (.inr (fun _ => none)))))), ((q 3), .inl ((cA 3), 124, .inr (.inr (.inr (.inr (fun _ => none)))))), ((q 4), .inl ((cA 4), 3, .inr (.inr (.inr (.inr (va_up (va_up (va_up (fun _ => none) 0 (some (q 7))) 1 (some (q 8))) 2 (some (q 9)))))))), ((q 5), .inr (6, [.int 0, .long 0])), ((q 7), .inr (6, [.int 0, .long 0])), ((q 8), .inr (6, [.int 0, .long 0])), ((q 9), .inr (6, [.int 0, .long 0])), (q9, .inr (0, [.int 1, .ref (q 6), .int a2, .null, .int a4, .int a5, .int 3, .int 3, .int 0, .int 0, .int 0, .int 0])), ((q 6), .inr (0, [.int 0, .null, .int 0, .null, .int 0, .int 0, .int 1, .int 1, .int 0, .int 0, .int 0, .int 0]))] := hD
            refine lv_aload_n hx hb dX8_type_123 rfl (lv_at hl 1 rfl) ?_
            refine lv_dup hx hb dX8_type_124 rfl ?_
            refine va_get (D := (dC, dI)) (own := RX8) (ref := "ReflectModels") (index := 15) (ci := 7) (v := .int 1) (C := RX8) (T := TX8) (N := 15) hx hb hts inX8_type_8 hown hK hP 0 rfl rfl 1 (by decide) (hts (.fieldLink RX8 15 "ReflectModels" "classCount" "I") (by decide +kernel)) (fun _ h9 => h9) rfl dX8_type_125 ?_
            refine lv_iconst (v := 1) hx hb dX8_type_128 (by decide) ?_
            refine lv_iadd hx hb dX8_type_129 ?_
            refine lv_topi (fun y11 ey11 => ?_)
            obtain rfl : y11 = 2 := ey11.trans (by decide)
            refine va_put (D := (dC, dI)) (own := RX8) (ref := "ReflectModels") (index := 15) (ci := 7) (v := .int 2) (ty := .int) (C := RX8) (T := TX8) (N := 15) hx hb hts inX8_type_8 tyX8 tyX8_ok nmX8 hown hK hP hD hS 0 rfl rfl 1 (by decide) (hts (.fieldLink RX8 15 "ReflectModels" "classCount" "I") (by decide +kernel)) (fun _ h9 => h9) rfl (by decide +kernel) rfl rfl (Nat.le_of_ble_eq_true rfl) dX8_type_130 (fun H locs hP hD hS => ?_)
            have hP : va_P (dC, dI) vwCl [(h0, .inr (7, [.ref (q 0), .int 2, .ref (q 1), .int 0, .int 0, .ref (q 2), .int 0, .ref (q 3), .int 0, .ref (q 4), .int 0, .int 0, .ref (q 5), .int 0, .int 0])), ((q 0), .inl ((cA 0), 16, .inr (.inr (.inr (.inr (va_up (va_up (fun _ => none) 0 (some (q 6))) 1 (some q9))))))), ((q 1), .inl ((cA 1), 40, .inr (.inr (.inr (.inr (fun _ => none)))))), ((q 2), .inl ((cA 2), 60, .inr (.inr (.inr (.inr (fun _ => none)))))), ((q 3), .inl ((cA 3), 124, .inr (.inr (.inr (.inr (fun _ => none)))))), ((q 4), .inl ((cA 4), 3, .inr (.inr (.inr (.inr (va_up (va_up (va_up (fun _ => none) 0 (some (q 7))) 1 (some (q 8))) 2 (some (q 9)))))))), ((q 5), .inr (6, [.int 0, .long 0])), ((q 7), .inr (6, [.int 0, .long 0])), ((q 8), .inr (6, [.int 0, .long 0])), ((q 9), .inr (6, [.int 0, .long 0])), (q9, .inr (0, [.int 1, .ref (q 6), .int a2, .null, .int a4, .int a5, .int 3, .int 3, .int 0, .int 0, .int 0, .int 0])), ((q 6), .inr (0, [.int 0, .null, .int 0, .null, .int 0, .int 0, .int 1, .int 1, .int 0, .int 0, .int 0, .int 0]))] H := hP
            have hD : va_D A [(h0, .inr (7, [.ref (q 0), .int 2, .ref (q 1), .int 0, .int 0, .ref (q 2), .int 0, .ref (q 3), .int 0, .ref (q 4), .int 0, .int 0, .ref (q 5), .int 0, .int 0])), ((q 0), .inl ((cA 0), 16, .inr (.inr (.inr (.inr (va_up (va_up (fun _ => none) 0 (some (q 6))) 1 (some q9))))))), ((q 1), .inl ((cA 1), 40, .inr (.inr (.inr (.inr (fun _ => none)))))), ((q 2), .inl ((cA 2), 60, .inr (.inr (.inr (.inr (fun _ => none)))))), ((q 3), .inl ((cA 3), 124, .inr (.inr (.inr (.inr (fun _ => none)))))), ((q 4), .inl ((cA 4), 3, .inr (.inr (.inr (.inr (va_up (va_up (va_up (fun _ => none) 0 (some (q 7))) 1 (some (q 8))) 2 (some (q 9)))))))), ((q 5), .inr (6, [.int 0, .long 0])), ((q 7), .inr (6, [.int 0, .long 0])), ((q 8), .inr (6, [.int 0, .long 0])), ((q 9), .inr (6, [.int 0, .long 0])), (q9, .inr (0, [.int 1, .ref (q 6), .int a2, .null, .int a4, .int a5, .int 3, .int 3, .int 0, .int 0, .int 0, .int 0])), ((q 6), .inr (0, [.int 0, .null, .int 0, .null, .int 0, .int 0, .int 1, .int 1, .int 0, .int 0, .int 0, .int 0]))] := hD
            refine lv_aload_n hx hb dX8_type_133 rfl (lv_at hl 1 rfl) ?_
            refine va_get (D := (dC, dI)) (own := RX8) (ref := "ReflectModels") (index := 15) (ci := 7) (v := .int 2) (C := RX8) (T := TX8) (N := 15) hx hb hts inX8_type_8 hown hK hP 0 rfl rfl 1 (by decide) (hts (.fieldLink RX8 15 "ReflectModels" "classCount" "I") (by decide +kernel)) (fun _ h9 => h9) rfl dX8_type_134 ?_
            refine lv_iconst (v := 1) hx hb dX8_type_137 (by decide) ?_
            refine lv_isub hx hb dX8_type_138 ?_
            refine lv_topi (fun y12 ey12 => ?_)
            obtain rfl : y12 = 1 := ey12.trans (by decide)
            have hP9 := hP.sub (ws' := []) [] rfl
            have hD9 := hD.sub (ws' := []) [] (by decide) rfl
            have hK9 := hK.sub (tys' := []) [] rfl
            exact W.zret (v := 1) (ty := .int) hx hb hr rfl (fun t ht hW => ⟨⟨(some (.int 1)), rfl, _, _, ⟨congrArg (fun z => some (Value.int z)) (by unfold an_type; (repeat' split) <;> first | rfl | (exfalso; first | omega | (have kq := kz; omega))), rfl, rfl⟩, by rw [ht]; exact hP9, va_K.moved hW.alike hK9, hD9⟩, hS.F ht⟩) hS.2.2 dX8_type_139
        · have ic5 : 4 < a2.toInt := inle2 rfl (by decide) c5
          refine lv_bipush (v := (-3)) hx hb dX8_type_33 (by decide) ?_
          refine W.widen (k := 1) (n := 12) (by omega) (by omega) ?_
          have hP9 := hP.sub (ws' := []) [] rfl
          have hD9 := hD.sub (ws' := []) [] (by decide) rfl
          have hK9 := hK.sub (tys' := []) [] rfl
          exact W.zret (v := (-3)) (ty := .int) hx hb hr rfl (fun t ht hW => ⟨⟨(some (.int (-3))), rfl, _, _, ⟨congrArg (fun z => some (Value.int z)) (by unfold an_type; (repeat' split) <;> first | rfl | (exfalso; first | omega | (have kq := kz; omega))), rfl, rfl⟩, by rw [ht]; exact hP9, va_K.moved hW.alike hK9, hD9⟩, hS.F ht⟩) hS.2.2 dX8_type_35
    · have ic3 : a3.toInt ≠ (-1) := ine2 rfl (by decide) c3
      refine lv_aload_n hx hb dX8_type_13 rfl (lv_at hl 0 rfl) ?_
      refine lv_iload_n hx hb dX8_type_14 rfl (lv_at hl 3 rfl) ?_
      refine clR (va_runV (As := [.int a3]) (rest := []) ⟨hx, hb, hml, hown, hts⟩ (c8_isClass l dC dI h0 q a3 _) (cwV 1 hts gX8_type_X8_isClass rfl rfl rfl (by decide +kernel) ⟨Nat.le_of_ble_eq_true rfl, Nat.le_of_ble_eq_true rfl⟩) ⟨pz_blind, va_recv hK hP (ci := 7) (q0 := 0) rfl rfl, pz_of hP hK hD hN [0] [] rfl (by decide) rfl⟩ rfl rfl hl.1 rfl (lv_room (Nat.le_of_ble_eq_true rfl)) dX8_type_15 ⟨Nat.le_of_ble_eq_true rfl, Nat.le_of_ble_eq_true rfl⟩) hS hP (fun v H locs w14 hP hS => ?_)
      rcases w14 with ⟨rfl, rfl⟩ | ⟨rfl, u13⟩
      · refine W.eq (g2 := F0 m 18 ls [.int 1]) rfl ?_
        refine lv_if_ne (tgt := 24) hx hb dX8_type_18 (by decide) (fun _ => ?_) (fun h => absurd h (by decide))
        refine lv_iload_n hx hb dX8_type_24 rfl (lv_at hl 2 rfl) ?_
        refine lv_if_lt (tgt := 33) hx hb dX8_type_25 (by decide) (fun c15 => ?_) (fun c15 => ?_)
        · have ic15 : a2.toInt < 0 := il2 rfl (by decide) c15
          refine lv_bipush (v := (-3)) hx hb dX8_type_33 (by decide) ?_
          refine W.widen (k := 1) (n := 12) (by omega) (by omega) ?_
          have hP9 := hP.sub (ws' := []) [] rfl
          have hD9 := hD.sub (ws' := []) [] (by decide) rfl
          have hK9 := hK.sub (tys' := []) [] rfl
          exact W.zret (v := (-3)) (ty := .int) hx hb hr rfl (fun t ht hW => ⟨⟨(some (.int (-3))), rfl, _, _, ⟨congrArg (fun z => some (Value.int z)) (by unfold an_type; (repeat' split) <;> first | rfl | (exfalso; first | omega | (have kq := kz; omega))), rfl, rfl⟩, by rw [ht]; exact hP9, va_K.moved hW.alike hK9, hD9⟩, hS.F ht⟩) hS.2.2 dX8_type_35
        · have ic15 : 0 ≤ a2.toInt := inl2 rfl (by decide) c15
          refine lv_iload_n hx hb dX8_type_28 rfl (lv_at hl 2 rfl) ?_
          refine lv_iconst (v := 4) hx hb dX8_type_29 (by decide) ?_
          refine lv_icmp_le (tgt := 36) hx hb dX8_type_30 (by decide) (fun c16 => ?_) (fun c16 => ?_)
          · have ic16 : a2.toInt ≤ 4 := ile2 rfl (by decide) c16
            refine lv_iload_n hx hb dX8_type_36 rfl (lv_at hl 3 rfl) ?_
            refine lv_iconst (v := (-1)) hx hb dX8_type_37 (by decide) ?_
            refine lv_icmp_ne (tgt := 45) hx hb dX8_type_38 (by decide) (fun _ => ?_) (fun h => absurd h (by decide))
            refine lv_aload_n hx hb dX8_type_45 rfl (lv_at hl 0 rfl) ?_
            refine va_get (D := (dC, dI)) (own := RX8) (ref := "ReflectModels") (index := 11) (ci := 7) (v := .ref (q 0)) (C := RX8) (T := TX8) (N := 15) hx hb hts inX8_type_8 hown hK hP 0 rfl rfl 0 (by decide) (hts (.fieldLink RX8 11 "ReflectModels" "classes" "[LReflectModels$ClassModel;") (by decide +kernel)) (fun _ h9 => h9) rfl dX8_type_46 ?_
            refine lv_iload_n hx hb dX8_type_49 rfl (lv_at hl 3 rfl) ?_
            refine va_aldq hx hb hK hP 1 0 rfl rfl (vp_in_iff.mpr ⟨by decide, by decide⟩) dX8_type_50 ?_
            refine W.eq (g2 := F0 m 51 ls [.ref (q 6)]) rfl ?_
            refine lv_astore (lv' := [(6, .ref (q 6)), (0, .ref h0), (1, .int 0), (2, .int a2), (3, .int 0), (4, .int a4), (5, .int a5)]) hx hb dX8_type_51 hl (by decide) rfl (fun ls hl => ?_)
            refine lv_iload_n hx hb dX8_type_53 rfl (lv_at hl 3 rfl) ?_
            refine lv_aload_n hx hb dX8_type_54 rfl (lv_at hl 1 rfl) ?_
            refine va_get (D := (dC, dI)) (own := RX8) (ref := "ReflectModels") (index := 11) (ci := 7) (v := .ref (q 0)) (C := RX8) (T := TX8) (N := 15) hx hb hts inX8_type_8 hown hK hP 0 rfl rfl 0 (by decide) (hts (.fieldLink RX8 11 "ReflectModels" "classes" "[LReflectModels$ClassModel;") (by decide +kernel)) (fun _ h9 => h9) rfl dX8_type_55 ?_
            refine lv_iload_n hx hb dX8_type_58 rfl (lv_at hl 2 rfl) ?_
            refine va_aldq hx hb hK hP 1 0 rfl rfl (vp_in_iff.mpr ⟨by decide, by decide⟩) dX8_type_59 ?_
            refine W.eq (g2 := F0 m 60 ls [.ref (q 6), .int a2]) rfl ?_
            refine clR (va_runS (As := [.int a2, .ref (q 6)]) (rest := []) ⟨hx, hb, hml, hown, hts⟩ (c8_mayHaveAbove l dC dI (q 6) a2 _) (va_cwS 2 hts gX8_type_X8_mayHaveAbove rfl rfl rfl (by decide +kernel) ⟨Nat.le_of_ble_eq_true rfl, Nat.le_of_ble_eq_true rfl⟩) ⟨pz_blind, pz_of hP hK hD hN [7] [] rfl (by decide) rfl⟩ rfl rfl hl.1 rfl (lv_room (Nat.le_of_ble_eq_true rfl)) dX8_type_60 ⟨Nat.le_of_ble_eq_true rfl, Nat.le_of_ble_eq_true rfl⟩) hS hP (fun v H locs w17 hP hS => ?_)
            obtain rfl := w17
            refine W.eq (g2 := F0 m 63 ls [.int 1]) rfl ?_
            refine lv_if_eq (tgt := 75) hx hb dX8_type_63 (by decide) (fun h => absurd h (by decide)) (fun _ => ?_)
            refine lv_iload_n hx hb dX8_type_66 rfl (lv_at hl 3 rfl) ?_
            refine lv_aload hx hb dX8_type_67 (lv_at hl 0 rfl) ?_
            refine clR (va_runS (As := [.int a2, .ref (q 6)]) (rest := []) ⟨hx, hb, hml, hown, hts⟩ (c8_mayActAs1 l dC dI (q 6) a2 _) (va_cwS 2 hts gX8_type_X8_mayActAs rfl rfl rfl (by decide +kernel) ⟨Nat.le_of_ble_eq_true rfl, Nat.le_of_ble_eq_true rfl⟩) ⟨pz_blind, pz_of hP hK hD hN [7] [] rfl (by decide) rfl⟩ rfl rfl hl.1 rfl (lv_room (Nat.le_of_ble_eq_true rfl)) dX8_type_69 ⟨Nat.le_of_ble_eq_true rfl, Nat.le_of_ble_eq_true rfl⟩) hS hP (fun v H locs w18 hP hS => ?_)
            obtain rfl := w18
            refine W.eq (g2 := F0 m 72 ls [.int 0]) rfl ?_
            refine lv_if_ne (tgt := 78) hx hb dX8_type_72 (by decide) (fun h => absurd h (by decide)) (fun _ => ?_)
            refine lv_bipush (v := (-4)) hx hb dX8_type_75 (by decide) ?_
            refine W.widen (k := 1) (n := 12) (by omega) (by omega) ?_
            have hP9 := hP.sub (ws' := []) [] rfl
            have hD9 := hD.sub (ws' := []) [] (by decide) rfl
            have hK9 := hK.sub (tys' := []) [] rfl
            exact W.zret (v := (-4)) (ty := .int) hx hb hr rfl (fun t ht hW => ⟨⟨(some (.int (-4))), rfl, _, _, ⟨congrArg (fun z => some (Value.int z)) (by unfold an_type; (repeat' split) <;> first | rfl | (exfalso; first | omega | (have kq := kz; omega))), rfl, rfl⟩, by rw [ht]; exact hP9, va_K.moved hW.alike hK9, hD9⟩, hS.F ht⟩) hS.2.2 dX8_type_77
          · have ic16 : 4 < a2.toInt := inle2 rfl (by decide) c16
            refine lv_bipush (v := (-3)) hx hb dX8_type_33 (by decide) ?_
            refine W.widen (k := 1) (n := 12) (by omega) (by omega) ?_
            have hP9 := hP.sub (ws' := []) [] rfl
            have hD9 := hD.sub (ws' := []) [] (by decide) rfl
            have hK9 := hK.sub (tys' := []) [] rfl
            exact W.zret (v := (-3)) (ty := .int) hx hb hr rfl (fun t ht hW => ⟨⟨(some (.int (-3))), rfl, _, _, ⟨congrArg (fun z => some (Value.int z)) (by unfold an_type; (repeat' split) <;> first | rfl | (exfalso; first | omega | (have kq := kz; omega))), rfl, rfl⟩, by rw [ht]; exact hP9, va_K.moved hW.alike hK9, hD9⟩, hS.F ht⟩) hS.2.2 dX8_type_35
      · refine W.eq (g2 := F0 m 18 ls [.int 0]) rfl ?_
        refine lv_if_ne (tgt := 24) hx hb dX8_type_18 (by decide) (fun h => absurd h (by decide)) (fun _ => ?_)
        refine lv_bipush (v := (-2)) hx hb dX8_type_21 (by decide) ?_
        refine W.widen (k := 1) (n := 12) (by omega) (by omega) ?_
        have hP9 := hP.sub (ws' := []) [] rfl
        have hD9 := hD.sub (ws' := []) [] (by decide) rfl
        have hK9 := hK.sub (tys' := []) [] rfl
        exact W.zret (v := (-2)) (ty := .int) hx hb hr rfl (fun t ht hW => ⟨⟨(some (.int (-2))), rfl, _, _, ⟨congrArg (fun z => some (Value.int z)) (by unfold an_type; (repeat' split) <;> first | rfl | (exfalso; first | omega | (have kq := kz; omega))), rfl, rfl⟩, by rw [ht]; exact hP9, va_K.moved hW.alike hK9, hD9⟩, hS.F ht⟩) hS.2.2 dX8_type_23
  · refine W.eq (g2 := F0 m 5 ls [.int 0]) rfl ?_
    refine lv_if_eq (tgt := 21) hx hb dX8_type_5 (by decide) (fun _ => ?_) (fun h => absurd (by decide) h)
    refine lv_bipush (v := (-2)) hx hb dX8_type_21 (by decide) ?_
    refine W.widen (k := 1) (n := 12) (by omega) (by omega) ?_
    have hP9 := hP.sub (ws' := []) [] rfl
    have hD9 := hD.sub (ws' := []) [] (by decide) rfl
    have hK9 := hK.sub (tys' := []) [] rfl
    exact W.zret (v := (-2)) (ty := .int) hx hb hr rfl (fun t ht hW => ⟨⟨(some (.int (-2))), rfl, _, _, ⟨congrArg (fun z => some (Value.int z)) (by unfold an_type; (repeat' split) <;> first | rfl | (exfalso; first | omega | (have kq := kz; omega))), rfl, rfl⟩, by rw [ht]; exact hP9, va_K.moved hW.alike hK9, hD9⟩, hS.F ht⟩) hS.2.2 dX8_type_23

set_option maxHeartbeats 4000000 in
set_option maxRecDepth 100000 in
/-- constants on a fresh object -/
theorem c8_constants (l : Launch) (dC : Nat → ClassId) (dI : Nat → Nat → Nat) (h0 : Nat) (q : Nat → Nat) (cA : Nat → ClassId) (a1 a2 : Int32) (sz : Nat)  : Met l yX8_constants wsX8_constants ({ frames := 1, cells := 0, slots := 0, locals := 21 }) (va_Pc [.ref h0, .int a1, .int a2] (pz (dC, dI) [((cA 0), .object "ReflectModels$ClassModel"), ((cA 1), .object "ReflectModels$Member"), ((cA 2), .object "ReflectModels$Handle"), ((cA 3), .object "ReflectModels$Thing"), ((cA 4), .object "ReflectModels$Value")] [(h0, .inr (7, [.ref (q 0), .int 1, .ref (q 1), .int 0, .int 0, .ref (q 2), .int 0, .ref (q 3), .int 0, .ref (q 4), .int 0, .int 0, .ref (q 5), .int 0, .int 0])), ((q 0), .inl ((cA 0), 16, .inr (.inr (.inr (.inr (va_up (fun _ => none) 0 (some (q 6)))))))), ((q 1), .inl ((cA 1), 40, .inr (.inr (.inr (.inr (fun _ => none)))))), ((q 2), .inl ((cA 2), 60, .inr (.inr (.inr (.inr (fun _ => none)))))), ((q 3), .inl ((cA 3), 124, .inr (.inr (.inr (.inr (fun _ => none)))))), ((q 4), .inl ((cA 4), 3, .inr (.inr (.inr (.inr (va_up (va_up (va_up (fun _ => none) 0 (some (q 7))) 1 (some (q 8))) 2 (some (q 9)))))))), ((q 5), .inr (6, [.int 0, .long 0])), ((q 6), .inr (0, [.int 0, .null, .int 0, .null, .int 0, .int 0, .int 1, .int 1, .int 0, .int 0, .int 0, .int 0])), ((q 7), .inr (6, [.int 0, .long 0])), ((q 8), .inr (6, [.int 0, .long 0])), ((q 9), .inr (6, [.int 0, .long 0]))] sz)) (qW (dC, dI) (fun v w1 ty1 => v = some (.int (an_constants a1.toInt a2.toInt)) ∧ w1 = [] ∧ ty1 = []) (va_A [(h0, .inr (7, [.ref (q 0), .int 1, .ref (q 1), .int 0, .int 0, .ref (q 2), .int 0, .ref (q 3), .int 0, .ref (q 4), .int 0, .int 0, .ref (q 5), .int 0, .int 0])), ((q 0), .inl ((cA 0), 16, .inr (.inr (.inr (.inr (va_up (fun _ => none) 0 (some (q 6)))))))), ((q 1), .inl ((cA 1), 40, .inr (.inr (.inr (.inr (fun _ => none)))))), ((q 2), .inl ((cA 2), 60, .inr (.inr (.inr (.inr (fun _ => none)))))), ((q 3), .inl ((cA 3), 124, .inr (.inr (.inr (.inr (fun _ => none)))))), ((q 4), .inl ((cA 4), 3, .inr (.inr (.inr (.inr (va_up (va_up (va_up (fun _ => none) 0 (some (q 7))) 1 (some (q 8))) 2 (some (q 9)))))))), ((q 5), .inr (6, [.int 0, .long 0])), ((q 6), .inr (0, [.int 0, .null, .int 0, .null, .int 0, .int 0, .int 1, .int 1, .int 0, .int 0, .int 0, .int 0])), ((q 7), .inr (6, [.int 0, .long 0])), ((q 8), .inr (6, [.int 0, .long 0])), ((q 9), .inr (6, [.int 0, .long 0]))] sz)) 0 0 (va_A [(h0, .inr (7, [.ref (q 0), .int 1, .ref (q 1), .int 0, .int 0, .ref (q 2), .int 0, .ref (q 3), .int 0, .ref (q 4), .int 0, .int 0, .ref (q 5), .int 0, .int 0])), ((q 0), .inl ((cA 0), 16, .inr (.inr (.inr (.inr (va_up (fun _ => none) 0 (some (q 6)))))))), ((q 1), .inl ((cA 1), 40, .inr (.inr (.inr (.inr (fun _ => none)))))), ((q 2), .inl ((cA 2), 60, .inr (.inr (.inr (.inr (fun _ => none)))))), ((q 3), .inl ((cA 3), 124, .inr (.inr (.inr (.inr (fun _ => none)))))), ((q 4), .inl ((cA 4), 3, .inr (.inr (.inr (.inr (va_up (va_up (va_up (fun _ => none) 0 (some (q 7))) 1 (some (q 8))) 2 (some (q 9)))))))), ((q 5), .inr (6, [.int 0, .long 0])), ((q 6), .inr (0, [.int 0, .null, .int 0, .null, .int 0, .int 0, .int 1, .int 1, .int 0, .int 0, .int 0, .int 0])), ((q 7), .inr (6, [.int 0, .long 0])), ((q 8), .inr (6, [.int 0, .long 0])), ((q 9), .inr (6, [.int 0, .long 0]))] sz) := by
  refine Met.ofW (cc := cX8_constants) (maxL := 4) (ret := (some .int)) (by decide) rfl ?_
  intro p e s m args below meth c s₁ B hml hv
  obtain ⟨rfl, hsz, hP, hK, hD, hN⟩ := hv
  have hx := B.exec
  have hb := B.bytes
  have hr := B.returns
  have hts := atoms_spec (ws := wsX8_constants) B.pre
  have hown : s.vm.findClass RX8 = some m.cls := findClass_of_methodNamed B.named
  have hlocks := B.notSynchronized
  subst hsz
  have hD := hD.self (sz := s.heap.size)
  generalize hAe : va_A [(h0, .inr (7, [.ref (q 0), .int 1, .ref (q 1), .int 0, .int 0, .ref (q 2), .int 0, .ref (q 3), .int 0, .ref (q 4), .int 0, .int 0, .ref (q 5), .int 0, .int 0])), ((q 0), .inl ((cA 0), 16, .inr (.inr (.inr (.inr (va_up (fun _ => none) 0 (some (q 6)))))))), ((q 1), .inl ((cA 1), 40, .inr (.inr (.inr (.inr (fun _ => none)))))), ((q 2), .inl ((cA 2), 60, .inr (.inr (.inr (.inr (fun _ => none)))))), ((q 3), .inl ((cA 3), 124, .inr (.inr (.inr (.inr (fun _ => none)))))), ((q 4), .inl ((cA 4), 3, .inr (.inr (.inr (.inr (va_up (va_up (va_up (fun _ => none) 0 (some (q 7))) 1 (some (q 8))) 2 (some (q 9)))))))), ((q 5), .inr (6, [.int 0, .long 0])), ((q 6), .inr (0, [.int 0, .null, .int 0, .null, .int 0, .int 0, .int 1, .int 1, .int 0, .int 0, .int 0, .int 0])), ((q 7), .inr (6, [.int 0, .long 0])), ((q 8), .inr (6, [.int 0, .long 0])), ((q 9), .inr (6, [.int 0, .long 0]))] s.heap.size = A at hD ⊢
  have hA : ∀ q : Nat, s.heap.size ≤ q → A q := fun q h => by rw [← hAe]; exact Or.inr h
  have hS : va_S A s.heap s.heap [] := va_S.rf
  have hl := lv_entry ([.ref h0, .int a1, .int a2]) (n := 4) (Nat.le_of_ble_eq_true rfl)
  rw [lg_entry_eq]
  generalize (lg_sl ([.ref h0, .int a1, .int a2]) ++ List.replicate (4 - (lg_sl ([.ref h0, .int a1, .int a2])).length) Slot.unset).toArray = ls at hl ⊢
  have hl : lv_has ls 4 [(0, .ref h0), (1, .int a1), (2, .int a2)] := hl
  refine lv_aload_n hx hb dX8_constants_0 rfl (lv_at hl 0 rfl) ?_
  refine lv_iload_n hx hb dX8_constants_1 rfl (lv_at hl 1 rfl) ?_
  refine clR (va_runV (As := [.int a1]) (rest := []) ⟨hx, hb, hml, hown, hts⟩ (c8_isClass l dC dI h0 q a1 _) (cwV 1 hts gX8_constants_X8_isClass rfl rfl rfl (by decide +kernel) ⟨Nat.le_of_ble_eq_true rfl, Nat.le_of_ble_eq_true rfl⟩) ⟨pz_blind, va_recv hK hP (ci := 7) (q0 := 0) rfl rfl, pz_of hP hK hD hN [0] [] rfl (by decide) rfl⟩ rfl rfl hl.1 rfl (lv_room (Nat.le_of_ble_eq_true rfl)) dX8_constants_2 ⟨Nat.le_of_ble_eq_true rfl, Nat.le_of_ble_eq_true rfl⟩) hS hP (fun v H locs w2 hP hS => ?_)
  rcases w2 with ⟨rfl, rfl⟩ | ⟨rfl, u1⟩
  · refine W.eq (g2 := F0 m 5 ls [.int 1]) rfl ?_
    refine lv_if_ne (tgt := 11) hx hb dX8_constants_5 (by decide) (fun _ => ?_) (fun h => absurd h (by decide))
    refine lv_iload_n hx hb dX8_constants_11 rfl (lv_at hl 2 rfl) ?_
    refine lv_iconst (v := 1) hx hb dX8_constants_12 (by decide) ?_
    refine lv_icmp_lt (tgt := 21) hx hb dX8_constants_13 (by decide) (fun c3 => ?_) (fun c3 => ?_)
    · have ic3 : a2.toInt < 1 := il2 rfl (by decide) c3
      refine lv_bipush (v := (-3)) hx hb dX8_constants_21 (by decide) ?_
      have hP9 := hP.sub (ws' := []) [] rfl
      have hD9 := hD.sub (ws' := []) [] (by decide) rfl
      have hK9 := hK.sub (tys' := []) [] rfl
      exact W.zret (v := (-3)) (ty := .int) hx hb hr rfl (fun t ht hW => ⟨⟨(some (.int (-3))), rfl, _, _, ⟨congrArg (fun z => some (Value.int z)) (by unfold an_constants; (repeat' split) <;> first | rfl | (exfalso; first | omega | (have kq := kz; omega))), rfl, rfl⟩, by rw [ht]; exact hP9, va_K.moved hW.alike hK9, hD9⟩, hS.F ht⟩) hS.2.2 dX8_constants_23
    · have ic3 : 1 ≤ a2.toInt := inl2 rfl (by decide) c3
      refine lv_iload_n hx hb dX8_constants_16 rfl (lv_at hl 2 rfl) ?_
      refine lv_iconst (v := 4) hx hb dX8_constants_17 (by decide) ?_
      refine lv_icmp_le (tgt := 24) hx hb dX8_constants_18 (by decide) (fun c4 => ?_) (fun c4 => ?_)
      · have ic4 : a2.toInt ≤ 4 := ile2 rfl (by decide) c4
        refine lv_aload_n hx hb dX8_constants_24 rfl (lv_at hl 0 rfl) ?_
        refine va_get (D := (dC, dI)) (own := RX8) (ref := "ReflectModels") (index := 11) (ci := 7) (v := .ref (q 0)) (C := RX8) (T := TX8) (N := 15) hx hb hts inX8_constants_8 hown hK hP 0 rfl rfl 0 (by decide) (hts (.fieldLink RX8 11 "ReflectModels" "classes" "[LReflectModels$ClassModel;") (by decide +kernel)) (fun _ h9 => h9) rfl dX8_constants_25 ?_
        refine lv_iload_n hx hb dX8_constants_28 rfl (lv_at hl 1 rfl) ?_
        refine va_aldq hx hb hK hP 1 0 rfl rfl (vp_in_iff.mpr ⟨by decide, by decide⟩) dX8_constants_29 ?_
        refine W.eq (g2 := F0 m 30 ls [.ref (q 6)]) rfl ?_
        refine lv_astore_n (lv' := [(3, .ref (q 6)), (0, .ref h0), (1, .int 0), (2, .int a2)]) hx hb dX8_constants_30 rfl hl (by decide) rfl (fun ls hl => ?_)
        refine lv_aload_n hx hb dX8_constants_31 rfl (lv_at hl 0 rfl) ?_
        refine va_getN (host := "ReflectModels") (D := (dC, dI)) (own := RX8) (ref := "ReflectModels$ClassModel") (index := 86) (ci := 0) (v := .int 0) (C := RX0) (T := TX0) (N := 12) hx hb hts inX8_constants_0 hown hK hP 7 rfl rfl 2 (by decide) (va_Nw.use rfl (hN _ (List.mem_of_getElem? (i := 12) rfl))) (fun _ h9 => h9) rfl dX8_constants_32 ?_
        refine lv_iconst (v := 4) hx hb dX8_constants_35 (by decide) ?_
        refine lv_icmp_ne (tgt := 53) hx hb dX8_constants_36 (by decide) (fun _ => ?_) (fun h => absurd h (by decide))
        refine lv_bipush (v := (-4)) hx hb dX8_constants_53 (by decide) ?_
        have hP9 := hP.sub (ws' := []) [] rfl
        have hD9 := hD.sub (ws' := []) [] (by decide) rfl
        have hK9 := hK.sub (tys' := []) [] rfl
        exact W.zret (v := (-4)) (ty := .int) hx hb hr rfl (fun t ht hW => ⟨⟨(some (.int (-4))), rfl, _, _, ⟨congrArg (fun z => some (Value.int z)) (by unfold an_constants; (repeat' split) <;> first | rfl | (exfalso; first | omega | (have kq := kz; omega))), rfl, rfl⟩, by rw [ht]; exact hP9, va_K.moved hW.alike hK9, hD9⟩, hS.F ht⟩) hS.2.2 dX8_constants_55
      · have ic4 : 4 < a2.toInt := inle2 rfl (by decide) c4
        refine lv_bipush (v := (-3)) hx hb dX8_constants_21 (by decide) ?_
        have hP9 := hP.sub (ws' := []) [] rfl
        have hD9 := hD.sub (ws' := []) [] (by decide) rfl
        have hK9 := hK.sub (tys' := []) [] rfl
        exact W.zret (v := (-3)) (ty := .int) hx hb hr rfl (fun t ht hW => ⟨⟨(some (.int (-3))), rfl, _, _, ⟨congrArg (fun z => some (Value.int z)) (by unfold an_constants; (repeat' split) <;> first | rfl | (exfalso; first | omega | (have kq := kz; omega))), rfl, rfl⟩, by rw [ht]; exact hP9, va_K.moved hW.alike hK9, hD9⟩, hS.F ht⟩) hS.2.2 dX8_constants_23
  · refine W.eq (g2 := F0 m 5 ls [.int 0]) rfl ?_
    refine lv_if_ne (tgt := 11) hx hb dX8_constants_5 (by decide) (fun h => absurd h (by decide)) (fun _ => ?_)
    refine lv_bipush (v := (-2)) hx hb dX8_constants_8 (by decide) ?_
    have hP9 := hP.sub (ws' := []) [] rfl
    have hD9 := hD.sub (ws' := []) [] (by decide) rfl
    have hK9 := hK.sub (tys' := []) [] rfl
    exact W.zret (v := (-2)) (ty := .int) hx hb hr rfl (fun t ht hW => ⟨⟨(some (.int (-2))), rfl, _, _, ⟨congrArg (fun z => some (Value.int z)) (by unfold an_constants; (repeat' split) <;> first | rfl | (exfalso; first | omega | (have kq := kz; omega))), rfl, rfl⟩, by rw [ht]; exact hP9, va_K.moved hW.alike hK9, hD9⟩, hS.F ht⟩) hS.2.2 dX8_constants_10

set_option maxHeartbeats 4000000 in
set_option maxRecDepth 100000 in
/-- caller on a fresh object -/
theorem c8_caller (l : Launch) (dC : Nat → ClassId) (dI : Nat → Nat → Nat) (h0 : Nat) (q : Nat → Nat) (cA : Nat → ClassId) (a1 : Int32) (sz : Nat)  : Met l yX8_caller wsX8_caller ({ frames := 1, cells := 0, slots := 0, locals := 21 }) (va_Pc [.ref h0, .int a1] (pz (dC, dI) [((cA 0), .object "ReflectModels$ClassModel"), ((cA 1), .object "ReflectModels$Member"), ((cA 2), .object "ReflectModels$Handle"), ((cA 3), .object "ReflectModels$Thing"), ((cA 4), .object "ReflectModels$Value")] [(h0, .inr (7, [.ref (q 0), .int 1, .ref (q 1), .int 0, .int 0, .ref (q 2), .int 0, .ref (q 3), .int 0, .ref (q 4), .int 0, .int 0, .ref (q 5), .int 0, .int 0])), ((q 0), .inl ((cA 0), 16, .inr (.inr (.inr (.inr (va_up (fun _ => none) 0 (some (q 6)))))))), ((q 1), .inl ((cA 1), 40, .inr (.inr (.inr (.inr (fun _ => none)))))), ((q 2), .inl ((cA 2), 60, .inr (.inr (.inr (.inr (fun _ => none)))))), ((q 3), .inl ((cA 3), 124, .inr (.inr (.inr (.inr (fun _ => none)))))), ((q 4), .inl ((cA 4), 3, .inr (.inr (.inr (.inr (va_up (va_up (va_up (fun _ => none) 0 (some (q 7))) 1 (some (q 8))) 2 (some (q 9)))))))), ((q 5), .inr (6, [.int 0, .long 0])), ((q 6), .inr (0, [.int 0, .null, .int 0, .null, .int 0, .int 0, .int 1, .int 1, .int 0, .int 0, .int 0, .int 0])), ((q 7), .inr (6, [.int 0, .long 0])), ((q 8), .inr (6, [.int 0, .long 0])), ((q 9), .inr (6, [.int 0, .long 0]))] sz)) (qW (dC, dI) (fun v w1 ty1 => v = some (.int (an_caller a1.toInt)) ∧ w1 = [] ∧ ty1 = []) (va_A [(h0, .inr (7, [.ref (q 0), .int 1, .ref (q 1), .int 0, .int 0, .ref (q 2), .int 0, .ref (q 3), .int 0, .ref (q 4), .int 0, .int 0, .ref (q 5), .int 0, .int 0])), ((q 0), .inl ((cA 0), 16, .inr (.inr (.inr (.inr (va_up (fun _ => none) 0 (some (q 6)))))))), ((q 1), .inl ((cA 1), 40, .inr (.inr (.inr (.inr (fun _ => none)))))), ((q 2), .inl ((cA 2), 60, .inr (.inr (.inr (.inr (fun _ => none)))))), ((q 3), .inl ((cA 3), 124, .inr (.inr (.inr (.inr (fun _ => none)))))), ((q 4), .inl ((cA 4), 3, .inr (.inr (.inr (.inr (va_up (va_up (va_up (fun _ => none) 0 (some (q 7))) 1 (some (q 8))) 2 (some (q 9)))))))), ((q 5), .inr (6, [.int 0, .long 0])), ((q 6), .inr (0, [.int 0, .null, .int 0, .null, .int 0, .int 0, .int 1, .int 1, .int 0, .int 0, .int 0, .int 0])), ((q 7), .inr (6, [.int 0, .long 0])), ((q 8), .inr (6, [.int 0, .long 0])), ((q 9), .inr (6, [.int 0, .long 0]))] sz)) 0 0 (va_A [(h0, .inr (7, [.ref (q 0), .int 1, .ref (q 1), .int 0, .int 0, .ref (q 2), .int 0, .ref (q 3), .int 0, .ref (q 4), .int 0, .int 0, .ref (q 5), .int 0, .int 0])), ((q 0), .inl ((cA 0), 16, .inr (.inr (.inr (.inr (va_up (fun _ => none) 0 (some (q 6)))))))), ((q 1), .inl ((cA 1), 40, .inr (.inr (.inr (.inr (fun _ => none)))))), ((q 2), .inl ((cA 2), 60, .inr (.inr (.inr (.inr (fun _ => none)))))), ((q 3), .inl ((cA 3), 124, .inr (.inr (.inr (.inr (fun _ => none)))))), ((q 4), .inl ((cA 4), 3, .inr (.inr (.inr (.inr (va_up (va_up (va_up (fun _ => none) 0 (some (q 7))) 1 (some (q 8))) 2 (some (q 9)))))))), ((q 5), .inr (6, [.int 0, .long 0])), ((q 6), .inr (0, [.int 0, .null, .int 0, .null, .int 0, .int 0, .int 1, .int 1, .int 0, .int 0, .int 0, .int 0])), ((q 7), .inr (6, [.int 0, .long 0])), ((q 8), .inr (6, [.int 0, .long 0])), ((q 9), .inr (6, [.int 0, .long 0]))] sz) := by
  refine Met.ofW (cc := cX8_caller) (maxL := 3) (ret := (some .int)) (by decide) rfl ?_
  intro p e s m args below meth c s₁ B hml hv
  obtain ⟨rfl, hsz, hP, hK, hD, hN⟩ := hv
  have hx := B.exec
  have hb := B.bytes
  have hr := B.returns
  have hts := atoms_spec (ws := wsX8_caller) B.pre
  have hown : s.vm.findClass RX8 = some m.cls := findClass_of_methodNamed B.named
  have hlocks := B.notSynchronized
  subst hsz
  have hD := hD.self (sz := s.heap.size)
  generalize hAe : va_A [(h0, .inr (7, [.ref (q 0), .int 1, .ref (q 1), .int 0, .int 0, .ref (q 2), .int 0, .ref (q 3), .int 0, .ref (q 4), .int 0, .int 0, .ref (q 5), .int 0, .int 0])), ((q 0), .inl ((cA 0), 16, .inr (.inr (.inr (.inr (va_up (fun _ => none) 0 (some (q 6)))))))), ((q 1), .inl ((cA 1), 40, .inr (.inr (.inr (.inr (fun _ => none)))))), ((q 2), .inl ((cA 2), 60, .inr (.inr (.inr (.inr (fun _ => none)))))), ((q 3), .inl ((cA 3), 124, .inr (.inr (.inr (.inr (fun _ => none)))))), ((q 4), .inl ((cA 4), 3, .inr (.inr (.inr (.inr (va_up (va_up (va_up (fun _ => none) 0 (some (q 7))) 1 (some (q 8))) 2 (some (q 9)))))))), ((q 5), .inr (6, [.int 0, .long 0])), ((q 6), .inr (0, [.int 0, .null, .int 0, .null, .int 0, .int 0, .int 1, .int 1, .int 0, .int 0, .int 0, .int 0])), ((q 7), .inr (6, [.int 0, .long 0])), ((q 8), .inr (6, [.int 0, .long 0])), ((q 9), .inr (6, [.int 0, .long 0]))] s.heap.size = A at hD ⊢
  have hA : ∀ q : Nat, s.heap.size ≤ q → A q := fun q h => by rw [← hAe]; exact Or.inr h
  have hS : va_S A s.heap s.heap [] := va_S.rf
  have hl := lv_entry ([.ref h0, .int a1]) (n := 3) (Nat.le_of_ble_eq_true rfl)
  rw [lg_entry_eq]
  generalize (lg_sl ([.ref h0, .int a1]) ++ List.replicate (3 - (lg_sl ([.ref h0, .int a1])).length) Slot.unset).toArray = ls at hl ⊢
  have hl : lv_has ls 3 [(0, .ref h0), (1, .int a1)] := hl
  refine lv_aload_n hx hb dX8_caller_0 rfl (lv_at hl 0 rfl) ?_
  refine lv_iload_n hx hb dX8_caller_1 rfl (lv_at hl 1 rfl) ?_
  refine clR (va_runV (As := [.int a1]) (rest := []) ⟨hx, hb, hml, hown, hts⟩ (c8_isClass l dC dI h0 q a1 _) (cwV 1 hts gX8_caller_X8_isClass rfl rfl rfl (by decide +kernel) ⟨Nat.le_of_ble_eq_true rfl, Nat.le_of_ble_eq_true rfl⟩) ⟨pz_blind, va_recv hK hP (ci := 7) (q0 := 0) rfl rfl, pz_of hP hK hD hN [0] [] rfl (by decide) rfl⟩ rfl rfl hl.1 rfl (lv_room (Nat.le_of_ble_eq_true rfl)) dX8_caller_2 ⟨Nat.le_of_ble_eq_true rfl, Nat.le_of_ble_eq_true rfl⟩) hS hP (fun v H locs w2 hP hS => ?_)
  rcases w2 with ⟨rfl, rfl⟩ | ⟨rfl, u1⟩
  · refine W.eq (g2 := F0 m 5 ls [.int 1]) rfl ?_
    refine lv_if_ne (tgt := 11) hx hb dX8_caller_5 (by decide) (fun _ => ?_) (fun h => absurd h (by decide))
    refine lv_aload_n hx hb dX8_caller_11 rfl (lv_at hl 0 rfl) ?_
    refine va_get (D := (dC, dI)) (own := RX8) (ref := "ReflectModels") (index := 58) (ci := 7) (v := .int 0) (C := RX8) (T := TX8) (N := 15) hx hb hts inX8_caller_8 hown hK hP 0 rfl rfl 11 (by decide) (hts (.fieldLink RX8 58 "ReflectModels" "callerNumber" "I") (by decide +kernel)) (fun _ h9 => h9) rfl dX8_caller_12 ?_
    refine lv_istore_n (lv' := [(2, .int 0), (0, .ref h0), (1, .int 0)]) hx hb dX8_caller_15 rfl hl (by decide) rfl (fun ls hl => ?_)
    refine lv_aload_n hx hb dX8_caller_16 rfl (lv_at hl 1 rfl) ?_
    refine lv_iload_n hx hb dX8_caller_17 rfl (lv_at hl 2 rfl) ?_
    refine va_put (D := (dC, dI)) (own := RX8) (ref := "ReflectModels") (index := 58) (ci := 7) (v := .int 0) (ty := .int) (C := RX8) (T := TX8) (N := 15) hx hb hts inX8_caller_8 tyX8 tyX8_ok nmX8 hown hK hP hD hS 0 rfl rfl 11 (by decide) (hts (.fieldLink RX8 58 "ReflectModels" "callerNumber" "I") (by decide +kernel)) (fun _ h9 => h9) rfl (by decide +kernel) rfl rfl (Nat.le_of_ble_eq_true rfl) dX8_caller_18 (fun H locs hP hD hS => ?_)
    have hP : va_P (dC, dI) vwCl [(h0, .inr (7, [.ref (q 0), .int 1, .ref (q 1), .int 0, .int 0, .ref (q 2), .int 0, .ref (q 3), .int 0, .ref (q 4), .int 0, .int 0, .ref (q 5), .int 0, .int 0])), ((q 0), .inl ((cA 0), 16, .inr (.inr (.inr (.inr (va_up (fun _ => none) 0 (some (q 6)))))))), ((q 1), .inl ((cA 1), 40, .inr (.inr (.inr (.inr (fun _ => none)))))), ((q 2), .inl ((cA 2), 60, .inr (.inr (.inr (.inr (fun _ => none)))))), ((q 3), .inl ((cA 3), 124, .inr (.inr (.inr (.inr (fun _ => none)))))), ((q 4), .inl ((cA 4), 3, .inr (.inr (.inr (.inr (va_up (va_up (va_up (fun _ => none) 0 (some (q 7))) 1 (some (q 8))) 2 (some (q 9)))))))), ((q 5), .inr (6, [.int 0, .long 0])), ((q 6), .inr (0, [.int 0, .null, .int 0, .null, .int 0, .int 0, .int 1, .int 1, .int 0, .int 0, .int 0, .int 0])), ((q 7), .inr (6, [.int 0, .long 0])), ((q 8), .inr (6, [.int 0, .long 0])), ((q 9), .inr (6, [.int 0, .long 0]))] H := hP
    have hD : va_D A [(h0, .inr (7, [.ref (q 0), .int 1, .ref (q 1), .int 0, .int 0, .ref (q 2), .int 0, .ref (q 3), .int 0, .ref (q 4), .int 0, .int 0, .ref (q 5), .int 0, .int 0])), ((q 0), .inl ((cA 0), 16, .inr (.inr (.inr (.inr (va_up (fun _ => none) 0 (some (q 6)))))))), ((q 1), .inl ((cA 1), 40, .inr (.inr (.inr (.inr (fun _ => none)))))), ((q 2), .inl ((cA 2), 60, .inr (.inr (.inr (.inr (fun _ => none)))))), ((q 3), .inl ((cA 3), 124, .inr (.inr (.inr (.inr (fun _ => none)))))), ((q 4), .inl ((cA 4), 3, .inr (.inr (.inr (.inr (va_up (va_up (va_up (fun _ => none) 0 (some (q 7))) 1 (some (q 8))) 2 (some (q 9)))))))), ((q 5), .inr (6, [.int 0, .long 0])), ((q 6), .inr (0, [.int 0, .null, .int 0, .null, .int 0, .int 0, .int 1, .int 1, .int 0, .int 0, .int 0, .int 0])), ((q 7), .inr (6, [.int 0, .long 0])), ((q 8), .inr (6, [.int 0, .long 0])), ((q 9), .inr (6, [.int 0, .long 0]))] := hD
    refine lv_iload_n hx hb dX8_caller_21 rfl (lv_at hl 0 rfl) ?_
    have hP9 := hP.sub (ws' := []) [] rfl
    have hD9 := hD.sub (ws' := []) [] (by decide) rfl
    have hK9 := hK.sub (tys' := []) [] rfl
    exact W.zret (v := 0) (ty := .int) hx hb hr rfl (fun t ht hW => ⟨⟨(some (.int 0)), rfl, _, _, ⟨congrArg (fun z => some (Value.int z)) (by unfold an_caller; (repeat' split) <;> first | rfl | (exfalso; first | omega | (have kq := kz; omega))), rfl, rfl⟩, by rw [ht]; exact hP9, va_K.moved hW.alike hK9, hD9⟩, hS.F ht⟩) hS.2.2 dX8_caller_22
  · refine W.eq (g2 := F0 m 5 ls [.int 0]) rfl ?_
    refine lv_if_ne (tgt := 11) hx hb dX8_caller_5 (by decide) (fun h => absurd h (by decide)) (fun _ => ?_)
    refine lv_bipush (v := (-2)) hx hb dX8_caller_8 (by decide) ?_
    have hP9 := hP.sub (ws' := []) [] rfl
    have hD9 := hD.sub (ws' := []) [] (by decide) rfl
    have hK9 := hK.sub (tys' := []) [] rfl
    exact W.zret (v := (-2)) (ty := .int) hx hb hr rfl (fun t ht hW => ⟨⟨(some (.int (-2))), rfl, _, _, ⟨congrArg (fun z => some (Value.int z)) (by unfold an_caller; (repeat' split) <;> first | rfl | (exfalso; first | omega | (have kq := kz; omega))), rfl, rfl⟩, by rw [ht]; exact hP9, va_K.moved hW.alike hK9, hD9⟩, hS.F ht⟩) hS.2.2 dX8_caller_10

set_option maxHeartbeats 4000000 in
set_option maxRecDepth 100000 in
/-- leave on a fresh object -/
theorem c8_leave (l : Launch) (dC : Nat → ClassId) (dI : Nat → Nat → Nat) (h0 : Nat) (q : Nat → Nat) (cA : Nat → ClassId) (a1 : Int32) (sz : Nat)  : Met l yX8_leave wsX8_leave ({ frames := 1, cells := 0, slots := 0, locals := 21 }) (va_Pc [.ref h0, .int a1] (pz (dC, dI) [((cA 0), .object "ReflectModels$ClassModel"), ((cA 1), .object "ReflectModels$Member"), ((cA 2), .object "ReflectModels$Handle"), ((cA 3), .object "ReflectModels$Thing"), ((cA 4), .object "ReflectModels$Value")] [(h0, .inr (7, [.ref (q 0), .int 1, .ref (q 1), .int 0, .int 0, .ref (q 2), .int 0, .ref (q 3), .int 0, .ref (q 4), .int 0, .int 0, .ref (q 5), .int 0, .int 0])), ((q 0), .inl ((cA 0), 16, .inr (.inr (.inr (.inr (va_up (fun _ => none) 0 (some (q 6)))))))), ((q 1), .inl ((cA 1), 40, .inr (.inr (.inr (.inr (fun _ => none)))))), ((q 2), .inl ((cA 2), 60, .inr (.inr (.inr (.inr (fun _ => none)))))), ((q 3), .inl ((cA 3), 124, .inr (.inr (.inr (.inr (fun _ => none)))))), ((q 4), .inl ((cA 4), 3, .inr (.inr (.inr (.inr (va_up (va_up (va_up (fun _ => none) 0 (some (q 7))) 1 (some (q 8))) 2 (some (q 9)))))))), ((q 5), .inr (6, [.int 0, .long 0])), ((q 6), .inr (0, [.int 0, .null, .int 0, .null, .int 0, .int 0, .int 1, .int 1, .int 0, .int 0, .int 0, .int 0])), ((q 7), .inr (6, [.int 0, .long 0])), ((q 8), .inr (6, [.int 0, .long 0])), ((q 9), .inr (6, [.int 0, .long 0]))] sz)) (qW (dC, dI) (fun v w1 ty1 => v = some (.int (an_leave a1.toInt)) ∧ w1 = [] ∧ ty1 = []) (va_A [(h0, .inr (7, [.ref (q 0), .int 1, .ref (q 1), .int 0, .int 0, .ref (q 2), .int 0, .ref (q 3), .int 0, .ref (q 4), .int 0, .int 0, .ref (q 5), .int 0, .int 0])), ((q 0), .inl ((cA 0), 16, .inr (.inr (.inr (.inr (va_up (fun _ => none) 0 (some (q 6)))))))), ((q 1), .inl ((cA 1), 40, .inr (.inr (.inr (.inr (fun _ => none)))))), ((q 2), .inl ((cA 2), 60, .inr (.inr (.inr (.inr (fun _ => none)))))), ((q 3), .inl ((cA 3), 124, .inr (.inr (.inr (.inr (fun _ => none)))))), ((q 4), .inl ((cA 4), 3, .inr (.inr (.inr (.inr (va_up (va_up (va_up (fun _ => none) 0 (some (q 7))) 1 (some (q 8))) 2 (some (q 9)))))))), ((q 5), .inr (6, [.int 0, .long 0])), ((q 6), .inr (0, [.int 0, .null, .int 0, .null, .int 0, .int 0, .int 1, .int 1, .int 0, .int 0, .int 0, .int 0])), ((q 7), .inr (6, [.int 0, .long 0])), ((q 8), .inr (6, [.int 0, .long 0])), ((q 9), .inr (6, [.int 0, .long 0]))] sz)) 0 0 (va_A [(h0, .inr (7, [.ref (q 0), .int 1, .ref (q 1), .int 0, .int 0, .ref (q 2), .int 0, .ref (q 3), .int 0, .ref (q 4), .int 0, .int 0, .ref (q 5), .int 0, .int 0])), ((q 0), .inl ((cA 0), 16, .inr (.inr (.inr (.inr (va_up (fun _ => none) 0 (some (q 6)))))))), ((q 1), .inl ((cA 1), 40, .inr (.inr (.inr (.inr (fun _ => none)))))), ((q 2), .inl ((cA 2), 60, .inr (.inr (.inr (.inr (fun _ => none)))))), ((q 3), .inl ((cA 3), 124, .inr (.inr (.inr (.inr (fun _ => none)))))), ((q 4), .inl ((cA 4), 3, .inr (.inr (.inr (.inr (va_up (va_up (va_up (fun _ => none) 0 (some (q 7))) 1 (some (q 8))) 2 (some (q 9)))))))), ((q 5), .inr (6, [.int 0, .long 0])), ((q 6), .inr (0, [.int 0, .null, .int 0, .null, .int 0, .int 0, .int 1, .int 1, .int 0, .int 0, .int 0, .int 0])), ((q 7), .inr (6, [.int 0, .long 0])), ((q 8), .inr (6, [.int 0, .long 0])), ((q 9), .inr (6, [.int 0, .long 0]))] sz) := by
  refine Met.ofW (cc := cX8_leave) (maxL := 3) (ret := (some .int)) (by decide) rfl ?_
  intro p e s m args below meth c s₁ B hml hv
  obtain ⟨rfl, hsz, hP, hK, hD, hN⟩ := hv
  have hx := B.exec
  have hb := B.bytes
  have hr := B.returns
  have hts := atoms_spec (ws := wsX8_leave) B.pre
  have hown : s.vm.findClass RX8 = some m.cls := findClass_of_methodNamed B.named
  have hlocks := B.notSynchronized
  subst hsz
  have hD := hD.self (sz := s.heap.size)
  generalize hAe : va_A [(h0, .inr (7, [.ref (q 0), .int 1, .ref (q 1), .int 0, .int 0, .ref (q 2), .int 0, .ref (q 3), .int 0, .ref (q 4), .int 0, .int 0, .ref (q 5), .int 0, .int 0])), ((q 0), .inl ((cA 0), 16, .inr (.inr (.inr (.inr (va_up (fun _ => none) 0 (some (q 6)))))))), ((q 1), .inl ((cA 1), 40, .inr (.inr (.inr (.inr (fun _ => none)))))), ((q 2), .inl ((cA 2), 60, .inr (.inr (.inr (.inr (fun _ => none)))))), ((q 3), .inl ((cA 3), 124, .inr (.inr (.inr (.inr (fun _ => none)))))), ((q 4), .inl ((cA 4), 3, .inr (.inr (.inr (.inr (va_up (va_up (va_up (fun _ => none) 0 (some (q 7))) 1 (some (q 8))) 2 (some (q 9)))))))), ((q 5), .inr (6, [.int 0, .long 0])), ((q 6), .inr (0, [.int 0, .null, .int 0, .null, .int 0, .int 0, .int 1, .int 1, .int 0, .int 0, .int 0, .int 0])), ((q 7), .inr (6, [.int 0, .long 0])), ((q 8), .inr (6, [.int 0, .long 0])), ((q 9), .inr (6, [.int 0, .long 0]))] s.heap.size = A at hD ⊢
  have hA : ∀ q : Nat, s.heap.size ≤ q → A q := fun q h => by rw [← hAe]; exact Or.inr h
  have hS : va_S A s.heap s.heap [] := va_S.rf
  have hl := lv_entry ([.ref h0, .int a1]) (n := 3) (Nat.le_of_ble_eq_true rfl)
  rw [lg_entry_eq]
  generalize (lg_sl ([.ref h0, .int a1]) ++ List.replicate (3 - (lg_sl ([.ref h0, .int a1])).length) Slot.unset).toArray = ls at hl ⊢
  have hl : lv_has ls 3 [(0, .ref h0), (1, .int a1)] := hl
  refine lv_aload_n hx hb dX8_leave_0 rfl (lv_at hl 0 rfl) ?_
  refine lv_iload_n hx hb dX8_leave_1 rfl (lv_at hl 1 rfl) ?_
  refine clR (va_runV (As := [.int a1]) (rest := []) ⟨hx, hb, hml, hown, hts⟩ (c8_isHandle l dC dI h0 q a1 _) (cwV 1 hts gX8_leave_X8_isHandle rfl rfl rfl (by decide +kernel) ⟨Nat.le_of_ble_eq_true rfl, Nat.le_of_ble_eq_true rfl⟩) ⟨pz_blind, va_recv hK hP (ci := 7) (q0 := 0) rfl rfl, pz_of hP hK hD hN [0] [] rfl (by decide) rfl⟩ rfl rfl hl.1 rfl (lv_room (Nat.le_of_ble_eq_true rfl)) dX8_leave_2 ⟨Nat.le_of_ble_eq_true rfl, Nat.le_of_ble_eq_true rfl⟩) hS hP (fun v H locs w1 hP hS => ?_)
  obtain rfl := w1
  refine W.eq (g2 := F0 m 5 ls [.int 0]) rfl ?_
  refine lv_if_ne (tgt := 11) hx hb dX8_leave_5 (by decide) (fun h => absurd h (by decide)) (fun _ => ?_)
  refine lv_bipush (v := (-2)) hx hb dX8_leave_8 (by decide) ?_
  have hP9 := hP.sub (ws' := []) [] rfl
  have hD9 := hD.sub (ws' := []) [] (by decide) rfl
  have hK9 := hK.sub (tys' := []) [] rfl
  exact W.zret (v := (-2)) (ty := .int) hx hb hr rfl (fun t ht hW => ⟨⟨(some (.int (-2))), rfl, _, _, ⟨congrArg (fun z => some (Value.int z)) (by unfold an_leave; (repeat' split) <;> first | rfl | (exfalso; first | omega | (have kq := kz; omega))), rfl, rfl⟩, by rw [ht]; exact hP9, va_K.moved hW.alike hK9, hD9⟩, hS.F ht⟩) hS.2.2 dX8_leave_10

set_option maxHeartbeats 4000000 in
set_option maxRecDepth 100000 in
/-- set on a fresh object -/
theorem c8_set (l : Launch) (dC : Nat → ClassId) (dI : Nat → Nat → Nat) (h0 : Nat) (q : Nat → Nat) (cA : Nat → ClassId) (a1 a2 : Int32) (sz : Nat)  : Met l yX8_set wsX8_set ({ frames := 1, cells := 0, slots := 0, locals := 21 }) (va_Pc [.ref h0, .int a1, .int a2] (pz (dC, dI) [((cA 0), .object "ReflectModels$ClassModel"), ((cA 1), .object "ReflectModels$Member"), ((cA 2), .object "ReflectModels$Handle"), ((cA 3), .object "ReflectModels$Thing"), ((cA 4), .object "ReflectModels$Value")] [(h0, .inr (7, [.ref (q 0), .int 1, .ref (q 1), .int 0, .int 0, .ref (q 2), .int 0, .ref (q 3), .int 0, .ref (q 4), .int 0, .int 0, .ref (q 5), .int 0, .int 0])), ((q 0), .inl ((cA 0), 16, .inr (.inr (.inr (.inr (va_up (fun _ => none) 0 (some (q 6)))))))), ((q 1), .inl ((cA 1), 40, .inr (.inr (.inr (.inr (fun _ => none)))))), ((q 2), .inl ((cA 2), 60, .inr (.inr (.inr (.inr (fun _ => none)))))), ((q 3), .inl ((cA 3), 124, .inr (.inr (.inr (.inr (fun _ => none)))))), ((q 4), .inl ((cA 4), 3, .inr (.inr (.inr (.inr (va_up (va_up (va_up (fun _ => none) 0 (some (q 7))) 1 (some (q 8))) 2 (some (q 9)))))))), ((q 5), .inr (6, [.int 0, .long 0])), ((q 6), .inr (0, [.int 0, .null, .int 0, .null, .int 0, .int 0, .int 1, .int 1, .int 0, .int 0, .int 0, .int 0])), ((q 7), .inr (6, [.int 0, .long 0])), ((q 8), .inr (6, [.int 0, .long 0])), ((q 9), .inr (6, [.int 0, .long 0]))] sz)) (qW (dC, dI) (fun v w1 ty1 => v = some (.int (an_set a1.toInt a2.toInt)) ∧ w1 = [] ∧ ty1 = []) (va_A [(h0, .inr (7, [.ref (q 0), .int 1, .ref (q 1), .int 0, .int 0, .ref (q 2), .int 0, .ref (q 3), .int 0, .ref (q 4), .int 0, .int 0, .ref (q 5), .int 0, .int 0])), ((q 0), .inl ((cA 0), 16, .inr (.inr (.inr (.inr (va_up (fun _ => none) 0 (some (q 6)))))))), ((q 1), .inl ((cA 1), 40, .inr (.inr (.inr (.inr (fun _ => none)))))), ((q 2), .inl ((cA 2), 60, .inr (.inr (.inr (.inr (fun _ => none)))))), ((q 3), .inl ((cA 3), 124, .inr (.inr (.inr (.inr (fun _ => none)))))), ((q 4), .inl ((cA 4), 3, .inr (.inr (.inr (.inr (va_up (va_up (va_up (fun _ => none) 0 (some (q 7))) 1 (some (q 8))) 2 (some (q 9)))))))), ((q 5), .inr (6, [.int 0, .long 0])), ((q 6), .inr (0, [.int 0, .null, .int 0, .null, .int 0, .int 0, .int 1, .int 1, .int 0, .int 0, .int 0, .int 0])), ((q 7), .inr (6, [.int 0, .long 0])), ((q 8), .inr (6, [.int 0, .long 0])), ((q 9), .inr (6, [.int 0, .long 0]))] sz)) 0 0 (va_A [(h0, .inr (7, [.ref (q 0), .int 1, .ref (q 1), .int 0, .int 0, .ref (q 2), .int 0, .ref (q 3), .int 0, .ref (q 4), .int 0, .int 0, .ref (q 5), .int 0, .int 0])), ((q 0), .inl ((cA 0), 16, .inr (.inr (.inr (.inr (va_up (fun _ => none) 0 (some (q 6)))))))), ((q 1), .inl ((cA 1), 40, .inr (.inr (.inr (.inr (fun _ => none)))))), ((q 2), .inl ((cA 2), 60, .inr (.inr (.inr (.inr (fun _ => none)))))), ((q 3), .inl ((cA 3), 124, .inr (.inr (.inr (.inr (fun _ => none)))))), ((q 4), .inl ((cA 4), 3, .inr (.inr (.inr (.inr (va_up (va_up (va_up (fun _ => none) 0 (some (q 7))) 1 (some (q 8))) 2 (some (q 9)))))))), ((q 5), .inr (6, [.int 0, .long 0])), ((q 6), .inr (0, [.int 0, .null, .int 0, .null, .int 0, .int 0, .int 1, .int 1, .int 0, .int 0, .int 0, .int 0])), ((q 7), .inr (6, [.int 0, .long 0])), ((q 8), .inr (6, [.int 0, .long 0])), ((q 9), .inr (6, [.int 0, .long 0]))] sz) := by
  refine Met.ofW (cc := cX8_set) (maxL := 5) (ret := (some .int)) (by decide) rfl ?_
  intro p e s m args below meth c s₁ B hml hv
  obtain ⟨rfl, hsz, hP, hK, hD, hN⟩ := hv
  have hx := B.exec
  have hb := B.bytes
  have hr := B.returns
  have hts := atoms_spec (ws := wsX8_set) B.pre
  have hown : s.vm.findClass RX8 = some m.cls := findClass_of_methodNamed B.named
  have hlocks := B.notSynchronized
  subst hsz
  have hD := hD.self (sz := s.heap.size)
  generalize hAe : va_A [(h0, .inr (7, [.ref (q 0), .int 1, .ref (q 1), .int 0, .int 0, .ref (q 2), .int 0, .ref (q 3), .int 0, .ref (q 4), .int 0, .int 0, .ref (q 5), .int 0, .int 0])), ((q 0), .inl ((cA 0), 16, .inr (.inr (.inr (.inr (va_up (fun _ => none) 0 (some (q 6)))))))), ((q 1), .inl ((cA 1), 40, .inr (.inr (.inr (.inr (fun _ => none)))))), ((q 2), .inl ((cA 2), 60, .inr (.inr (.inr (.inr (fun _ => none)))))), ((q 3), .inl ((cA 3), 124, .inr (.inr (.inr (.inr (fun _ => none)))))), ((q 4), .inl ((cA 4), 3, .inr (.inr (.inr (.inr (va_up (va_up (va_up (fun _ => none) 0 (some (q 7))) 1 (some (q 8))) 2 (some (q 9)))))))), ((q 5), .inr (6, [.int 0, .long 0])), ((q 6), .inr (0, [.int 0, .null, .int 0, .null, .int 0, .int 0, .int 1, .int 1, .int 0, .int 0, .int 0, .int 0])), ((q 7), .inr (6, [.int 0, .long 0])), ((q 8), .inr (6, [.int 0, .long 0])), ((q 9), .inr (6, [.int 0, .long 0]))] s.heap.size = A at hD ⊢
  have hA : ∀ q : Nat, s.heap.size ≤ q → A q := fun q h => by rw [← hAe]; exact Or.inr h
  have hS : va_S A s.heap s.heap [] := va_S.rf
  have hl := lv_entry ([.ref h0, .int a1, .int a2]) (n := 5) (Nat.le_of_ble_eq_true rfl)
  rw [lg_entry_eq]
  generalize (lg_sl ([.ref h0, .int a1, .int a2]) ++ List.replicate (5 - (lg_sl ([.ref h0, .int a1, .int a2])).length) Slot.unset).toArray = ls at hl ⊢
  have hl : lv_has ls 5 [(0, .ref h0), (1, .int a1), (2, .int a2)] := hl
  refine lv_aload_n hx hb dX8_set_0 rfl (lv_at hl 0 rfl) ?_
  refine lv_iload_n hx hb dX8_set_1 rfl (lv_at hl 1 rfl) ?_
  refine clR (va_runV (As := [.int a1]) (rest := []) ⟨hx, hb, hml, hown, hts⟩ (c8_isHandle l dC dI h0 q a1 _) (cwV 1 hts gX8_set_X8_isHandle rfl rfl rfl (by decide +kernel) ⟨Nat.le_of_ble_eq_true rfl, Nat.le_of_ble_eq_true rfl⟩) ⟨pz_blind, va_recv hK hP (ci := 7) (q0 := 0) rfl rfl, pz_of hP hK hD hN [0] [] rfl (by decide) rfl⟩ rfl rfl hl.1 rfl (lv_room (Nat.le_of_ble_eq_true rfl)) dX8_set_2 ⟨Nat.le_of_ble_eq_true rfl, Nat.le_of_ble_eq_true rfl⟩) hS hP (fun v H locs w1 hP hS => ?_)
  obtain rfl := w1
  refine W.eq (g2 := F0 m 5 ls [.int 0]) rfl ?_
  refine lv_if_eq (tgt := 16) hx hb dX8_set_5 (by decide) (fun _ => ?_) (fun h => absurd (by decide) h)
  refine lv_bipush (v := (-2)) hx hb dX8_set_16 (by decide) ?_
  have hP9 := hP.sub (ws' := []) [] rfl
  have hD9 := hD.sub (ws' := []) [] (by decide) rfl
  have hK9 := hK.sub (tys' := []) [] rfl
  exact W.zret (v := (-2)) (ty := .int) hx hb hr rfl (fun t ht hW => ⟨⟨(some (.int (-2))), rfl, _, _, ⟨congrArg (fun z => some (Value.int z)) (by unfold an_set; (repeat' split) <;> first | rfl | (exfalso; first | omega | (have kq := kz; omega))), rfl, rfl⟩, by rw [ht]; exact hP9, va_K.moved hW.alike hK9, hD9⟩, hS.F ht⟩) hS.2.2 dX8_set_18

set_option maxHeartbeats 4000000 in
set_option maxRecDepth 100000 in
/-- call on a fresh object -/
theorem c8_call (l : Launch) (dC : Nat → ClassId) (dI : Nat → Nat → Nat) (h0 : Nat) (q : Nat → Nat) (cA : Nat → ClassId) (a1 a2 : Int32) (sz : Nat)  : Met l yX8_call wsX8_call ({ frames := 1, cells := 0, slots := 0, locals := 21 }) (va_Pc [.ref h0, .int a1, .int a2] (pz (dC, dI) [((cA 0), .object "ReflectModels$ClassModel"), ((cA 1), .object "ReflectModels$Member"), ((cA 2), .object "ReflectModels$Handle"), ((cA 3), .object "ReflectModels$Thing"), ((cA 4), .object "ReflectModels$Value")] [(h0, .inr (7, [.ref (q 0), .int 1, .ref (q 1), .int 0, .int 0, .ref (q 2), .int 0, .ref (q 3), .int 0, .ref (q 4), .int 0, .int 0, .ref (q 5), .int 0, .int 0])), ((q 0), .inl ((cA 0), 16, .inr (.inr (.inr (.inr (va_up (fun _ => none) 0 (some (q 6)))))))), ((q 1), .inl ((cA 1), 40, .inr (.inr (.inr (.inr (fun _ => none)))))), ((q 2), .inl ((cA 2), 60, .inr (.inr (.inr (.inr (fun _ => none)))))), ((q 3), .inl ((cA 3), 124, .inr (.inr (.inr (.inr (fun _ => none)))))), ((q 4), .inl ((cA 4), 3, .inr (.inr (.inr (.inr (va_up (va_up (va_up (fun _ => none) 0 (some (q 7))) 1 (some (q 8))) 2 (some (q 9)))))))), ((q 5), .inr (6, [.int 0, .long 0])), ((q 6), .inr (0, [.int 0, .null, .int 0, .null, .int 0, .int 0, .int 1, .int 1, .int 0, .int 0, .int 0, .int 0])), ((q 7), .inr (6, [.int 0, .long 0])), ((q 8), .inr (6, [.int 0, .long 0])), ((q 9), .inr (6, [.int 0, .long 0]))] sz)) (qW (dC, dI) (fun v w1 ty1 => v = some (.int (an_call a1.toInt a2.toInt)) ∧ w1 = [] ∧ ty1 = []) (va_A [(h0, .inr (7, [.ref (q 0), .int 1, .ref (q 1), .int 0, .int 0, .ref (q 2), .int 0, .ref (q 3), .int 0, .ref (q 4), .int 0, .int 0, .ref (q 5), .int 0, .int 0])), ((q 0), .inl ((cA 0), 16, .inr (.inr (.inr (.inr (va_up (fun _ => none) 0 (some (q 6)))))))), ((q 1), .inl ((cA 1), 40, .inr (.inr (.inr (.inr (fun _ => none)))))), ((q 2), .inl ((cA 2), 60, .inr (.inr (.inr (.inr (fun _ => none)))))), ((q 3), .inl ((cA 3), 124, .inr (.inr (.inr (.inr (fun _ => none)))))), ((q 4), .inl ((cA 4), 3, .inr (.inr (.inr (.inr (va_up (va_up (va_up (fun _ => none) 0 (some (q 7))) 1 (some (q 8))) 2 (some (q 9)))))))), ((q 5), .inr (6, [.int 0, .long 0])), ((q 6), .inr (0, [.int 0, .null, .int 0, .null, .int 0, .int 0, .int 1, .int 1, .int 0, .int 0, .int 0, .int 0])), ((q 7), .inr (6, [.int 0, .long 0])), ((q 8), .inr (6, [.int 0, .long 0])), ((q 9), .inr (6, [.int 0, .long 0]))] sz)) 0 0 (va_A [(h0, .inr (7, [.ref (q 0), .int 1, .ref (q 1), .int 0, .int 0, .ref (q 2), .int 0, .ref (q 3), .int 0, .ref (q 4), .int 0, .int 0, .ref (q 5), .int 0, .int 0])), ((q 0), .inl ((cA 0), 16, .inr (.inr (.inr (.inr (va_up (fun _ => none) 0 (some (q 6)))))))), ((q 1), .inl ((cA 1), 40, .inr (.inr (.inr (.inr (fun _ => none)))))), ((q 2), .inl ((cA 2), 60, .inr (.inr (.inr (.inr (fun _ => none)))))), ((q 3), .inl ((cA 3), 124, .inr (.inr (.inr (.inr (fun _ => none)))))), ((q 4), .inl ((cA 4), 3, .inr (.inr (.inr (.inr (va_up (va_up (va_up (fun _ => none) 0 (some (q 7))) 1 (some (q 8))) 2 (some (q 9)))))))), ((q 5), .inr (6, [.int 0, .long 0])), ((q 6), .inr (0, [.int 0, .null, .int 0, .null, .int 0, .int 0, .int 1, .int 1, .int 0, .int 0, .int 0, .int 0])), ((q 7), .inr (6, [.int 0, .long 0])), ((q 8), .inr (6, [.int 0, .long 0])), ((q 9), .inr (6, [.int 0, .long 0]))] sz) := by
  refine Met.ofW (cc := cX8_call) (maxL := 6) (ret := (some .int)) (by decide) rfl ?_
  intro p e s m args below meth c s₁ B hml hv
  obtain ⟨rfl, hsz, hP, hK, hD, hN⟩ := hv
  have hx := B.exec
  have hb := B.bytes
  have hr := B.returns
  have hts := atoms_spec (ws := wsX8_call) B.pre
  have hown : s.vm.findClass RX8 = some m.cls := findClass_of_methodNamed B.named
  have hlocks := B.notSynchronized
  subst hsz
  have hD := hD.self (sz := s.heap.size)
  generalize hAe : va_A [(h0, .inr (7, [.ref (q 0), .int 1, .ref (q 1), .int 0, .int 0, .ref (q 2), .int 0, .ref (q 3), .int 0, .ref (q 4), .int 0, .int 0, .ref (q 5), .int 0, .int 0])), ((q 0), .inl ((cA 0), 16, .inr (.inr (.inr (.inr (va_up (fun _ => none) 0 (some (q 6)))))))), ((q 1), .inl ((cA 1), 40, .inr (.inr (.inr (.inr (fun _ => none)))))), ((q 2), .inl ((cA 2), 60, .inr (.inr (.inr (.inr (fun _ => none)))))), ((q 3), .inl ((cA 3), 124, .inr (.inr (.inr (.inr (fun _ => none)))))), ((q 4), .inl ((cA 4), 3, .inr (.inr (.inr (.inr (va_up (va_up (va_up (fun _ => none) 0 (some (q 7))) 1 (some (q 8))) 2 (some (q 9)))))))), ((q 5), .inr (6, [.int 0, .long 0])), ((q 6), .inr (0, [.int 0, .null, .int 0, .null, .int 0, .int 0, .int 1, .int 1, .int 0, .int 0, .int 0, .int 0])), ((q 7), .inr (6, [.int 0, .long 0])), ((q 8), .inr (6, [.int 0, .long 0])), ((q 9), .inr (6, [.int 0, .long 0]))] s.heap.size = A at hD ⊢
  have hA : ∀ q : Nat, s.heap.size ≤ q → A q := fun q h => by rw [← hAe]; exact Or.inr h
  have hS : va_S A s.heap s.heap [] := va_S.rf
  have hl := lv_entry ([.ref h0, .int a1, .int a2]) (n := 6) (Nat.le_of_ble_eq_true rfl)
  rw [lg_entry_eq]
  generalize (lg_sl ([.ref h0, .int a1, .int a2]) ++ List.replicate (6 - (lg_sl ([.ref h0, .int a1, .int a2])).length) Slot.unset).toArray = ls at hl ⊢
  have hl : lv_has ls 6 [(0, .ref h0), (1, .int a1), (2, .int a2)] := hl
  refine lv_aload_n hx hb dX8_call_0 rfl (lv_at hl 0 rfl) ?_
  refine lv_iload_n hx hb dX8_call_1 rfl (lv_at hl 1 rfl) ?_
  refine clR (va_runV (As := [.int a1]) (rest := []) ⟨hx, hb, hml, hown, hts⟩ (c8_isHandle l dC dI h0 q a1 _) (cwV 1 hts gX8_call_X8_isHandle rfl rfl rfl (by decide +kernel) ⟨Nat.le_of_ble_eq_true rfl, Nat.le_of_ble_eq_true rfl⟩) ⟨pz_blind, va_recv hK hP (ci := 7) (q0 := 0) rfl rfl, pz_of hP hK hD hN [0] [] rfl (by decide) rfl⟩ rfl rfl hl.1 rfl (lv_room (Nat.le_of_ble_eq_true rfl)) dX8_call_2 ⟨Nat.le_of_ble_eq_true rfl, Nat.le_of_ble_eq_true rfl⟩) hS hP (fun v H locs w1 hP hS => ?_)
  obtain rfl := w1
  refine W.eq (g2 := F0 m 5 ls [.int 0]) rfl ?_
  refine lv_if_eq (tgt := 16) hx hb dX8_call_5 (by decide) (fun _ => ?_) (fun h => absurd (by decide) h)
  refine lv_bipush (v := (-2)) hx hb dX8_call_16 (by decide) ?_
  have hP9 := hP.sub (ws' := []) [] rfl
  have hD9 := hD.sub (ws' := []) [] (by decide) rfl
  have hK9 := hK.sub (tys' := []) [] rfl
  exact W.zret (v := (-2)) (ty := .int) hx hb hr rfl (fun t ht hW => ⟨⟨(some (.int (-2))), rfl, _, _, ⟨congrArg (fun z => some (Value.int z)) (by unfold an_call; (repeat' split) <;> first | rfl | (exfalso; first | omega | (have kq := kz; omega))), rfl, rfl⟩, by rw [ht]; exact hP9, va_K.moved hW.alike hK9, hD9⟩, hS.F ht⟩) hS.2.2 dX8_call_18

set_option maxHeartbeats 4000000 in
set_option maxRecDepth 100000 in
/-- handle on a fresh object -/
theorem c8_handle (l : Launch) (dC : Nat → ClassId) (dI : Nat → Nat → Nat) (h0 : Nat) (q : Nat → Nat) (cA : Nat → ClassId) (a1 a2 : Int32) (sz : Nat)  : Met l yX8_handle wsX8_handle ({ frames := 1, cells := 0, slots := 0, locals := 21 }) (va_Pc [.ref h0, .int a1, .int a2] (pz (dC, dI) [((cA 0), .object "ReflectModels$ClassModel"), ((cA 1), .object "ReflectModels$Member"), ((cA 2), .object "ReflectModels$Handle"), ((cA 3), .object "ReflectModels$Thing"), ((cA 4), .object "ReflectModels$Value")] [(h0, .inr (7, [.ref (q 0), .int 1, .ref (q 1), .int 0, .int 0, .ref (q 2), .int 0, .ref (q 3), .int 0, .ref (q 4), .int 0, .int 0, .ref (q 5), .int 0, .int 0])), ((q 0), .inl ((cA 0), 16, .inr (.inr (.inr (.inr (va_up (fun _ => none) 0 (some (q 6)))))))), ((q 1), .inl ((cA 1), 40, .inr (.inr (.inr (.inr (fun _ => none)))))), ((q 2), .inl ((cA 2), 60, .inr (.inr (.inr (.inr (fun _ => none)))))), ((q 3), .inl ((cA 3), 124, .inr (.inr (.inr (.inr (fun _ => none)))))), ((q 4), .inl ((cA 4), 3, .inr (.inr (.inr (.inr (va_up (va_up (va_up (fun _ => none) 0 (some (q 7))) 1 (some (q 8))) 2 (some (q 9)))))))), ((q 5), .inr (6, [.int 0, .long 0])), ((q 6), .inr (0, [.int 0, .null, .int 0, .null, .int 0, .int 0, .int 1, .int 1, .int 0, .int 0, .int 0, .int 0])), ((q 7), .inr (6, [.int 0, .long 0])), ((q 8), .inr (6, [.int 0, .long 0])), ((q 9), .inr (6, [.int 0, .long 0]))] sz)) (qW (dC, dI) (fun v w1 ty1 => v = some (.int (an_handle a1.toInt a2.toInt)) ∧ w1 = [] ∧ ty1 = []) (va_A [(h0, .inr (7, [.ref (q 0), .int 1, .ref (q 1), .int 0, .int 0, .ref (q 2), .int 0, .ref (q 3), .int 0, .ref (q 4), .int 0, .int 0, .ref (q 5), .int 0, .int 0])), ((q 0), .inl ((cA 0), 16, .inr (.inr (.inr (.inr (va_up (fun _ => none) 0 (some (q 6)))))))), ((q 1), .inl ((cA 1), 40, .inr (.inr (.inr (.inr (fun _ => none)))))), ((q 2), .inl ((cA 2), 60, .inr (.inr (.inr (.inr (fun _ => none)))))), ((q 3), .inl ((cA 3), 124, .inr (.inr (.inr (.inr (fun _ => none)))))), ((q 4), .inl ((cA 4), 3, .inr (.inr (.inr (.inr (va_up (va_up (va_up (fun _ => none) 0 (some (q 7))) 1 (some (q 8))) 2 (some (q 9)))))))), ((q 5), .inr (6, [.int 0, .long 0])), ((q 6), .inr (0, [.int 0, .null, .int 0, .null, .int 0, .int 0, .int 1, .int 1, .int 0, .int 0, .int 0, .int 0])), ((q 7), .inr (6, [.int 0, .long 0])), ((q 8), .inr (6, [.int 0, .long 0])), ((q 9), .inr (6, [.int 0, .long 0]))] sz)) 0 0 (va_A [(h0, .inr (7, [.ref (q 0), .int 1, .ref (q 1), .int 0, .int 0, .ref (q 2), .int 0, .ref (q 3), .int 0, .ref (q 4), .int 0, .int 0, .ref (q 5), .int 0, .int 0])), ((q 0), .inl ((cA 0), 16, .inr (.inr (.inr (.inr (va_up (fun _ => none) 0 (some (q 6)))))))), ((q 1), .inl ((cA 1), 40, .inr (.inr (.inr (.inr (fun _ => none)))))), ((q 2), .inl ((cA 2), 60, .inr (.inr (.inr (.inr (fun _ => none)))))), ((q 3), .inl ((cA 3), 124, .inr (.inr (.inr (.inr (fun _ => none)))))), ((q 4), .inl ((cA 4), 3, .inr (.inr (.inr (.inr (va_up (va_up (va_up (fun _ => none) 0 (some (q 7))) 1 (some (q 8))) 2 (some (q 9)))))))), ((q 5), .inr (6, [.int 0, .long 0])), ((q 6), .inr (0, [.int 0, .null, .int 0, .null, .int 0, .int 0, .int 1, .int 1, .int 0, .int 0, .int 0, .int 0])), ((q 7), .inr (6, [.int 0, .long 0])), ((q 8), .inr (6, [.int 0, .long 0])), ((q 9), .inr (6, [.int 0, .long 0]))] sz) := by
  refine Met.ofW (cc := cX8_handle) (maxL := 3) (ret := (some .int)) (by decide) rfl ?_
  intro p e s m args below meth c s₁ B hml hv
  obtain ⟨rfl, hsz, hP, hK, hD, hN⟩ := hv
  have hx := B.exec
  have hb := B.bytes
  have hr := B.returns
  have hts := atoms_spec (ws := wsX8_handle) B.pre
  have hown : s.vm.findClass RX8 = some m.cls := findClass_of_methodNamed B.named
  have hlocks := B.notSynchronized
  subst hsz
  have hD := hD.self (sz := s.heap.size)
  generalize hAe : va_A [(h0, .inr (7, [.ref (q 0), .int 1, .ref (q 1), .int 0, .int 0, .ref (q 2), .int 0, .ref (q 3), .int 0, .ref (q 4), .int 0, .int 0, .ref (q 5), .int 0, .int 0])), ((q 0), .inl ((cA 0), 16, .inr (.inr (.inr (.inr (va_up (fun _ => none) 0 (some (q 6)))))))), ((q 1), .inl ((cA 1), 40, .inr (.inr (.inr (.inr (fun _ => none)))))), ((q 2), .inl ((cA 2), 60, .inr (.inr (.inr (.inr (fun _ => none)))))), ((q 3), .inl ((cA 3), 124, .inr (.inr (.inr (.inr (fun _ => none)))))), ((q 4), .inl ((cA 4), 3, .inr (.inr (.inr (.inr (va_up (va_up (va_up (fun _ => none) 0 (some (q 7))) 1 (some (q 8))) 2 (some (q 9)))))))), ((q 5), .inr (6, [.int 0, .long 0])), ((q 6), .inr (0, [.int 0, .null, .int 0, .null, .int 0, .int 0, .int 1, .int 1, .int 0, .int 0, .int 0, .int 0])), ((q 7), .inr (6, [.int 0, .long 0])), ((q 8), .inr (6, [.int 0, .long 0])), ((q 9), .inr (6, [.int 0, .long 0]))] s.heap.size = A at hD ⊢
  have hA : ∀ q : Nat, s.heap.size ≤ q → A q := fun q h => by rw [← hAe]; exact Or.inr h
  have hS : va_S A s.heap s.heap [] := va_S.rf
  have hl := lv_entry ([.ref h0, .int a1, .int a2]) (n := 3) (Nat.le_of_ble_eq_true rfl)
  rw [lg_entry_eq]
  generalize (lg_sl ([.ref h0, .int a1, .int a2]) ++ List.replicate (3 - (lg_sl ([.ref h0, .int a1, .int a2])).length) Slot.unset).toArray = ls at hl ⊢
  have hl : lv_has ls 3 [(0, .ref h0), (1, .int a1), (2, .int a2)] := hl
  refine lv_aload_n hx hb dX8_handle_0 rfl (lv_at hl 0 rfl) ?_
  refine lv_iload_n hx hb dX8_handle_1 rfl (lv_at hl 1 rfl) ?_
  refine clR (va_runV (As := [.int a1]) (rest := []) ⟨hx, hb, hml, hown, hts⟩ (c8_isHandle l dC dI h0 q a1 _) (cwV 1 hts gX8_handle_X8_isHandle rfl rfl rfl (by decide +kernel) ⟨Nat.le_of_ble_eq_true rfl, Nat.le_of_ble_eq_true rfl⟩) ⟨pz_blind, va_recv hK hP (ci := 7) (q0 := 0) rfl rfl, pz_of hP hK hD hN [0] [] rfl (by decide) rfl⟩ rfl rfl hl.1 rfl (lv_room (Nat.le_of_ble_eq_true rfl)) dX8_handle_2 ⟨Nat.le_of_ble_eq_true rfl, Nat.le_of_ble_eq_true rfl⟩) hS hP (fun v H locs w1 hP hS => ?_)
  obtain rfl := w1
  refine W.eq (g2 := F0 m 5 ls [.int 0]) rfl ?_
  refine lv_if_ne (tgt := 11) hx hb dX8_handle_5 (by decide) (fun h => absurd h (by decide)) (fun _ => ?_)
  refine lv_bipush (v := (-2)) hx hb dX8_handle_8 (by decide) ?_
  have hP9 := hP.sub (ws' := []) [] rfl
  have hD9 := hD.sub (ws' := []) [] (by decide) rfl
  have hK9 := hK.sub (tys' := []) [] rfl
  exact W.zret (v := (-2)) (ty := .int) hx hb hr rfl (fun t ht hW => ⟨⟨(some (.int (-2))), rfl, _, _, ⟨congrArg (fun z => some (Value.int z)) (by unfold an_handle; (repeat' split) <;> first | rfl | (exfalso; first | omega | (have kq := kz; omega))), rfl, rfl⟩, by rw [ht]; exact hP9, va_K.moved hW.alike hK9, hD9⟩, hS.F ht⟩) hS.2.2 dX8_handle_10

set_option maxHeartbeats 4000000 in
set_option maxRecDepth 100000 in
/-- is on a fresh object -/
theorem c8_is (l : Launch) (dC : Nat → ClassId) (dI : Nat → Nat → Nat) (h0 : Nat) (q : Nat → Nat) (cA : Nat → ClassId) (a1 a2 : Int32) (sz : Nat)  : Met l yX8_is wsX8_is ({ frames := 1, cells := 0, slots := 0, locals := 21 }) (va_Pc [.ref h0, .int a1, .int a2] (pz (dC, dI) [((cA 0), .object "ReflectModels$ClassModel"), ((cA 1), .object "ReflectModels$Member"), ((cA 2), .object "ReflectModels$Handle"), ((cA 3), .object "ReflectModels$Thing"), ((cA 4), .object "ReflectModels$Value")] [(h0, .inr (7, [.ref (q 0), .int 1, .ref (q 1), .int 0, .int 0, .ref (q 2), .int 0, .ref (q 3), .int 0, .ref (q 4), .int 0, .int 0, .ref (q 5), .int 0, .int 0])), ((q 0), .inl ((cA 0), 16, .inr (.inr (.inr (.inr (va_up (fun _ => none) 0 (some (q 6)))))))), ((q 1), .inl ((cA 1), 40, .inr (.inr (.inr (.inr (fun _ => none)))))), ((q 2), .inl ((cA 2), 60, .inr (.inr (.inr (.inr (fun _ => none)))))), ((q 3), .inl ((cA 3), 124, .inr (.inr (.inr (.inr (fun _ => none)))))), ((q 4), .inl ((cA 4), 3, .inr (.inr (.inr (.inr (va_up (va_up (va_up (fun _ => none) 0 (some (q 7))) 1 (some (q 8))) 2 (some (q 9)))))))), ((q 5), .inr (6, [.int 0, .long 0])), ((q 6), .inr (0, [.int 0, .null, .int 0, .null, .int 0, .int 0, .int 1, .int 1, .int 0, .int 0, .int 0, .int 0])), ((q 7), .inr (6, [.int 0, .long 0])), ((q 8), .inr (6, [.int 0, .long 0])), ((q 9), .inr (6, [.int 0, .long 0]))] sz)) (qW (dC, dI) (fun v w1 ty1 => v = some (.int (an_is a1.toInt a2.toInt)) ∧ w1 = [] ∧ ty1 = []) (va_A [(h0, .inr (7, [.ref (q 0), .int 1, .ref (q 1), .int 0, .int 0, .ref (q 2), .int 0, .ref (q 3), .int 0, .ref (q 4), .int 0, .int 0, .ref (q 5), .int 0, .int 0])), ((q 0), .inl ((cA 0), 16, .inr (.inr (.inr (.inr (va_up (fun _ => none) 0 (some (q 6)))))))), ((q 1), .inl ((cA 1), 40, .inr (.inr (.inr (.inr (fun _ => none)))))), ((q 2), .inl ((cA 2), 60, .inr (.inr (.inr (.inr (fun _ => none)))))), ((q 3), .inl ((cA 3), 124, .inr (.inr (.inr (.inr (fun _ => none)))))), ((q 4), .inl ((cA 4), 3, .inr (.inr (.inr (.inr (va_up (va_up (va_up (fun _ => none) 0 (some (q 7))) 1 (some (q 8))) 2 (some (q 9)))))))), ((q 5), .inr (6, [.int 0, .long 0])), ((q 6), .inr (0, [.int 0, .null, .int 0, .null, .int 0, .int 0, .int 1, .int 1, .int 0, .int 0, .int 0, .int 0])), ((q 7), .inr (6, [.int 0, .long 0])), ((q 8), .inr (6, [.int 0, .long 0])), ((q 9), .inr (6, [.int 0, .long 0]))] sz)) 0 0 (va_A [(h0, .inr (7, [.ref (q 0), .int 1, .ref (q 1), .int 0, .int 0, .ref (q 2), .int 0, .ref (q 3), .int 0, .ref (q 4), .int 0, .int 0, .ref (q 5), .int 0, .int 0])), ((q 0), .inl ((cA 0), 16, .inr (.inr (.inr (.inr (va_up (fun _ => none) 0 (some (q 6)))))))), ((q 1), .inl ((cA 1), 40, .inr (.inr (.inr (.inr (fun _ => none)))))), ((q 2), .inl ((cA 2), 60, .inr (.inr (.inr (.inr (fun _ => none)))))), ((q 3), .inl ((cA 3), 124, .inr (.inr (.inr (.inr (fun _ => none)))))), ((q 4), .inl ((cA 4), 3, .inr (.inr (.inr (.inr (va_up (va_up (va_up (fun _ => none) 0 (some (q 7))) 1 (some (q 8))) 2 (some (q 9)))))))), ((q 5), .inr (6, [.int 0, .long 0])), ((q 6), .inr (0, [.int 0, .null, .int 0, .null, .int 0, .int 0, .int 1, .int 1, .int 0, .int 0, .int 0, .int 0])), ((q 7), .inr (6, [.int 0, .long 0])), ((q 8), .inr (6, [.int 0, .long 0])), ((q 9), .inr (6, [.int 0, .long 0]))] sz) := by
  refine Met.ofW (cc := cX8_is) (maxL := 3) (ret := (some .int)) (by decide) rfl ?_
  intro p e s m args below meth c s₁ B hml hv
  obtain ⟨rfl, hsz, hP, hK, hD, hN⟩ := hv
  have hx := B.exec
  have hb := B.bytes
  have hr := B.returns
  have hts := atoms_spec (ws := wsX8_is) B.pre
  have hown : s.vm.findClass RX8 = some m.cls := findClass_of_methodNamed B.named
  have hlocks := B.notSynchronized
  subst hsz
  have hD := hD.self (sz := s.heap.size)
  generalize hAe : va_A [(h0, .inr (7, [.ref (q 0), .int 1, .ref (q 1), .int 0, .int 0, .ref (q 2), .int 0, .ref (q 3), .int 0, .ref (q 4), .int 0, .int 0, .ref (q 5), .int 0, .int 0])), ((q 0), .inl ((cA 0), 16, .inr (.inr (.inr (.inr (va_up (fun _ => none) 0 (some (q 6)))))))), ((q 1), .inl ((cA 1), 40, .inr (.inr (.inr (.inr (fun _ => none)))))), ((q 2), .inl ((cA 2), 60, .inr (.inr (.inr (.inr (fun _ => none)))))), ((q 3), .inl ((cA 3), 124, .inr (.inr (.inr (.inr (fun _ => none)))))), ((q 4), .inl ((cA 4), 3, .inr (.inr (.inr (.inr (va_up (va_up (va_up (fun _ => none) 0 (some (q 7))) 1 (some (q 8))) 2 (some (q 9)))))))), ((q 5), .inr (6, [.int 0, .long 0])), ((q 6), .inr (0, [.int 0, .null, .int 0, .null, .int 0, .int 0, .int 1, .int 1, .int 0, .int 0, .int 0, .int 0])), ((q 7), .inr (6, [.int 0, .long 0])), ((q 8), .inr (6, [.int 0, .long 0])), ((q 9), .inr (6, [.int 0, .long 0]))] s.heap.size = A at hD ⊢
  have hA : ∀ q : Nat, s.heap.size ≤ q → A q := fun q h => by rw [← hAe]; exact Or.inr h
  have hS : va_S A s.heap s.heap [] := va_S.rf
  have hl := lv_entry ([.ref h0, .int a1, .int a2]) (n := 3) (Nat.le_of_ble_eq_true rfl)
  rw [lg_entry_eq]
  generalize (lg_sl ([.ref h0, .int a1, .int a2]) ++ List.replicate (3 - (lg_sl ([.ref h0, .int a1, .int a2])).length) Slot.unset).toArray = ls at hl ⊢
  have hl : lv_has ls 3 [(0, .ref h0), (1, .int a1), (2, .int a2)] := hl
  refine lv_aload_n hx hb dX8_is_0 rfl (lv_at hl 0 rfl) ?_
  refine lv_iload_n hx hb dX8_is_1 rfl (lv_at hl 1 rfl) ?_
  refine clR (va_runV (As := [.int a1]) (rest := []) ⟨hx, hb, hml, hown, hts⟩ (c8_isThing l dC dI h0 q a1 _) (cwV 1 hts gX8_is_X8_isThing rfl rfl rfl (by decide +kernel) ⟨Nat.le_of_ble_eq_true rfl, Nat.le_of_ble_eq_true rfl⟩) ⟨pz_blind, va_recv hK hP (ci := 7) (q0 := 0) rfl rfl, pz_of hP hK hD hN [0] [] rfl (by decide) rfl⟩ rfl rfl hl.1 rfl (lv_room (Nat.le_of_ble_eq_true rfl)) dX8_is_2 ⟨Nat.le_of_ble_eq_true rfl, Nat.le_of_ble_eq_true rfl⟩) hS hP (fun v H locs w1 hP hS => ?_)
  obtain rfl := w1
  refine W.eq (g2 := F0 m 5 ls [.int 0]) rfl ?_
  refine lv_if_eq (tgt := 16) hx hb dX8_is_5 (by decide) (fun _ => ?_) (fun h => absurd (by decide) h)
  refine lv_bipush (v := (-2)) hx hb dX8_is_16 (by decide) ?_
  have hP9 := hP.sub (ws' := []) [] rfl
  have hD9 := hD.sub (ws' := []) [] (by decide) rfl
  have hK9 := hK.sub (tys' := []) [] rfl
  exact W.zret (v := (-2)) (ty := .int) hx hb hr rfl (fun t ht hW => ⟨⟨(some (.int (-2))), rfl, _, _, ⟨congrArg (fun z => some (Value.int z)) (by unfold an_is; (repeat' split) <;> first | rfl | (exfalso; first | omega | (have kq := kz; omega))), rfl, rfl⟩, by rw [ht]; exact hP9, va_K.moved hW.alike hK9, hD9⟩, hS.F ht⟩) hS.2.2 dX8_is_18

set_option maxHeartbeats 4000000 in
set_option maxRecDepth 100000 in
/-- get on a fresh object -/
theorem c8_get (l : Launch) (dC : Nat → ClassId) (dI : Nat → Nat → Nat) (h0 : Nat) (q : Nat → Nat) (cA : Nat → ClassId) (a1 a2 a3 : Int32) (sz : Nat)  : Met l yX8_get wsX8_get ({ frames := 1, cells := 0, slots := 0, locals := 21 }) (va_Pc [.ref h0, .int a1, .int a2, .int a3] (pz (dC, dI) [((cA 0), .object "ReflectModels$ClassModel"), ((cA 1), .object "ReflectModels$Member"), ((cA 2), .object "ReflectModels$Handle"), ((cA 3), .object "ReflectModels$Thing"), ((cA 4), .object "ReflectModels$Value")] [(h0, .inr (7, [.ref (q 0), .int 1, .ref (q 1), .int 0, .int 0, .ref (q 2), .int 0, .ref (q 3), .int 0, .ref (q 4), .int 0, .int 0, .ref (q 5), .int 0, .int 0])), ((q 0), .inl ((cA 0), 16, .inr (.inr (.inr (.inr (va_up (fun _ => none) 0 (some (q 6)))))))), ((q 1), .inl ((cA 1), 40, .inr (.inr (.inr (.inr (fun _ => none)))))), ((q 2), .inl ((cA 2), 60, .inr (.inr (.inr (.inr (fun _ => none)))))), ((q 3), .inl ((cA 3), 124, .inr (.inr (.inr (.inr (fun _ => none)))))), ((q 4), .inl ((cA 4), 3, .inr (.inr (.inr (.inr (va_up (va_up (va_up (fun _ => none) 0 (some (q 7))) 1 (some (q 8))) 2 (some (q 9)))))))), ((q 5), .inr (6, [.int 0, .long 0])), ((q 6), .inr (0, [.int 0, .null, .int 0, .null, .int 0, .int 0, .int 1, .int 1, .int 0, .int 0, .int 0, .int 0])), ((q 7), .inr (6, [.int 0, .long 0])), ((q 8), .inr (6, [.int 0, .long 0])), ((q 9), .inr (6, [.int 0, .long 0]))] sz)) (qW (dC, dI) (fun v w1 ty1 => v = some (.int (an_get a1.toInt a2.toInt a3.toInt)) ∧ w1 = [] ∧ ty1 = []) (va_A [(h0, .inr (7, [.ref (q 0), .int 1, .ref (q 1), .int 0, .int 0, .ref (q 2), .int 0, .ref (q 3), .int 0, .ref (q 4), .int 0, .int 0, .ref (q 5), .int 0, .int 0])), ((q 0), .inl ((cA 0), 16, .inr (.inr (.inr (.inr (va_up (fun _ => none) 0 (some (q 6)))))))), ((q 1), .inl ((cA 1), 40, .inr (.inr (.inr (.inr (fun _ => none)))))), ((q 2), .inl ((cA 2), 60, .inr (.inr (.inr (.inr (fun _ => none)))))), ((q 3), .inl ((cA 3), 124, .inr (.inr (.inr (.inr (fun _ => none)))))), ((q 4), .inl ((cA 4), 3, .inr (.inr (.inr (.inr (va_up (va_up (va_up (fun _ => none) 0 (some (q 7))) 1 (some (q 8))) 2 (some (q 9)))))))), ((q 5), .inr (6, [.int 0, .long 0])), ((q 6), .inr (0, [.int 0, .null, .int 0, .null, .int 0, .int 0, .int 1, .int 1, .int 0, .int 0, .int 0, .int 0])), ((q 7), .inr (6, [.int 0, .long 0])), ((q 8), .inr (6, [.int 0, .long 0])), ((q 9), .inr (6, [.int 0, .long 0]))] sz)) 0 0 (va_A [(h0, .inr (7, [.ref (q 0), .int 1, .ref (q 1), .int 0, .int 0, .ref (q 2), .int 0, .ref (q 3), .int 0, .ref (q 4), .int 0, .int 0, .ref (q 5), .int 0, .int 0])), ((q 0), .inl ((cA 0), 16, .inr (.inr (.inr (.inr (va_up (fun _ => none) 0 (some (q 6)))))))), ((q 1), .inl ((cA 1), 40, .inr (.inr (.inr (.inr (fun _ => none)))))), ((q 2), .inl ((cA 2), 60, .inr (.inr (.inr (.inr (fun _ => none)))))), ((q 3), .inl ((cA 3), 124, .inr (.inr (.inr (.inr (fun _ => none)))))), ((q 4), .inl ((cA 4), 3, .inr (.inr (.inr (.inr (va_up (va_up (va_up (fun _ => none) 0 (some (q 7))) 1 (some (q 8))) 2 (some (q 9)))))))), ((q 5), .inr (6, [.int 0, .long 0])), ((q 6), .inr (0, [.int 0, .null, .int 0, .null, .int 0, .int 0, .int 1, .int 1, .int 0, .int 0, .int 0, .int 0])), ((q 7), .inr (6, [.int 0, .long 0])), ((q 8), .inr (6, [.int 0, .long 0])), ((q 9), .inr (6, [.int 0, .long 0]))] sz) := by
  refine Met.ofW (cc := cX8_get) (maxL := 6) (ret := (some .int)) (by decide) rfl ?_
  intro p e s m args below meth c s₁ B hml hv
  obtain ⟨rfl, hsz, hP, hK, hD, hN⟩ := hv
  have hx := B.exec
  have hb := B.bytes
  have hr := B.returns
  have hts := atoms_spec (ws := wsX8_get) B.pre
  have hown : s.vm.findClass RX8 = some m.cls := findClass_of_methodNamed B.named
  have hlocks := B.notSynchronized
  subst hsz
  have hD := hD.self (sz := s.heap.size)
  generalize hAe : va_A [(h0, .inr (7, [.ref (q 0), .int 1, .ref (q 1), .int 0, .int 0, .ref (q 2), .int 0, .ref (q 3), .int 0, .ref (q 4), .int 0, .int 0, .ref (q 5), .int 0, .int 0])), ((q 0), .inl ((cA 0), 16, .inr (.inr (.inr (.inr (va_up (fun _ => none) 0 (some (q 6)))))))), ((q 1), .inl ((cA 1), 40, .inr (.inr (.inr (.inr (fun _ => none)))))), ((q 2), .inl ((cA 2), 60, .inr (.inr (.inr (.inr (fun _ => none)))))), ((q 3), .inl ((cA 3), 124, .inr (.inr (.inr (.inr (fun _ => none)))))), ((q 4), .inl ((cA 4), 3, .inr (.inr (.inr (.inr (va_up (va_up (va_up (fun _ => none) 0 (some (q 7))) 1 (some (q 8))) 2 (some (q 9)))))))), ((q 5), .inr (6, [.int 0, .long 0])), ((q 6), .inr (0, [.int 0, .null, .int 0, .null, .int 0, .int 0, .int 1, .int 1, .int 0, .int 0, .int 0, .int 0])), ((q 7), .inr (6, [.int 0, .long 0])), ((q 8), .inr (6, [.int 0, .long 0])), ((q 9), .inr (6, [.int 0, .long 0]))] s.heap.size = A at hD ⊢
  have hA : ∀ q : Nat, s.heap.size ≤ q → A q := fun q h => by rw [← hAe]; exact Or.inr h
  have hS : va_S A s.heap s.heap [] := va_S.rf
  have hl := lv_entry ([.ref h0, .int a1, .int a2, .int a3]) (n := 6) (Nat.le_of_ble_eq_true rfl)
  rw [lg_entry_eq]
  generalize (lg_sl ([.ref h0, .int a1, .int a2, .int a3]) ++ List.replicate (6 - (lg_sl ([.ref h0, .int a1, .int a2, .int a3])).length) Slot.unset).toArray = ls at hl ⊢
  have hl : lv_has ls 6 [(0, .ref h0), (1, .int a1), (2, .int a2), (3, .int a3)] := hl
  refine lv_aload_n hx hb dX8_get_0 rfl (lv_at hl 0 rfl) ?_
  refine lv_iload_n hx hb dX8_get_1 rfl (lv_at hl 1 rfl) ?_
  refine clR (va_runV (As := [.int a1]) (rest := []) ⟨hx, hb, hml, hown, hts⟩ (c8_isHandle l dC dI h0 q a1 _) (cwV 1 hts gX8_get_X8_isHandle rfl rfl rfl (by decide +kernel) ⟨Nat.le_of_ble_eq_true rfl, Nat.le_of_ble_eq_true rfl⟩) ⟨pz_blind, va_recv hK hP (ci := 7) (q0 := 0) rfl rfl, pz_of hP hK hD hN [0] [] rfl (by decide) rfl⟩ rfl rfl hl.1 rfl (lv_room (Nat.le_of_ble_eq_true rfl)) dX8_get_2 ⟨Nat.le_of_ble_eq_true rfl, Nat.le_of_ble_eq_true rfl⟩) hS hP (fun v H locs w1 hP hS => ?_)
  obtain rfl := w1
  refine W.eq (g2 := F0 m 5 ls [.int 0]) rfl ?_
  refine lv_if_eq (tgt := 16) hx hb dX8_get_5 (by decide) (fun _ => ?_) (fun h => absurd (by decide) h)
  refine lv_bipush (v := (-2)) hx hb dX8_get_16 (by decide) ?_
  have hP9 := hP.sub (ws' := []) [] rfl
  have hD9 := hD.sub (ws' := []) [] (by decide) rfl
  have hK9 := hK.sub (tys' := []) [] rfl
  exact W.zret (v := (-2)) (ty := .int) hx hb hr rfl (fun t ht hW => ⟨⟨(some (.int (-2))), rfl, _, _, ⟨congrArg (fun z => some (Value.int z)) (by unfold an_get; (repeat' split) <;> first | rfl | (exfalso; first | omega | (have kq := kz; omega))), rfl, rfl⟩, by rw [ht]; exact hP9, va_K.moved hW.alike hK9, hD9⟩, hS.F ht⟩) hS.2.2 dX8_get_18

set_option maxHeartbeats 4000000 in
set_option maxRecDepth 100000 in
/-- proxy on a fresh object -/
theorem c8_proxy (l : Launch) (dC : Nat → ClassId) (dI : Nat → Nat → Nat) (h0 : Nat) (q : Nat → Nat) (cA : Nat → ClassId) (a1 a2 : Int32) (sz : Nat)  : Met l yX8_proxy wsX8_proxy ({ frames := 1, cells := 0, slots := 0, locals := 21 }) (va_Pc [.ref h0, .int a1, .int a2] (pz (dC, dI) [((cA 0), .object "ReflectModels$ClassModel"), ((cA 1), .object "ReflectModels$Member"), ((cA 2), .object "ReflectModels$Handle"), ((cA 3), .object "ReflectModels$Thing"), ((cA 4), .object "ReflectModels$Value")] [(h0, .inr (7, [.ref (q 0), .int 1, .ref (q 1), .int 0, .int 0, .ref (q 2), .int 0, .ref (q 3), .int 0, .ref (q 4), .int 0, .int 0, .ref (q 5), .int 0, .int 0])), ((q 0), .inl ((cA 0), 16, .inr (.inr (.inr (.inr (va_up (fun _ => none) 0 (some (q 6)))))))), ((q 1), .inl ((cA 1), 40, .inr (.inr (.inr (.inr (fun _ => none)))))), ((q 2), .inl ((cA 2), 60, .inr (.inr (.inr (.inr (fun _ => none)))))), ((q 3), .inl ((cA 3), 124, .inr (.inr (.inr (.inr (fun _ => none)))))), ((q 4), .inl ((cA 4), 3, .inr (.inr (.inr (.inr (va_up (va_up (va_up (fun _ => none) 0 (some (q 7))) 1 (some (q 8))) 2 (some (q 9)))))))), ((q 5), .inr (6, [.int 0, .long 0])), ((q 6), .inr (0, [.int 0, .null, .int 0, .null, .int 0, .int 0, .int 1, .int 1, .int 0, .int 0, .int 0, .int 0])), ((q 7), .inr (6, [.int 0, .long 0])), ((q 8), .inr (6, [.int 0, .long 0])), ((q 9), .inr (6, [.int 0, .long 0]))] sz)) (qW (dC, dI) (fun v w1 ty1 => v = some (.int (an_proxy a1.toInt a2.toInt)) ∧ w1 = [] ∧ ty1 = []) (va_A [(h0, .inr (7, [.ref (q 0), .int 1, .ref (q 1), .int 0, .int 0, .ref (q 2), .int 0, .ref (q 3), .int 0, .ref (q 4), .int 0, .int 0, .ref (q 5), .int 0, .int 0])), ((q 0), .inl ((cA 0), 16, .inr (.inr (.inr (.inr (va_up (fun _ => none) 0 (some (q 6)))))))), ((q 1), .inl ((cA 1), 40, .inr (.inr (.inr (.inr (fun _ => none)))))), ((q 2), .inl ((cA 2), 60, .inr (.inr (.inr (.inr (fun _ => none)))))), ((q 3), .inl ((cA 3), 124, .inr (.inr (.inr (.inr (fun _ => none)))))), ((q 4), .inl ((cA 4), 3, .inr (.inr (.inr (.inr (va_up (va_up (va_up (fun _ => none) 0 (some (q 7))) 1 (some (q 8))) 2 (some (q 9)))))))), ((q 5), .inr (6, [.int 0, .long 0])), ((q 6), .inr (0, [.int 0, .null, .int 0, .null, .int 0, .int 0, .int 1, .int 1, .int 0, .int 0, .int 0, .int 0])), ((q 7), .inr (6, [.int 0, .long 0])), ((q 8), .inr (6, [.int 0, .long 0])), ((q 9), .inr (6, [.int 0, .long 0]))] sz)) 0 0 (va_A [(h0, .inr (7, [.ref (q 0), .int 1, .ref (q 1), .int 0, .int 0, .ref (q 2), .int 0, .ref (q 3), .int 0, .ref (q 4), .int 0, .int 0, .ref (q 5), .int 0, .int 0])), ((q 0), .inl ((cA 0), 16, .inr (.inr (.inr (.inr (va_up (fun _ => none) 0 (some (q 6)))))))), ((q 1), .inl ((cA 1), 40, .inr (.inr (.inr (.inr (fun _ => none)))))), ((q 2), .inl ((cA 2), 60, .inr (.inr (.inr (.inr (fun _ => none)))))), ((q 3), .inl ((cA 3), 124, .inr (.inr (.inr (.inr (fun _ => none)))))), ((q 4), .inl ((cA 4), 3, .inr (.inr (.inr (.inr (va_up (va_up (va_up (fun _ => none) 0 (some (q 7))) 1 (some (q 8))) 2 (some (q 9)))))))), ((q 5), .inr (6, [.int 0, .long 0])), ((q 6), .inr (0, [.int 0, .null, .int 0, .null, .int 0, .int 0, .int 1, .int 1, .int 0, .int 0, .int 0, .int 0])), ((q 7), .inr (6, [.int 0, .long 0])), ((q 8), .inr (6, [.int 0, .long 0])), ((q 9), .inr (6, [.int 0, .long 0]))] sz) := by
  refine Met.ofW (cc := cX8_proxy) (maxL := 3) (ret := (some .int)) (by decide) rfl ?_
  intro p e s m args below meth c s₁ B hml hv
  obtain ⟨rfl, hsz, hP, hK, hD, hN⟩ := hv
  have hx := B.exec
  have hb := B.bytes
  have hr := B.returns
  have hts := atoms_spec (ws := wsX8_proxy) B.pre
  have hown : s.vm.findClass RX8 = some m.cls := findClass_of_methodNamed B.named
  have hlocks := B.notSynchronized
  subst hsz
  have hD := hD.self (sz := s.heap.size)
  generalize hAe : va_A [(h0, .inr (7, [.ref (q 0), .int 1, .ref (q 1), .int 0, .int 0, .ref (q 2), .int 0, .ref (q 3), .int 0, .ref (q 4), .int 0, .int 0, .ref (q 5), .int 0, .int 0])), ((q 0), .inl ((cA 0), 16, .inr (.inr (.inr (.inr (va_up (fun _ => none) 0 (some (q 6)))))))), ((q 1), .inl ((cA 1), 40, .inr (.inr (.inr (.inr (fun _ => none)))))), ((q 2), .inl ((cA 2), 60, .inr (.inr (.inr (.inr (fun _ => none)))))), ((q 3), .inl ((cA 3), 124, .inr (.inr (.inr (.inr (fun _ => none)))))), ((q 4), .inl ((cA 4), 3, .inr (.inr (.inr (.inr (va_up (va_up (va_up (fun _ => none) 0 (some (q 7))) 1 (some (q 8))) 2 (some (q 9)))))))), ((q 5), .inr (6, [.int 0, .long 0])), ((q 6), .inr (0, [.int 0, .null, .int 0, .null, .int 0, .int 0, .int 1, .int 1, .int 0, .int 0, .int 0, .int 0])), ((q 7), .inr (6, [.int 0, .long 0])), ((q 8), .inr (6, [.int 0, .long 0])), ((q 9), .inr (6, [.int 0, .long 0]))] s.heap.size = A at hD ⊢
  have hA : ∀ q : Nat, s.heap.size ≤ q → A q := fun q h => by rw [← hAe]; exact Or.inr h
  have hS : va_S A s.heap s.heap [] := va_S.rf
  have hl := lv_entry ([.ref h0, .int a1, .int a2]) (n := 3) (Nat.le_of_ble_eq_true rfl)
  rw [lg_entry_eq]
  generalize (lg_sl ([.ref h0, .int a1, .int a2]) ++ List.replicate (3 - (lg_sl ([.ref h0, .int a1, .int a2])).length) Slot.unset).toArray = ls at hl ⊢
  have hl : lv_has ls 3 [(0, .ref h0), (1, .int a1), (2, .int a2)] := hl
  refine lv_aload_n hx hb dX8_proxy_0 rfl (lv_at hl 0 rfl) ?_
  refine lv_iload_n hx hb dX8_proxy_1 rfl (lv_at hl 1 rfl) ?_
  refine clR (va_runV (As := [.int a1]) (rest := []) ⟨hx, hb, hml, hown, hts⟩ (c8_isClass l dC dI h0 q a1 _) (cwV 1 hts gX8_proxy_X8_isClass rfl rfl rfl (by decide +kernel) ⟨Nat.le_of_ble_eq_true rfl, Nat.le_of_ble_eq_true rfl⟩) ⟨pz_blind, va_recv hK hP (ci := 7) (q0 := 0) rfl rfl, pz_of hP hK hD hN [0] [] rfl (by decide) rfl⟩ rfl rfl hl.1 rfl (lv_room (Nat.le_of_ble_eq_true rfl)) dX8_proxy_2 ⟨Nat.le_of_ble_eq_true rfl, Nat.le_of_ble_eq_true rfl⟩) hS hP (fun v H locs w2 hP hS => ?_)
  rcases w2 with ⟨rfl, rfl⟩ | ⟨rfl, u1⟩
  · refine W.eq (g2 := F0 m 5 ls [.int 1]) rfl ?_
    refine lv_if_ne (tgt := 11) hx hb dX8_proxy_5 (by decide) (fun _ => ?_) (fun h => absurd h (by decide))
    refine lv_iload_n hx hb dX8_proxy_11 rfl (lv_at hl 2 rfl) ?_
    refine lv_if_lt (tgt := 20) hx hb dX8_proxy_12 (by decide) (fun c3 => ?_) (fun c3 => ?_)
    · have ic3 : a2.toInt < 0 := il2 rfl (by decide) c3
      refine lv_bipush (v := (-3)) hx hb dX8_proxy_20 (by decide) ?_
      have hP9 := hP.sub (ws' := []) [] rfl
      have hD9 := hD.sub (ws' := []) [] (by decide) rfl
      have hK9 := hK.sub (tys' := []) [] rfl
      exact W.zret (v := (-3)) (ty := .int) hx hb hr rfl (fun t ht hW => ⟨⟨(some (.int (-3))), rfl, _, _, ⟨congrArg (fun z => some (Value.int z)) (by unfold an_proxy; (repeat' split) <;> first | rfl | (exfalso; first | omega | (have kq := kz; omega))), rfl, rfl⟩, by rw [ht]; exact hP9, va_K.moved hW.alike hK9, hD9⟩, hS.F ht⟩) hS.2.2 dX8_proxy_22
    · have ic3 : 0 ≤ a2.toInt := inl2 rfl (by decide) c3
      refine lv_iload_n hx hb dX8_proxy_15 rfl (lv_at hl 2 rfl) ?_
      refine lv_iconst (v := 3) hx hb dX8_proxy_16 (by decide) ?_
      refine lv_icmp_le (tgt := 23) hx hb dX8_proxy_17 (by decide) (fun c4 => ?_) (fun c4 => ?_)
      · have ic4 : a2.toInt ≤ 3 := ile2 rfl (by decide) c4
        refine lv_aload_n hx hb dX8_proxy_23 rfl (lv_at hl 0 rfl) ?_
        refine va_get (D := (dC, dI)) (own := RX8) (ref := "ReflectModels") (index := 11) (ci := 7) (v := .ref (q 0)) (C := RX8) (T := TX8) (N := 15) hx hb hts inX8_proxy_8 hown hK hP 0 rfl rfl 0 (by decide) (hts (.fieldLink RX8 11 "ReflectModels" "classes" "[LReflectModels$ClassModel;") (by decide +kernel)) (fun _ h9 => h9) rfl dX8_proxy_24 ?_
        refine lv_iload_n hx hb dX8_proxy_27 rfl (lv_at hl 1 rfl) ?_
        refine va_aldq hx hb hK hP 1 0 rfl rfl (vp_in_iff.mpr ⟨by decide, by decide⟩) dX8_proxy_28 ?_
        refine W.eq (g2 := F0 m 29 ls [.ref (q 6)]) rfl ?_
        refine va_getN (host := "ReflectModels") (D := (dC, dI)) (own := RX8) (ref := "ReflectModels$ClassModel") (index := 86) (ci := 0) (v := .int 0) (C := RX0) (T := TX0) (N := 12) hx hb hts inX8_proxy_0 hown hK hP 7 rfl rfl 2 (by decide) (va_Nw.use rfl (hN _ (List.mem_of_getElem? (i := 12) rfl))) (fun _ h9 => h9) rfl dX8_proxy_29 ?_
        refine lv_iconst (v := 2) hx hb dX8_proxy_32 (by decide) ?_
        refine lv_icmp_eq (tgt := 39) hx hb dX8_proxy_33 (by decide) (fun h => absurd h (by decide)) (fun _ => ?_)
        refine lv_bipush (v := (-4)) hx hb dX8_proxy_36 (by decide) ?_
        have hP9 := hP.sub (ws' := []) [] rfl
        have hD9 := hD.sub (ws' := []) [] (by decide) rfl
        have hK9 := hK.sub (tys' := []) [] rfl
        exact W.zret (v := (-4)) (ty := .int) hx hb hr rfl (fun t ht hW => ⟨⟨(some (.int (-4))), rfl, _, _, ⟨congrArg (fun z => some (Value.int z)) (by unfold an_proxy; (repeat' split) <;> first | rfl | (exfalso; first | omega | (have kq := kz; omega))), rfl, rfl⟩, by rw [ht]; exact hP9, va_K.moved hW.alike hK9, hD9⟩, hS.F ht⟩) hS.2.2 dX8_proxy_38
      · have ic4 : 3 < a2.toInt := inle2 rfl (by decide) c4
        refine lv_bipush (v := (-3)) hx hb dX8_proxy_20 (by decide) ?_
        have hP9 := hP.sub (ws' := []) [] rfl
        have hD9 := hD.sub (ws' := []) [] (by decide) rfl
        have hK9 := hK.sub (tys' := []) [] rfl
        exact W.zret (v := (-3)) (ty := .int) hx hb hr rfl (fun t ht hW => ⟨⟨(some (.int (-3))), rfl, _, _, ⟨congrArg (fun z => some (Value.int z)) (by unfold an_proxy; (repeat' split) <;> first | rfl | (exfalso; first | omega | (have kq := kz; omega))), rfl, rfl⟩, by rw [ht]; exact hP9, va_K.moved hW.alike hK9, hD9⟩, hS.F ht⟩) hS.2.2 dX8_proxy_22
  · refine W.eq (g2 := F0 m 5 ls [.int 0]) rfl ?_
    refine lv_if_ne (tgt := 11) hx hb dX8_proxy_5 (by decide) (fun h => absurd h (by decide)) (fun _ => ?_)
    refine lv_bipush (v := (-2)) hx hb dX8_proxy_8 (by decide) ?_
    have hP9 := hP.sub (ws' := []) [] rfl
    have hD9 := hD.sub (ws' := []) [] (by decide) rfl
    have hK9 := hK.sub (tys' := []) [] rfl
    exact W.zret (v := (-2)) (ty := .int) hx hb hr rfl (fun t ht hW => ⟨⟨(some (.int (-2))), rfl, _, _, ⟨congrArg (fun z => some (Value.int z)) (by unfold an_proxy; (repeat' split) <;> first | rfl | (exfalso; first | omega | (have kq := kz; omega))), rfl, rfl⟩, by rw [ht]; exact hP9, va_K.moved hW.alike hK9, hD9⟩, hS.F ht⟩) hS.2.2 dX8_proxy_10

set_option maxHeartbeats 4000000 in
set_option maxRecDepth 100000 in
/-- constant on a fresh object -/
theorem c8_constant (l : Launch) (dC : Nat → ClassId) (dI : Nat → Nat → Nat) (h0 : Nat) (q : Nat → Nat) (cA : Nat → ClassId) (a1 a2 : Int32) (sz : Nat)  : Met l yX8_constant wsX8_constant ({ frames := 1, cells := 0, slots := 0, locals := 21 }) (va_Pc [.ref h0, .int a1, .int a2] (pz (dC, dI) [((cA 0), .object "ReflectModels$ClassModel"), ((cA 1), .object "ReflectModels$Member"), ((cA 2), .object "ReflectModels$Handle"), ((cA 3), .object "ReflectModels$Thing"), ((cA 4), .object "ReflectModels$Value")] [(h0, .inr (7, [.ref (q 0), .int 1, .ref (q 1), .int 0, .int 0, .ref (q 2), .int 0, .ref (q 3), .int 0, .ref (q 4), .int 0, .int 0, .ref (q 5), .int 0, .int 0])), ((q 0), .inl ((cA 0), 16, .inr (.inr (.inr (.inr (va_up (fun _ => none) 0 (some (q 6)))))))), ((q 1), .inl ((cA 1), 40, .inr (.inr (.inr (.inr (fun _ => none)))))), ((q 2), .inl ((cA 2), 60, .inr (.inr (.inr (.inr (fun _ => none)))))), ((q 3), .inl ((cA 3), 124, .inr (.inr (.inr (.inr (fun _ => none)))))), ((q 4), .inl ((cA 4), 3, .inr (.inr (.inr (.inr (va_up (va_up (va_up (fun _ => none) 0 (some (q 7))) 1 (some (q 8))) 2 (some (q 9)))))))), ((q 5), .inr (6, [.int 0, .long 0])), ((q 6), .inr (0, [.int 0, .null, .int 0, .null, .int 0, .int 0, .int 1, .int 1, .int 0, .int 0, .int 0, .int 0])), ((q 7), .inr (6, [.int 0, .long 0])), ((q 8), .inr (6, [.int 0, .long 0])), ((q 9), .inr (6, [.int 0, .long 0]))] sz)) (qW (dC, dI) (fun v w1 ty1 => v = some (.int (an_constant a1.toInt a2.toInt)) ∧ w1 = [] ∧ ty1 = []) (va_A [(h0, .inr (7, [.ref (q 0), .int 1, .ref (q 1), .int 0, .int 0, .ref (q 2), .int 0, .ref (q 3), .int 0, .ref (q 4), .int 0, .int 0, .ref (q 5), .int 0, .int 0])), ((q 0), .inl ((cA 0), 16, .inr (.inr (.inr (.inr (va_up (fun _ => none) 0 (some (q 6)))))))), ((q 1), .inl ((cA 1), 40, .inr (.inr (.inr (.inr (fun _ => none)))))), ((q 2), .inl ((cA 2), 60, .inr (.inr (.inr (.inr (fun _ => none)))))), ((q 3), .inl ((cA 3), 124, .inr (.inr (.inr (.inr (fun _ => none)))))), ((q 4), .inl ((cA 4), 3, .inr (.inr (.inr (.inr (va_up (va_up (va_up (fun _ => none) 0 (some (q 7))) 1 (some (q 8))) 2 (some (q 9)))))))), ((q 5), .inr (6, [.int 0, .long 0])), ((q 6), .inr (0, [.int 0, .null, .int 0, .null, .int 0, .int 0, .int 1, .int 1, .int 0, .int 0, .int 0, .int 0])), ((q 7), .inr (6, [.int 0, .long 0])), ((q 8), .inr (6, [.int 0, .long 0])), ((q 9), .inr (6, [.int 0, .long 0]))] sz)) 0 0 (va_A [(h0, .inr (7, [.ref (q 0), .int 1, .ref (q 1), .int 0, .int 0, .ref (q 2), .int 0, .ref (q 3), .int 0, .ref (q 4), .int 0, .int 0, .ref (q 5), .int 0, .int 0])), ((q 0), .inl ((cA 0), 16, .inr (.inr (.inr (.inr (va_up (fun _ => none) 0 (some (q 6)))))))), ((q 1), .inl ((cA 1), 40, .inr (.inr (.inr (.inr (fun _ => none)))))), ((q 2), .inl ((cA 2), 60, .inr (.inr (.inr (.inr (fun _ => none)))))), ((q 3), .inl ((cA 3), 124, .inr (.inr (.inr (.inr (fun _ => none)))))), ((q 4), .inl ((cA 4), 3, .inr (.inr (.inr (.inr (va_up (va_up (va_up (fun _ => none) 0 (some (q 7))) 1 (some (q 8))) 2 (some (q 9)))))))), ((q 5), .inr (6, [.int 0, .long 0])), ((q 6), .inr (0, [.int 0, .null, .int 0, .null, .int 0, .int 0, .int 1, .int 1, .int 0, .int 0, .int 0, .int 0])), ((q 7), .inr (6, [.int 0, .long 0])), ((q 8), .inr (6, [.int 0, .long 0])), ((q 9), .inr (6, [.int 0, .long 0]))] sz) := by
  refine Met.ofW (cc := cX8_constant) (maxL := 5) (ret := (some .int)) (by decide) rfl ?_
  intro p e s m args below meth c s₁ B hml hv
  obtain ⟨rfl, hsz, hP, hK, hD, hN⟩ := hv
  have hx := B.exec
  have hb := B.bytes
  have hr := B.returns
  have hts := atoms_spec (ws := wsX8_constant) B.pre
  have hown : s.vm.findClass RX8 = some m.cls := findClass_of_methodNamed B.named
  have hlocks := B.notSynchronized
  subst hsz
  have hD := hD.self (sz := s.heap.size)
  generalize hAe : va_A [(h0, .inr (7, [.ref (q 0), .int 1, .ref (q 1), .int 0, .int 0, .ref (q 2), .int 0, .ref (q 3), .int 0, .ref (q 4), .int 0, .int 0, .ref (q 5), .int 0, .int 0])), ((q 0), .inl ((cA 0), 16, .inr (.inr (.inr (.inr (va_up (fun _ => none) 0 (some (q 6)))))))), ((q 1), .inl ((cA 1), 40, .inr (.inr (.inr (.inr (fun _ => none)))))), ((q 2), .inl ((cA 2), 60, .inr (.inr (.inr (.inr (fun _ => none)))))), ((q 3), .inl ((cA 3), 124, .inr (.inr (.inr (.inr (fun _ => none)))))), ((q 4), .inl ((cA 4), 3, .inr (.inr (.inr (.inr (va_up (va_up (va_up (fun _ => none) 0 (some (q 7))) 1 (some (q 8))) 2 (some (q 9)))))))), ((q 5), .inr (6, [.int 0, .long 0])), ((q 6), .inr (0, [.int 0, .null, .int 0, .null, .int 0, .int 0, .int 1, .int 1, .int 0, .int 0, .int 0, .int 0])), ((q 7), .inr (6, [.int 0, .long 0])), ((q 8), .inr (6, [.int 0, .long 0])), ((q 9), .inr (6, [.int 0, .long 0]))] s.heap.size = A at hD ⊢
  have hA : ∀ q : Nat, s.heap.size ≤ q → A q := fun q h => by rw [← hAe]; exact Or.inr h
  have hS : va_S A s.heap s.heap [] := va_S.rf
  have hl := lv_entry ([.ref h0, .int a1, .int a2]) (n := 5) (Nat.le_of_ble_eq_true rfl)
  rw [lg_entry_eq]
  generalize (lg_sl ([.ref h0, .int a1, .int a2]) ++ List.replicate (5 - (lg_sl ([.ref h0, .int a1, .int a2])).length) Slot.unset).toArray = ls at hl ⊢
  have hl : lv_has ls 5 [(0, .ref h0), (1, .int a1), (2, .int a2)] := hl
  refine lv_aload_n hx hb dX8_constant_0 rfl (lv_at hl 0 rfl) ?_
  refine lv_iload_n hx hb dX8_constant_1 rfl (lv_at hl 1 rfl) ?_
  refine clR (va_runV (As := [.int a1]) (rest := []) ⟨hx, hb, hml, hown, hts⟩ (c8_isClass l dC dI h0 q a1 _) (cwV 1 hts gX8_constant_X8_isClass rfl rfl rfl (by decide +kernel) ⟨Nat.le_of_ble_eq_true rfl, Nat.le_of_ble_eq_true rfl⟩) ⟨pz_blind, va_recv hK hP (ci := 7) (q0 := 0) rfl rfl, pz_of hP hK hD hN [0] [] rfl (by decide) rfl⟩ rfl rfl hl.1 rfl (lv_room (Nat.le_of_ble_eq_true rfl)) dX8_constant_2 ⟨Nat.le_of_ble_eq_true rfl, Nat.le_of_ble_eq_true rfl⟩) hS hP (fun v H locs w2 hP hS => ?_)
  rcases w2 with ⟨rfl, rfl⟩ | ⟨rfl, u1⟩
  · refine W.eq (g2 := F0 m 5 ls [.int 1]) rfl ?_
    refine lv_if_ne (tgt := 11) hx hb dX8_constant_5 (by decide) (fun _ => ?_) (fun h => absurd h (by decide))
    refine lv_aload_n hx hb dX8_constant_11 rfl (lv_at hl 0 rfl) ?_
    refine va_get (D := (dC, dI)) (own := RX8) (ref := "ReflectModels") (index := 11) (ci := 7) (v := .ref (q 0)) (C := RX8) (T := TX8) (N := 15) hx hb hts inX8_constant_8 hown hK hP 0 rfl rfl 0 (by decide) (hts (.fieldLink RX8 11 "ReflectModels" "classes" "[LReflectModels$ClassModel;") (by decide +kernel)) (fun _ h9 => h9) rfl dX8_constant_12 ?_
    refine lv_iload_n hx hb dX8_constant_15 rfl (lv_at hl 1 rfl) ?_
    refine va_aldq hx hb hK hP 1 0 rfl rfl (vp_in_iff.mpr ⟨by decide, by decide⟩) dX8_constant_16 ?_
    refine W.eq (g2 := F0 m 17 ls [.ref (q 6)]) rfl ?_
    refine lv_astore_n (lv' := [(3, .ref (q 6)), (0, .ref h0), (1, .int 0), (2, .int a2)]) hx hb dX8_constant_17 rfl hl (by decide) rfl (fun ls hl => ?_)
    refine lv_aload_n hx hb dX8_constant_18 rfl (lv_at hl 0 rfl) ?_
    refine va_getN (host := "ReflectModels") (D := (dC, dI)) (own := RX8) (ref := "ReflectModels$ClassModel") (index := 86) (ci := 0) (v := .int 0) (C := RX0) (T := TX0) (N := 12) hx hb hts inX8_constant_0 hown hK hP 7 rfl rfl 2 (by decide) (va_Nw.use rfl (hN _ (List.mem_of_getElem? (i := 12) rfl))) (fun _ h9 => h9) rfl dX8_constant_19 ?_
    refine lv_iconst (v := 4) hx hb dX8_constant_22 (by decide) ?_
    refine lv_icmp_eq (tgt := 29) hx hb dX8_constant_23 (by decide) (fun h => absurd h (by decide)) (fun _ => ?_)
    refine lv_bipush (v := (-4)) hx hb dX8_constant_26 (by decide) ?_
    have hP9 := hP.sub (ws' := []) [] rfl
    have hD9 := hD.sub (ws' := []) [] (by decide) rfl
    have hK9 := hK.sub (tys' := []) [] rfl
    exact W.zret (v := (-4)) (ty := .int) hx hb hr rfl (fun t ht hW => ⟨⟨(some (.int (-4))), rfl, _, _, ⟨congrArg (fun z => some (Value.int z)) (by unfold an_constant; (repeat' split) <;> first | rfl | (exfalso; first | omega | (have kq := kz; omega))), rfl, rfl⟩, by rw [ht]; exact hP9, va_K.moved hW.alike hK9, hD9⟩, hS.F ht⟩) hS.2.2 dX8_constant_28
  · refine W.eq (g2 := F0 m 5 ls [.int 0]) rfl ?_
    refine lv_if_ne (tgt := 11) hx hb dX8_constant_5 (by decide) (fun h => absurd h (by decide)) (fun _ => ?_)
    refine lv_bipush (v := (-2)) hx hb dX8_constant_8 (by decide) ?_
    have hP9 := hP.sub (ws' := []) [] rfl
    have hD9 := hD.sub (ws' := []) [] (by decide) rfl
    have hK9 := hK.sub (tys' := []) [] rfl
    exact W.zret (v := (-2)) (ty := .int) hx hb hr rfl (fun t ht hW => ⟨⟨(some (.int (-2))), rfl, _, _, ⟨congrArg (fun z => some (Value.int z)) (by unfold an_constant; (repeat' split) <;> first | rfl | (exfalso; first | omega | (have kq := kz; omega))), rfl, rfl⟩, by rw [ht]; exact hP9, va_K.moved hW.alike hK9, hD9⟩, hS.F ht⟩) hS.2.2 dX8_constant_10

set_option maxHeartbeats 4000000 in
set_option maxRecDepth 100000 in
/-- resultKind on a fresh object -/
theorem c8_resultKind (l : Launch) (dC : Nat → ClassId) (dI : Nat → Nat → Nat) (h0 : Nat) (q : Nat → Nat) (cA : Nat → ClassId) (sz : Nat)  : Met l yX8_resultKind wsX8_resultKind ({ frames := 0, cells := 0, slots := 0, locals := 0 }) (va_Pc [.ref h0] (pz (dC, dI) [((cA 0), .object "ReflectModels$ClassModel"), ((cA 1), .object "ReflectModels$Member"), ((cA 2), .object "ReflectModels$Handle"), ((cA 3), .object "ReflectModels$Thing"), ((cA 4), .object "ReflectModels$Value")] [(h0, .inr (7, [.ref (q 0), .int 1, .ref (q 1), .int 0, .int 0, .ref (q 2), .int 0, .ref (q 3), .int 0, .ref (q 4), .int 0, .int 0, .ref (q 5), .int 0, .int 0])), ((q 0), .inl ((cA 0), 16, .inr (.inr (.inr (.inr (va_up (fun _ => none) 0 (some (q 6)))))))), ((q 1), .inl ((cA 1), 40, .inr (.inr (.inr (.inr (fun _ => none)))))), ((q 2), .inl ((cA 2), 60, .inr (.inr (.inr (.inr (fun _ => none)))))), ((q 3), .inl ((cA 3), 124, .inr (.inr (.inr (.inr (fun _ => none)))))), ((q 4), .inl ((cA 4), 3, .inr (.inr (.inr (.inr (va_up (va_up (va_up (fun _ => none) 0 (some (q 7))) 1 (some (q 8))) 2 (some (q 9)))))))), ((q 5), .inr (6, [.int 0, .long 0])), ((q 6), .inr (0, [.int 0, .null, .int 0, .null, .int 0, .int 0, .int 1, .int 1, .int 0, .int 0, .int 0, .int 0])), ((q 7), .inr (6, [.int 0, .long 0])), ((q 8), .inr (6, [.int 0, .long 0])), ((q 9), .inr (6, [.int 0, .long 0]))] sz)) (qW (dC, dI) (fun v w1 ty1 => v = some (.int (an_resultKind)) ∧ w1 = [] ∧ ty1 = []) (va_A [(h0, .inr (7, [.ref (q 0), .int 1, .ref (q 1), .int 0, .int 0, .ref (q 2), .int 0, .ref (q 3), .int 0, .ref (q 4), .int 0, .int 0, .ref (q 5), .int 0, .int 0])), ((q 0), .inl ((cA 0), 16, .inr (.inr (.inr (.inr (va_up (fun _ => none) 0 (some (q 6)))))))), ((q 1), .inl ((cA 1), 40, .inr (.inr (.inr (.inr (fun _ => none)))))), ((q 2), .inl ((cA 2), 60, .inr (.inr (.inr (.inr (fun _ => none)))))), ((q 3), .inl ((cA 3), 124, .inr (.inr (.inr (.inr (fun _ => none)))))), ((q 4), .inl ((cA 4), 3, .inr (.inr (.inr (.inr (va_up (va_up (va_up (fun _ => none) 0 (some (q 7))) 1 (some (q 8))) 2 (some (q 9)))))))), ((q 5), .inr (6, [.int 0, .long 0])), ((q 6), .inr (0, [.int 0, .null, .int 0, .null, .int 0, .int 0, .int 1, .int 1, .int 0, .int 0, .int 0, .int 0])), ((q 7), .inr (6, [.int 0, .long 0])), ((q 8), .inr (6, [.int 0, .long 0])), ((q 9), .inr (6, [.int 0, .long 0]))] sz)) 0 0 (va_A [(h0, .inr (7, [.ref (q 0), .int 1, .ref (q 1), .int 0, .int 0, .ref (q 2), .int 0, .ref (q 3), .int 0, .ref (q 4), .int 0, .int 0, .ref (q 5), .int 0, .int 0])), ((q 0), .inl ((cA 0), 16, .inr (.inr (.inr (.inr (va_up (fun _ => none) 0 (some (q 6)))))))), ((q 1), .inl ((cA 1), 40, .inr (.inr (.inr (.inr (fun _ => none)))))), ((q 2), .inl ((cA 2), 60, .inr (.inr (.inr (.inr (fun _ => none)))))), ((q 3), .inl ((cA 3), 124, .inr (.inr (.inr (.inr (fun _ => none)))))), ((q 4), .inl ((cA 4), 3, .inr (.inr (.inr (.inr (va_up (va_up (va_up (fun _ => none) 0 (some (q 7))) 1 (some (q 8))) 2 (some (q 9)))))))), ((q 5), .inr (6, [.int 0, .long 0])), ((q 6), .inr (0, [.int 0, .null, .int 0, .null, .int 0, .int 0, .int 1, .int 1, .int 0, .int 0, .int 0, .int 0])), ((q 7), .inr (6, [.int 0, .long 0])), ((q 8), .inr (6, [.int 0, .long 0])), ((q 9), .inr (6, [.int 0, .long 0]))] sz) := by
  refine Met.ofW (cc := cX8_resultKind) (maxL := 1) (ret := (some .int)) (by decide) rfl ?_
  intro p e s m args below meth c s₁ B hml hv
  obtain ⟨rfl, hsz, hP, hK, hD, hN⟩ := hv
  have hx := B.exec
  have hb := B.bytes
  have hr := B.returns
  have hts := atoms_spec (ws := wsX8_resultKind) B.pre
  have hown : s.vm.findClass RX8 = some m.cls := findClass_of_methodNamed B.named
  have hlocks := B.notSynchronized
  subst hsz
  have hD := hD.self (sz := s.heap.size)
  generalize hAe : va_A [(h0, .inr (7, [.ref (q 0), .int 1, .ref (q 1), .int 0, .int 0, .ref (q 2), .int 0, .ref (q 3), .int 0, .ref (q 4), .int 0, .int 0, .ref (q 5), .int 0, .int 0])), ((q 0), .inl ((cA 0), 16, .inr (.inr (.inr (.inr (va_up (fun _ => none) 0 (some (q 6)))))))), ((q 1), .inl ((cA 1), 40, .inr (.inr (.inr (.inr (fun _ => none)))))), ((q 2), .inl ((cA 2), 60, .inr (.inr (.inr (.inr (fun _ => none)))))), ((q 3), .inl ((cA 3), 124, .inr (.inr (.inr (.inr (fun _ => none)))))), ((q 4), .inl ((cA 4), 3, .inr (.inr (.inr (.inr (va_up (va_up (va_up (fun _ => none) 0 (some (q 7))) 1 (some (q 8))) 2 (some (q 9)))))))), ((q 5), .inr (6, [.int 0, .long 0])), ((q 6), .inr (0, [.int 0, .null, .int 0, .null, .int 0, .int 0, .int 1, .int 1, .int 0, .int 0, .int 0, .int 0])), ((q 7), .inr (6, [.int 0, .long 0])), ((q 8), .inr (6, [.int 0, .long 0])), ((q 9), .inr (6, [.int 0, .long 0]))] s.heap.size = A at hD ⊢
  have hA : ∀ q : Nat, s.heap.size ≤ q → A q := fun q h => by rw [← hAe]; exact Or.inr h
  have hS : va_S A s.heap s.heap [] := va_S.rf
  have hl := lv_entry ([.ref h0]) (n := 1) (Nat.le_of_ble_eq_true rfl)
  rw [lg_entry_eq]
  generalize (lg_sl ([.ref h0]) ++ List.replicate (1 - (lg_sl ([.ref h0])).length) Slot.unset).toArray = ls at hl ⊢
  have hl : lv_has ls 1 [(0, .ref h0)] := hl
  refine lv_aload_n hx hb dX8_resultKind_0 rfl (lv_at hl 0 rfl) ?_
  refine va_get (D := (dC, dI)) (own := RX8) (ref := "ReflectModels") (index := 62) (ci := 7) (v := .ref (q 5)) (C := RX8) (T := TX8) (N := 15) hx hb hts inX8_resultKind_8 hown hK hP 0 rfl rfl 12 (by decide) (hts (.fieldLink RX8 62 "ReflectModels" "outcome" "LReflectModels$Value;") (by decide +kernel)) (fun _ h9 => h9) rfl dX8_resultKind_1 ?_
  refine va_getN (host := "ReflectModels") (D := (dC, dI)) (own := RX8) (ref := "ReflectModels$Value") (index := 258) (ci := 6) (v := .int 0) (C := RX7) (T := TX7) (N := 2) hx hb hts inX8_resultKind_7 hown hK hP 6 rfl rfl 0 (by decide) (va_Nw.use rfl (hN _ (List.mem_of_getElem? (i := 6) rfl))) (fun _ h9 => h9) rfl dX8_resultKind_4 ?_
  have hP9 := hP.sub (ws' := []) [] rfl
  have hD9 := hD.sub (ws' := []) [] (by decide) rfl
  have hK9 := hK.sub (tys' := []) [] rfl
  exact W.zret (v := 0) (ty := .int) hx hb hr rfl (fun t ht hW => ⟨⟨(some (.int 0)), rfl, _, _, ⟨congrArg (fun z => some (Value.int z)) (by unfold an_resultKind; (repeat' split) <;> first | rfl | (exfalso; first | omega | (have kq := kz; omega))), rfl, rfl⟩, by rw [ht]; exact hP9, va_K.moved hW.alike hK9, hD9⟩, hS.F ht⟩) hS.2.2 dX8_resultKind_7

set_option maxHeartbeats 4000000 in
set_option maxRecDepth 100000 in
/-- result on a fresh object -/
theorem c8_result (l : Launch) (dC : Nat → ClassId) (dI : Nat → Nat → Nat) (h0 : Nat) (q : Nat → Nat) (cA : Nat → ClassId) (sz : Nat)  : Met l yX8_result wsX8_result ({ frames := 0, cells := 0, slots := 0, locals := 0 }) (va_Pc [.ref h0] (pz (dC, dI) [((cA 0), .object "ReflectModels$ClassModel"), ((cA 1), .object "ReflectModels$Member"), ((cA 2), .object "ReflectModels$Handle"), ((cA 3), .object "ReflectModels$Thing"), ((cA 4), .object "ReflectModels$Value")] [(h0, .inr (7, [.ref (q 0), .int 1, .ref (q 1), .int 0, .int 0, .ref (q 2), .int 0, .ref (q 3), .int 0, .ref (q 4), .int 0, .int 0, .ref (q 5), .int 0, .int 0])), ((q 0), .inl ((cA 0), 16, .inr (.inr (.inr (.inr (va_up (fun _ => none) 0 (some (q 6)))))))), ((q 1), .inl ((cA 1), 40, .inr (.inr (.inr (.inr (fun _ => none)))))), ((q 2), .inl ((cA 2), 60, .inr (.inr (.inr (.inr (fun _ => none)))))), ((q 3), .inl ((cA 3), 124, .inr (.inr (.inr (.inr (fun _ => none)))))), ((q 4), .inl ((cA 4), 3, .inr (.inr (.inr (.inr (va_up (va_up (va_up (fun _ => none) 0 (some (q 7))) 1 (some (q 8))) 2 (some (q 9)))))))), ((q 5), .inr (6, [.int 0, .long 0])), ((q 6), .inr (0, [.int 0, .null, .int 0, .null, .int 0, .int 0, .int 1, .int 1, .int 0, .int 0, .int 0, .int 0])), ((q 7), .inr (6, [.int 0, .long 0])), ((q 8), .inr (6, [.int 0, .long 0])), ((q 9), .inr (6, [.int 0, .long 0]))] sz)) (qW (dC, dI) (fun v w1 ty1 => v = some (.long (an_result)) ∧ w1 = [] ∧ ty1 = []) (va_A [(h0, .inr (7, [.ref (q 0), .int 1, .ref (q 1), .int 0, .int 0, .ref (q 2), .int 0, .ref (q 3), .int 0, .ref (q 4), .int 0, .int 0, .ref (q 5), .int 0, .int 0])), ((q 0), .inl ((cA 0), 16, .inr (.inr (.inr (.inr (va_up (fun _ => none) 0 (some (q 6)))))))), ((q 1), .inl ((cA 1), 40, .inr (.inr (.inr (.inr (fun _ => none)))))), ((q 2), .inl ((cA 2), 60, .inr (.inr (.inr (.inr (fun _ => none)))))), ((q 3), .inl ((cA 3), 124, .inr (.inr (.inr (.inr (fun _ => none)))))), ((q 4), .inl ((cA 4), 3, .inr (.inr (.inr (.inr (va_up (va_up (va_up (fun _ => none) 0 (some (q 7))) 1 (some (q 8))) 2 (some (q 9)))))))), ((q 5), .inr (6, [.int 0, .long 0])), ((q 6), .inr (0, [.int 0, .null, .int 0, .null, .int 0, .int 0, .int 1, .int 1, .int 0, .int 0, .int 0, .int 0])), ((q 7), .inr (6, [.int 0, .long 0])), ((q 8), .inr (6, [.int 0, .long 0])), ((q 9), .inr (6, [.int 0, .long 0]))] sz)) 0 0 (va_A [(h0, .inr (7, [.ref (q 0), .int 1, .ref (q 1), .int 0, .int 0, .ref (q 2), .int 0, .ref (q 3), .int 0, .ref (q 4), .int 0, .int 0, .ref (q 5), .int 0, .int 0])), ((q 0), .inl ((cA 0), 16, .inr (.inr (.inr (.inr (va_up (fun _ => none) 0 (some (q 6)))))))), ((q 1), .inl ((cA 1), 40, .inr (.inr (.inr (.inr (fun _ => none)))))), ((q 2), .inl ((cA 2), 60, .inr (.inr (.inr (.inr (fun _ => none)))))), ((q 3), .inl ((cA 3), 124, .inr (.inr (.inr (.inr (fun _ => none)))))), ((q 4), .inl ((cA 4), 3, .inr (.inr (.inr (.inr (va_up (va_up (va_up (fun _ => none) 0 (some (q 7))) 1 (some (q 8))) 2 (some (q 9)))))))), ((q 5), .inr (6, [.int 0, .long 0])), ((q 6), .inr (0, [.int 0, .null, .int 0, .null, .int 0, .int 0, .int 1, .int 1, .int 0, .int 0, .int 0, .int 0])), ((q 7), .inr (6, [.int 0, .long 0])), ((q 8), .inr (6, [.int 0, .long 0])), ((q 9), .inr (6, [.int 0, .long 0]))] sz) := by
  refine Met.ofW (cc := cX8_result) (maxL := 1) (ret := (some .long)) (by decide) rfl ?_
  intro p e s m args below meth c s₁ B hml hv
  obtain ⟨rfl, hsz, hP, hK, hD, hN⟩ := hv
  have hx := B.exec
  have hb := B.bytes
  have hr := B.returns
  have hts := atoms_spec (ws := wsX8_result) B.pre
  have hown : s.vm.findClass RX8 = some m.cls := findClass_of_methodNamed B.named
  have hlocks := B.notSynchronized
  subst hsz
  have hD := hD.self (sz := s.heap.size)
  generalize hAe : va_A [(h0, .inr (7, [.ref (q 0), .int 1, .ref (q 1), .int 0, .int 0, .ref (q 2), .int 0, .ref (q 3), .int 0, .ref (q 4), .int 0, .int 0, .ref (q 5), .int 0, .int 0])), ((q 0), .inl ((cA 0), 16, .inr (.inr (.inr (.inr (va_up (fun _ => none) 0 (some (q 6)))))))), ((q 1), .inl ((cA 1), 40, .inr (.inr (.inr (.inr (fun _ => none)))))), ((q 2), .inl ((cA 2), 60, .inr (.inr (.inr (.inr (fun _ => none)))))), ((q 3), .inl ((cA 3), 124, .inr (.inr (.inr (.inr (fun _ => none)))))), ((q 4), .inl ((cA 4), 3, .inr (.inr (.inr (.inr (va_up (va_up (va_up (fun _ => none) 0 (some (q 7))) 1 (some (q 8))) 2 (some (q 9)))))))), ((q 5), .inr (6, [.int 0, .long 0])), ((q 6), .inr (0, [.int 0, .null, .int 0, .null, .int 0, .int 0, .int 1, .int 1, .int 0, .int 0, .int 0, .int 0])), ((q 7), .inr (6, [.int 0, .long 0])), ((q 8), .inr (6, [.int 0, .long 0])), ((q 9), .inr (6, [.int 0, .long 0]))] s.heap.size = A at hD ⊢
  have hA : ∀ q : Nat, s.heap.size ≤ q → A q := fun q h => by rw [← hAe]; exact Or.inr h
  have hS : va_S A s.heap s.heap [] := va_S.rf
  have hl := lv_entry ([.ref h0]) (n := 1) (Nat.le_of_ble_eq_true rfl)
  rw [lg_entry_eq]
  generalize (lg_sl ([.ref h0]) ++ List.replicate (1 - (lg_sl ([.ref h0])).length) Slot.unset).toArray = ls at hl ⊢
  have hl : lv_has ls 1 [(0, .ref h0)] := hl
  refine lv_aload_n hx hb dX8_result_0 rfl (lv_at hl 0 rfl) ?_
  refine va_get (D := (dC, dI)) (own := RX8) (ref := "ReflectModels") (index := 62) (ci := 7) (v := .ref (q 5)) (C := RX8) (T := TX8) (N := 15) hx hb hts inX8_result_8 hown hK hP 0 rfl rfl 12 (by decide) (hts (.fieldLink RX8 62 "ReflectModels" "outcome" "LReflectModels$Value;") (by decide +kernel)) (fun _ h9 => h9) rfl dX8_result_1 ?_
  refine va_getN (host := "ReflectModels") (D := (dC, dI)) (own := RX8) (ref := "ReflectModels$Value") (index := 261) (ci := 6) (v := .long 0) (C := RX7) (T := TX7) (N := 2) hx hb hts inX8_result_7 hown hK hP 6 rfl rfl 1 (by decide) (va_Nw.use rfl (hN _ (List.mem_of_getElem? (i := 7) rfl))) (fun _ h9 => h9) rfl dX8_result_4 ?_
  have hP9 := hP.sub (ws' := []) [] rfl
  have hD9 := hD.sub (ws' := []) [] (by decide) rfl
  have hK9 := hK.sub (tys' := []) [] rfl
  exact W.lret (v := 0) hx hb hr (fun t ht hW => ⟨⟨(some (.long 0)), rfl, _, _, ⟨congrArg (fun z => some (Value.long z)) (by unfold an_result; (repeat' split) <;> first | rfl | (exfalso; first | omega | (have kq := kz; omega))), rfl, rfl⟩, by rw [ht]; exact hP9, va_K.moved hW.alike hK9, hD9⟩, hS.F ht⟩) hS.2.2 dX8_result_7

set_option maxHeartbeats 4000000 in
set_option maxRecDepth 100000 in
/-- cause on a fresh object -/
theorem c8_cause (l : Launch) (dC : Nat → ClassId) (dI : Nat → Nat → Nat) (h0 : Nat) (q : Nat → Nat) (cA : Nat → ClassId) (sz : Nat)  : Met l yX8_cause wsX8_cause ({ frames := 0, cells := 0, slots := 0, locals := 0 }) (va_Pc [.ref h0] (pz (dC, dI) [((cA 0), .object "ReflectModels$ClassModel"), ((cA 1), .object "ReflectModels$Member"), ((cA 2), .object "ReflectModels$Handle"), ((cA 3), .object "ReflectModels$Thing"), ((cA 4), .object "ReflectModels$Value")] [(h0, .inr (7, [.ref (q 0), .int 1, .ref (q 1), .int 0, .int 0, .ref (q 2), .int 0, .ref (q 3), .int 0, .ref (q 4), .int 0, .int 0, .ref (q 5), .int 0, .int 0])), ((q 0), .inl ((cA 0), 16, .inr (.inr (.inr (.inr (va_up (fun _ => none) 0 (some (q 6)))))))), ((q 1), .inl ((cA 1), 40, .inr (.inr (.inr (.inr (fun _ => none)))))), ((q 2), .inl ((cA 2), 60, .inr (.inr (.inr (.inr (fun _ => none)))))), ((q 3), .inl ((cA 3), 124, .inr (.inr (.inr (.inr (fun _ => none)))))), ((q 4), .inl ((cA 4), 3, .inr (.inr (.inr (.inr (va_up (va_up (va_up (fun _ => none) 0 (some (q 7))) 1 (some (q 8))) 2 (some (q 9)))))))), ((q 5), .inr (6, [.int 0, .long 0])), ((q 6), .inr (0, [.int 0, .null, .int 0, .null, .int 0, .int 0, .int 1, .int 1, .int 0, .int 0, .int 0, .int 0])), ((q 7), .inr (6, [.int 0, .long 0])), ((q 8), .inr (6, [.int 0, .long 0])), ((q 9), .inr (6, [.int 0, .long 0]))] sz)) (qW (dC, dI) (fun v w1 ty1 => v = some (.int (an_cause)) ∧ w1 = [] ∧ ty1 = []) (va_A [(h0, .inr (7, [.ref (q 0), .int 1, .ref (q 1), .int 0, .int 0, .ref (q 2), .int 0, .ref (q 3), .int 0, .ref (q 4), .int 0, .int 0, .ref (q 5), .int 0, .int 0])), ((q 0), .inl ((cA 0), 16, .inr (.inr (.inr (.inr (va_up (fun _ => none) 0 (some (q 6)))))))), ((q 1), .inl ((cA 1), 40, .inr (.inr (.inr (.inr (fun _ => none)))))), ((q 2), .inl ((cA 2), 60, .inr (.inr (.inr (.inr (fun _ => none)))))), ((q 3), .inl ((cA 3), 124, .inr (.inr (.inr (.inr (fun _ => none)))))), ((q 4), .inl ((cA 4), 3, .inr (.inr (.inr (.inr (va_up (va_up (va_up (fun _ => none) 0 (some (q 7))) 1 (some (q 8))) 2 (some (q 9)))))))), ((q 5), .inr (6, [.int 0, .long 0])), ((q 6), .inr (0, [.int 0, .null, .int 0, .null, .int 0, .int 0, .int 1, .int 1, .int 0, .int 0, .int 0, .int 0])), ((q 7), .inr (6, [.int 0, .long 0])), ((q 8), .inr (6, [.int 0, .long 0])), ((q 9), .inr (6, [.int 0, .long 0]))] sz)) 0 0 (va_A [(h0, .inr (7, [.ref (q 0), .int 1, .ref (q 1), .int 0, .int 0, .ref (q 2), .int 0, .ref (q 3), .int 0, .ref (q 4), .int 0, .int 0, .ref (q 5), .int 0, .int 0])), ((q 0), .inl ((cA 0), 16, .inr (.inr (.inr (.inr (va_up (fun _ => none) 0 (some (q 6)))))))), ((q 1), .inl ((cA 1), 40, .inr (.inr (.inr (.inr (fun _ => none)))))), ((q 2), .inl ((cA 2), 60, .inr (.inr (.inr (.inr (fun _ => none)))))), ((q 3), .inl ((cA 3), 124, .inr (.inr (.inr (.inr (fun _ => none)))))), ((q 4), .inl ((cA 4), 3, .inr (.inr (.inr (.inr (va_up (va_up (va_up (fun _ => none) 0 (some (q 7))) 1 (some (q 8))) 2 (some (q 9)))))))), ((q 5), .inr (6, [.int 0, .long 0])), ((q 6), .inr (0, [.int 0, .null, .int 0, .null, .int 0, .int 0, .int 1, .int 1, .int 0, .int 0, .int 0, .int 0])), ((q 7), .inr (6, [.int 0, .long 0])), ((q 8), .inr (6, [.int 0, .long 0])), ((q 9), .inr (6, [.int 0, .long 0]))] sz) := by
  refine Met.ofW (cc := cX8_cause) (maxL := 1) (ret := (some .int)) (by decide) rfl ?_
  intro p e s m args below meth c s₁ B hml hv
  obtain ⟨rfl, hsz, hP, hK, hD, hN⟩ := hv
  have hx := B.exec
  have hb := B.bytes
  have hr := B.returns
  have hts := atoms_spec (ws := wsX8_cause) B.pre
  have hown : s.vm.findClass RX8 = some m.cls := findClass_of_methodNamed B.named
  have hlocks := B.notSynchronized
  subst hsz
  have hD := hD.self (sz := s.heap.size)
  generalize hAe : va_A [(h0, .inr (7, [.ref (q 0), .int 1, .ref (q 1), .int 0, .int 0, .ref (q 2), .int 0, .ref (q 3), .int 0, .ref (q 4), .int 0, .int 0, .ref (q 5), .int 0, .int 0])), ((q 0), .inl ((cA 0), 16, .inr (.inr (.inr (.inr (va_up (fun _ => none) 0 (some (q 6)))))))), ((q 1), .inl ((cA 1), 40, .inr (.inr (.inr (.inr (fun _ => none)))))), ((q 2), .inl ((cA 2), 60, .inr (.inr (.inr (.inr (fun _ => none)))))), ((q 3), .inl ((cA 3), 124, .inr (.inr (.inr (.inr (fun _ => none)))))), ((q 4), .inl ((cA 4), 3, .inr (.inr (.inr (.inr (va_up (va_up (va_up (fun _ => none) 0 (some (q 7))) 1 (some (q 8))) 2 (some (q 9)))))))), ((q 5), .inr (6, [.int 0, .long 0])), ((q 6), .inr (0, [.int 0, .null, .int 0, .null, .int 0, .int 0, .int 1, .int 1, .int 0, .int 0, .int 0, .int 0])), ((q 7), .inr (6, [.int 0, .long 0])), ((q 8), .inr (6, [.int 0, .long 0])), ((q 9), .inr (6, [.int 0, .long 0]))] s.heap.size = A at hD ⊢
  have hA : ∀ q : Nat, s.heap.size ≤ q → A q := fun q h => by rw [← hAe]; exact Or.inr h
  have hS : va_S A s.heap s.heap [] := va_S.rf
  have hl := lv_entry ([.ref h0]) (n := 1) (Nat.le_of_ble_eq_true rfl)
  rw [lg_entry_eq]
  generalize (lg_sl ([.ref h0]) ++ List.replicate (1 - (lg_sl ([.ref h0])).length) Slot.unset).toArray = ls at hl ⊢
  have hl : lv_has ls 1 [(0, .ref h0)] := hl
  refine lv_aload_n hx hb dX8_cause_0 rfl (lv_at hl 0 rfl) ?_
  refine va_get (D := (dC, dI)) (own := RX8) (ref := "ReflectModels") (index := 69) (ci := 7) (v := .int 0) (C := RX8) (T := TX8) (N := 15) hx hb hts inX8_cause_8 hown hK hP 0 rfl rfl 14 (by decide) (hts (.fieldLink RX8 69 "ReflectModels" "latestCause" "I") (by decide +kernel)) (fun _ h9 => h9) rfl dX8_cause_1 ?_
  have hP9 := hP.sub (ws' := []) [] rfl
  have hD9 := hD.sub (ws' := []) [] (by decide) rfl
  have hK9 := hK.sub (tys' := []) [] rfl
  exact W.zret (v := 0) (ty := .int) hx hb hr rfl (fun t ht hW => ⟨⟨(some (.int 0)), rfl, _, _, ⟨congrArg (fun z => some (Value.int z)) (by unfold an_cause; (repeat' split) <;> first | rfl | (exfalso; first | omega | (have kq := kz; omega))), rfl, rfl⟩, by rw [ht]; exact hP9, va_K.moved hW.alike hK9, hD9⟩, hS.F ht⟩) hS.2.2 dX8_cause_4

set_option maxHeartbeats 4000000 in
set_option maxRecDepth 100000 in
/-- about on a fresh object -/
theorem c8_about (l : Launch) (dC : Nat → ClassId) (dI : Nat → Nat → Nat) (h0 : Nat) (q : Nat → Nat) (cA : Nat → ClassId) (a1 a2 : Int32) (sz : Nat)  : Met l yX8_about wsX8_about ({ frames := 1, cells := 0, slots := 0, locals := 21 }) (va_Pc [.ref h0, .int a1, .int a2] (pz (dC, dI) [((cA 0), .object "ReflectModels$ClassModel"), ((cA 1), .object "ReflectModels$Member"), ((cA 2), .object "ReflectModels$Handle"), ((cA 3), .object "ReflectModels$Thing"), ((cA 4), .object "ReflectModels$Value")] [(h0, .inr (7, [.ref (q 0), .int 1, .ref (q 1), .int 0, .int 0, .ref (q 2), .int 0, .ref (q 3), .int 0, .ref (q 4), .int 0, .int 0, .ref (q 5), .int 0, .int 0])), ((q 0), .inl ((cA 0), 16, .inr (.inr (.inr (.inr (va_up (fun _ => none) 0 (some (q 6)))))))), ((q 1), .inl ((cA 1), 40, .inr (.inr (.inr (.inr (fun _ => none)))))), ((q 2), .inl ((cA 2), 60, .inr (.inr (.inr (.inr (fun _ => none)))))), ((q 3), .inl ((cA 3), 124, .inr (.inr (.inr (.inr (fun _ => none)))))), ((q 4), .inl ((cA 4), 3, .inr (.inr (.inr (.inr (va_up (va_up (va_up (fun _ => none) 0 (some (q 7))) 1 (some (q 8))) 2 (some (q 9)))))))), ((q 5), .inr (6, [.int 0, .long 0])), ((q 6), .inr (0, [.int 0, .null, .int 0, .null, .int 0, .int 0, .int 1, .int 1, .int 0, .int 0, .int 0, .int 0])), ((q 7), .inr (6, [.int 0, .long 0])), ((q 8), .inr (6, [.int 0, .long 0])), ((q 9), .inr (6, [.int 0, .long 0]))] sz)) (qW (dC, dI) (fun v w1 ty1 => v = some (.int (an_about a1.toInt a2.toInt)) ∧ w1 = [] ∧ ty1 = []) (va_A [(h0, .inr (7, [.ref (q 0), .int 1, .ref (q 1), .int 0, .int 0, .ref (q 2), .int 0, .ref (q 3), .int 0, .ref (q 4), .int 0, .int 0, .ref (q 5), .int 0, .int 0])), ((q 0), .inl ((cA 0), 16, .inr (.inr (.inr (.inr (va_up (fun _ => none) 0 (some (q 6)))))))), ((q 1), .inl ((cA 1), 40, .inr (.inr (.inr (.inr (fun _ => none)))))), ((q 2), .inl ((cA 2), 60, .inr (.inr (.inr (.inr (fun _ => none)))))), ((q 3), .inl ((cA 3), 124, .inr (.inr (.inr (.inr (fun _ => none)))))), ((q 4), .inl ((cA 4), 3, .inr (.inr (.inr (.inr (va_up (va_up (va_up (fun _ => none) 0 (some (q 7))) 1 (some (q 8))) 2 (some (q 9)))))))), ((q 5), .inr (6, [.int 0, .long 0])), ((q 6), .inr (0, [.int 0, .null, .int 0, .null, .int 0, .int 0, .int 1, .int 1, .int 0, .int 0, .int 0, .int 0])), ((q 7), .inr (6, [.int 0, .long 0])), ((q 8), .inr (6, [.int 0, .long 0])), ((q 9), .inr (6, [.int 0, .long 0]))] sz)) 0 0 (va_A [(h0, .inr (7, [.ref (q 0), .int 1, .ref (q 1), .int 0, .int 0, .ref (q 2), .int 0, .ref (q 3), .int 0, .ref (q 4), .int 0, .int 0, .ref (q 5), .int 0, .int 0])), ((q 0), .inl ((cA 0), 16, .inr (.inr (.inr (.inr (va_up (fun _ => none) 0 (some (q 6)))))))), ((q 1), .inl ((cA 1), 40, .inr (.inr (.inr (.inr (fun _ => none)))))), ((q 2), .inl ((cA 2), 60, .inr (.inr (.inr (.inr (fun _ => none)))))), ((q 3), .inl ((cA 3), 124, .inr (.inr (.inr (.inr (fun _ => none)))))), ((q 4), .inl ((cA 4), 3, .inr (.inr (.inr (.inr (va_up (va_up (va_up (fun _ => none) 0 (some (q 7))) 1 (some (q 8))) 2 (some (q 9)))))))), ((q 5), .inr (6, [.int 0, .long 0])), ((q 6), .inr (0, [.int 0, .null, .int 0, .null, .int 0, .int 0, .int 1, .int 1, .int 0, .int 0, .int 0, .int 0])), ((q 7), .inr (6, [.int 0, .long 0])), ((q 8), .inr (6, [.int 0, .long 0])), ((q 9), .inr (6, [.int 0, .long 0]))] sz) := by
  refine Met.ofW (cc := cX8_about) (maxL := 4) (ret := (some .int)) (by decide) rfl ?_
  intro p e s m args below meth c s₁ B hml hv
  obtain ⟨rfl, hsz, hP, hK, hD, hN⟩ := hv
  have hx := B.exec
  have hb := B.bytes
  have hr := B.returns
  have hts := atoms_spec (ws := wsX8_about) B.pre
  have hown : s.vm.findClass RX8 = some m.cls := findClass_of_methodNamed B.named
  have hlocks := B.notSynchronized
  subst hsz
  have hD := hD.self (sz := s.heap.size)
  generalize hAe : va_A [(h0, .inr (7, [.ref (q 0), .int 1, .ref (q 1), .int 0, .int 0, .ref (q 2), .int 0, .ref (q 3), .int 0, .ref (q 4), .int 0, .int 0, .ref (q 5), .int 0, .int 0])), ((q 0), .inl ((cA 0), 16, .inr (.inr (.inr (.inr (va_up (fun _ => none) 0 (some (q 6)))))))), ((q 1), .inl ((cA 1), 40, .inr (.inr (.inr (.inr (fun _ => none)))))), ((q 2), .inl ((cA 2), 60, .inr (.inr (.inr (.inr (fun _ => none)))))), ((q 3), .inl ((cA 3), 124, .inr (.inr (.inr (.inr (fun _ => none)))))), ((q 4), .inl ((cA 4), 3, .inr (.inr (.inr (.inr (va_up (va_up (va_up (fun _ => none) 0 (some (q 7))) 1 (some (q 8))) 2 (some (q 9)))))))), ((q 5), .inr (6, [.int 0, .long 0])), ((q 6), .inr (0, [.int 0, .null, .int 0, .null, .int 0, .int 0, .int 1, .int 1, .int 0, .int 0, .int 0, .int 0])), ((q 7), .inr (6, [.int 0, .long 0])), ((q 8), .inr (6, [.int 0, .long 0])), ((q 9), .inr (6, [.int 0, .long 0]))] s.heap.size = A at hD ⊢
  have hA : ∀ q : Nat, s.heap.size ≤ q → A q := fun q h => by rw [← hAe]; exact Or.inr h
  have hS : va_S A s.heap s.heap [] := va_S.rf
  have hl := lv_entry ([.ref h0, .int a1, .int a2]) (n := 4) (Nat.le_of_ble_eq_true rfl)
  rw [lg_entry_eq]
  generalize (lg_sl ([.ref h0, .int a1, .int a2]) ++ List.replicate (4 - (lg_sl ([.ref h0, .int a1, .int a2])).length) Slot.unset).toArray = ls at hl ⊢
  have hl : lv_has ls 4 [(0, .ref h0), (1, .int a1), (2, .int a2)] := hl
  refine lv_aload_n hx hb dX8_about_0 rfl (lv_at hl 0 rfl) ?_
  refine lv_iload_n hx hb dX8_about_1 rfl (lv_at hl 1 rfl) ?_
  refine clR (va_runV (As := [.int a1]) (rest := []) ⟨hx, hb, hml, hown, hts⟩ (c8_isClass l dC dI h0 q a1 _) (cwV 1 hts gX8_about_X8_isClass rfl rfl rfl (by decide +kernel) ⟨Nat.le_of_ble_eq_true rfl, Nat.le_of_ble_eq_true rfl⟩) ⟨pz_blind, va_recv hK hP (ci := 7) (q0 := 0) rfl rfl, pz_of hP hK hD hN [0] [] rfl (by decide) rfl⟩ rfl rfl hl.1 rfl (lv_room (Nat.le_of_ble_eq_true rfl)) dX8_about_2 ⟨Nat.le_of_ble_eq_true rfl, Nat.le_of_ble_eq_true rfl⟩) hS hP (fun v H locs w2 hP hS => ?_)
  rcases w2 with ⟨rfl, rfl⟩ | ⟨rfl, u1⟩
  · refine W.eq (g2 := F0 m 5 ls [.int 1]) rfl ?_
    refine lv_if_ne (tgt := 11) hx hb dX8_about_5 (by decide) (fun _ => ?_) (fun h => absurd h (by decide))
    refine lv_aload_n hx hb dX8_about_11 rfl (lv_at hl 0 rfl) ?_
    refine va_get (D := (dC, dI)) (own := RX8) (ref := "ReflectModels") (index := 11) (ci := 7) (v := .ref (q 0)) (C := RX8) (T := TX8) (N := 15) hx hb hts inX8_about_8 hown hK hP 0 rfl rfl 0 (by decide) (hts (.fieldLink RX8 11 "ReflectModels" "classes" "[LReflectModels$ClassModel;") (by decide +kernel)) (fun _ h9 => h9) rfl dX8_about_12 ?_
    refine lv_iload_n hx hb dX8_about_15 rfl (lv_at hl 1 rfl) ?_
    refine va_aldq hx hb hK hP 1 0 rfl rfl (vp_in_iff.mpr ⟨by decide, by decide⟩) dX8_about_16 ?_
    refine W.eq (g2 := F0 m 17 ls [.ref (q 6)]) rfl ?_
    refine lv_astore_n (lv' := [(3, .ref (q 6)), (0, .ref h0), (1, .int 0), (2, .int a2)]) hx hb dX8_about_17 rfl hl (by decide) rfl (fun ls hl => ?_)
    refine lv_iload_n hx hb dX8_about_18 rfl (lv_at hl 3 rfl) ?_
    by_cases h3 : a2.toInt < 0 ∨ 4 < a2.toInt
    · refine lv_tableOut (tgt := 105) hx hb dX8_about_19 h3 (by decide) ?_
      refine lv_bipush (v := (-3)) hx hb dX8_about_105 (by decide) ?_
      have hP9 := hP.sub (ws' := []) [] rfl
      have hD9 := hD.sub (ws' := []) [] (by decide) rfl
      have hK9 := hK.sub (tys' := []) [] rfl
      exact W.zret (v := (-3)) (ty := .int) hx hb hr rfl (fun t ht hW => ⟨⟨(some (.int (-3))), rfl, _, _, ⟨congrArg (fun z => some (Value.int z)) (by unfold an_about; (repeat' split) <;> first | rfl | (exfalso; first | omega | (have kq := kz; omega))), rfl, rfl⟩, by rw [ht]; exact hP9, va_K.moved hW.alike hK9, hD9⟩, hS.F ht⟩) hS.2.2 dX8_about_107
    · have gh3 : a2 = 0 ∨ a2 = 1 ∨ a2 = 2 ∨ a2 = 3 ∨ a2 = 4 := tw_0_4 (by omega) (by omega)
      rcases gh3 with rfl | rfl | rfl | rfl | rfl
      · refine lv_tableIn (tgt := 52) (off := 33) hx hb dX8_about_19 (by decide) (by decide) (by decide) (by decide) ?_
        refine lv_aload_n hx hb dX8_about_52 rfl (lv_at hl 0 rfl) ?_
        refine va_getN (host := "ReflectModels") (D := (dC, dI)) (own := RX8) (ref := "ReflectModels$ClassModel") (index := 86) (ci := 0) (v := .int 0) (C := RX0) (T := TX0) (N := 12) hx hb hts inX8_about_0 hown hK hP 7 rfl rfl 2 (by decide) (va_Nw.use rfl (hN _ (List.mem_of_getElem? (i := 12) rfl))) (fun _ h9 => h9) rfl dX8_about_53 ?_
        have hP9 := hP.sub (ws' := []) [] rfl
        have hD9 := hD.sub (ws' := []) [] (by decide) rfl
        have hK9 := hK.sub (tys' := []) [] rfl
        exact W.zret (v := 0) (ty := .int) hx hb hr rfl (fun t ht hW => ⟨⟨(some (.int 0)), rfl, _, _, ⟨congrArg (fun z => some (Value.int z)) (by unfold an_about; (repeat' split) <;> first | rfl | (exfalso; first | omega | (have kq := kz; omega))), rfl, rfl⟩, by rw [ht]; exact hP9, va_K.moved hW.alike hK9, hD9⟩, hS.F ht⟩) hS.2.2 dX8_about_56
      · refine lv_tableIn (tgt := 57) (off := 38) hx hb dX8_about_19 (by decide) (by decide) (by decide) (by decide) ?_
        refine lv_aload_n hx hb dX8_about_57 rfl (lv_at hl 0 rfl) ?_
        refine va_getN (host := "ReflectModels") (D := (dC, dI)) (own := RX8) (ref := "ReflectModels$ClassModel") (index := 264) (ci := 0) (v := .null) (C := RX0) (T := TX0) (N := 12) hx hb hts inX8_about_0 hown hK hP 7 rfl rfl 1 (by decide) (va_Nw.use rfl (hN _ (List.mem_of_getElem? (i := 11) rfl))) (fun _ h9 => h9) rfl dX8_about_58 ?_
        refine lv_ifnonnullN hx hb dX8_about_61 ?_
        refine lv_iconst (v := (-1)) hx hb dX8_about_64 (by decide) ?_
        refine lv_goto (tgt := 75) hx hb dX8_about_65 (by decide) ?_
        have hP9 := hP.sub (ws' := []) [] rfl
        have hD9 := hD.sub (ws' := []) [] (by decide) rfl
        have hK9 := hK.sub (tys' := []) [] rfl
        exact W.zret (v := (-1)) (ty := .int) hx hb hr rfl (fun t ht hW => ⟨⟨(some (.int (-1))), rfl, _, _, ⟨congrArg (fun z => some (Value.int z)) (by unfold an_about; (repeat' split) <;> first | rfl | (exfalso; first | omega | (have kq := kz; omega))), rfl, rfl⟩, by rw [ht]; exact hP9, va_K.moved hW.alike hK9, hD9⟩, hS.F ht⟩) hS.2.2 dX8_about_75
      · refine lv_tableIn (tgt := 76) (off := 57) hx hb dX8_about_19 (by decide) (by decide) (by decide) (by decide) ?_
        refine lv_aload_n hx hb dX8_about_76 rfl (lv_at hl 0 rfl) ?_
        refine va_getN (host := "ReflectModels") (D := (dC, dI)) (own := RX8) (ref := "ReflectModels$ClassModel") (index := 267) (ci := 0) (v := .null) (C := RX0) (T := TX0) (N := 12) hx hb hts inX8_about_0 hown hK hP 7 rfl rfl 3 (by decide) (va_Nw.use rfl (hN _ (List.mem_of_getElem? (i := 13) rfl))) (fun _ h9 => h9) rfl dX8_about_77 ?_
        refine lv_ifnonnullN hx hb dX8_about_80 ?_
        refine lv_iconst (v := (-1)) hx hb dX8_about_83 (by decide) ?_
        refine lv_goto (tgt := 94) hx hb dX8_about_84 (by decide) ?_
        have hP9 := hP.sub (ws' := []) [] rfl
        have hD9 := hD.sub (ws' := []) [] (by decide) rfl
        have hK9 := hK.sub (tys' := []) [] rfl
        exact W.zret (v := (-1)) (ty := .int) hx hb hr rfl (fun t ht hW => ⟨⟨(some (.int (-1))), rfl, _, _, ⟨congrArg (fun z => some (Value.int z)) (by unfold an_about; (repeat' split) <;> first | rfl | (exfalso; first | omega | (have kq := kz; omega))), rfl, rfl⟩, by rw [ht]; exact hP9, va_K.moved hW.alike hK9, hD9⟩, hS.F ht⟩) hS.2.2 dX8_about_94
      · refine lv_tableIn (tgt := 95) (off := 76) hx hb dX8_about_19 (by decide) (by decide) (by decide) (by decide) ?_
        refine lv_aload_n hx hb dX8_about_95 rfl (lv_at hl 0 rfl) ?_
        refine va_getN (host := "ReflectModels") (D := (dC, dI)) (own := RX8) (ref := "ReflectModels$ClassModel") (index := 92) (ci := 0) (v := .int 0) (C := RX0) (T := TX0) (N := 12) hx hb hts inX8_about_0 hown hK hP 7 rfl rfl 8 (by decide) (va_Nw.use rfl (hN _ (List.mem_of_getElem? (i := 17) rfl))) (fun _ h9 => h9) rfl dX8_about_96 ?_
        have hP9 := hP.sub (ws' := []) [] rfl
        have hD9 := hD.sub (ws' := []) [] (by decide) rfl
        have hK9 := hK.sub (tys' := []) [] rfl
        exact W.zret (v := 0) (ty := .int) hx hb hr rfl (fun t ht hW => ⟨⟨(some (.int 0)), rfl, _, _, ⟨congrArg (fun z => some (Value.int z)) (by unfold an_about; (repeat' split) <;> first | rfl | (exfalso; first | omega | (have kq := kz; omega))), rfl, rfl⟩, by rw [ht]; exact hP9, va_K.moved hW.alike hK9, hD9⟩, hS.F ht⟩) hS.2.2 dX8_about_99
      · refine lv_tableIn (tgt := 100) (off := 81) hx hb dX8_about_19 (by decide) (by decide) (by decide) (by decide) ?_
        refine lv_aload_n hx hb dX8_about_100 rfl (lv_at hl 0 rfl) ?_
        refine va_getN (host := "ReflectModels") (D := (dC, dI)) (own := RX8) (ref := "ReflectModels$ClassModel") (index := 270) (ci := 0) (v := .int 0) (C := RX0) (T := TX0) (N := 12) hx hb hts inX8_about_0 hown hK hP 7 rfl rfl 11 (by decide) (va_Nw.use rfl (hN _ (List.mem_of_getElem? (i := 20) rfl))) (fun _ h9 => h9) rfl dX8_about_101 ?_
        have hP9 := hP.sub (ws' := []) [] rfl
        have hD9 := hD.sub (ws' := []) [] (by decide) rfl
        have hK9 := hK.sub (tys' := []) [] rfl
        exact W.zret (v := 0) (ty := .int) hx hb hr rfl (fun t ht hW => ⟨⟨(some (.int 0)), rfl, _, _, ⟨congrArg (fun z => some (Value.int z)) (by unfold an_about; (repeat' split) <;> first | rfl | (exfalso; first | omega | (have kq := kz; omega))), rfl, rfl⟩, by rw [ht]; exact hP9, va_K.moved hW.alike hK9, hD9⟩, hS.F ht⟩) hS.2.2 dX8_about_104
  · refine W.eq (g2 := F0 m 5 ls [.int 0]) rfl ?_
    refine lv_if_ne (tgt := 11) hx hb dX8_about_5 (by decide) (fun h => absurd h (by decide)) (fun _ => ?_)
    refine lv_bipush (v := (-2)) hx hb dX8_about_8 (by decide) ?_
    have hP9 := hP.sub (ws' := []) [] rfl
    have hD9 := hD.sub (ws' := []) [] (by decide) rfl
    have hK9 := hK.sub (tys' := []) [] rfl
    exact W.zret (v := (-2)) (ty := .int) hx hb hr rfl (fun t ht hW => ⟨⟨(some (.int (-2))), rfl, _, _, ⟨congrArg (fun z => some (Value.int z)) (by unfold an_about; (repeat' split) <;> first | rfl | (exfalso; first | omega | (have kq := kz; omega))), rfl, rfl⟩, by rw [ht]; exact hP9, va_K.moved hW.alike hK9, hD9⟩, hS.F ht⟩) hS.2.2 dX8_about_10

set_option maxHeartbeats 4000000 in
set_option maxRecDepth 100000 in
/-- told on a fresh object -/
theorem c8_told (l : Launch) (dC : Nat → ClassId) (dI : Nat → Nat → Nat) (h0 : Nat) (q : Nat → Nat) (cA : Nat → ClassId) (a1 : Int32) (sz : Nat)  : Met l yX8_told wsX8_told ({ frames := 0, cells := 0, slots := 0, locals := 0 }) (va_Pc [.ref h0, .int a1] (pz (dC, dI) [((cA 0), .object "ReflectModels$ClassModel"), ((cA 1), .object "ReflectModels$Member"), ((cA 2), .object "ReflectModels$Handle"), ((cA 3), .object "ReflectModels$Thing"), ((cA 4), .object "ReflectModels$Value")] [(h0, .inr (7, [.ref (q 0), .int 1, .ref (q 1), .int 0, .int 0, .ref (q 2), .int 0, .ref (q 3), .int 0, .ref (q 4), .int 0, .int 0, .ref (q 5), .int 0, .int 0])), ((q 0), .inl ((cA 0), 16, .inr (.inr (.inr (.inr (va_up (fun _ => none) 0 (some (q 6)))))))), ((q 1), .inl ((cA 1), 40, .inr (.inr (.inr (.inr (fun _ => none)))))), ((q 2), .inl ((cA 2), 60, .inr (.inr (.inr (.inr (fun _ => none)))))), ((q 3), .inl ((cA 3), 124, .inr (.inr (.inr (.inr (fun _ => none)))))), ((q 4), .inl ((cA 4), 3, .inr (.inr (.inr (.inr (va_up (va_up (va_up (fun _ => none) 0 (some (q 7))) 1 (some (q 8))) 2 (some (q 9)))))))), ((q 5), .inr (6, [.int 0, .long 0])), ((q 6), .inr (0, [.int 0, .null, .int 0, .null, .int 0, .int 0, .int 1, .int 1, .int 0, .int 0, .int 0, .int 0])), ((q 7), .inr (6, [.int 0, .long 0])), ((q 8), .inr (6, [.int 0, .long 0])), ((q 9), .inr (6, [.int 0, .long 0]))] sz)) (qW (dC, dI) (fun v w1 ty1 => v = some (.int (an_told a1.toInt)) ∧ w1 = [] ∧ ty1 = []) (va_A [(h0, .inr (7, [.ref (q 0), .int 1, .ref (q 1), .int 0, .int 0, .ref (q 2), .int 0, .ref (q 3), .int 0, .ref (q 4), .int 0, .int 0, .ref (q 5), .int 0, .int 0])), ((q 0), .inl ((cA 0), 16, .inr (.inr (.inr (.inr (va_up (fun _ => none) 0 (some (q 6)))))))), ((q 1), .inl ((cA 1), 40, .inr (.inr (.inr (.inr (fun _ => none)))))), ((q 2), .inl ((cA 2), 60, .inr (.inr (.inr (.inr (fun _ => none)))))), ((q 3), .inl ((cA 3), 124, .inr (.inr (.inr (.inr (fun _ => none)))))), ((q 4), .inl ((cA 4), 3, .inr (.inr (.inr (.inr (va_up (va_up (va_up (fun _ => none) 0 (some (q 7))) 1 (some (q 8))) 2 (some (q 9)))))))), ((q 5), .inr (6, [.int 0, .long 0])), ((q 6), .inr (0, [.int 0, .null, .int 0, .null, .int 0, .int 0, .int 1, .int 1, .int 0, .int 0, .int 0, .int 0])), ((q 7), .inr (6, [.int 0, .long 0])), ((q 8), .inr (6, [.int 0, .long 0])), ((q 9), .inr (6, [.int 0, .long 0]))] sz)) 0 0 (va_A [(h0, .inr (7, [.ref (q 0), .int 1, .ref (q 1), .int 0, .int 0, .ref (q 2), .int 0, .ref (q 3), .int 0, .ref (q 4), .int 0, .int 0, .ref (q 5), .int 0, .int 0])), ((q 0), .inl ((cA 0), 16, .inr (.inr (.inr (.inr (va_up (fun _ => none) 0 (some (q 6)))))))), ((q 1), .inl ((cA 1), 40, .inr (.inr (.inr (.inr (fun _ => none)))))), ((q 2), .inl ((cA 2), 60, .inr (.inr (.inr (.inr (fun _ => none)))))), ((q 3), .inl ((cA 3), 124, .inr (.inr (.inr (.inr (fun _ => none)))))), ((q 4), .inl ((cA 4), 3, .inr (.inr (.inr (.inr (va_up (va_up (va_up (fun _ => none) 0 (some (q 7))) 1 (some (q 8))) 2 (some (q 9)))))))), ((q 5), .inr (6, [.int 0, .long 0])), ((q 6), .inr (0, [.int 0, .null, .int 0, .null, .int 0, .int 0, .int 1, .int 1, .int 0, .int 0, .int 0, .int 0])), ((q 7), .inr (6, [.int 0, .long 0])), ((q 8), .inr (6, [.int 0, .long 0])), ((q 9), .inr (6, [.int 0, .long 0]))] sz) := by
  refine Met.ofW (cc := cX8_told) (maxL := 2) (ret := (some .int)) (by decide) rfl ?_
  intro p e s m args below meth c s₁ B hml hv
  obtain ⟨rfl, hsz, hP, hK, hD, hN⟩ := hv
  have hx := B.exec
  have hb := B.bytes
  have hr := B.returns
  have hts := atoms_spec (ws := wsX8_told) B.pre
  have hown : s.vm.findClass RX8 = some m.cls := findClass_of_methodNamed B.named
  have hlocks := B.notSynchronized
  subst hsz
  have hD := hD.self (sz := s.heap.size)
  generalize hAe : va_A [(h0, .inr (7, [.ref (q 0), .int 1, .ref (q 1), .int 0, .int 0, .ref (q 2), .int 0, .ref (q 3), .int 0, .ref (q 4), .int 0, .int 0, .ref (q 5), .int 0, .int 0])), ((q 0), .inl ((cA 0), 16, .inr (.inr (.inr (.inr (va_up (fun _ => none) 0 (some (q 6)))))))), ((q 1), .inl ((cA 1), 40, .inr (.inr (.inr (.inr (fun _ => none)))))), ((q 2), .inl ((cA 2), 60, .inr (.inr (.inr (.inr (fun _ => none)))))), ((q 3), .inl ((cA 3), 124, .inr (.inr (.inr (.inr (fun _ => none)))))), ((q 4), .inl ((cA 4), 3, .inr (.inr (.inr (.inr (va_up (va_up (va_up (fun _ => none) 0 (some (q 7))) 1 (some (q 8))) 2 (some (q 9)))))))), ((q 5), .inr (6, [.int 0, .long 0])), ((q 6), .inr (0, [.int 0, .null, .int 0, .null, .int 0, .int 0, .int 1, .int 1, .int 0, .int 0, .int 0, .int 0])), ((q 7), .inr (6, [.int 0, .long 0])), ((q 8), .inr (6, [.int 0, .long 0])), ((q 9), .inr (6, [.int 0, .long 0]))] s.heap.size = A at hD ⊢
  have hA : ∀ q : Nat, s.heap.size ≤ q → A q := fun q h => by rw [← hAe]; exact Or.inr h
  have hS : va_S A s.heap s.heap [] := va_S.rf
  have hl := lv_entry ([.ref h0, .int a1]) (n := 2) (Nat.le_of_ble_eq_true rfl)
  rw [lg_entry_eq]
  generalize (lg_sl ([.ref h0, .int a1]) ++ List.replicate (2 - (lg_sl ([.ref h0, .int a1])).length) Slot.unset).toArray = ls at hl ⊢
  have hl : lv_has ls 2 [(0, .ref h0), (1, .int a1)] := hl
  refine lv_iload_n hx hb dX8_told_0 rfl (lv_at hl 1 rfl) ?_
  by_cases h1 : a1.toInt < 0 ∨ 5 < a1.toInt
  · refine lv_tableOut (tgt := 70) hx hb dX8_told_1 h1 (by decide) ?_
    refine lv_bipush (v := (-3)) hx hb dX8_told_70 (by decide) ?_
    have hP9 := hP.sub (ws' := []) [] rfl
    have hD9 := hD.sub (ws' := []) [] (by decide) rfl
    have hK9 := hK.sub (tys' := []) [] rfl
    exact W.zret (v := (-3)) (ty := .int) hx hb hr rfl (fun t ht hW => ⟨⟨(some (.int (-3))), rfl, _, _, ⟨congrArg (fun z => some (Value.int z)) (by unfold an_told; (repeat' split) <;> first | rfl | (exfalso; first | omega | (have kq := kz; omega))), rfl, rfl⟩, by rw [ht]; exact hP9, va_K.moved hW.alike hK9, hD9⟩, hS.F ht⟩) hS.2.2 dX8_told_72
  · have gh1 : a1 = 0 ∨ a1 = 1 ∨ a1 = 2 ∨ a1 = 3 ∨ a1 = 4 ∨ a1 = 5 := tw_0_5 (by omega) (by omega)
    rcases gh1 with rfl | rfl | rfl | rfl | rfl | rfl
    · refine lv_tableIn (tgt := 40) (off := 39) hx hb dX8_told_1 (by decide) (by decide) (by decide) (by decide) ?_
      refine lv_aload_n hx hb dX8_told_40 rfl (lv_at hl 0 rfl) ?_
      refine va_get (D := (dC, dI)) (own := RX8) (ref := "ReflectModels") (index := 15) (ci := 7) (v := .int 1) (C := RX8) (T := TX8) (N := 15) hx hb hts inX8_told_8 hown hK hP 0 rfl rfl 1 (by decide) (hts (.fieldLink RX8 15 "ReflectModels" "classCount" "I") (by decide +kernel)) (fun _ h9 => h9) rfl dX8_told_41 ?_
      have hP9 := hP.sub (ws' := []) [] rfl
      have hD9 := hD.sub (ws' := []) [] (by decide) rfl
      have hK9 := hK.sub (tys' := []) [] rfl
      exact W.zret (v := 1) (ty := .int) hx hb hr rfl (fun t ht hW => ⟨⟨(some (.int 1)), rfl, _, _, ⟨congrArg (fun z => some (Value.int z)) (by unfold an_told; (repeat' split) <;> first | rfl | (exfalso; first | omega | (have kq := kz; omega))), rfl, rfl⟩, by rw [ht]; exact hP9, va_K.moved hW.alike hK9, hD9⟩, hS.F ht⟩) hS.2.2 dX8_told_44
    · refine lv_tableIn (tgt := 45) (off := 44) hx hb dX8_told_1 (by decide) (by decide) (by decide) (by decide) ?_
      refine lv_aload_n hx hb dX8_told_45 rfl (lv_at hl 0 rfl) ?_
      refine va_get (D := (dC, dI)) (own := RX8) (ref := "ReflectModels") (index := 25) (ci := 7) (v := .int 0) (C := RX8) (T := TX8) (N := 15) hx hb hts inX8_told_8 hown hK hP 0 rfl rfl 3 (by decide) (hts (.fieldLink RX8 25 "ReflectModels" "memberCount" "I") (by decide +kernel)) (fun _ h9 => h9) rfl dX8_told_46 ?_
      have hP9 := hP.sub (ws' := []) [] rfl
      have hD9 := hD.sub (ws' := []) [] (by decide) rfl
      have hK9 := hK.sub (tys' := []) [] rfl
      exact W.zret (v := 0) (ty := .int) hx hb hr rfl (fun t ht hW => ⟨⟨(some (.int 0)), rfl, _, _, ⟨congrArg (fun z => some (Value.int z)) (by unfold an_told; (repeat' split) <;> first | rfl | (exfalso; first | omega | (have kq := kz; omega))), rfl, rfl⟩, by rw [ht]; exact hP9, va_K.moved hW.alike hK9, hD9⟩, hS.F ht⟩) hS.2.2 dX8_told_49
    · refine lv_tableIn (tgt := 50) (off := 49) hx hb dX8_told_1 (by decide) (by decide) (by decide) (by decide) ?_
      refine lv_aload_n hx hb dX8_told_50 rfl (lv_at hl 0 rfl) ?_
      refine va_get (D := (dC, dI)) (own := RX8) (ref := "ReflectModels") (index := 37) (ci := 7) (v := .int 0) (C := RX8) (T := TX8) (N := 15) hx hb hts inX8_told_8 hown hK hP 0 rfl rfl 6 (by decide) (hts (.fieldLink RX8 37 "ReflectModels" "handleCount" "I") (by decide +kernel)) (fun _ h9 => h9) rfl dX8_told_51 ?_
      have hP9 := hP.sub (ws' := []) [] rfl
      have hD9 := hD.sub (ws' := []) [] (by decide) rfl
      have hK9 := hK.sub (tys' := []) [] rfl
      exact W.zret (v := 0) (ty := .int) hx hb hr rfl (fun t ht hW => ⟨⟨(some (.int 0)), rfl, _, _, ⟨congrArg (fun z => some (Value.int z)) (by unfold an_told; (repeat' split) <;> first | rfl | (exfalso; first | omega | (have kq := kz; omega))), rfl, rfl⟩, by rw [ht]; exact hP9, va_K.moved hW.alike hK9, hD9⟩, hS.F ht⟩) hS.2.2 dX8_told_54
    · refine lv_tableIn (tgt := 55) (off := 54) hx hb dX8_told_1 (by decide) (by decide) (by decide) (by decide) ?_
      refine lv_aload_n hx hb dX8_told_55 rfl (lv_at hl 0 rfl) ?_
      refine va_get (D := (dC, dI)) (own := RX8) (ref := "ReflectModels") (index := 46) (ci := 7) (v := .int 0) (C := RX8) (T := TX8) (N := 15) hx hb hts inX8_told_8 hown hK hP 0 rfl rfl 8 (by decide) (hts (.fieldLink RX8 46 "ReflectModels" "thingCount" "I") (by decide +kernel)) (fun _ h9 => h9) rfl dX8_told_56 ?_
      have hP9 := hP.sub (ws' := []) [] rfl
      have hD9 := hD.sub (ws' := []) [] (by decide) rfl
      have hK9 := hK.sub (tys' := []) [] rfl
      exact W.zret (v := 0) (ty := .int) hx hb hr rfl (fun t ht hW => ⟨⟨(some (.int 0)), rfl, _, _, ⟨congrArg (fun z => some (Value.int z)) (by unfold an_told; (repeat' split) <;> first | rfl | (exfalso; first | omega | (have kq := kz; omega))), rfl, rfl⟩, by rw [ht]; exact hP9, va_K.moved hW.alike hK9, hD9⟩, hS.F ht⟩) hS.2.2 dX8_told_59
    · refine lv_tableIn (tgt := 60) (off := 59) hx hb dX8_told_1 (by decide) (by decide) (by decide) (by decide) ?_
      refine lv_aload_n hx hb dX8_told_60 rfl (lv_at hl 0 rfl) ?_
      refine va_get (D := (dC, dI)) (own := RX8) (ref := "ReflectModels") (index := 55) (ci := 7) (v := .int 0) (C := RX8) (T := TX8) (N := 15) hx hb hts inX8_told_8 hown hK hP 0 rfl rfl 10 (by decide) (hts (.fieldLink RX8 55 "ReflectModels" "valueCount" "I") (by decide +kernel)) (fun _ h9 => h9) rfl dX8_told_61 ?_
      have hP9 := hP.sub (ws' := []) [] rfl
      have hD9 := hD.sub (ws' := []) [] (by decide) rfl
      have hK9 := hK.sub (tys' := []) [] rfl
      exact W.zret (v := 0) (ty := .int) hx hb hr rfl (fun t ht hW => ⟨⟨(some (.int 0)), rfl, _, _, ⟨congrArg (fun z => some (Value.int z)) (by unfold an_told; (repeat' split) <;> first | rfl | (exfalso; first | omega | (have kq := kz; omega))), rfl, rfl⟩, by rw [ht]; exact hP9, va_K.moved hW.alike hK9, hD9⟩, hS.F ht⟩) hS.2.2 dX8_told_64
    · refine lv_tableIn (tgt := 65) (off := 64) hx hb dX8_told_1 (by decide) (by decide) (by decide) (by decide) ?_
      refine lv_aload_n hx hb dX8_told_65 rfl (lv_at hl 0 rfl) ?_
      refine va_get (D := (dC, dI)) (own := RX8) (ref := "ReflectModels") (index := 66) (ci := 7) (v := .int 0) (C := RX8) (T := TX8) (N := 15) hx hb hts inX8_told_8 hown hK hP 0 rfl rfl 13 (by decide) (hts (.fieldLink RX8 66 "ReflectModels" "latestFailure" "I") (by decide +kernel)) (fun _ h9 => h9) rfl dX8_told_66 ?_
      have hP9 := hP.sub (ws' := []) [] rfl
      have hD9 := hD.sub (ws' := []) [] (by decide) rfl
      have hK9 := hK.sub (tys' := []) [] rfl
      exact W.zret (v := 0) (ty := .int) hx hb hr rfl (fun t ht hW => ⟨⟨(some (.int 0)), rfl, _, _, ⟨congrArg (fun z => some (Value.int z)) (by unfold an_told; (repeat' split) <;> first | rfl | (exfalso; first | omega | (have kq := kz; omega))), rfl, rfl⟩, by rw [ht]; exact hP9, va_K.moved hW.alike hK9, hD9⟩, hS.F ht⟩) hS.2.2 dX8_told_69
