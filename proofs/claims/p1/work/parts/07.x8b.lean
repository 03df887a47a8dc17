set_option maxHeartbeats 4000000 in
set_option maxRecDepth 100000 in
theorem c8_ownField (l : Launch) (dC : Nat → ClassId) (dI : Nat → Nat → Nat) (h0 : Nat) (q : Nat → Nat) (r1 : Nat) (a2 : Int32) (sz : Nat)  : Met l yX8_ownField wsX8_ownField ({ frames := 0, cells := 0, slots := 0, locals := 0 }) (va_Pc [.ref h0, .ref r1, .int a2] (pz (dC, dI) [] [(h0, .inr (7, [.ref (q 0), .int 1, .ref (q 1), .int 0, .int 0, .ref (q 2), .int 0, .ref (q 3), .int 0, .ref (q 4), .int 0, .int 0, .ref (q 5), .int 0, .int 0]))] sz)) (qR (fun v => (v = some (.int (-1))))) 0 0 nA := by
  refine Met.ofW (cc := cX8_ownField) (maxL := 6) (ret := (some .int)) (by decide) rfl ?_
  intro p e s m args below meth c s₁ B hml hv
  obtain ⟨rfl, hsz, hP, hK, hD, hN⟩ := hv
  have hx := B.exec
  have hb := B.bytes
  have hr := B.returns
  have hts := atoms_spec (ws := wsX8_ownField) B.pre
  have hown : s.vm.findClass RX8 = some m.cls := findClass_of_methodNamed B.named
  have hlocks := B.notSynchronized
  subst hsz
  have hS : va_S nA s.heap s.heap [] := va_S.rf
  have hl := lv_entry ([.ref h0, .ref r1, .int a2]) (n := 6) (Nat.le_of_ble_eq_true rfl)
  rw [lg_entry_eq]
  generalize (lg_sl ([.ref h0, .ref r1, .int a2]) ++ List.replicate (6 - (lg_sl ([.ref h0, .ref r1, .int a2])).length) Slot.unset).toArray = ls at hl ⊢
  have hl : lv_has ls 6 [(0, .ref h0), (1, .ref r1), (2, .int a2)] := hl
  refine lv_iconst (v := 0) hx hb dX8_ownField_0 (by decide) ?_
  refine lv_istore_n (lv' := [(3, .int 0), (0, .ref h0), (1, .ref r1), (2, .int a2)]) hx hb dX8_ownField_1 rfl hl (by decide) rfl (fun ls hl => ?_)
  refine lv_iload_n hx hb dX8_ownField_2 rfl (lv_at hl 0 rfl) ?_
  refine lv_aload_n hx hb dX8_ownField_3 rfl (lv_at hl 1 rfl) ?_
  refine va_get (D := (dC, dI)) (own := RX8) (ref := "ReflectModels") (index := 25) (ci := 7) (v := .int 0) (C := RX8) (T := TX8) (N := 15) hx hb hts inX8_ownField_8 hown hK hP 0 rfl rfl 3 (by decide) (hts (.fieldLink RX8 25 "ReflectModels" "memberCount" "I") (by decide +kernel)) (fun _ h9 => h9) rfl dX8_ownField_4 ?_
  refine lv_icmp_ge (tgt := 59) hx hb dX8_ownField_7 (by decide) (fun _ => ?_) (fun h => absurd (by decide) h)
  refine lv_iconst (v := (-1)) hx hb dX8_ownField_59 (by decide) ?_
  exact W.zret (v := (-1)) (ty := .int) hx hb hr rfl (fun t ht hW => ⟨⟨(some (.int (-1))), rfl, (by first | exact rfl)⟩, hS.F ht⟩) hS.2.2 dX8_ownField_60

set_option maxHeartbeats 4000000 in
set_option maxRecDepth 100000 in
theorem c8_ownMethod (l : Launch) (dC : Nat → ClassId) (dI : Nat → Nat → Nat) (h0 : Nat) (q : Nat → Nat) (r1 g1 : Nat) (sz : Nat)  : Met l yX8_ownMethod wsX8_ownMethod ({ frames := 0, cells := 0, slots := 0, locals := 0 }) (va_Pc [.ref h0, .ref r1, .ref g1] (pz (dC, dI) [] [(h0, .inr (7, [.ref (q 0), .int 1, .ref (q 1), .int 0, .int 0, .ref (q 2), .int 0, .ref (q 3), .int 0, .ref (q 4), .int 0, .int 0, .ref (q 5), .int 0, .int 0]))] sz)) (qR (fun v => (v = some (.int (-1))))) 0 0 nA := by
  refine Met.ofW (cc := cX8_ownMethod) (maxL := 6) (ret := (some .int)) (by decide) rfl ?_
  intro p e s m args below meth c s₁ B hml hv
  obtain ⟨rfl, hsz, hP, hK, hD, hN⟩ := hv
  have hx := B.exec
  have hb := B.bytes
  have hr := B.returns
  have hts := atoms_spec (ws := wsX8_ownMethod) B.pre
  have hown : s.vm.findClass RX8 = some m.cls := findClass_of_methodNamed B.named
  have hlocks := B.notSynchronized
  subst hsz
  have hS : va_S nA s.heap s.heap [] := va_S.rf
  have hl := lv_entry ([.ref h0, .ref r1, .ref g1]) (n := 6) (Nat.le_of_ble_eq_true rfl)
  rw [lg_entry_eq]
  generalize (lg_sl ([.ref h0, .ref r1, .ref g1]) ++ List.replicate (6 - (lg_sl ([.ref h0, .ref r1, .ref g1])).length) Slot.unset).toArray = ls at hl ⊢
  have hl : lv_has ls 6 [(0, .ref h0), (1, .ref r1), (2, .ref g1)] := hl
  refine lv_iconst (v := 0) hx hb dX8_ownMethod_0 (by decide) ?_
  refine lv_istore_n (lv' := [(3, .int 0), (0, .ref h0), (1, .ref r1), (2, .ref g1)]) hx hb dX8_ownMethod_1 rfl hl (by decide) rfl (fun ls hl => ?_)
  refine lv_iload_n hx hb dX8_ownMethod_2 rfl (lv_at hl 0 rfl) ?_
  refine lv_aload_n hx hb dX8_ownMethod_3 rfl (lv_at hl 1 rfl) ?_
  refine va_get (D := (dC, dI)) (own := RX8) (ref := "ReflectModels") (index := 25) (ci := 7) (v := .int 0) (C := RX8) (T := TX8) (N := 15) hx hb hts inX8_ownMethod_8 hown hK hP 0 rfl rfl 3 (by decide) (hts (.fieldLink RX8 25 "ReflectModels" "memberCount" "I") (by decide +kernel)) (fun _ h9 => h9) rfl dX8_ownMethod_4 ?_
  refine lv_icmp_ge (tgt := 62) hx hb dX8_ownMethod_7 (by decide) (fun _ => ?_) (fun h => absurd (by decide) h)
  refine lv_iconst (v := (-1)) hx hb dX8_ownMethod_62 (by decide) ?_
  exact W.zret (v := (-1)) (ty := .int) hx hb hr rfl (fun t ht hW => ⟨⟨(some (.int (-1))), rfl, (by first | exact rfl)⟩, hS.F ht⟩) hS.2.2 dX8_ownMethod_63

set_option maxHeartbeats 4000000 in
set_option maxRecDepth 100000 in
theorem c8_mayHaveField (l : Launch) (dC : Nat → ClassId) (dI : Nat → Nat → Nat) (r1 : Nat) (a1 a2 : Int32) (sz : Nat) (h1 : a1 = 0 ∨ a1 = 1) : Met l yX8_mayHaveField wsX8_mayHaveField ({ frames := 0, cells := 0, slots := 0, locals := 0 }) (va_Pc [.ref r1, .int a1, .int a2] (pz (dC, dI) [] [(r1, .inr (0, [.int 0, .null, .int 0, .null, .int 0, .int 0, .int 1, .int 1, .int 0, .int 0, .int 0, .int 0]))] sz)) (qR (fun v => (v = some (.int a1)))) 0 0 nA := by
  refine Met.ofW (cc := cX8_mayHaveField) (maxL := 3) (ret := (some .boolean)) (by decide) rfl ?_
  intro p e s m args below meth c s₁ B hml hv
  obtain ⟨rfl, hsz, hP, hK, hD, hN⟩ := hv
  have hx := B.exec
  have hb := B.bytes
  have hr := B.returns
  have hts := atoms_spec (ws := wsX8_mayHaveField) B.pre
  have hown : s.vm.findClass RX8 = some m.cls := findClass_of_methodNamed B.named
  have hlocks := B.notSynchronized
  subst hsz
  have hS : va_S nA s.heap s.heap [] := va_S.rf
  have hl := lv_entry ([.ref r1, .int a1, .int a2]) (n := 3) (Nat.le_of_ble_eq_true rfl)
  rw [lg_entry_eq]
  generalize (lg_sl ([.ref r1, .int a1, .int a2]) ++ List.replicate (3 - (lg_sl ([.ref r1, .int a1, .int a2])).length) Slot.unset).toArray = ls at hl ⊢
  have hl : lv_has ls 3 [(0, .ref r1), (1, .int a1), (2, .int a2)] := hl
  refine lv_aload_n hx hb dX8_mayHaveField_0 rfl (lv_at hl 0 rfl) ?_
  refine va_getN (host := "ReflectModels") (D := (dC, dI)) (own := RX8) (ref := "ReflectModels$ClassModel") (index := 180) (ci := 0) (v := .int 0) (C := RX0) (T := TX0) (N := 12) hx hb hts inX8_mayHaveField_0 hown hK hP 0 rfl rfl 0 (by decide) (va_Nw.use rfl (hN _ (List.mem_of_getElem? (i := 10) rfl))) (fun _ h9 => h9) rfl dX8_mayHaveField_1 ?_
  refine lv_if_eq (tgt := 15) hx hb dX8_mayHaveField_4 (by decide) (fun _ => ?_) (fun h => absurd (by decide) h)
  refine lv_iload_n hx hb dX8_mayHaveField_15 rfl (lv_at hl 1 rfl) ?_
  exact W.zret (v := a1) (ty := .boolean) hx hb hr (nar_b h1) (fun t ht hW => ⟨⟨(some (.int a1)), rfl, (by first | exact rfl)⟩, hS.F ht⟩) hS.2.2 dX8_mayHaveField_16

set_option maxHeartbeats 4000000 in
set_option maxRecDepth 100000 in
theorem c3_initF (l : Launch) (dC : Nat → ClassId) (dI : Nat → Nat → Nat) (h1 r1 : Nat) (a2 a3 : Int32) (sz : Nat) (h2 : a2 = 0 ∨ a2 = 1) (h3 : a3 = 0 ∨ a3 = 1) : Met l yX3_init wsX3_init ({ frames := 1, cells := 0, slots := 0, locals := 12 }) (va_Pc [.ref h1, .ref r1, .int a2, .int a3] (pz (dC, dI) [] [(h1, .inr (1, [.null, .int 0, .int 0, .int 0, .int 0, .int 0, .long 0, .int 0, .long 0]))] sz)) (qW (dC, dI) (fun v w1 ty1 => v = none ∧ w1 = [(h1, .inr (1, [.ref r1, .int a2, .int a3, .int 0, .int 0, .int 0, .long 0, .int 0, .long 0]))] ∧ ty1 = []) (va_A [(h1, .inr (1, [.null, .int 0, .int 0, .int 0, .int 0, .int 0, .long 0, .int 0, .long 0]))] sz)) 0 0 (va_A [(h1, .inr (1, [.null, .int 0, .int 0, .int 0, .int 0, .int 0, .long 0, .int 0, .long 0]))] sz) := by
  refine Met.ofW (cc := cX3_init) (maxL := 4) (ret := none) (by decide) rfl ?_
  intro p e s m args below meth c s₁ B hml hv
  obtain ⟨rfl, hsz, hP, hK, hD, hN⟩ := hv
  have hx := B.exec
  have hb := B.bytes
  have hr := B.returns
  have hts := atoms_spec (ws := wsX3_init) B.pre
  have hown : s.vm.findClass RX3 = some m.cls := findClass_of_methodNamed B.named
  have hlocks := B.notSynchronized
  have hin : meth.name = "<init>" := (name_of_methodNamed B.named B.method).1
  subst hsz
  have hD := hD.self (sz := s.heap.size)
  generalize hAe : va_A [(h1, .inr (1, [.null, .int 0, .int 0, .int 0, .int 0, .int 0, .long 0, .int 0, .long 0]))] s.heap.size = A at hD ⊢
  have hA : ∀ q : Nat, s.heap.size ≤ q → A q := fun q h => by rw [← hAe]; exact Or.inr h
  have hS : va_S A s.heap s.heap [] := va_S.rf
  have hl := lv_entry ([.ref h1, .ref r1, .int a2, .int a3]) (n := 4) (Nat.le_of_ble_eq_true rfl)
  rw [lg_entry_eq]
  generalize (lg_sl ([.ref h1, .ref r1, .int a2, .int a3]) ++ List.replicate (4 - (lg_sl ([.ref h1, .ref r1, .int a2, .int a3])).length) Slot.unset).toArray = ls at hl ⊢
  have hl : lv_has ls 4 [(0, .ref h1), (1, .ref r1), (2, .int a2), (3, .int a3)] := hl
  refine lv_aload_n hx hb dX3_init_0 rfl (lv_at hl 0 rfl) ?_
  refine W.objInit hx hb hown (hts (.methodLink RX3 1 objectInit) (by decide +kernel)) (hts (.instanceMethod objectInit) (by decide +kernel)) (hts (.code objectInit ⟨#[0xb1]⟩ 1 none) (by decide +kernel)) rfl (by rw [hml]; exact hl.1) rfl dX3_init_1 (Nat.le_of_ble_eq_true rfl) (Nat.le_of_ble_eq_true rfl) ?_
  refine W.eq (g2 := F0 m 4 ls []) rfl ?_
  refine lv_aload_n hx hb dX3_init_4 rfl (lv_at hl 0 rfl) ?_
  refine lv_aload_n hx hb dX3_init_5 rfl (lv_at hl 1 rfl) ?_
  refine va_putF (D := (dC, dI)) (own := RX3) (ref := "ReflectModels$Member") (index := 7) (ci := 1) (v := .ref r1) (ty := .object "ReflectModels$ClassModel") (C := RX1) (T := TX1) (N := 9) hx hb hts inX3_init_1 tyX1 tyX1_ok nmX1 hown hK hP hD hS 0 rfl rfl 0 (by decide) (hts (.fieldLink RX3 7 "ReflectModels$Member" "owner" "LReflectModels$ClassModel;") (by decide +kernel)) (fun _ h9 => h9) rfl hin rfl (by decide +kernel) rfl rfl (Nat.le_of_ble_eq_true rfl) dX3_init_6 (fun H locs hP hD hS => ?_)
  have hP : va_P (dC, dI) vwCl [(h1, .inr (1, [.ref r1, .int 0, .int 0, .int 0, .int 0, .int 0, .long 0, .int 0, .long 0]))] H := hP
  have hD : va_D A [(h1, .inr (1, [.ref r1, .int 0, .int 0, .int 0, .int 0, .int 0, .long 0, .int 0, .long 0]))] := hD
  refine lv_aload_n hx hb dX3_init_9 rfl (lv_at hl 0 rfl) ?_
  refine lv_iload_n hx hb dX3_init_10 rfl (lv_at hl 2 rfl) ?_
  refine va_putF (D := (dC, dI)) (own := RX3) (ref := "ReflectModels$Member") (index := 13) (ci := 1) (v := .int a2) (ty := .boolean) (C := RX1) (T := TX1) (N := 9) hx hb hts inX3_init_1 tyX1 tyX1_ok nmX1 hown hK hP hD hS 0 rfl rfl 1 (by decide) (hts (.fieldLink RX3 13 "ReflectModels$Member" "isStatic" "Z") (by decide +kernel)) (fun _ h9 => h9) rfl hin rfl (by decide +kernel) (nar_b h2) (fit_b h2) (Nat.le_of_ble_eq_true rfl) dX3_init_11 (fun H locs hP hD hS => ?_)
  have hP : va_P (dC, dI) vwCl [(h1, .inr (1, [.ref r1, .int a2, .int 0, .int 0, .int 0, .int 0, .long 0, .int 0, .long 0]))] H := hP
  have hD : va_D A [(h1, .inr (1, [.ref r1, .int a2, .int 0, .int 0, .int 0, .int 0, .long 0, .int 0, .long 0]))] := hD
  refine lv_aload_n hx hb dX3_init_14 rfl (lv_at hl 0 rfl) ?_
  refine lv_iload_n hx hb dX3_init_15 rfl (lv_at hl 3 rfl) ?_
  refine va_putF (D := (dC, dI)) (own := RX3) (ref := "ReflectModels$Member") (index := 17) (ci := 1) (v := .int a3) (ty := .boolean) (C := RX1) (T := TX1) (N := 9) hx hb hts inX3_init_1 tyX1 tyX1_ok nmX1 hown hK hP hD hS 0 rfl rfl 2 (by decide) (hts (.fieldLink RX3 17 "ReflectModels$Member" "isHidden" "Z") (by decide +kernel)) (fun _ h9 => h9) rfl hin rfl (by decide +kernel) (nar_b h3) (fit_b h3) (Nat.le_of_ble_eq_true rfl) dX3_init_16 (fun H locs hP hD hS => ?_)
  have hP : va_P (dC, dI) vwCl [(h1, .inr (1, [.ref r1, .int a2, .int a3, .int 0, .int 0, .int 0, .long 0, .int 0, .long 0]))] H := hP
  have hD : va_D A [(h1, .inr (1, [.ref r1, .int a2, .int a3, .int 0, .int 0, .int 0, .long 0, .int 0, .long 0]))] := hD
  have hP9 := hP.sub (ws' := [(h1, .inr (1, [.ref r1, .int a2, .int a3, .int 0, .int 0, .int 0, .long 0, .int 0, .long 0]))]) [0] rfl
  have hD9 := hD.sub (ws' := [(h1, .inr (1, [.ref r1, .int a2, .int a3, .int 0, .int 0, .int 0, .long 0, .int 0, .long 0]))]) [0] (by decide) rfl
  have hK9 := hK.sub (tys' := []) [] rfl
  exact W.vret hx hb hr (fun t ht hW => ⟨⟨none, rfl, _, _, ⟨rfl, rfl, rfl⟩, by rw [ht]; exact hP9, va_K.moved hW.alike hK9, hD9⟩, hS.F ht⟩) hS.2.2 dX3_init_19

set_option maxHeartbeats 4000000 in
set_option maxRecDepth 100000 in
theorem c3_initM00 (l : Launch) (dC : Nat → ClassId) (dI : Nat → Nat → Nat) (h1 r1 : Nat) (sz : Nat)  : Met l yX3_init wsX3_init ({ frames := 1, cells := 0, slots := 0, locals := 12 }) (va_Pc [.ref h1, .ref r1, .int 0, .int 0] (pz (dC, dI) [] [(h1, .inr (3, [.null, .int 0, .int 0, .null, .int 0, .int 0, .int 0, .int 0]))] sz)) (qW (dC, dI) (fun v w1 ty1 => v = none ∧ w1 = [(h1, .inr (3, [.ref r1, .int 0, .int 0, .null, .int 0, .int 0, .int 0, .int 0]))] ∧ ty1 = []) (va_A [(h1, .inr (3, [.null, .int 0, .int 0, .null, .int 0, .int 0, .int 0, .int 0]))] sz)) 0 0 (va_A [(h1, .inr (3, [.null, .int 0, .int 0, .null, .int 0, .int 0, .int 0, .int 0]))] sz) := by
  refine Met.ofW (cc := cX3_init) (maxL := 4) (ret := none) (by decide) rfl ?_
  intro p e s m args below meth c s₁ B hml hv
  obtain ⟨rfl, hsz, hP, hK, hD, hN⟩ := hv
  have hx := B.exec
  have hb := B.bytes
  have hr := B.returns
  have hts := atoms_spec (ws := wsX3_init) B.pre
  have hown : s.vm.findClass RX3 = some m.cls := findClass_of_methodNamed B.named
  have hlocks := B.notSynchronized
  have hin : meth.name = "<init>" := (name_of_methodNamed B.named B.method).1
  subst hsz
  have hD := hD.self (sz := s.heap.size)
  generalize hAe : va_A [(h1, .inr (3, [.null, .int 0, .int 0, .null, .int 0, .int 0, .int 0, .int 0]))] s.heap.size = A at hD ⊢
  have hA : ∀ q : Nat, s.heap.size ≤ q → A q := fun q h => by rw [← hAe]; exact Or.inr h
  have hS : va_S A s.heap s.heap [] := va_S.rf
  have hl := lv_entry ([.ref h1, .ref r1, .int 0, .int 0]) (n := 4) (Nat.le_of_ble_eq_true rfl)
  rw [lg_entry_eq]
  generalize (lg_sl ([.ref h1, .ref r1, .int 0, .int 0]) ++ List.replicate (4 - (lg_sl ([.ref h1, .ref r1, .int 0, .int 0])).length) Slot.unset).toArray = ls at hl ⊢
  have hl : lv_has ls 4 [(0, .ref h1), (1, .ref r1), (2, .int 0), (3, .int 0)] := hl
  refine lv_aload_n hx hb dX3_init_0 rfl (lv_at hl 0 rfl) ?_
  refine W.objInit hx hb hown (hts (.methodLink RX3 1 objectInit) (by decide +kernel)) (hts (.instanceMethod objectInit) (by decide +kernel)) (hts (.code objectInit ⟨#[0xb1]⟩ 1 none) (by decide +kernel)) rfl (by rw [hml]; exact hl.1) rfl dX3_init_1 (Nat.le_of_ble_eq_true rfl) (Nat.le_of_ble_eq_true rfl) ?_
  refine W.eq (g2 := F0 m 4 ls []) rfl ?_
  refine lv_aload_n hx hb dX3_init_4 rfl (lv_at hl 0 rfl) ?_
  refine lv_aload_n hx hb dX3_init_5 rfl (lv_at hl 1 rfl) ?_
  refine va_putF (D := (dC, dI)) (own := RX3) (ref := "ReflectModels$Member") (index := 7) (ci := 3) (v := .ref r1) (ty := .object "ReflectModels$ClassModel") (C := RX4) (T := TX4) (N := 8) hx hb hts inX3_init_4 tyX4 tyX4_ok nmX4 hown hK hP hD hS 0 rfl rfl 0 (by decide) (hts (.fieldLink RX3 7 "ReflectModels$Member" "owner" "LReflectModels$ClassModel;") (by decide +kernel)) (fun _ h9 => h9) rfl hin rfl (by decide +kernel) rfl rfl (Nat.le_of_ble_eq_true rfl) dX3_init_6 (fun H locs hP hD hS => ?_)
  have hP : va_P (dC, dI) vwCl [(h1, .inr (3, [.ref r1, .int 0, .int 0, .null, .int 0, .int 0, .int 0, .int 0]))] H := hP
  have hD : va_D A [(h1, .inr (3, [.ref r1, .int 0, .int 0, .null, .int 0, .int 0, .int 0, .int 0]))] := hD
  refine lv_aload_n hx hb dX3_init_9 rfl (lv_at hl 0 rfl) ?_
  refine lv_iload_n hx hb dX3_init_10 rfl (lv_at hl 2 rfl) ?_
  refine va_putF (D := (dC, dI)) (own := RX3) (ref := "ReflectModels$Member") (index := 13) (ci := 3) (v := .int 0) (ty := .boolean) (C := RX4) (T := TX4) (N := 8) hx hb hts inX3_init_4 tyX4 tyX4_ok nmX4 hown hK hP hD hS 0 rfl rfl 1 (by decide) (hts (.fieldLink RX3 13 "ReflectModels$Member" "isStatic" "Z") (by decide +kernel)) (fun _ h9 => h9) rfl hin rfl (by decide +kernel) rfl rfl (Nat.le_of_ble_eq_true rfl) dX3_init_11 (fun H locs hP hD hS => ?_)
  have hP : va_P (dC, dI) vwCl [(h1, .inr (3, [.ref r1, .int 0, .int 0, .null, .int 0, .int 0, .int 0, .int 0]))] H := hP
  have hD : va_D A [(h1, .inr (3, [.ref r1, .int 0, .int 0, .null, .int 0, .int 0, .int 0, .int 0]))] := hD
  refine lv_aload_n hx hb dX3_init_14 rfl (lv_at hl 0 rfl) ?_
  refine lv_iload_n hx hb dX3_init_15 rfl (lv_at hl 3 rfl) ?_
  refine va_putF (D := (dC, dI)) (own := RX3) (ref := "ReflectModels$Member") (index := 17) (ci := 3) (v := .int 0) (ty := .boolean) (C := RX4) (T := TX4) (N := 8) hx hb hts inX3_init_4 tyX4 tyX4_ok nmX4 hown hK hP hD hS 0 rfl rfl 2 (by decide) (hts (.fieldLink RX3 17 "ReflectModels$Member" "isHidden" "Z") (by decide +kernel)) (fun _ h9 => h9) rfl hin rfl (by decide +kernel) rfl rfl (Nat.le_of_ble_eq_true rfl) dX3_init_16 (fun H locs hP hD hS => ?_)
  have hP : va_P (dC, dI) vwCl [(h1, .inr (3, [.ref r1, .int 0, .int 0, .null, .int 0, .int 0, .int 0, .int 0]))] H := hP
  have hD : va_D A [(h1, .inr (3, [.ref r1, .int 0, .int 0, .null, .int 0, .int 0, .int 0, .int 0]))] := hD
  have hP9 := hP.sub (ws' := [(h1, .inr (3, [.ref r1, .int 0, .int 0, .null, .int 0, .int 0, .int 0, .int 0]))]) [0] rfl
  have hD9 := hD.sub (ws' := [(h1, .inr (3, [.ref r1, .int 0, .int 0, .null, .int 0, .int 0, .int 0, .int 0]))]) [0] (by decide) rfl
  have hK9 := hK.sub (tys' := []) [] rfl
  exact W.vret hx hb hr (fun t ht hW => ⟨⟨none, rfl, _, _, ⟨rfl, rfl, rfl⟩, by rw [ht]; exact hP9, va_K.moved hW.alike hK9, hD9⟩, hS.F ht⟩) hS.2.2 dX3_init_19

set_option maxHeartbeats 4000000 in
set_option maxRecDepth 100000 in
theorem c3_initM01 (l : Launch) (dC : Nat → ClassId) (dI : Nat → Nat → Nat) (h1 r1 : Nat) (sz : Nat)  : Met l yX3_init wsX3_init ({ frames := 1, cells := 0, slots := 0, locals := 12 }) (va_Pc [.ref h1, .ref r1, .int 0, .int 1] (pz (dC, dI) [] [(h1, .inr (3, [.null, .int 0, .int 0, .null, .int 0, .int 0, .int 0, .int 0]))] sz)) (qW (dC, dI) (fun v w1 ty1 => v = none ∧ w1 = [(h1, .inr (3, [.ref r1, .int 0, .int 1, .null, .int 0, .int 0, .int 0, .int 0]))] ∧ ty1 = []) (va_A [(h1, .inr (3, [.null, .int 0, .int 0, .null, .int 0, .int 0, .int 0, .int 0]))] sz)) 0 0 (va_A [(h1, .inr (3, [.null, .int 0, .int 0, .null, .int 0, .int 0, .int 0, .int 0]))] sz) := by
  refine Met.ofW (cc := cX3_init) (maxL := 4) (ret := none) (by decide) rfl ?_
  intro p e s m args below meth c s₁ B hml hv
  obtain ⟨rfl, hsz, hP, hK, hD, hN⟩ := hv
  have hx := B.exec
  have hb := B.bytes
  have hr := B.returns
  have hts := atoms_spec (ws := wsX3_init) B.pre
  have hown : s.vm.findClass RX3 = some m.cls := findClass_of_methodNamed B.named
  have hlocks := B.notSynchronized
  have hin : meth.name = "<init>" := (name_of_methodNamed B.named B.method).1
  subst hsz
  have hD := hD.self (sz := s.heap.size)
  generalize hAe : va_A [(h1, .inr (3, [.null, .int 0, .int 0, .null, .int 0, .int 0, .int 0, .int 0]))] s.heap.size = A at hD ⊢
  have hA : ∀ q : Nat, s.heap.size ≤ q → A q := fun q h => by rw [← hAe]; exact Or.inr h
  have hS : va_S A s.heap s.heap [] := va_S.rf
  have hl := lv_entry ([.ref h1, .ref r1, .int 0, .int 1]) (n := 4) (Nat.le_of_ble_eq_true rfl)
  rw [lg_entry_eq]
  generalize (lg_sl ([.ref h1, .ref r1, .int 0, .int 1]) ++ List.replicate (4 - (lg_sl ([.ref h1, .ref r1, .int 0, .int 1])).length) Slot.unset).toArray = ls at hl ⊢
  have hl : lv_has ls 4 [(0, .ref h1), (1, .ref r1), (2, .int 0), (3, .int 1)] := hl
  refine lv_aload_n hx hb dX3_init_0 rfl (lv_at hl 0 rfl) ?_
  refine W.objInit hx hb hown (hts (.methodLink RX3 1 objectInit) (by decide +kernel)) (hts (.instanceMethod objectInit) (by decide +kernel)) (hts (.code objectInit ⟨#[0xb1]⟩ 1 none) (by decide +kernel)) rfl (by rw [hml]; exact hl.1) rfl dX3_init_1 (Nat.le_of_ble_eq_true rfl) (Nat.le_of_ble_eq_true rfl) ?_
  refine W.eq (g2 := F0 m 4 ls []) rfl ?_
  refine lv_aload_n hx hb dX3_init_4 rfl (lv_at hl 0 rfl) ?_
  refine lv_aload_n hx hb dX3_init_5 rfl (lv_at hl 1 rfl) ?_
  refine va_putF (D := (dC, dI)) (own := RX3) (ref := "ReflectModels$Member") (index := 7) (ci := 3) (v := .ref r1) (ty := .object "ReflectModels$ClassModel") (C := RX4) (T := TX4) (N := 8) hx hb hts inX3_init_4 tyX4 tyX4_ok nmX4 hown hK hP hD hS 0 rfl rfl 0 (by decide) (hts (.fieldLink RX3 7 "ReflectModels$Member" "owner" "LReflectModels$ClassModel;") (by decide +kernel)) (fun _ h9 => h9) rfl hin rfl (by decide +kernel) rfl rfl (Nat.le_of_ble_eq_true rfl) dX3_init_6 (fun H locs hP hD hS => ?_)
  have hP : va_P (dC, dI) vwCl [(h1, .inr (3, [.ref r1, .int 0, .int 0, .null, .int 0, .int 0, .int 0, .int 0]))] H := hP
  have hD : va_D A [(h1, .inr (3, [.ref r1, .int 0, .int 0, .null, .int 0, .int 0, .int 0, .int 0]))] := hD
  refine lv_aload_n hx hb dX3_init_9 rfl (lv_at hl 0 rfl) ?_
  refine lv_iload_n hx hb dX3_init_10 rfl (lv_at hl 2 rfl) ?_
  refine va_putF (D := (dC, dI)) (own := RX3) (ref := "ReflectModels$Member") (index := 13) (ci := 3) (v := .int 0) (ty := .boolean) (C := RX4) (T := TX4) (N := 8) hx hb hts inX3_init_4 tyX4 tyX4_ok nmX4 hown hK hP hD hS 0 rfl rfl 1 (by decide) (hts (.fieldLink RX3 13 "ReflectModels$Member" "isStatic" "Z") (by decide +kernel)) (fun _ h9 => h9) rfl hin rfl (by decide +kernel) rfl rfl (Nat.le_of_ble_eq_true rfl) dX3_init_11 (fun H locs hP hD hS => ?_)
  have hP : va_P (dC, dI) vwCl [(h1, .inr (3, [.ref r1, .int 0, .int 0, .null, .int 0, .int 0, .int 0, .int 0]))] H := hP
  have hD : va_D A [(h1, .inr (3, [.ref r1, .int 0, .int 0, .null, .int 0, .int 0, .int 0, .int 0]))] := hD
  refine lv_aload_n hx hb dX3_init_14 rfl (lv_at hl 0 rfl) ?_
  refine lv_iload_n hx hb dX3_init_15 rfl (lv_at hl 3 rfl) ?_
  refine va_putF (D := (dC, dI)) (own := RX3) (ref := "ReflectModels$Member") (index := 17) (ci := 3) (v := .int 1) (ty := .boolean) (C := RX4) (T := TX4) (N := 8) hx hb hts inX3_init_4 tyX4 tyX4_ok nmX4 hown hK hP hD hS 0 rfl rfl 2 (by decide) (hts (.fieldLink RX3 17 "ReflectModels$Member" "isHidden" "Z") (by decide +kernel)) (fun _ h9 => h9) rfl hin rfl (by decide +kernel) rfl rfl (Nat.le_of_ble_eq_true rfl) dX3_init_16 (fun H locs hP hD hS => ?_)
  have hP : va_P (dC, dI) vwCl [(h1, .inr (3, [.ref r1, .int 0, .int 1, .null, .int 0, .int 0, .int 0, .int 0]))] H := hP
  have hD : va_D A [(h1, .inr (3, [.ref r1, .int 0, .int 1, .null, .int 0, .int 0, .int 0, .int 0]))] := hD
  have hP9 := hP.sub (ws' := [(h1, .inr (3, [.ref r1, .int 0, .int 1, .null, .int 0, .int 0, .int 0, .int 0]))]) [0] rfl
  have hD9 := hD.sub (ws' := [(h1, .inr (3, [.ref r1, .int 0, .int 1, .null, .int 0, .int 0, .int 0, .int 0]))]) [0] (by decide) rfl
  have hK9 := hK.sub (tys' := []) [] rfl
  exact W.vret hx hb hr (fun t ht hW => ⟨⟨none, rfl, _, _, ⟨rfl, rfl, rfl⟩, by rw [ht]; exact hP9, va_K.moved hW.alike hK9, hD9⟩, hS.F ht⟩) hS.2.2 dX3_init_19

set_option maxHeartbeats 4000000 in
set_option maxRecDepth 100000 in
theorem c3_initM10 (l : Launch) (dC : Nat → ClassId) (dI : Nat → Nat → Nat) (h1 r1 : Nat) (sz : Nat)  : Met l yX3_init wsX3_init ({ frames := 1, cells := 0, slots := 0, locals := 12 }) (va_Pc [.ref h1, .ref r1, .int 1, .int 0] (pz (dC, dI) [] [(h1, .inr (3, [.null, .int 0, .int 0, .null, .int 0, .int 0, .int 0, .int 0]))] sz)) (qW (dC, dI) (fun v w1 ty1 => v = none ∧ w1 = [(h1, .inr (3, [.ref r1, .int 1, .int 0, .null, .int 0, .int 0, .int 0, .int 0]))] ∧ ty1 = []) (va_A [(h1, .inr (3, [.null, .int 0, .int 0, .null, .int 0, .int 0, .int 0, .int 0]))] sz)) 0 0 (va_A [(h1, .inr (3, [.null, .int 0, .int 0, .null, .int 0, .int 0, .int 0, .int 0]))] sz) := by
  refine Met.ofW (cc := cX3_init) (maxL := 4) (ret := none) (by decide) rfl ?_
  intro p e s m args below meth c s₁ B hml hv
  obtain ⟨rfl, hsz, hP, hK, hD, hN⟩ := hv
  have hx := B.exec
  have hb := B.bytes
  have hr := B.returns
  have hts := atoms_spec (ws := wsX3_init) B.pre
  have hown : s.vm.findClass RX3 = some m.cls := findClass_of_methodNamed B.named
  have hlocks := B.notSynchronized
  have hin : meth.name = "<init>" := (name_of_methodNamed B.named B.method).1
  subst hsz
  have hD := hD.self (sz := s.heap.size)
  generalize hAe : va_A [(h1, .inr (3, [.null, .int 0, .int 0, .null, .int 0, .int 0, .int 0, .int 0]))] s.heap.size = A at hD ⊢
  have hA : ∀ q : Nat, s.heap.size ≤ q → A q := fun q h => by rw [← hAe]; exact Or.inr h
  have hS : va_S A s.heap s.heap [] := va_S.rf
  have hl := lv_entry ([.ref h1, .ref r1, .int 1, .int 0]) (n := 4) (Nat.le_of_ble_eq_true rfl)
  rw [lg_entry_eq]
  generalize (lg_sl ([.ref h1, .ref r1, .int 1, .int 0]) ++ List.replicate (4 - (lg_sl ([.ref h1, .ref r1, .int 1, .int 0])).length) Slot.unset).toArray = ls at hl ⊢
  have hl : lv_has ls 4 [(0, .ref h1), (1, .ref r1), (2, .int 1), (3, .int 0)] := hl
  refine lv_aload_n hx hb dX3_init_0 rfl (lv_at hl 0 rfl) ?_
  refine W.objInit hx hb hown (hts (.methodLink RX3 1 objectInit) (by decide +kernel)) (hts (.instanceMethod objectInit) (by decide +kernel)) (hts (.code objectInit ⟨#[0xb1]⟩ 1 none) (by decide +kernel)) rfl (by rw [hml]; exact hl.1) rfl dX3_init_1 (Nat.le_of_ble_eq_true rfl) (Nat.le_of_ble_eq_true rfl) ?_
  refine W.eq (g2 := F0 m 4 ls []) rfl ?_
  refine lv_aload_n hx hb dX3_init_4 rfl (lv_at hl 0 rfl) ?_
  refine lv_aload_n hx hb dX3_init_5 rfl (lv_at hl 1 rfl) ?_
  refine va_putF (D := (dC, dI)) (own := RX3) (ref := "ReflectModels$Member") (index := 7) (ci := 3) (v := .ref r1) (ty := .object "ReflectModels$ClassModel") (C := RX4) (T := TX4) (N := 8) hx hb hts inX3_init_4 tyX4 tyX4_ok nmX4 hown hK hP hD hS 0 rfl rfl 0 (by decide) (hts (.fieldLink RX3 7 "ReflectModels$Member" "owner" "LReflectModels$ClassModel;") (by decide +kernel)) (fun _ h9 => h9) rfl hin rfl (by decide +kernel) rfl rfl (Nat.le_of_ble_eq_true rfl) dX3_init_6 (fun H locs hP hD hS => ?_)
  have hP : va_P (dC, dI) vwCl [(h1, .inr (3, [.ref r1, .int 0, .int 0, .null, .int 0, .int 0, .int 0, .int 0]))] H := hP
  have hD : va_D A [(h1, .inr (3, [.ref r1, .int 0, .int 0, .null, .int 0, .int 0, .int 0, .int 0]))] := hD
  refine lv_aload_n hx hb dX3_init_9 rfl (lv_at hl 0 rfl) ?_
  refine lv_iload_n hx hb dX3_init_10 rfl (lv_at hl 2 rfl) ?_
  refine va_putF (D := (dC, dI)) (own := RX3) (ref := "ReflectModels$Member") (index := 13) (ci := 3) (v := .int 1) (ty := .boolean) (C := RX4) (T := TX4) (N := 8) hx hb hts inX3_init_4 tyX4 tyX4_ok nmX4 hown hK hP hD hS 0 rfl rfl 1 (by decide) (hts (.fieldLink RX3 13 "ReflectModels$Member" "isStatic" "Z") (by decide +kernel)) (fun _ h9 => h9) rfl hin rfl (by decide +kernel) rfl rfl (Nat.le_of_ble_eq_true rfl) dX3_init_11 (fun H locs hP hD hS => ?_)
  have hP : va_P (dC, dI) vwCl [(h1, .inr (3, [.ref r1, .int 1, .int 0, .null, .int 0, .int 0, .int 0, .int 0]))] H := hP
  have hD : va_D A [(h1, .inr (3, [.ref r1, .int 1, .int 0, .null, .int 0, .int 0, .int 0, .int 0]))] := hD
  refine lv_aload_n hx hb dX3_init_14 rfl (lv_at hl 0 rfl) ?_
  refine lv_iload_n hx hb dX3_init_15 rfl (lv_at hl 3 rfl) ?_
  refine va_putF (D := (dC, dI)) (own := RX3) (ref := "ReflectModels$Member") (index := 17) (ci := 3) (v := .int 0) (ty := .boolean) (C := RX4) (T := TX4) (N := 8) hx hb hts inX3_init_4 tyX4 tyX4_ok nmX4 hown hK hP hD hS 0 rfl rfl 2 (by decide) (hts (.fieldLink RX3 17 "ReflectModels$Member" "isHidden" "Z") (by decide +kernel)) (fun _ h9 => h9) rfl hin rfl (by decide +kernel) rfl rfl (Nat.le_of_ble_eq_true rfl) dX3_init_16 (fun H locs hP hD hS => ?_)
  have hP : va_P (dC, dI) vwCl [(h1, .inr (3, [.ref r1, .int 1, .int 0, .null, .int 0, .int 0, .int 0, .int 0]))] H := hP
  have hD : va_D A [(h1, .inr (3, [.ref r1, .int 1, .int 0, .null, .int 0, .int 0, .int 0, .int 0]))] := hD
  have hP9 := hP.sub (ws' := [(h1, .inr (3, [.ref r1, .int 1, .int 0, .null, .int 0, .int 0, .int 0, .int 0]))]) [0] rfl
  have hD9 := hD.sub (ws' := [(h1, .inr (3, [.ref r1, .int 1, .int 0, .null, .int 0, .int 0, .int 0, .int 0]))]) [0] (by decide) rfl
  have hK9 := hK.sub (tys' := []) [] rfl
  exact W.vret hx hb hr (fun t ht hW => ⟨⟨none, rfl, _, _, ⟨rfl, rfl, rfl⟩, by rw [ht]; exact hP9, va_K.moved hW.alike hK9, hD9⟩, hS.F ht⟩) hS.2.2 dX3_init_19

set_option maxHeartbeats 4000000 in
set_option maxRecDepth 100000 in
theorem c3_initM11 (l : Launch) (dC : Nat → ClassId) (dI : Nat → Nat → Nat) (h1 r1 : Nat) (sz : Nat)  : Met l yX3_init wsX3_init ({ frames := 1, cells := 0, slots := 0, locals := 12 }) (va_Pc [.ref h1, .ref r1, .int 1, .int 1] (pz (dC, dI) [] [(h1, .inr (3, [.null, .int 0, .int 0, .null, .int 0, .int 0, .int 0, .int 0]))] sz)) (qW (dC, dI) (fun v w1 ty1 => v = none ∧ w1 = [(h1, .inr (3, [.ref r1, .int 1, .int 1, .null, .int 0, .int 0, .int 0, .int 0]))] ∧ ty1 = []) (va_A [(h1, .inr (3, [.null, .int 0, .int 0, .null, .int 0, .int 0, .int 0, .int 0]))] sz)) 0 0 (va_A [(h1, .inr (3, [.null, .int 0, .int 0, .null, .int 0, .int 0, .int 0, .int 0]))] sz) := by
  refine Met.ofW (cc := cX3_init) (maxL := 4) (ret := none) (by decide) rfl ?_
  intro p e s m args below meth c s₁ B hml hv
  obtain ⟨rfl, hsz, hP, hK, hD, hN⟩ := hv
  have hx := B.exec
  have hb := B.bytes
  have hr := B.returns
  have hts := atoms_spec (ws := wsX3_init) B.pre
  have hown : s.vm.findClass RX3 = some m.cls := findClass_of_methodNamed B.named
  have hlocks := B.notSynchronized
  have hin : meth.name = "<init>" := (name_of_methodNamed B.named B.method).1
  subst hsz
  have hD := hD.self (sz := s.heap.size)
  generalize hAe : va_A [(h1, .inr (3, [.null, .int 0, .int 0, .null, .int 0, .int 0, .int 0, .int 0]))] s.heap.size = A at hD ⊢
  have hA : ∀ q : Nat, s.heap.size ≤ q → A q := fun q h => by rw [← hAe]; exact Or.inr h
  have hS : va_S A s.heap s.heap [] := va_S.rf
  have hl := lv_entry ([.ref h1, .ref r1, .int 1, .int 1]) (n := 4) (Nat.le_of_ble_eq_true rfl)
  rw [lg_entry_eq]
  generalize (lg_sl ([.ref h1, .ref r1, .int 1, .int 1]) ++ List.replicate (4 - (lg_sl ([.ref h1, .ref r1, .int 1, .int 1])).length) Slot.unset).toArray = ls at hl ⊢
  have hl : lv_has ls 4 [(0, .ref h1), (1, .ref r1), (2, .int 1), (3, .int 1)] := hl
  refine lv_aload_n hx hb dX3_init_0 rfl (lv_at hl 0 rfl) ?_
  refine W.objInit hx hb hown (hts (.methodLink RX3 1 objectInit) (by decide +kernel)) (hts (.instanceMethod objectInit) (by decide +kernel)) (hts (.code objectInit ⟨#[0xb1]⟩ 1 none) (by decide +kernel)) rfl (by rw [hml]; exact hl.1) rfl dX3_init_1 (Nat.le_of_ble_eq_true rfl) (Nat.le_of_ble_eq_true rfl) ?_
  refine W.eq (g2 := F0 m 4 ls []) rfl ?_
  refine lv_aload_n hx hb dX3_init_4 rfl (lv_at hl 0 rfl) ?_
  refine lv_aload_n hx hb dX3_init_5 rfl (lv_at hl 1 rfl) ?_
  refine va_putF (D := (dC, dI)) (own := RX3) (ref := "ReflectModels$Member") (index := 7) (ci := 3) (v := .ref r1) (ty := .object "ReflectModels$ClassModel") (C := RX4) (T := TX4) (N := 8) hx hb hts inX3_init_4 tyX4 tyX4_ok nmX4 hown hK hP hD hS 0 rfl rfl 0 (by decide) (hts (.fieldLink RX3 7 "ReflectModels$Member" "owner" "LReflectModels$ClassModel;") (by decide +kernel)) (fun _ h9 => h9) rfl hin rfl (by decide +kernel) rfl rfl (Nat.le_of_ble_eq_true rfl) dX3_init_6 (fun H locs hP hD hS => ?_)
  have hP : va_P (dC, dI) vwCl [(h1, .inr (3, [.ref r1, .int 0, .int 0, .null, .int 0, .int 0, .int 0, .int 0]))] H := hP
  have hD : va_D A [(h1, .inr (3, [.ref r1, .int 0, .int 0, .null, .int 0, .int 0, .int 0, .int 0]))] := hD
  refine lv_aload_n hx hb dX3_init_9 rfl (lv_at hl 0 rfl) ?_
  refine lv_iload_n hx hb dX3_init_10 rfl (lv_at hl 2 rfl) ?_
  refine va_putF (D := (dC, dI)) (own := RX3) (ref := "ReflectModels$Member") (index := 13) (ci := 3) (v := .int 1) (ty := .boolean) (C := RX4) (T := TX4) (N := 8) hx hb hts inX3_init_4 tyX4 tyX4_ok nmX4 hown hK hP hD hS 0 rfl rfl 1 (by decide) (hts (.fieldLink RX3 13 "ReflectModels$Member" "isStatic" "Z") (by decide +kernel)) (fun _ h9 => h9) rfl hin rfl (by decide +kernel) rfl rfl (Nat.le_of_ble_eq_true rfl) dX3_init_11 (fun H locs hP hD hS => ?_)
  have hP : va_P (dC, dI) vwCl [(h1, .inr (3, [.ref r1, .int 1, .int 0, .null, .int 0, .int 0, .int 0, .int 0]))] H := hP
  have hD : va_D A [(h1, .inr (3, [.ref r1, .int 1, .int 0, .null, .int 0, .int 0, .int 0, .int 0]))] := hD
  refine lv_aload_n hx hb dX3_init_14 rfl (lv_at hl 0 rfl) ?_
  refine lv_iload_n hx hb dX3_init_15 rfl (lv_at hl 3 rfl) ?_
  refine va_putF (D := (dC, dI)) (own := RX3) (ref := "ReflectModels$Member") (index := 17) (ci := 3) (v := .int 1) (ty := .boolean) (C := RX4) (T := TX4) (N := 8) hx hb hts inX3_init_4 tyX4 tyX4_ok nmX4 hown hK hP hD hS 0 rfl rfl 2 (by decide) (hts (.fieldLink RX3 17 "ReflectModels$Member" "isHidden" "Z") (by decide +kernel)) (fun _ h9 => h9) rfl hin rfl (by decide +kernel) rfl rfl (Nat.le_of_ble_eq_true rfl) dX3_init_16 (fun H locs hP hD hS => ?_)
  have hP : va_P (dC, dI) vwCl [(h1, .inr (3, [.ref r1, .int 1, .int 1, .null, .int 0, .int 0, .int 0, .int 0]))] H := hP
  have hD : va_D A [(h1, .inr (3, [.ref r1, .int 1, .int 1, .null, .int 0, .int 0, .int 0, .int 0]))] := hD
  have hP9 := hP.sub (ws' := [(h1, .inr (3, [.ref r1, .int 1, .int 1, .null, .int 0, .int 0, .int 0, .int 0]))]) [0] rfl
  have hD9 := hD.sub (ws' := [(h1, .inr (3, [.ref r1, .int 1, .int 1, .null, .int 0, .int 0, .int 0, .int 0]))]) [0] (by decide) rfl
  have hK9 := hK.sub (tys' := []) [] rfl
  exact W.vret hx hb hr (fun t ht hW => ⟨⟨none, rfl, _, _, ⟨rfl, rfl, rfl⟩, by rw [ht]; exact hP9, va_K.moved hW.alike hK9, hD9⟩, hS.F ht⟩) hS.2.2 dX3_init_19

set_option maxHeartbeats 4000000 in
set_option maxRecDepth 100000 in
theorem c1_init (l : Launch) (dC : Nat → ClassId) (dI : Nat → Nat → Nat) (h1 r1 : Nat) (a2 a3 a4 a5 a6 : Int32) (sz : Nat) (h4 : a4 = 0 ∨ a4 = 1) (h5 : a5 = 0 ∨ a5 = 1) (h6 : a6 = 0 ∨ a6 = 1) : Met l yX1_init wsX1_init ({ frames := 2, cells := 0, slots := 0, locals := 35 }) (va_Pc [.ref h1, .ref r1, .int a2, .int a3, .int a4, .int a5, .int a6, .int (-1)] (pz (dC, dI) [] [(h1, .inr (1, [.null, .int 0, .int 0, .int 0, .int 0, .int 0, .long 0, .int 0, .long 0]))] sz)) (qW (dC, dI) (fun v w1 ty1 => v = none ∧ ∃ f : Int64, w1 = [(h1, .inr (1, [.ref r1, .int a4, .int a6, .int a2, .int a3, .int a5, .long f, .int (-1), .long f]))] ∧ ty1 = []) (va_A [(h1, .inr (1, [.null, .int 0, .int 0, .int 0, .int 0, .int 0, .long 0, .int 0, .long 0]))] sz)) 0 0 (va_A [(h1, .inr (1, [.null, .int 0, .int 0, .int 0, .int 0, .int 0, .long 0, .int 0, .long 0]))] sz) := by
  refine Met.ofW (cc := cX1_init) (maxL := 8) (ret := none) (by decide) rfl ?_
  intro p e s m args below meth c s₁ B hml hv
  obtain ⟨rfl, hsz, hP, hK, hD, hN⟩ := hv
  have hx := B.exec
  have hb := B.bytes
  have hr := B.returns
  have hts := atoms_spec (ws := wsX1_init) B.pre
  have hown : s.vm.findClass RX1 = some m.cls := findClass_of_methodNamed B.named
  have hlocks := B.notSynchronized
  have hin : meth.name = "<init>" := (name_of_methodNamed B.named B.method).1
  subst hsz
  have hD := hD.self (sz := s.heap.size)
  generalize hAe : va_A [(h1, .inr (1, [.null, .int 0, .int 0, .int 0, .int 0, .int 0, .long 0, .int 0, .long 0]))] s.heap.size = A at hD ⊢
  have hA : ∀ q : Nat, s.heap.size ≤ q → A q := fun q h => by rw [← hAe]; exact Or.inr h
  have hS : va_S A s.heap s.heap [] := va_S.rf
  have hl := lv_entry ([.ref h1, .ref r1, .int a2, .int a3, .int a4, .int a5, .int a6, .int (-1)]) (n := 8) (Nat.le_of_ble_eq_true rfl)
  rw [lg_entry_eq]
  generalize (lg_sl ([.ref h1, .ref r1, .int a2, .int a3, .int a4, .int a5, .int a6, .int (-1)]) ++ List.replicate (8 - (lg_sl ([.ref h1, .ref r1, .int a2, .int a3, .int a4, .int a5, .int a6, .int (-1)])).length) Slot.unset).toArray = ls at hl ⊢
  have hl : lv_has ls 8 [(0, .ref h1), (1, .ref r1), (2, .int a2), (3, .int a3), (4, .int a4), (5, .int a5), (6, .int a6), (7, .int (-1))] := hl
  refine lv_aload_n hx hb dX1_init_0 rfl (lv_at hl 0 rfl) ?_
  refine lv_aload_n hx hb dX1_init_1 rfl (lv_at hl 1 rfl) ?_
  refine lv_iload hx hb dX1_init_2 (lv_at hl 4 rfl) ?_
  refine lv_iload hx hb dX1_init_4 (lv_at hl 6 rfl) ?_
  refine clW (wr := []) [0] [] (va_runIN (As := [.ref r1, .int a4, .int a6]) (rest := []) ⟨hx, hb, hml, hown, hts⟩ (c3_initF l dC dI h1 r1 a4 a6 _ h4 h6) ⟨va_cnB 3 hts gX1_init_X3_init_n3 rfl rfl rfl (hN _ (List.mem_of_getElem? (i := 22) rfl)) (hts (.initialized RX3) (by decide +kernel)) (by decide +kernel) ⟨Nat.le_of_ble_eq_true rfl, Nat.le_of_ble_eq_true rfl⟩, rfl, hts (.instanceMethod yX3_init) (by decide +kernel)⟩ ⟨pz_blind, pz_of hP hK hD hN [0] [] rfl (by decide) rfl⟩ rfl rfl hl.1 rfl (lv_room (Nat.le_of_ble_eq_true rfl)) dX1_init_6 ⟨Nat.le_of_ble_eq_true rfl, Nat.le_of_ble_eq_true rfl⟩) hS hP hD hK hA rfl rfl (by decide) (by decide) (fun v w1 ty1 H locs w1 hP hD hK hS => ?_)
  obtain ⟨rfl, rfl, rfl⟩ := w1
  refine W.eq (g2 := F0 m 9 ls []) rfl ?_
  have hP : va_P (dC, dI) vwCl [(h1, .inr (1, [.ref r1, .int a4, .int a6, .int 0, .int 0, .int 0, .long 0, .int 0, .long 0]))] H := hP
  have hD : va_D A [(h1, .inr (1, [.ref r1, .int a4, .int a6, .int 0, .int 0, .int 0, .long 0, .int 0, .long 0]))] := hD
  have hK : va_K (dC, dI) vwCl [] s := hK
  refine W.cs (cells' := 0) (slots' := 0) rfl rfl ?_
  refine lv_aload_n hx hb dX1_init_9 rfl (lv_at hl 0 rfl) ?_
  refine lv_iload_n hx hb dX1_init_10 rfl (lv_at hl 2 rfl) ?_
  refine va_putF (D := (dC, dI)) (own := RX1) (ref := "ReflectModels$Field") (index := 9) (ci := 1) (v := .int a2) (ty := .int) (C := RX1) (T := TX1) (N := 9) hx hb hts inX1_init_1 tyX1 tyX1_ok nmX1 hown hK hP hD hS 0 rfl rfl 3 (by decide) (hts (.fieldLink RX1 9 "ReflectModels$Field" "name" "I") (by decide +kernel)) (fun _ h9 => h9) rfl hin rfl (by decide +kernel) rfl rfl (Nat.le_of_ble_eq_true rfl) dX1_init_11 (fun H locs hP hD hS => ?_)
  have hP : va_P (dC, dI) vwCl [(h1, .inr (1, [.ref r1, .int a4, .int a6, .int a2, .int 0, .int 0, .long 0, .int 0, .long 0]))] H := hP
  have hD : va_D A [(h1, .inr (1, [.ref r1, .int a4, .int a6, .int a2, .int 0, .int 0, .long 0, .int 0, .long 0]))] := hD
  refine lv_aload_n hx hb dX1_init_14 rfl (lv_at hl 0 rfl) ?_
  refine lv_iload_n hx hb dX1_init_15 rfl (lv_at hl 3 rfl) ?_
  refine va_putF (D := (dC, dI)) (own := RX1) (ref := "ReflectModels$Field") (index := 15) (ci := 1) (v := .int a3) (ty := .int) (C := RX1) (T := TX1) (N := 9) hx hb hts inX1_init_1 tyX1 tyX1_ok nmX1 hown hK hP hD hS 0 rfl rfl 4 (by decide) (hts (.fieldLink RX1 15 "ReflectModels$Field" "type" "I") (by decide +kernel)) (fun _ h9 => h9) rfl hin rfl (by decide +kernel) rfl rfl (Nat.le_of_ble_eq_true rfl) dX1_init_16 (fun H locs hP hD hS => ?_)
  have hP : va_P (dC, dI) vwCl [(h1, .inr (1, [.ref r1, .int a4, .int a6, .int a2, .int a3, .int 0, .long 0, .int 0, .long 0]))] H := hP
  have hD : va_D A [(h1, .inr (1, [.ref r1, .int a4, .int a6, .int a2, .int a3, .int 0, .long 0, .int 0, .long 0]))] := hD
  refine lv_aload_n hx hb dX1_init_19 rfl (lv_at hl 0 rfl) ?_
  refine lv_iload hx hb dX1_init_20 (lv_at hl 5 rfl) ?_
  refine va_putF (D := (dC, dI)) (own := RX1) (ref := "ReflectModels$Field") (index := 18) (ci := 1) (v := .int a5) (ty := .boolean) (C := RX1) (T := TX1) (N := 9) hx hb hts inX1_init_1 tyX1 tyX1_ok nmX1 hown hK hP hD hS 0 rfl rfl 5 (by decide) (hts (.fieldLink RX1 18 "ReflectModels$Field" "isFinal" "Z") (by decide +kernel)) (fun _ h9 => h9) rfl hin rfl (by decide +kernel) (nar_b h5) (fit_b h5) (Nat.le_of_ble_eq_true rfl) dX1_init_22 (fun H locs hP hD hS => ?_)
  have hP : va_P (dC, dI) vwCl [(h1, .inr (1, [.ref r1, .int a4, .int a6, .int a2, .int a3, .int a5, .long 0, .int 0, .long 0]))] H := hP
  have hD : va_D A [(h1, .inr (1, [.ref r1, .int a4, .int a6, .int a2, .int a3, .int a5, .long 0, .int 0, .long 0]))] := hD
  refine lv_aload_n hx hb dX1_init_25 rfl (lv_at hl 0 rfl) ?_
  refine lv_iload hx hb dX1_init_26 (lv_at hl 7 rfl) ?_
  refine va_putF (D := (dC, dI)) (own := RX1) (ref := "ReflectModels$Field") (index := 22) (ci := 1) (v := .int (-1)) (ty := .int) (C := RX1) (T := TX1) (N := 9) hx hb hts inX1_init_1 tyX1 tyX1_ok nmX1 hown hK hP hD hS 0 rfl rfl 7 (by decide) (hts (.fieldLink RX1 22 "ReflectModels$Field" "slot" "I") (by decide +kernel)) (fun _ h9 => h9) rfl hin rfl (by decide +kernel) rfl rfl (Nat.le_of_ble_eq_true rfl) dX1_init_28 (fun H locs hP hD hS => ?_)
  have hP : va_P (dC, dI) vwCl [(h1, .inr (1, [.ref r1, .int a4, .int a6, .int a2, .int a3, .int a5, .long 0, .int (-1), .long 0]))] H := hP
  have hD : va_D A [(h1, .inr (1, [.ref r1, .int a4, .int a6, .int a2, .int a3, .int a5, .long 0, .int (-1), .long 0]))] := hD
  refine lv_aload_n hx hb dX1_init_31 rfl (lv_at hl 0 rfl) ?_
  refine lv_iload_n hx hb dX1_init_32 rfl (lv_at hl 3 rfl) ?_
  refine lv_if_lt (tgt := 42) hx hb dX1_init_33 (by decide) (fun c2 => ?_) (fun c2 => ?_)
  · have ic2 : a3.toInt < 0 := il2 rfl (by decide) c2
    refine lv_lconst (v := 0) hx hb dX1_init_42 (by decide) ?_
    refine va_putF (D := (dC, dI)) (own := RX1) (ref := "ReflectModels$Field") (index := 27) (ci := 1) (v := .long 0) (ty := .long) (C := RX1) (T := TX1) (N := 9) hx hb hts inX1_init_1 tyX1 tyX1_ok nmX1 hown hK hP hD hS 0 rfl rfl 6 (by decide) (hts (.fieldLink RX1 27 "ReflectModels$Field" "first" "J") (by decide +kernel)) (fun _ h9 => h9) rfl hin rfl (by decide +kernel) rfl rfl (Nat.le_of_ble_eq_true rfl) dX1_init_43 (fun H locs hP hD hS => ?_)
    have hP : va_P (dC, dI) vwCl [(h1, .inr (1, [.ref r1, .int a4, .int a6, .int a2, .int a3, .int a5, .long 0, .int (-1), .long 0]))] H := hP
    have hD : va_D A [(h1, .inr (1, [.ref r1, .int a4, .int a6, .int a2, .int a3, .int a5, .long 0, .int (-1), .long 0]))] := hD
    refine lv_aload_n hx hb dX1_init_46 rfl (lv_at hl 0 rfl) ?_
    refine lv_aload_n hx hb dX1_init_47 rfl (lv_at hl 0 rfl) ?_
    refine va_get (D := (dC, dI)) (own := RX1) (ref := "ReflectModels$Field") (index := 27) (ci := 1) (v := .long 0) (C := RX1) (T := TX1) (N := 9) hx hb hts inX1_init_1 hown hK hP 0 rfl rfl 6 (by decide) (hts (.fieldLink RX1 27 "ReflectModels$Field" "first" "J") (by decide +kernel)) (fun _ h9 => h9) rfl dX1_init_48 ?_
    refine va_put (D := (dC, dI)) (own := RX1) (ref := "ReflectModels$Field") (index := 31) (ci := 1) (v := .long 0) (ty := .long) (C := RX1) (T := TX1) (N := 9) hx hb hts inX1_init_1 tyX1 tyX1_ok nmX1 hown hK hP hD hS 0 rfl rfl 8 (by decide) (hts (.fieldLink RX1 31 "ReflectModels$Field" "held" "J") (by decide +kernel)) (fun _ h9 => h9) rfl (by decide +kernel) rfl rfl (Nat.le_of_ble_eq_true rfl) dX1_init_51 (fun H locs hP hD hS => ?_)
    have hP : va_P (dC, dI) vwCl [(h1, .inr (1, [.ref r1, .int a4, .int a6, .int a2, .int a3, .int a5, .long 0, .int (-1), .long 0]))] H := hP
    have hD : va_D A [(h1, .inr (1, [.ref r1, .int a4, .int a6, .int a2, .int a3, .int a5, .long 0, .int (-1), .long 0]))] := hD
    have hP9 := hP.sub (ws' := [(h1, .inr (1, [.ref r1, .int a4, .int a6, .int a2, .int a3, .int a5, .long 0, .int (-1), .long 0]))]) [0] rfl
    have hD9 := hD.sub (ws' := [(h1, .inr (1, [.ref r1, .int a4, .int a6, .int a2, .int a3, .int a5, .long 0, .int (-1), .long 0]))]) [0] (by decide) rfl
    have hK9 := hK.sub (tys' := []) [] rfl
    exact W.vret hx hb hr (fun t ht hW => ⟨⟨none, rfl, _, _, ⟨rfl, _, rfl, rfl⟩, by rw [ht]; exact hP9, va_K.moved hW.alike hK9, hD9⟩, hS.F ht⟩) hS.2.2 dX1_init_54
  · have ic2 : 0 ≤ a3.toInt := inl2 rfl (by decide) c2
    refine lv_ldc2 (v := (-1)) hx hb hown (hts (.constantLong RX1 25 (-1)) (by decide +kernel)) dX1_init_36 ?_
    refine lv_goto (tgt := 43) hx hb dX1_init_39 (by decide) ?_
    refine va_putF (D := (dC, dI)) (own := RX1) (ref := "ReflectModels$Field") (index := 27) (ci := 1) (v := .long (-1)) (ty := .long) (C := RX1) (T := TX1) (N := 9) hx hb hts inX1_init_1 tyX1 tyX1_ok nmX1 hown hK hP hD hS 0 rfl rfl 6 (by decide) (hts (.fieldLink RX1 27 "ReflectModels$Field" "first" "J") (by decide +kernel)) (fun _ h9 => h9) rfl hin rfl (by decide +kernel) rfl rfl (Nat.le_of_ble_eq_true rfl) dX1_init_43 (fun H locs hP hD hS => ?_)
    have hP : va_P (dC, dI) vwCl [(h1, .inr (1, [.ref r1, .int a4, .int a6, .int a2, .int a3, .int a5, .long (-1), .int (-1), .long 0]))] H := hP
    have hD : va_D A [(h1, .inr (1, [.ref r1, .int a4, .int a6, .int a2, .int a3, .int a5, .long (-1), .int (-1), .long 0]))] := hD
    refine lv_aload_n hx hb dX1_init_46 rfl (lv_at hl 0 rfl) ?_
    refine lv_aload_n hx hb dX1_init_47 rfl (lv_at hl 0 rfl) ?_
    refine va_get (D := (dC, dI)) (own := RX1) (ref := "ReflectModels$Field") (index := 27) (ci := 1) (v := .long (-1)) (C := RX1) (T := TX1) (N := 9) hx hb hts inX1_init_1 hown hK hP 0 rfl rfl 6 (by decide) (hts (.fieldLink RX1 27 "ReflectModels$Field" "first" "J") (by decide +kernel)) (fun _ h9 => h9) rfl dX1_init_48 ?_
    refine va_put (D := (dC, dI)) (own := RX1) (ref := "ReflectModels$Field") (index := 31) (ci := 1) (v := .long (-1)) (ty := .long) (C := RX1) (T := TX1) (N := 9) hx hb hts inX1_init_1 tyX1 tyX1_ok nmX1 hown hK hP hD hS 0 rfl rfl 8 (by decide) (hts (.fieldLink RX1 31 "ReflectModels$Field" "held" "J") (by decide +kernel)) (fun _ h9 => h9) rfl (by decide +kernel) rfl rfl (Nat.le_of_ble_eq_true rfl) dX1_init_51 (fun H locs hP hD hS => ?_)
    have hP : va_P (dC, dI) vwCl [(h1, .inr (1, [.ref r1, .int a4, .int a6, .int a2, .int a3, .int a5, .long (-1), .int (-1), .long (-1)]))] H := hP
    have hD : va_D A [(h1, .inr (1, [.ref r1, .int a4, .int a6, .int a2, .int a3, .int a5, .long (-1), .int (-1), .long (-1)]))] := hD
    have hP9 := hP.sub (ws' := [(h1, .inr (1, [.ref r1, .int a4, .int a6, .int a2, .int a3, .int a5, .long (-1), .int (-1), .long (-1)]))]) [0] rfl
    have hD9 := hD.sub (ws' := [(h1, .inr (1, [.ref r1, .int a4, .int a6, .int a2, .int a3, .int a5, .long (-1), .int (-1), .long (-1)]))]) [0] (by decide) rfl
    have hK9 := hK.sub (tys' := []) [] rfl
    exact W.vret hx hb hr (fun t ht hW => ⟨⟨none, rfl, _, _, ⟨rfl, _, rfl, rfl⟩, by rw [ht]; exact hP9, va_K.moved hW.alike hK9, hD9⟩, hS.F ht⟩) hS.2.2 dX1_init_54

set_option maxHeartbeats 4000000 in
set_option maxRecDepth 100000 in
theorem c8_addMemberF (l : Launch) (dC : Nat → ClassId) (dI : Nat → Nat → Nat) (h0 : Nat) (q : Nat → Nat) (cA : Nat → ClassId) (h1 r1 : Nat) (s1 s2 s3 s4 s5 : Int32) (s6 : Int64) (s7 : Int32) (s8 : Int64) (sz : Nat)  : Met l yX8_addMember wsX8_addMember ({ frames := 0, cells := 0, slots := 0, locals := 0 }) (va_Pc [.ref h0, .ref h1] (pz (dC, dI) [((cA 1), .object "ReflectModels$Member")] [(h0, .inr (7, [.ref (q 0), .int 1, .ref (q 1), .int 0, .int 0, .ref (q 2), .int 0, .ref (q 3), .int 0, .ref (q 4), .int 0, .int 0, .ref (q 5), .int 0, .int 0])), ((q 1), .inl ((cA 1), 40, .inr (.inr (.inr (.inr (fun _ => none)))))), (h1, .inr (1, [.ref r1, .int s1, .int s2, .int s3, .int s4, .int s5, .long s6, .int s7, .long s8])), (r1, .inr (0, [.int 0, .null, .int 0, .null, .int 0, .int 0, .int 1, .int 1, .int 0, .int 0, .int 0, .int 0]))] sz)) (qW (dC, dI) (fun v w1 ty1 => v = some (.int 0) ∧ w1 = [] ∧ ty1 = []) (va_A [(h0, .inr (7, [.ref (q 0), .int 1, .ref (q 1), .int 0, .int 0, .ref (q 2), .int 0, .ref (q 3), .int 0, .ref (q 4), .int 0, .int 0, .ref (q 5), .int 0, .int 0])), ((q 1), .inl ((cA 1), 40, .inr (.inr (.inr (.inr (fun _ => none)))))), (h1, .inr (1, [.ref r1, .int s1, .int s2, .int s3, .int s4, .int s5, .long s6, .int s7, .long s8])), (r1, .inr (0, [.int 0, .null, .int 0, .null, .int 0, .int 0, .int 1, .int 1, .int 0, .int 0, .int 0, .int 0]))] sz)) 0 0 (va_A [(h0, .inr (7, [.ref (q 0), .int 1, .ref (q 1), .int 0, .int 0, .ref (q 2), .int 0, .ref (q 3), .int 0, .ref (q 4), .int 0, .int 0, .ref (q 5), .int 0, .int 0])), ((q 1), .inl ((cA 1), 40, .inr (.inr (.inr (.inr (fun _ => none)))))), (h1, .inr (1, [.ref r1, .int s1, .int s2, .int s3, .int s4, .int s5, .long s6, .int s7, .long s8])), (r1, .inr (0, [.int 0, .null, .int 0, .null, .int 0, .int 0, .int 1, .int 1, .int 0, .int 0, .int 0, .int 0]))] sz) := by
  refine Met.ofW (cc := cX8_addMember) (maxL := 2) (ret := (some .int)) (by decide) rfl ?_
  intro p e s m args below meth c s₁ B hml hv
  obtain ⟨rfl, hsz, hP, hK, hD, hN⟩ := hv
  have hx := B.exec
  have hb := B.bytes
  have hr := B.returns
  have hts := atoms_spec (ws := wsX8_addMember) B.pre
  have hown : s.vm.findClass RX8 = some m.cls := findClass_of_methodNamed B.named
  have hlocks := B.notSynchronized
  subst hsz
  have hD := hD.self (sz := s.heap.size)
  generalize hAe : va_A [(h0, .inr (7, [.ref (q 0), .int 1, .ref (q 1), .int 0, .int 0, .ref (q 2), .int 0, .ref (q 3), .int 0, .ref (q 4), .int 0, .int 0, .ref (q 5), .int 0, .int 0])), ((q 1), .inl ((cA 1), 40, .inr (.inr (.inr (.inr (fun _ => none)))))), (h1, .inr (1, [.ref r1, .int s1, .int s2, .int s3, .int s4, .int s5, .long s6, .int s7, .long s8])), (r1, .inr (0, [.int 0, .null, .int 0, .null, .int 0, .int 0, .int 1, .int 1, .int 0, .int 0, .int 0, .int 0]))] s.heap.size = A at hD ⊢
  have hA : ∀ q : Nat, s.heap.size ≤ q → A q := fun q h => by rw [← hAe]; exact Or.inr h
  have hS : va_S A s.heap s.heap [] := va_S.rf
  have hl := lv_entry ([.ref h0, .ref h1]) (n := 2) (Nat.le_of_ble_eq_true rfl)
  rw [lg_entry_eq]
  generalize (lg_sl ([.ref h0, .ref h1]) ++ List.replicate (2 - (lg_sl ([.ref h0, .ref h1])).length) Slot.unset).toArray = ls at hl ⊢
  have hl : lv_has ls 2 [(0, .ref h0), (1, .ref h1)] := hl
  refine lv_aload_n hx hb dX8_addMember_0 rfl (lv_at hl 0 rfl) ?_
  refine va_get (D := (dC, dI)) (own := RX8) (ref := "ReflectModels") (index := 21) (ci := 7) (v := .ref (q 1)) (C := RX8) (T := TX8) (N := 15) hx hb hts inX8_addMember_8 hown hK hP 0 rfl rfl 2 (by decide) (hts (.fieldLink RX8 21 "ReflectModels" "members" "[LReflectModels$Member;") (by decide +kernel)) (fun _ h9 => h9) rfl dX8_addMember_1 ?_
  refine lv_aload_n hx hb dX8_addMember_4 rfl (lv_at hl 0 rfl) ?_
  refine va_get (D := (dC, dI)) (own := RX8) (ref := "ReflectModels") (index := 25) (ci := 7) (v := .int 0) (C := RX8) (T := TX8) (N := 15) hx hb hts inX8_addMember_8 hown hK hP 0 rfl rfl 3 (by decide) (hts (.fieldLink RX8 25 "ReflectModels" "memberCount" "I") (by decide +kernel)) (fun _ h9 => h9) rfl dX8_addMember_5 ?_
  refine lv_aload_n hx hb dX8_addMember_8 rfl (lv_at hl 1 rfl) ?_
  refine va_astqO (r := (RX1, TX1, 9)) hx hb hK hP hD hS 1 0 2 1 rfl rfl (hN _ (List.mem_of_getElem? (i := 65) rfl)) rfl rfl (vp_in_iff.mpr ⟨by decide, by decide⟩) dX8_addMember_9 (fun H locs hP hD hS => ?_)
  have hP : va_P (dC, dI) vwCl [(h0, .inr (7, [.ref (q 0), .int 1, .ref (q 1), .int 0, .int 0, .ref (q 2), .int 0, .ref (q 3), .int 0, .ref (q 4), .int 0, .int 0, .ref (q 5), .int 0, .int 0])), ((q 1), .inl ((cA 1), 40, .inr (.inr (.inr (.inr (va_up (fun _ => none) 0 (some h1))))))), (h1, .inr (1, [.ref r1, .int s1, .int s2, .int s3, .int s4, .int s5, .long s6, .int s7, .long s8])), (r1, .inr (0, [.int 0, .null, .int 0, .null, .int 0, .int 0, .int 1, .int 1, .int 0, .int 0, .int 0, .int 0]))] H := hP
  have hD : va_D A [(h0, .inr (7, [.ref (q 0), .int 1, .ref (q 1), .int 0, .int 0, .ref (q 2), .int 0, .ref (q 3), .int 0, .ref (q 4), .int 0, .int 0, .ref (q 5), .int 0, .int 0])), ((q 1), .inl ((cA 1), 40, .inr (.inr (.inr (.inr (va_up (fun _ => none) 0 (some h1))))))), (h1, .inr (1, [.ref r1, .int s1, .int s2, .int s3, .int s4, .int s5, .long s6, .int s7, .long s8])), (r1, .inr (0, [.int 0, .null, .int 0, .null, .int 0, .int 0, .int 1, .int 1, .int 0, .int 0, .int 0, .int 0]))] := hD
  refine lv_aload_n hx hb dX8_addMember_10 rfl (lv_at hl 0 rfl) ?_
  refine lv_dup hx hb dX8_addMember_11 rfl ?_
  refine va_get (D := (dC, dI)) (own := RX8) (ref := "ReflectModels") (index := 25) (ci := 7) (v := .int 0) (C := RX8) (T := TX8) (N := 15) hx hb hts inX8_addMember_8 hown hK hP 0 rfl rfl 3 (by decide) (hts (.fieldLink RX8 25 "ReflectModels" "memberCount" "I") (by decide +kernel)) (fun _ h9 => h9) rfl dX8_addMember_12 ?_
  refine lv_iconst (v := 1) hx hb dX8_addMember_15 (by decide) ?_
  refine lv_iadd hx hb dX8_addMember_16 ?_
  refine lv_topi (fun y1 ey1 => ?_)
  obtain rfl : y1 = 1 := ey1.trans (by decide)
  refine va_put (D := (dC, dI)) (own := RX8) (ref := "ReflectModels") (index := 25) (ci := 7) (v := .int 1) (ty := .int) (C := RX8) (T := TX8) (N := 15) hx hb hts inX8_addMember_8 tyX8 tyX8_ok nmX8 hown hK hP hD hS 0 rfl rfl 3 (by decide) (hts (.fieldLink RX8 25 "ReflectModels" "memberCount" "I") (by decide +kernel)) (fun _ h9 => h9) rfl (by decide +kernel) rfl rfl (Nat.le_of_ble_eq_true rfl) dX8_addMember_17 (fun H locs hP hD hS => ?_)
  have hP : va_P (dC, dI) vwCl [(h0, .inr (7, [.ref (q 0), .int 1, .ref (q 1), .int 1, .int 0, .ref (q 2), .int 0, .ref (q 3), .int 0, .ref (q 4), .int 0, .int 0, .ref (q 5), .int 0, .int 0])), ((q 1), .inl ((cA 1), 40, .inr (.inr (.inr (.inr (va_up (fun _ => none) 0 (some h1))))))), (h1, .inr (1, [.ref r1, .int s1, .int s2, .int s3, .int s4, .int s5, .long s6, .int s7, .long s8])), (r1, .inr (0, [.int 0, .null, .int 0, .null, .int 0, .int 0, .int 1, .int 1, .int 0, .int 0, .int 0, .int 0]))] H := hP
  have hD : va_D A [(h0, .inr (7, [.ref (q 0), .int 1, .ref (q 1), .int 1, .int 0, .ref (q 2), .int 0, .ref (q 3), .int 0, .ref (q 4), .int 0, .int 0, .ref (q 5), .int 0, .int 0])), ((q 1), .inl ((cA 1), 40, .inr (.inr (.inr (.inr (va_up (fun _ => none) 0 (some h1))))))), (h1, .inr (1, [.ref r1, .int s1, .int s2, .int s3, .int s4, .int s5, .long s6, .int s7, .long s8])), (r1, .inr (0, [.int 0, .null, .int 0, .null, .int 0, .int 0, .int 1, .int 1, .int 0, .int 0, .int 0, .int 0]))] := hD
  refine lv_aload_n hx hb dX8_addMember_20 rfl (lv_at hl 1 rfl) ?_
  refine va_get (D := (dC, dI)) (own := RX8) (ref := "ReflectModels$Member") (index := 175) (ci := 1) (v := .ref r1) (C := RX1) (T := TX1) (N := 9) hx hb hts inX8_addMember_1 hown hK hP 2 rfl rfl 0 (by decide) (hts (.fieldLink RX8 175 "ReflectModels$Member" "owner" "LReflectModels$ClassModel;") (by decide +kernel)) (fun _ h9 => h9) rfl dX8_addMember_21 ?_
  refine lv_dup hx hb dX8_addMember_24 rfl ?_
  refine va_getN (host := "ReflectModels") (D := (dC, dI)) (own := RX8) (ref := "ReflectModels$ClassModel") (index := 270) (ci := 0) (v := .int 0) (C := RX0) (T := TX0) (N := 12) hx hb hts inX8_addMember_0 hown hK hP 3 rfl rfl 11 (by decide) (va_Nw.use rfl (hN _ (List.mem_of_getElem? (i := 20) rfl))) (fun _ h9 => h9) rfl dX8_addMember_25 ?_
  refine lv_iconst (v := 1) hx hb dX8_addMember_28 (by decide) ?_
  refine lv_iadd hx hb dX8_addMember_29 ?_
  refine lv_topi (fun y2 ey2 => ?_)
  obtain rfl : y2 = 1 := ey2.trans (by decide)
  refine va_putN (host := "ReflectModels") (D := (dC, dI)) (own := RX8) (ref := "ReflectModels$ClassModel") (index := 270) (ci := 0) (v := .int 1) (ty := .int) (C := RX0) (T := TX0) (N := 12) hx hb hts inX8_addMember_0 tyX0 tyX0_ok nmX0 hown hK hP hD hS 3 rfl rfl 11 (by decide) (va_Nw.use rfl (hN _ (List.mem_of_getElem? (i := 20) rfl))) (fun _ h9 => h9) rfl (by decide +kernel) rfl rfl (Nat.le_of_ble_eq_true rfl) dX8_addMember_30 (fun H locs hP hD hS => ?_)
  have hP : va_P (dC, dI) vwCl [(h0, .inr (7, [.ref (q 0), .int 1, .ref (q 1), .int 1, .int 0, .ref (q 2), .int 0, .ref (q 3), .int 0, .ref (q 4), .int 0, .int 0, .ref (q 5), .int 0, .int 0])), ((q 1), .inl ((cA 1), 40, .inr (.inr (.inr (.inr (va_up (fun _ => none) 0 (some h1))))))), (h1, .inr (1, [.ref r1, .int s1, .int s2, .int s3, .int s4, .int s5, .long s6, .int s7, .long s8])), (r1, .inr (0, [.int 0, .null, .int 0, .null, .int 0, .int 0, .int 1, .int 1, .int 0, .int 0, .int 0, .int 1]))] H := hP
  have hD : va_D A [(h0, .inr (7, [.ref (q 0), .int 1, .ref (q 1), .int 1, .int 0, .ref (q 2), .int 0, .ref (q 3), .int 0, .ref (q 4), .int 0, .int 0, .ref (q 5), .int 0, .int 0])), ((q 1), .inl ((cA 1), 40, .inr (.inr (.inr (.inr (va_up (fun _ => none) 0 (some h1))))))), (h1, .inr (1, [.ref r1, .int s1, .int s2, .int s3, .int s4, .int s5, .long s6, .int s7, .long s8])), (r1, .inr (0, [.int 0, .null, .int 0, .null, .int 0, .int 0, .int 1, .int 1, .int 0, .int 0, .int 0, .int 1]))] := hD
  refine lv_aload_n hx hb dX8_addMember_33 rfl (lv_at hl 0 rfl) ?_
  refine va_get (D := (dC, dI)) (own := RX8) (ref := "ReflectModels") (index := 25) (ci := 7) (v := .int 1) (C := RX8) (T := TX8) (N := 15) hx hb hts inX8_addMember_8 hown hK hP 0 rfl rfl 3 (by decide) (hts (.fieldLink RX8 25 "ReflectModels" "memberCount" "I") (by decide +kernel)) (fun _ h9 => h9) rfl dX8_addMember_34 ?_
  refine lv_iconst (v := 1) hx hb dX8_addMember_37 (by decide) ?_
  refine lv_isub hx hb dX8_addMember_38 ?_
  refine lv_topi (fun y3 ey3 => ?_)
  obtain rfl : y3 = 0 := ey3.trans (by decide)
  have hP9 := hP.sub (ws' := []) [] rfl
  have hD9 := hD.sub (ws' := []) [] (by decide) rfl
  have hK9 := hK.sub (tys' := []) [] rfl
  exact W.zret (v := 0) (ty := .int) hx hb hr rfl (fun t ht hW => ⟨⟨(some (.int 0)), rfl, _, _, ⟨rfl, rfl, rfl⟩, by rw [ht]; exact hP9, va_K.moved hW.alike hK9, hD9⟩, hS.F ht⟩) hS.2.2 dX8_addMember_39

set_option maxHeartbeats 4000000 in
set_option maxRecDepth 100000 in
theorem c8_addMemberM (l : Launch) (dC : Nat → ClassId) (dI : Nat → Nat → Nat) (h0 : Nat) (q : Nat → Nat) (cA : Nat → ClassId) (h1 r1 : Nat) (s1 s2 : Int32) (g1 : Nat) (s4 s5 s6 s7 : Int32) (sz : Nat)  : Met l yX8_addMember wsX8_addMember ({ frames := 0, cells := 0, slots := 0, locals := 0 }) (va_Pc [.ref h0, .ref h1] (pz (dC, dI) [((cA 1), .object "ReflectModels$Member")] [(h0, .inr (7, [.ref (q 0), .int 1, .ref (q 1), .int 0, .int 0, .ref (q 2), .int 0, .ref (q 3), .int 0, .ref (q 4), .int 0, .int 0, .ref (q 5), .int 0, .int 0])), ((q 1), .inl ((cA 1), 40, .inr (.inr (.inr (.inr (fun _ => none)))))), (h1, .inr (3, [.ref r1, .int s1, .int s2, .ref g1, .int s4, .int s5, .int s6, .int s7])), (r1, .inr (0, [.int 0, .null, .int 0, .null, .int 0, .int 0, .int 1, .int 1, .int 0, .int 0, .int 0, .int 0]))] sz)) (qW (dC, dI) (fun v w1 ty1 => v = some (.int 0) ∧ w1 = [] ∧ ty1 = []) (va_A [(h0, .inr (7, [.ref (q 0), .int 1, .ref (q 1), .int 0, .int 0, .ref (q 2), .int 0, .ref (q 3), .int 0, .ref (q 4), .int 0, .int 0, .ref (q 5), .int 0, .int 0])), ((q 1), .inl ((cA 1), 40, .inr (.inr (.inr (.inr (fun _ => none)))))), (h1, .inr (3, [.ref r1, .int s1, .int s2, .ref g1, .int s4, .int s5, .int s6, .int s7])), (r1, .inr (0, [.int 0, .null, .int 0, .null, .int 0, .int 0, .int 1, .int 1, .int 0, .int 0, .int 0, .int 0]))] sz)) 0 0 (va_A [(h0, .inr (7, [.ref (q 0), .int 1, .ref (q 1), .int 0, .int 0, .ref (q 2), .int 0, .ref (q 3), .int 0, .ref (q 4), .int 0, .int 0, .ref (q 5), .int 0, .int 0])), ((q 1), .inl ((cA 1), 40, .inr (.inr (.inr (.inr (fun _ => none)))))), (h1, .inr (3, [.ref r1, .int s1, .int s2, .ref g1, .int s4, .int s5, .int s6, .int s7])), (r1, .inr (0, [.int 0, .null, .int 0, .null, .int 0, .int 0, .int 1, .int 1, .int 0, .int 0, .int 0, .int 0]))] sz) := by
  refine Met.ofW (cc := cX8_addMember) (maxL := 2) (ret := (some .int)) (by decide) rfl ?_
  intro p e s m args below meth c s₁ B hml hv
  obtain ⟨rfl, hsz, hP, hK, hD, hN⟩ := hv
  have hx := B.exec
  have hb := B.bytes
  have hr := B.returns
  have hts := atoms_spec (ws := wsX8_addMember) B.pre
  have hown : s.vm.findClass RX8 = some m.cls := findClass_of_methodNamed B.named
  have hlocks := B.notSynchronized
  subst hsz
  have hD := hD.self (sz := s.heap.size)
  generalize hAe : va_A [(h0, .inr (7, [.ref (q 0), .int 1, .ref (q 1), .int 0, .int 0, .ref (q 2), .int 0, .ref (q 3), .int 0, .ref (q 4), .int 0, .int 0, .ref (q 5), .int 0, .int 0])), ((q 1), .inl ((cA 1), 40, .inr (.inr (.inr (.inr (fun _ => none)))))), (h1, .inr (3, [.ref r1, .int s1, .int s2, .ref g1, .int s4, .int s5, .int s6, .int s7])), (r1, .inr (0, [.int 0, .null, .int 0, .null, .int 0, .int 0, .int 1, .int 1, .int 0, .int 0, .int 0, .int 0]))] s.heap.size = A at hD ⊢
  have hA : ∀ q : Nat, s.heap.size ≤ q → A q := fun q h => by rw [← hAe]; exact Or.inr h
  have hS : va_S A s.heap s.heap [] := va_S.rf
  have hl := lv_entry ([.ref h0, .ref h1]) (n := 2) (Nat.le_of_ble_eq_true rfl)
  rw [lg_entry_eq]
  generalize (lg_sl ([.ref h0, .ref h1]) ++ List.replicate (2 - (lg_sl ([.ref h0, .ref h1])).length) Slot.unset).toArray = ls at hl ⊢
  have hl : lv_has ls 2 [(0, .ref h0), (1, .ref h1)] := hl
  refine lv_aload_n hx hb dX8_addMember_0 rfl (lv_at hl 0 rfl) ?_
  refine va_get (D := (dC, dI)) (own := RX8) (ref := "ReflectModels") (index := 21) (ci := 7) (v := .ref (q 1)) (C := RX8) (T := TX8) (N := 15) hx hb hts inX8_addMember_8 hown hK hP 0 rfl rfl 2 (by decide) (hts (.fieldLink RX8 21 "ReflectModels" "members" "[LReflectModels$Member;") (by decide +kernel)) (fun _ h9 => h9) rfl dX8_addMember_1 ?_
  refine lv_aload_n hx hb dX8_addMember_4 rfl (lv_at hl 0 rfl) ?_
  refine va_get (D := (dC, dI)) (own := RX8) (ref := "ReflectModels") (index := 25) (ci := 7) (v := .int 0) (C := RX8) (T := TX8) (N := 15) hx hb hts inX8_addMember_8 hown hK hP 0 rfl rfl 3 (by decide) (hts (.fieldLink RX8 25 "ReflectModels" "memberCount" "I") (by decide +kernel)) (fun _ h9 => h9) rfl dX8_addMember_5 ?_
  refine lv_aload_n hx hb dX8_addMember_8 rfl (lv_at hl 1 rfl) ?_
  refine va_astqO (r := (RX4, TX4, 8)) hx hb hK hP hD hS 1 0 2 3 rfl rfl (hN _ (List.mem_of_getElem? (i := 66) rfl)) rfl rfl (vp_in_iff.mpr ⟨by decide, by decide⟩) dX8_addMember_9 (fun H locs hP hD hS => ?_)
  have hP : va_P (dC, dI) vwCl [(h0, .inr (7, [.ref (q 0), .int 1, .ref (q 1), .int 0, .int 0, .ref (q 2), .int 0, .ref (q 3), .int 0, .ref (q 4), .int 0, .int 0, .ref (q 5), .int 0, .int 0])), ((q 1), .inl ((cA 1), 40, .inr (.inr (.inr (.inr (va_up (fun _ => none) 0 (some h1))))))), (h1, .inr (3, [.ref r1, .int s1, .int s2, .ref g1, .int s4, .int s5, .int s6, .int s7])), (r1, .inr (0, [.int 0, .null, .int 0, .null, .int 0, .int 0, .int 1, .int 1, .int 0, .int 0, .int 0, .int 0]))] H := hP
  have hD : va_D A [(h0, .inr (7, [.ref (q 0), .int 1, .ref (q 1), .int 0, .int 0, .ref (q 2), .int 0, .ref (q 3), .int 0, .ref (q 4), .int 0, .int 0, .ref (q 5), .int 0, .int 0])), ((q 1), .inl ((cA 1), 40, .inr (.inr (.inr (.inr (va_up (fun _ => none) 0 (some h1))))))), (h1, .inr (3, [.ref r1, .int s1, .int s2, .ref g1, .int s4, .int s5, .int s6, .int s7])), (r1, .inr (0, [.int 0, .null, .int 0, .null, .int 0, .int 0, .int 1, .int 1, .int 0, .int 0, .int 0, .int 0]))] := hD
  refine lv_aload_n hx hb dX8_addMember_10 rfl (lv_at hl 0 rfl) ?_
  refine lv_dup hx hb dX8_addMember_11 rfl ?_
  refine va_get (D := (dC, dI)) (own := RX8) (ref := "ReflectModels") (index := 25) (ci := 7) (v := .int 0) (C := RX8) (T := TX8) (N := 15) hx hb hts inX8_addMember_8 hown hK hP 0 rfl rfl 3 (by decide) (hts (.fieldLink RX8 25 "ReflectModels" "memberCount" "I") (by decide +kernel)) (fun _ h9 => h9) rfl dX8_addMember_12 ?_
  refine lv_iconst (v := 1) hx hb dX8_addMember_15 (by decide) ?_
  refine lv_iadd hx hb dX8_addMember_16 ?_
  refine lv_topi (fun y1 ey1 => ?_)
  obtain rfl : y1 = 1 := ey1.trans (by decide)
  refine va_put (D := (dC, dI)) (own := RX8) (ref := "ReflectModels") (index := 25) (ci := 7) (v := .int 1) (ty := .int) (C := RX8) (T := TX8) (N := 15) hx hb hts inX8_addMember_8 tyX8 tyX8_ok nmX8 hown hK hP hD hS 0 rfl rfl 3 (by decide) (hts (.fieldLink RX8 25 "ReflectModels" "memberCount" "I") (by decide +kernel)) (fun _ h9 => h9) rfl (by decide +kernel) rfl rfl (Nat.le_of_ble_eq_true rfl) dX8_addMember_17 (fun H locs hP hD hS => ?_)
  have hP : va_P (dC, dI) vwCl [(h0, .inr (7, [.ref (q 0), .int 1, .ref (q 1), .int 1, .int 0, .ref (q 2), .int 0, .ref (q 3), .int 0, .ref (q 4), .int 0, .int 0, .ref (q 5), .int 0, .int 0])), ((q 1), .inl ((cA 1), 40, .inr (.inr (.inr (.inr (va_up (fun _ => none) 0 (some h1))))))), (h1, .inr (3, [.ref r1, .int s1, .int s2, .ref g1, .int s4, .int s5, .int s6, .int s7])), (r1, .inr (0, [.int 0, .null, .int 0, .null, .int 0, .int 0, .int 1, .int 1, .int 0, .int 0, .int 0, .int 0]))] H := hP
  have hD : va_D A [(h0, .inr (7, [.ref (q 0), .int 1, .ref (q 1), .int 1, .int 0, .ref (q 2), .int 0, .ref (q 3), .int 0, .ref (q 4), .int 0, .int 0, .ref (q 5), .int 0, .int 0])), ((q 1), .inl ((cA 1), 40, .inr (.inr (.inr (.inr (va_up (fun _ => none) 0 (some h1))))))), (h1, .inr (3, [.ref r1, .int s1, .int s2, .ref g1, .int s4, .int s5, .int s6, .int s7])), (r1, .inr (0, [.int 0, .null, .int 0, .null, .int 0, .int 0, .int 1, .int 1, .int 0, .int 0, .int 0, .int 0]))] := hD
  refine lv_aload_n hx hb dX8_addMember_20 rfl (lv_at hl 1 rfl) ?_
  refine va_get (D := (dC, dI)) (own := RX8) (ref := "ReflectModels$Member") (index := 175) (ci := 3) (v := .ref r1) (C := RX4) (T := TX4) (N := 8) hx hb hts inX8_addMember_4 hown hK hP 2 rfl rfl 0 (by decide) (hts (.fieldLink RX8 175 "ReflectModels$Member" "owner" "LReflectModels$ClassModel;") (by decide +kernel)) (fun _ h9 => h9) rfl dX8_addMember_21 ?_
  refine lv_dup hx hb dX8_addMember_24 rfl ?_
  refine va_getN (host := "ReflectModels") (D := (dC, dI)) (own := RX8) (ref := "ReflectModels$ClassModel") (index := 270) (ci := 0) (v := .int 0) (C := RX0) (T := TX0) (N := 12) hx hb hts inX8_addMember_0 hown hK hP 3 rfl rfl 11 (by decide) (va_Nw.use rfl (hN _ (List.mem_of_getElem? (i := 20) rfl))) (fun _ h9 => h9) rfl dX8_addMember_25 ?_
  refine lv_iconst (v := 1) hx hb dX8_addMember_28 (by decide) ?_
  refine lv_iadd hx hb dX8_addMember_29 ?_
  refine lv_topi (fun y2 ey2 => ?_)
  obtain rfl : y2 = 1 := ey2.trans (by decide)
  refine va_putN (host := "ReflectModels") (D := (dC, dI)) (own := RX8) (ref := "ReflectModels$ClassModel") (index := 270) (ci := 0) (v := .int 1) (ty := .int) (C := RX0) (T := TX0) (N := 12) hx hb hts inX8_addMember_0 tyX0 tyX0_ok nmX0 hown hK hP hD hS 3 rfl rfl 11 (by decide) (va_Nw.use rfl (hN _ (List.mem_of_getElem? (i := 20) rfl))) (fun _ h9 => h9) rfl (by decide +kernel) rfl rfl (Nat.le_of_ble_eq_true rfl) dX8_addMember_30 (fun H locs hP hD hS => ?_)
  have hP : va_P (dC, dI) vwCl [(h0, .inr (7, [.ref (q 0), .int 1, .ref (q 1), .int 1, .int 0, .ref (q 2), .int 0, .ref (q 3), .int 0, .ref (q 4), .int 0, .int 0, .ref (q 5), .int 0, .int 0])), ((q 1), .inl ((cA 1), 40, .inr (.inr (.inr (.inr (va_up (fun _ => none) 0 (some h1))))))), (h1, .inr (3, [.ref r1, .int s1, .int s2, .ref g1, .int s4, .int s5, .int s6, .int s7])), (r1, .inr (0, [.int 0, .null, .int 0, .null, .int 0, .int 0, .int 1, .int 1, .int 0, .int 0, .int 0, .int 1]))] H := hP
  have hD : va_D A [(h0, .inr (7, [.ref (q 0), .int 1, .ref (q 1), .int 1, .int 0, .ref (q 2), .int 0, .ref (q 3), .int 0, .ref (q 4), .int 0, .int 0, .ref (q 5), .int 0, .int 0])), ((q 1), .inl ((cA 1), 40, .inr (.inr (.inr (.inr (va_up (fun _ => none) 0 (some h1))))))), (h1, .inr (3, [.ref r1, .int s1, .int s2, .ref g1, .int s4, .int s5, .int s6, .int s7])), (r1, .inr (0, [.int 0, .null, .int 0, .null, .int 0, .int 0, .int 1, .int 1, .int 0, .int 0, .int 0, .int 1]))] := hD
  refine lv_aload_n hx hb dX8_addMember_33 rfl (lv_at hl 0 rfl) ?_
  refine va_get (D := (dC, dI)) (own := RX8) (ref := "ReflectModels") (index := 25) (ci := 7) (v := .int 1) (C := RX8) (T := TX8) (N := 15) hx hb hts inX8_addMember_8 hown hK hP 0 rfl rfl 3 (by decide) (hts (.fieldLink RX8 25 "ReflectModels" "memberCount" "I") (by decide +kernel)) (fun _ h9 => h9) rfl dX8_addMember_34 ?_
  refine lv_iconst (v := 1) hx hb dX8_addMember_37 (by decide) ?_
  refine lv_isub hx hb dX8_addMember_38 ?_
  refine lv_topi (fun y3 ey3 => ?_)
  obtain rfl : y3 = 0 := ey3.trans (by decide)
  have hP9 := hP.sub (ws' := []) [] rfl
  have hD9 := hD.sub (ws' := []) [] (by decide) rfl
  have hK9 := hK.sub (tys' := []) [] rfl
  exact W.zret (v := 0) (ty := .int) hx hb hr rfl (fun t ht hW => ⟨⟨(some (.int 0)), rfl, _, _, ⟨rfl, rfl, rfl⟩, by rw [ht]; exact hP9, va_K.moved hW.alike hK9, hD9⟩, hS.F ht⟩) hS.2.2 dX8_addMember_39

set_option maxHeartbeats 4000000 in
set_option maxRecDepth 100000 in
/-- field on a fresh object -/
theorem c8_field (l : Launch) (dC : Nat → ClassId) (dI : Nat → Nat → Nat) (h0 : Nat) (q : Nat → Nat) (cA : Nat → ClassId) (a1 a2 a3 a4 a5 a6 : Int32) (sz : Nat) (h4 : a4 = 0 ∨ a4 = 1) (h5 : a5 = 0 ∨ a5 = 1) (h6 : a6 = 0 ∨ a6 = 1) : Met l yX8_field wsX8_field ({ frames := 3, cells := 1, slots := 9, locals := 62 }) (va_Pc [.ref h0, .int a1, .int a2, .int a3, .int a4, .int a5, .int a6] (pz (dC, dI) [((cA 0), .object "ReflectModels$ClassModel"), ((cA 1), .object "ReflectModels$Member"), ((cA 2), .object "ReflectModels$Handle"), ((cA 3), .object "ReflectModels$Thing"), ((cA 4), .object "ReflectModels$Value")] [(h0, .inr (7, [.ref (q 0), .int 1, .ref (q 1), .int 0, .int 0, .ref (q 2), .int 0, .ref (q 3), .int 0, .ref (q 4), .int 0, .int 0, .ref (q 5), .int 0, .int 0])), ((q 0), .inl ((cA 0), 16, .inr (.inr (.inr (.inr (va_up (fun _ => none) 0 (some (q 6)))))))), ((q 1), .inl ((cA 1), 40, .inr (.inr (.inr (.inr (fun _ => none)))))), ((q 2), .inl ((cA 2), 60, .inr (.inr (.inr (.inr (fun _ => none)))))), ((q 3), .inl ((cA 3), 124, .inr (.inr (.inr (.inr (fun _ => none)))))), ((q 4), .inl ((cA 4), 3, .inr (.inr (.inr (.inr (va_up (va_up (va_up (fun _ => none) 0 (some (q 7))) 1 (some (q 8))) 2 (some (q 9)))))))), ((q 5), .inr (6, [.int 0, .long 0])), ((q 6), .inr (0, [.int 0, .null, .int 0, .null, .int 0, .int 0, .int 1, .int 1, .int 0, .int 0, .int 0, .int 0])), ((q 7), .inr (6, [.int 0, .long 0])), ((q 8), .inr (6, [.int 0, .long 0])), ((q 9), .inr (6, [.int 0, .long 0]))] sz)) (qW (dC, dI) (fun v w1 ty1 => v = some (.int (an_field a1.toInt a2.toInt a3.toInt a4.toInt)) ∧ w1 = [] ∧ ty1 = []) (va_A [(h0, .inr (7, [.ref (q 0), .int 1, .ref (q 1), .int 0, .int 0, .ref (q 2), .int 0, .ref (q 3), .int 0, .ref (q 4), .int 0, .int 0, .ref (q 5), .int 0, .int 0])), ((q 0), .inl ((cA 0), 16, .inr (.inr (.inr (.inr (va_up (fun _ => none) 0 (some (q 6)))))))), ((q 1), .inl ((cA 1), 40, .inr (.inr (.inr (.inr (fun _ => none)))))), ((q 2), .inl ((cA 2), 60, .inr (.inr (.inr (.inr (fun _ => none)))))), ((q 3), .inl ((cA 3), 124, .inr (.inr (.inr (.inr (fun _ => none)))))), ((q 4), .inl ((cA 4), 3, .inr (.inr (.inr (.inr (va_up (va_up (va_up (fun _ => none) 0 (some (q 7))) 1 (some (q 8))) 2 (some (q 9)))))))), ((q 5), .inr (6, [.int 0, .long 0])), ((q 6), .inr (0, [.int 0, .null, .int 0, .null, .int 0, .int 0, .int 1, .int 1, .int 0, .int 0, .int 0, .int 0])), ((q 7), .inr (6, [.int 0, .long 0])), ((q 8), .inr (6, [.int 0, .long 0])), ((q 9), .inr (6, [.int 0, .long 0]))] sz)) 1 9 (va_A [(h0, .inr (7, [.ref (q 0), .int 1, .ref (q 1), .int 0, .int 0, .ref (q 2), .int 0, .ref (q 3), .int 0, .ref (q 4), .int 0, .int 0, .ref (q 5), .int 0, .int 0])), ((q 0), .inl ((cA 0), 16, .inr (.inr (.inr (.inr (va_up (fun _ => none) 0 (some (q 6)))))))), ((q 1), .inl ((cA 1), 40, .inr (.inr (.inr (.inr (fun _ => none)))))), ((q 2), .inl ((cA 2), 60, .inr (.inr (.inr (.inr (fun _ => none)))))), ((q 3), .inl ((cA 3), 124, .inr (.inr (.inr (.inr (fun _ => none)))))), ((q 4), .inl ((cA 4), 3, .inr (.inr (.inr (.inr (va_up (va_up (va_up (fun _ => none) 0 (some (q 7))) 1 (some (q 8))) 2 (some (q 9)))))))), ((q 5), .inr (6, [.int 0, .long 0])), ((q 6), .inr (0, [.int 0, .null, .int 0, .null, .int 0, .int 0, .int 1, .int 1, .int 0, .int 0, .int 0, .int 0])), ((q 7), .inr (6, [.int 0, .long 0])), ((q 8), .inr (6, [.int 0, .long 0])), ((q 9), .inr (6, [.int 0, .long 0]))] sz) := by
  refine Met.ofW (cc := cX8_field) (maxL := 9) (ret := (some .int)) (by decide) rfl ?_
  intro p e s m args below meth c s₁ B hml hv
  obtain ⟨rfl, hsz, hP, hK, hD, hN⟩ := hv
  have hx := B.exec
  have hb := B.bytes
  have hr := B.returns
  have hts := atoms_spec (ws := wsX8_field) B.pre
  have hown : s.vm.findClass RX8 = some m.cls := findClass_of_methodNamed B.named
  have hlocks := B.notSynchronized
  subst hsz
  have hD := hD.self (sz := s.heap.size)
  generalize hAe : va_A [(h0, .inr (7, [.ref (q 0), .int 1, .ref (q 1), .int 0, .int 0, .ref (q 2), .int 0, .ref (q 3), .int 0, .ref (q 4), .int 0, .int 0, .ref (q 5), .int 0, .int 0])), ((q 0), .inl ((cA 0), 16, .inr (.inr (.inr (.inr (va_up (fun _ => none) 0 (some (q 6)))))))), ((q 1), .inl ((cA 1), 40, .inr (.inr (.inr (.inr (fun _ => none)))))), ((q 2), .inl ((cA 2), 60, .inr (.inr (.inr (.inr (fun _ => none)))))), ((q 3), .inl ((cA 3), 124, .inr (.inr (.inr (.inr (fun _ => none)))))), ((q 4), .inl ((cA 4), 3, .inr (.inr (.inr (.inr (va_up (va_up (va_up (fun _ => none) 0 (some (q 7))) 1 (some (q 8))) 2 (some (q 9)))))))), ((q 5), .inr (6, [.int 0, .long 0])), ((q 6), .inr (0, [.int 0, .null, .int 0, .null, .int 0, .int 0, .int 1, .int 1, .int 0, .int 0, .int 0, .int 0])), ((q 7), .inr (6, [.int 0, .long 0])), ((q 8), .inr (6, [.int 0, .long 0])), ((q 9), .inr (6, [.int 0, .long 0]))] s.heap.size = A at hD ⊢
  have hA : ∀ q : Nat, s.heap.size ≤ q → A q := fun q h => by rw [← hAe]; exact Or.inr h
  have hS : va_S A s.heap s.heap [] := va_S.rf
  have hl := lv_entry ([.ref h0, .int a1, .int a2, .int a3, .int a4, .int a5, .int a6]) (n := 9) (Nat.le_of_ble_eq_true rfl)
  rw [lg_entry_eq]
  generalize (lg_sl ([.ref h0, .int a1, .int a2, .int a3, .int a4, .int a5, .int a6]) ++ List.replicate (9 - (lg_sl ([.ref h0, .int a1, .int a2, .int a3, .int a4, .int a5, .int a6])).length) Slot.unset).toArray = ls at hl ⊢
  have hl : lv_has ls 9 [(0, .ref h0), (1, .int a1), (2, .int a2), (3, .int a3), (4, .int a4), (5, .int a5), (6, .int a6)] := hl
  refine lv_aload_n hx hb dX8_field_0 rfl (lv_at hl 0 rfl) ?_
  refine lv_iload_n hx hb dX8_field_1 rfl (lv_at hl 1 rfl) ?_
  refine clR (va_runV (As := [.int a1]) (rest := []) ⟨hx, hb, hml, hown, hts⟩ (c8_isClass l dC dI h0 q a1 _) (cwV 1 hts gX8_field_X8_isClass rfl rfl rfl (by decide +kernel) ⟨Nat.le_of_ble_eq_true rfl, Nat.le_of_ble_eq_true rfl⟩) ⟨pz_blind, va_recv hK hP (ci := 7) (q0 := 0) rfl rfl, pz_of hP hK hD hN [0] [] rfl (by decide) rfl⟩ rfl rfl hl.1 rfl (lv_room (Nat.le_of_ble_eq_true rfl)) dX8_field_2 ⟨Nat.le_of_ble_eq_true rfl, Nat.le_of_ble_eq_true rfl⟩) hS hP (fun v H locs w2 hP hS => ?_)
  rcases w2 with ⟨rfl, rfl⟩ | ⟨rfl, u1⟩
  · refine W.eq (g2 := F0 m 5 ls [.int 1]) rfl ?_
    refine lv_if_eq (tgt := 16) hx hb dX8_field_5 (by decide) (fun h => absurd h (by decide)) (fun _ => ?_)
    refine lv_aload_n hx hb dX8_field_8 rfl (lv_at hl 0 rfl) ?_
    refine lv_iload_n hx hb dX8_field_9 rfl (lv_at hl 3 rfl) ?_
    refine clR (va_runV (As := [.int a3]) (rest := []) ⟨hx, hb, hml, hown, hts⟩ (c8_isMissingClass l dC dI h0 q a3 _) (cwV 1 hts gX8_field_X8_isMissingClass rfl rfl rfl (by decide +kernel) ⟨Nat.le_of_ble_eq_true rfl, Nat.le_of_ble_eq_true rfl⟩) ⟨pz_blind, va_recv hK hP (ci := 7) (q0 := 0) rfl rfl, pz_of hP hK hD hN [0] [] rfl (by decide) rfl⟩ rfl rfl hl.1 rfl (lv_room (Nat.le_of_ble_eq_true rfl)) dX8_field_10 ⟨Nat.le_of_ble_eq_true rfl, Nat.le_of_ble_eq_true rfl⟩) hS hP (fun v H locs w5 hP hS => ?_)
    rcases w5 with ⟨rfl, u3⟩ | ⟨rfl, u4⟩
    · refine W.eq (g2 := F0 m 13 ls [.int 1]) rfl ?_
      refine lv_if_eq (tgt := 19) hx hb dX8_field_13 (by decide) (fun h => absurd h (by decide)) (fun _ => ?_)
      refine lv_bipush (v := (-2)) hx hb dX8_field_16 (by decide) ?_
      refine W.widen (k := 1) (n := 9) (by omega) (by omega) ?_
      have hP9 := hP.sub (ws' := []) [] rfl
      have hD9 := hD.sub (ws' := []) [] (by decide) rfl
      have hK9 := hK.sub (tys' := []) [] rfl
      exact W.zret (v := (-2)) (ty := .int) hx hb hr rfl (fun t ht hW => ⟨⟨(some (.int (-2))), rfl, _, _, ⟨congrArg (fun z => some (Value.int z)) (by unfold an_field; (repeat' split) <;> first | rfl | (exfalso; first | omega | (have kq := kz; omega))), rfl, rfl⟩, by rw [ht]; exact hP9, va_K.moved hW.alike hK9, hD9⟩, hS.F ht⟩) hS.2.2 dX8_field_18
    · refine W.eq (g2 := F0 m 13 ls [.int 0]) rfl ?_
      refine lv_if_eq (tgt := 19) hx hb dX8_field_13 (by decide) (fun _ => ?_) (fun h => absurd (by decide) h)
      refine lv_iload_n hx hb dX8_field_19 rfl (lv_at hl 2 rfl) ?_
      refine clR (va_runS (As := [.int a2]) (rest := []) ⟨hx, hb, hml, hown, hts⟩ (c8_isOutsideName l dC dI a2 _) (va_cwS 1 hts gX8_field_X8_isOutsideName rfl rfl rfl (by decide +kernel) ⟨Nat.le_of_ble_eq_true rfl, Nat.le_of_ble_eq_true rfl⟩) ⟨pz_blind, pz_of hP hK hD hN [] [] rfl (by decide) rfl⟩ rfl rfl hl.1 rfl (lv_room (Nat.le_of_ble_eq_true rfl)) dX8_field_20 ⟨Nat.le_of_ble_eq_true rfl, Nat.le_of_ble_eq_true rfl⟩) hS hP (fun v H locs w8 hP hS => ?_)
      rcases w8 with ⟨rfl, u6⟩ | ⟨rfl, u7⟩
      · refine W.eq (g2 := F0 m 23 ls [.int 1]) rfl ?_
        refine lv_if_ne (tgt := 32) hx hb dX8_field_23 (by decide) (fun _ => ?_) (fun h => absurd h (by decide))
        refine lv_bipush (v := (-3)) hx hb dX8_field_32 (by decide) ?_
        refine W.widen (k := 1) (n := 9) (by omega) (by omega) ?_
        have hP9 := hP.sub (ws' := []) [] rfl
        have hD9 := hD.sub (ws' := []) [] (by decide) rfl
        have hK9 := hK.sub (tys' := []) [] rfl
        exact W.zret (v := (-3)) (ty := .int) hx hb hr rfl (fun t ht hW => ⟨⟨(some (.int (-3))), rfl, _, _, ⟨congrArg (fun z => some (Value.int z)) (by unfold an_field; (repeat' split) <;> first | rfl | (exfalso; first | omega | (have kq := kz; omega))), rfl, rfl⟩, by rw [ht]; exact hP9, va_K.moved hW.alike hK9, hD9⟩, hS.F ht⟩) hS.2.2 dX8_field_34
      · refine W.eq (g2 := F0 m 23 ls [.int 0]) rfl ?_
        refine lv_if_ne (tgt := 32) hx hb dX8_field_23 (by decide) (fun h => absurd h (by decide)) (fun _ => ?_)
        refine lv_iload_n hx hb dX8_field_26 rfl (lv_at hl 3 rfl) ?_
        refine lv_bipush (v := (-2)) hx hb dX8_field_27 (by decide) ?_
        refine lv_icmp_ge (tgt := 35) hx hb dX8_field_29 (by decide) (fun c9 => ?_) (fun c9 => ?_)
        · have ic9 : (-2) ≤ a3.toInt := ile2 (by decide) rfl c9
          refine lv_aload_n hx hb dX8_field_35 rfl (lv_at hl 0 rfl) ?_
          refine va_get (D := (dC, dI)) (own := RX8) (ref := "ReflectModels") (index := 11) (ci := 7) (v := .ref (q 0)) (C := RX8) (T := TX8) (N := 15) hx hb hts inX8_field_8 hown hK hP 0 rfl rfl 0 (by decide) (hts (.fieldLink RX8 11 "ReflectModels" "classes" "[LReflectModels$ClassModel;") (by decide +kernel)) (fun _ h9 => h9) rfl dX8_field_36 ?_
          refine lv_iload_n hx hb dX8_field_39 rfl (lv_at hl 1 rfl) ?_
          refine va_aldq hx hb hK hP 1 0 rfl rfl (vp_in_iff.mpr ⟨by decide, by decide⟩) dX8_field_40 ?_
          refine W.eq (g2 := F0 m 41 ls [.ref (q 6)]) rfl ?_
          refine lv_astore (lv' := [(7, .ref (q 6)), (0, .ref h0), (1, .int 0), (2, .int a2), (3, .int a3), (4, .int a4), (5, .int a5), (6, .int a6)]) hx hb dX8_field_41 hl (by decide) rfl (fun ls hl => ?_)
          refine lv_aload_n hx hb dX8_field_43 rfl (lv_at hl 1 rfl) ?_
          refine va_get (D := (dC, dI)) (own := RX8) (ref := "ReflectModels") (index := 46) (ci := 7) (v := .int 0) (C := RX8) (T := TX8) (N := 15) hx hb hts inX8_field_8 hown hK hP 0 rfl rfl 8 (by decide) (hts (.fieldLink RX8 46 "ReflectModels" "thingCount" "I") (by decide +kernel)) (fun _ h9 => h9) rfl dX8_field_44 ?_
          refine lv_if_gt (tgt := 73) hx hb dX8_field_47 (by decide) (fun h => absurd h (by decide)) (fun _ => ?_)
          refine lv_aload hx hb dX8_field_50 (lv_at hl 0 rfl) ?_
          refine lv_iload hx hb dX8_field_52 (lv_at hl 5 rfl) ?_
          refine lv_iload hx hb dX8_field_54 (lv_at hl 6 rfl) ?_
          refine clR (va_runS (As := [.ref (q 6), .int a4, .int a5]) (rest := []) ⟨hx, hb, hml, hown, hts⟩ (c8_mayHaveField l dC dI (q 6) a4 a5 _ h4) (va_cwS 3 hts gX8_field_X8_mayHaveField rfl rfl rfl (by decide +kernel) ⟨Nat.le_of_ble_eq_true rfl, Nat.le_of_ble_eq_true rfl⟩) ⟨pz_blind, pz_of hP hK hD hN [7] [] rfl (by decide) rfl⟩ rfl rfl hl.1 rfl (lv_room (Nat.le_of_ble_eq_true rfl)) dX8_field_56 ⟨Nat.le_of_ble_eq_true rfl, Nat.le_of_ble_eq_true rfl⟩) hS hP (fun v H locs w10 hP hS => ?_)
          obtain rfl := w10
          refine W.eq (g2 := F0 m 59 ls [.int a4]) rfl ?_
          refine lv_if_eq (tgt := 73) hx hb dX8_field_59 (by decide) (fun c11 => ?_) (fun c11 => ?_)
          · have ic11 : a4.toInt = 0 := ieq2 rfl (by decide) c11
            refine lv_bipush (v := (-4)) hx hb dX8_field_73 (by decide) ?_
            refine W.widen (k := 1) (n := 9) (by omega) (by omega) ?_
            have hP9 := hP.sub (ws' := []) [] rfl
            have hD9 := hD.sub (ws' := []) [] (by decide) rfl
            have hK9 := hK.sub (tys' := []) [] rfl
            exact W.zret (v := (-4)) (ty := .int) hx hb hr rfl (fun t ht hW => ⟨⟨(some (.int (-4))), rfl, _, _, ⟨congrArg (fun z => some (Value.int z)) (by unfold an_field; (repeat' split) <;> first | rfl | (exfalso; first | omega | (have kq := kz; omega))), rfl, rfl⟩, by rw [ht]; exact hP9, va_K.moved hW.alike hK9, hD9⟩, hS.F ht⟩) hS.2.2 dX8_field_75
          · have ic11 : a4.toInt ≠ 0 := ine2 rfl (by decide) c11
            refine lv_aload_n hx hb dX8_field_62 rfl (lv_at hl 1 rfl) ?_
            refine lv_aload hx hb dX8_field_63 (lv_at hl 0 rfl) ?_
            refine lv_iload_n hx hb dX8_field_65 rfl (lv_at hl 3 rfl) ?_
            refine clR (va_runV (As := [.ref (q 6), .int a2]) (rest := []) ⟨hx, hb, hml, hown, hts⟩ (c8_ownField l dC dI h0 q (q 6) a2 _) (cwV 2 hts gX8_field_X8_ownField rfl rfl rfl (by decide +kernel) ⟨Nat.le_of_ble_eq_true rfl, Nat.le_of_ble_eq_true rfl⟩) ⟨pz_blind, va_recv hK hP (ci := 7) (q0 := 0) rfl rfl, pz_of hP hK hD hN [0] [] rfl (by decide) rfl⟩ rfl rfl hl.1 rfl (lv_room (Nat.le_of_ble_eq_true rfl)) dX8_field_66 ⟨Nat.le_of_ble_eq_true rfl, Nat.le_of_ble_eq_true rfl⟩) hS hP (fun v H locs w12 hP hS => ?_)
            obtain rfl := w12
            refine W.eq (g2 := F0 m 69 ls [.int (-1)]) rfl ?_
            refine lv_iconst (v := (-1)) hx hb dX8_field_69 (by decide) ?_
            refine lv_icmp_eq (tgt := 76) hx hb dX8_field_70 (by decide) (fun _ => ?_) (fun h => absurd (by decide) h)
            refine lv_aload_n hx hb dX8_field_76 rfl (lv_at hl 1 rfl) ?_
            refine va_get (D := (dC, dI)) (own := RX8) (ref := "ReflectModels") (index := 25) (ci := 7) (v := .int 0) (C := RX8) (T := TX8) (N := 15) hx hb hts inX8_field_8 hown hK hP 0 rfl rfl 3 (by decide) (hts (.fieldLink RX8 25 "ReflectModels" "memberCount" "I") (by decide +kernel)) (fun _ h9 => h9) rfl dX8_field_77 ?_
            refine lv_bipush (v := 40) hx hb dX8_field_80 (by decide) ?_
            refine lv_icmp_lt (tgt := 88) hx hb dX8_field_82 (by decide) (fun _ => ?_) (fun h => absurd (by decide) h)
            refine lv_iload hx hb dX8_field_88 (lv_at hl 5 rfl) ?_
            refine lv_if_eq (tgt := 97) hx hb dX8_field_90 (by decide) (fun c13 => ?_) (fun c13 => ?_)
            · have ic13 : a4.toInt = 0 := ieq2 rfl (by decide) c13
              exfalso; first | omega | (have kq := kz; omega)
            · have ic13 : a4.toInt ≠ 0 := ine2 rfl (by decide) c13
              refine lv_iconst (v := (-1)) hx hb dX8_field_93 (by decide) ?_
              refine lv_goto (tgt := 101) hx hb dX8_field_94 (by decide) ?_
              refine lv_istore (lv' := [(8, .int (-1)), (7, .ref (q 6)), (0, .ref h0), (1, .int 0), (2, .int a2), (3, .int a3), (4, .int a4), (5, .int a5), (6, .int a6)]) hx hb dX8_field_101 hl (by decide) rfl (fun ls hl => ?_)
              refine lv_iload hx hb dX8_field_103 (lv_at hl 6 rfl) ?_
              refine lv_if_ne (tgt := 118) hx hb dX8_field_105 (by decide) (fun c14 => ?_) (fun c14 => ?_)
              · have ic14 : a4.toInt ≠ 0 := ine2 rfl (by decide) c14
                refine lv_aload_n hx hb dX8_field_118 rfl (lv_at hl 2 rfl) ?_
                refine va_new (ci := 1) (fs := [.null, .int 0, .int 0, .int 0, .int 0, .int 0, .long 0, .int 0, .long 0]) (C := RX1) (T := TX1) (N := 9) hx hb hts inX8_field_1 tyX1 tyX1_ok hown (hts (.classLink RX8 109 RX1) (by decide +kernel)) (hts (.instantiable RX1 9) (by decide +kernel)) (hts (.initialized RX1) (by decide +kernel)) hK hP hD hS hA rfl df_X1 (Nat.le_of_ble_eq_true rfl) (Nat.le_of_ble_eq_true rfl) dX8_field_119 (fun q15 H hP hD hS => ?_)
                have hP : va_P (dC, dI) vwCl [(h0, .inr (7, [.ref (q 0), .int 1, .ref (q 1), .int 0, .int 0, .ref (q 2), .int 0, .ref (q 3), .int 0, .ref (q 4), .int 0, .int 0, .ref (q 5), .int 0, .int 0])), ((q 0), .inl ((cA 0), 16, .inr (.inr (.inr (.inr (va_up (fun _ => none) 0 (some (q 6)))))))), ((q 1), .inl ((cA 1), 40, .inr (.inr (.inr (.inr (fun _ => none)))))), ((q 2), .inl ((cA 2), 60, .inr (.inr (.inr (.inr (fun _ => none)))))), ((q 3), .inl ((cA 3), 124, .inr (.inr (.inr (.inr (fun _ => none)))))), ((q 4), .inl ((cA 4), 3, .inr (.inr (.inr (.inr (va_up (va_up (va_up (fun _ => none) 0 (some (q 7))) 1 (some (q 8))) 2 (some (q 9)))))))), ((q 5), .inr (6, [.int 0, .long 0])), ((q 6), .inr (0, [.int 0, .null, .int 0, .null, .int 0, .int 0, .int 1, .int 1, .int 0, .int 0, .int 0, .int 0])), ((q 7), .inr (6, [.int 0, .long 0])), ((q 8), .inr (6, [.int 0, .long 0])), ((q 9), .inr (6, [.int 0, .long 0])), (q15, .inr (1, [.null, .int 0, .int 0, .int 0, .int 0, .int 0, .long 0, .int 0, .long 0]))] H := hP
                have hD : va_D A [(h0, .inr (7, [.ref (q 0), .int 1, .ref (q 1), .int 0, .int 0, .ref (q 2), .int 0, .ref (q 3), .int 0, .ref (q 4), .int 0, .int 0, .ref (q 5), .int 0, .int 0])), ((q 0), .inl ((cA 0), 16, .inr (.inr (.inr (.inr (va_up (fun _ => none) 0 (some (q 6)))))))), ((q 1), .inl ((cA 1), 40, .inr (.inr (.inr (.inr (fun _ => none)))))), ((q 2), .inl ((cA 2), 60, .inr (.inr (.inr (.inr (fun _ => none)))))), ((q 3), .inl ((cA 3), 124, .inr (.inr (.inr (.inr (fun _ => none)))))), ((q 4), .inl ((cA 4), 3, .inr (.inr (.inr (.inr (va_up (va_up (va_up (fun _ => none) 0 (some (q 7))) 1 (some (q 8))) 2 (some (q 9)))))))), ((q 5), .inr (6, [.int 0, .long 0])), ((q 6), .inr (0, [.int 0, .null, .int 0, .null, .int 0, .int 0, .int 1, .int 1, .int 0, .int 0, .int 0, .int 0])), ((q 7), .inr (6, [.int 0, .long 0])), ((q 8), .inr (6, [.int 0, .long 0])), ((q 9), .inr (6, [.int 0, .long 0])), (q15, .inr (1, [.null, .int 0, .int 0, .int 0, .int 0, .int 0, .long 0, .int 0, .long 0]))] := hD
                refine W.cs (cells' := 1) (slots' := 9) rfl rfl ?_
                refine lv_dup hx hb dX8_field_122 rfl ?_
                refine lv_aload hx hb dX8_field_123 (lv_at hl 1 rfl) ?_
                refine lv_iload_n hx hb dX8_field_125 rfl (lv_at hl 4 rfl) ?_
                refine lv_iload_n hx hb dX8_field_126 rfl (lv_at hl 5 rfl) ?_
                refine lv_iload hx hb dX8_field_127 (lv_at hl 6 rfl) ?_
                refine lv_iload hx hb dX8_field_129 (lv_at hl 7 rfl) ?_
                refine lv_iload hx hb dX8_field_131 (lv_at hl 8 rfl) ?_
                refine lv_iload hx hb dX8_field_133 (lv_at hl 0 rfl) ?_
                refine clW (wr := [(h0, .inr (7, [.ref (q 0), .int 1, .ref (q 1), .int 0, .int 0, .ref (q 2), .int 0, .ref (q 3), .int 0, .ref (q 4), .int 0, .int 0, .ref (q 5), .int 0, .int 0])), ((q 0), .inl ((cA 0), 16, .inr (.inr (.inr (.inr (va_up (fun _ => none) 0 (some (q 6)))))))), ((q 1), .inl ((cA 1), 40, .inr (.inr (.inr (.inr (fun _ => none)))))), ((q 2), .inl ((cA 2), 60, .inr (.inr (.inr (.inr (fun _ => none)))))), ((q 3), .inl ((cA 3), 124, .inr (.inr (.inr (.inr (fun _ => none)))))), ((q 4), .inl ((cA 4), 3, .inr (.inr (.inr (.inr (va_up (va_up (va_up (fun _ => none) 0 (some (q 7))) 1 (some (q 8))) 2 (some (q 9)))))))), ((q 5), .inr (6, [.int 0, .long 0])), ((q 6), .inr (0, [.int 0, .null, .int 0, .null, .int 0, .int 0, .int 1, .int 1, .int 0, .int 0, .int 0, .int 0])), ((q 7), .inr (6, [.int 0, .long 0])), ((q 8), .inr (6, [.int 0, .long 0])), ((q 9), .inr (6, [.int 0, .long 0]))]) [11] [0, 1, 2, 3, 4, 5, 6, 7, 8, 9, 10] (va_runIN (As := [.ref (q 6), .int a2, .int a3, .int a4, .int a5, .int a6, .int (-1)]) (rest := [.ref q15, .ref h0]) ⟨hx, hb, hml, hown, hts⟩ (c1_init l dC dI q15 (q 6) a2 a3 a4 a5 a6 _ h4 h5 h6) ⟨va_cnB 7 hts gX8_field_X1_init_n111 rfl rfl rfl (hN _ (List.mem_of_getElem? (i := 21) rfl)) (hts (.initialized RX1) (by decide +kernel)) (by decide +kernel) ⟨Nat.le_of_ble_eq_true rfl, Nat.le_of_ble_eq_true rfl⟩, rfl, hts (.instanceMethod yX1_init) (by decide +kernel)⟩ ⟨pz_blind, pz_of hP hK hD hN [11] [] rfl (by decide) rfl⟩ rfl rfl hl.1 rfl (lv_room (Nat.le_of_ble_eq_true rfl)) dX8_field_135 ⟨Nat.le_of_ble_eq_true rfl, Nat.le_of_ble_eq_true rfl⟩) hS hP hD hK hA rfl rfl (by decide) (by decide) (fun v w1 ty1 H locs w17 hP hD hK hS => ?_)
                obtain ⟨rfl, f16, rfl, rfl⟩ := w17
                refine W.eq (g2 := F0 m 138 ls [.ref q15, .ref h0]) rfl ?_
                have hP : va_P (dC, dI) vwCl [(h0, .inr (7, [.ref (q 0), .int 1, .ref (q 1), .int 0, .int 0, .ref (q 2), .int 0, .ref (q 3), .int 0, .ref (q 4), .int 0, .int 0, .ref (q 5), .int 0, .int 0])), ((q 0), .inl ((cA 0), 16, .inr (.inr (.inr (.inr (va_up (fun _ => none) 0 (some (q 6)))))))), ((q 1), .inl ((cA 1), 40, .inr (.inr (.inr (.inr (fun _ => none)))))), ((q 2), .inl ((cA 2), 60, .inr (.inr (.inr (.inr (fun _ => none)))))), ((q 3), .inl ((cA 3), 124, .inr (.inr (.inr (.inr (fun _ => none)))))), ((q 4), .inl ((cA 4), 3, .inr (.inr (.inr (.inr (va_up (va_up (va_up (fun _ => none) 0 (some (q 7))) 1 (some (q 8))) 2 (some (q 9)))))))), ((q 5), .inr (6, [.int 0, .long 0])), ((q 6), .inr (0, [.int 0, .null, .int 0, .null, .int 0, .int 0, .int 1, .int 1, .int 0, .int 0, .int 0, .int 0])), ((q 7), .inr (6, [.int 0, .long 0])), ((q 8), .inr (6, [.int 0, .long 0])), ((q 9), .inr (6, [.int 0, .long 0])), (q15, .inr (1, [.ref (q 6), .int a4, .int a6, .int a2, .int a3, .int a5, .long f16, .int (-1), .long f16]))] H := hP
                have hD : va_D A [(h0, .inr (7, [.ref (q 0), .int 1, .ref (q 1), .int 0, .int 0, .ref (q 2), .int 0, .ref (q 3), .int 0, .ref (q 4), .int 0, .int 0, .ref (q 5), .int 0, .int 0])), ((q 0), .inl ((cA 0), 16, .inr (.inr (.inr (.inr (va_up (fun _ => none) 0 (some (q 6)))))))), ((q 1), .inl ((cA 1), 40, .inr (.inr (.inr (.inr (fun _ => none)))))), ((q 2), .inl ((cA 2), 60, .inr (.inr (.inr (.inr (fun _ => none)))))), ((q 3), .inl ((cA 3), 124, .inr (.inr (.inr (.inr (fun _ => none)))))), ((q 4), .inl ((cA 4), 3, .inr (.inr (.inr (.inr (va_up (va_up (va_up (fun _ => none) 0 (some (q 7))) 1 (some (q 8))) 2 (some (q 9)))))))), ((q 5), .inr (6, [.int 0, .long 0])), ((q 6), .inr (0, [.int 0, .null, .int 0, .null, .int 0, .int 0, .int 1, .int 1, .int 0, .int 0, .int 0, .int 0])), ((q 7), .inr (6, [.int 0, .long 0])), ((q 8), .inr (6, [.int 0, .long 0])), ((q 9), .inr (6, [.int 0, .long 0])), (q15, .inr (1, [.ref (q 6), .int a4, .int a6, .int a2, .int a3, .int a5, .long f16, .int (-1), .long f16]))] := hD
                have hK : va_K (dC, dI) vwCl [((cA 0), .object "ReflectModels$ClassModel"), ((cA 1), .object "ReflectModels$Member"), ((cA 2), .object "ReflectModels$Handle"), ((cA 3), .object "ReflectModels$Thing"), ((cA 4), .object "ReflectModels$Value")] s := hK
                refine W.cs (cells' := 1) (slots' := 9) rfl rfl ?_
                refine clW (wr := [((q 0), .inl ((cA 0), 16, .inr (.inr (.inr (.inr (va_up (fun _ => none) 0 (some (q 6)))))))), ((q 2), .inl ((cA 2), 60, .inr (.inr (.inr (.inr (fun _ => none)))))), ((q 3), .inl ((cA 3), 124, .inr (.inr (.inr (.inr (fun _ => none)))))), ((q 4), .inl ((cA 4), 3, .inr (.inr (.inr (.inr (va_up (va_up (va_up (fun _ => none) 0 (some (q 7))) 1 (some (q 8))) 2 (some (q 9)))))))), ((q 5), .inr (6, [.int 0, .long 0])), ((q 7), .inr (6, [.int 0, .long 0])), ((q 8), .inr (6, [.int 0, .long 0])), ((q 9), .inr (6, [.int 0, .long 0]))]) [0, 2, 11, 7] [1, 3, 4, 5, 6, 8, 9, 10] (va_runV (As := [.ref q15]) (rest := []) ⟨hx, hb, hml, hown, hts⟩ (c8_addMemberF l dC dI h0 q cA q15 (q 6) a4 a6 a2 a3 a5 f16 (-1) f16 _) (cwV 1 hts gX8_field_X8_addMember rfl rfl rfl (by decide +kernel) ⟨Nat.le_of_ble_eq_true rfl, Nat.le_of_ble_eq_true rfl⟩) ⟨pz_blind, va_recv hK hP (ci := 7) (q0 := 0) rfl rfl, pz_of hP hK hD hN [0, 2, 11, 7] [1] rfl (by decide) rfl⟩ rfl rfl hl.1 rfl (lv_room (Nat.le_of_ble_eq_true rfl)) dX8_field_138 ⟨Nat.le_of_ble_eq_true rfl, Nat.le_of_ble_eq_true rfl⟩) hS hP hD hK hA rfl rfl (by decide) (by decide) (fun v w1 ty1 H locs w18 hP hD hK hS => ?_)
                obtain ⟨rfl, rfl, rfl⟩ := w18
                refine W.eq (g2 := F0 m 141 ls [.int 0]) rfl ?_
                have hP : va_P (dC, dI) vwCl [((q 0), .inl ((cA 0), 16, .inr (.inr (.inr (.inr (va_up (fun _ => none) 0 (some (q 6)))))))), ((q 2), .inl ((cA 2), 60, .inr (.inr (.inr (.inr (fun _ => none)))))), ((q 3), .inl ((cA 3), 124, .inr (.inr (.inr (.inr (fun _ => none)))))), ((q 4), .inl ((cA 4), 3, .inr (.inr (.inr (.inr (va_up (va_up (va_up (fun _ => none) 0 (some (q 7))) 1 (some (q 8))) 2 (some (q 9)))))))), ((q 5), .inr (6, [.int 0, .long 0])), ((q 7), .inr (6, [.int 0, .long 0])), ((q 8), .inr (6, [.int 0, .long 0])), ((q 9), .inr (6, [.int 0, .long 0]))] H := hP
                have hD : va_D A [((q 0), .inl ((cA 0), 16, .inr (.inr (.inr (.inr (va_up (fun _ => none) 0 (some (q 6)))))))), ((q 2), .inl ((cA 2), 60, .inr (.inr (.inr (.inr (fun _ => none)))))), ((q 3), .inl ((cA 3), 124, .inr (.inr (.inr (.inr (fun _ => none)))))), ((q 4), .inl ((cA 4), 3, .inr (.inr (.inr (.inr (va_up (va_up (va_up (fun _ => none) 0 (some (q 7))) 1 (some (q 8))) 2 (some (q 9)))))))), ((q 5), .inr (6, [.int 0, .long 0])), ((q 7), .inr (6, [.int 0, .long 0])), ((q 8), .inr (6, [.int 0, .long 0])), ((q 9), .inr (6, [.int 0, .long 0]))] := hD
                have hK : va_K (dC, dI) vwCl [((cA 0), .object "ReflectModels$ClassModel"), ((cA 1), .object "ReflectModels$Member"), ((cA 2), .object "ReflectModels$Handle"), ((cA 3), .object "ReflectModels$Thing"), ((cA 4), .object "ReflectModels$Value")] s := hK
                refine W.cs (cells' := 1) (slots' := 9) rfl rfl ?_
                have hP9 := hP.sub (ws' := []) [] rfl
                have hD9 := hD.sub (ws' := []) [] (by decide) rfl
                have hK9 := hK.sub (tys' := []) [] rfl
                exact W.zret (v := 0) (ty := .int) hx hb hr rfl (fun t ht hW => ⟨⟨(some (.int 0)), rfl, _, _, ⟨congrArg (fun z => some (Value.int z)) (by unfold an_field; (repeat' split) <;> first | rfl | (exfalso; first | omega | (have kq := kz; omega))), rfl, rfl⟩, by rw [ht]; exact hP9, va_K.moved hW.alike hK9, hD9⟩, hS.F ht⟩) hS.2.2 dX8_field_141
              · have ic14 : a4.toInt = 0 := ieq2 rfl (by decide) c14
                exfalso; first | omega | (have kq := kz; omega)
        · have ic9 : a3.toInt < (-2) := inle2 (by decide) rfl c9
          refine lv_bipush (v := (-3)) hx hb dX8_field_32 (by decide) ?_
          refine W.widen (k := 1) (n := 9) (by omega) (by omega) ?_
          have hP9 := hP.sub (ws' := []) [] rfl
          have hD9 := hD.sub (ws' := []) [] (by decide) rfl
          have hK9 := hK.sub (tys' := []) [] rfl
          exact W.zret (v := (-3)) (ty := .int) hx hb hr rfl (fun t ht hW => ⟨⟨(some (.int (-3))), rfl, _, _, ⟨congrArg (fun z => some (Value.int z)) (by unfold an_field; (repeat' split) <;> first | rfl | (exfalso; first | omega | (have kq := kz; omega))), rfl, rfl⟩, by rw [ht]; exact hP9, va_K.moved hW.alike hK9, hD9⟩, hS.F ht⟩) hS.2.2 dX8_field_34
  · refine W.eq (g2 := F0 m 5 ls [.int 0]) rfl ?_
    refine lv_if_eq (tgt := 16) hx hb dX8_field_5 (by decide) (fun _ => ?_) (fun h => absurd (by decide) h)
    refine lv_bipush (v := (-2)) hx hb dX8_field_16 (by decide) ?_
    refine W.widen (k := 1) (n := 9) (by omega) (by omega) ?_
    have hP9 := hP.sub (ws' := []) [] rfl
    have hD9 := hD.sub (ws' := []) [] (by decide) rfl
    have hK9 := hK.sub (tys' := []) [] rfl
    exact W.zret (v := (-2)) (ty := .int) hx hb hr rfl (fun t ht hW => ⟨⟨(some (.int (-2))), rfl, _, _, ⟨congrArg (fun z => some (Value.int z)) (by unfold an_field; (repeat' split) <;> first | rfl | (exfalso; first | omega | (have kq := kz; omega))), rfl, rfl⟩, by rw [ht]; exact hP9, va_K.moved hW.alike hK9, hD9⟩, hS.F ht⟩) hS.2.2 dX8_field_18

set_option maxHeartbeats 4000000 in
set_option maxRecDepth 100000 in
theorem c8_failed (l : Launch) (dC : Nat → ClassId) (dI : Nat → Nat → Nat) (h0 : Nat) (q : Nat → Nat) (sz : Nat)  : Met l yX8_failed wsX8_failed ({ frames := 0, cells := 0, slots := 0, locals := 0 }) (va_Pc [.ref h0, .int 1] (pz (dC, dI) [] [(h0, .inr (7, [.ref (q 0), .int 1, .ref (q 1), .int 0, .int 0, .ref (q 2), .int 0, .ref (q 3), .int 0, .ref (q 4), .int 0, .int 0, .ref (q 5), .int 0, .int 0]))] sz)) (qW (dC, dI) (fun v w1 ty1 => v = some (.int (-11)) ∧ w1 = [] ∧ ty1 = []) (va_A [(h0, .inr (7, [.ref (q 0), .int 1, .ref (q 1), .int 0, .int 0, .ref (q 2), .int 0, .ref (q 3), .int 0, .ref (q 4), .int 0, .int 0, .ref (q 5), .int 0, .int 0]))] sz)) 0 0 (va_A [(h0, .inr (7, [.ref (q 0), .int 1, .ref (q 1), .int 0, .int 0, .ref (q 2), .int 0, .ref (q 3), .int 0, .ref (q 4), .int 0, .int 0, .ref (q 5), .int 0, .int 0]))] sz) := by
  refine Met.ofW (cc := cX8_failed) (maxL := 2) (ret := (some .int)) (by decide) rfl ?_
  intro p e s m args below meth c s₁ B hml hv
  obtain ⟨rfl, hsz, hP, hK, hD, hN⟩ := hv
  have hx := B.exec
  have hb := B.bytes
  have hr := B.returns
  have hts := atoms_spec (ws := wsX8_failed) B.pre
  have hown : s.vm.findClass RX8 = some m.cls := findClass_of_methodNamed B.named
  have hlocks := B.notSynchronized
  subst hsz
  have hD := hD.self (sz := s.heap.size)
  generalize hAe : va_A [(h0, .inr (7, [.ref (q 0), .int 1, .ref (q 1), .int 0, .int 0, .ref (q 2), .int 0, .ref (q 3), .int 0, .ref (q 4), .int 0, .int 0, .ref (q 5), .int 0, .int 0]))] s.heap.size = A at hD ⊢
  have hA : ∀ q : Nat, s.heap.size ≤ q → A q := fun q h => by rw [← hAe]; exact Or.inr h
  have hS : va_S A s.heap s.heap [] := va_S.rf
  have hl := lv_entry ([.ref h0, .int 1]) (n := 2) (Nat.le_of_ble_eq_true rfl)
  rw [lg_entry_eq]
  generalize (lg_sl ([.ref h0, .int 1]) ++ List.replicate (2 - (lg_sl ([.ref h0, .int 1])).length) Slot.unset).toArray = ls at hl ⊢
  have hl : lv_has ls 2 [(0, .ref h0), (1, .int 1)] := hl
  refine lv_aload_n hx hb dX8_failed_0 rfl (lv_at hl 0 rfl) ?_
  refine lv_iload_n hx hb dX8_failed_1 rfl (lv_at hl 1 rfl) ?_
  refine va_put (D := (dC, dI)) (own := RX8) (ref := "ReflectModels") (index := 66) (ci := 7) (v := .int 1) (ty := .int) (C := RX8) (T := TX8) (N := 15) hx hb hts inX8_failed_8 tyX8 tyX8_ok nmX8 hown hK hP hD hS 0 rfl rfl 13 (by decide) (hts (.fieldLink RX8 66 "ReflectModels" "latestFailure" "I") (by decide +kernel)) (fun _ h9 => h9) rfl (by decide +kernel) rfl rfl (Nat.le_of_ble_eq_true rfl) dX8_failed_2 (fun H locs hP hD hS => ?_)
  have hP : va_P (dC, dI) vwCl [(h0, .inr (7, [.ref (q 0), .int 1, .ref (q 1), .int 0, .int 0, .ref (q 2), .int 0, .ref (q 3), .int 0, .ref (q 4), .int 0, .int 0, .ref (q 5), .int 1, .int 0]))] H := hP
  have hD : va_D A [(h0, .inr (7, [.ref (q 0), .int 1, .ref (q 1), .int 0, .int 0, .ref (q 2), .int 0, .ref (q 3), .int 0, .ref (q 4), .int 0, .int 0, .ref (q 5), .int 1, .int 0]))] := hD
  refine lv_bipush (v := (-10)) hx hb dX8_failed_5 (by decide) ?_
  refine lv_iload_n hx hb dX8_failed_7 rfl (lv_at hl 1 rfl) ?_
  refine lv_isub hx hb dX8_failed_8 ?_
  refine lv_topi (fun y1 ey1 => ?_)
  obtain rfl : y1 = (-11) := ey1.trans (by decide)
  have hP9 := hP.sub (ws' := []) [] rfl
  have hD9 := hD.sub (ws' := []) [] (by decide) rfl
  have hK9 := hK.sub (tys' := []) [] rfl
  exact W.zret (v := (-11)) (ty := .int) hx hb hr rfl (fun t ht hW => ⟨⟨(some (.int (-11))), rfl, _, _, ⟨rfl, rfl, rfl⟩, by rw [ht]; exact hP9, va_K.moved hW.alike hK9, hD9⟩, hS.F ht⟩) hS.2.2 dX8_failed_9

set_option maxHeartbeats 4000000 in
set_option maxRecDepth 100000 in
theorem c8_addHandle (l : Launch) (dC : Nat → ClassId) (dI : Nat → Nat → Nat) (h0 : Nat) (q : Nat → Nat) (sz : Nat)  : Met l yX8_addHandle wsX8_addHandle ({ frames := 1, cells := 0, slots := 0, locals := 21 }) (va_Pc [.ref h0, .int (-1)] (pz (dC, dI) [] [(h0, .inr (7, [.ref (q 0), .int 1, .ref (q 1), .int 0, .int 0, .ref (q 2), .int 0, .ref (q 3), .int 0, .ref (q 4), .int 0, .int 0, .ref (q 5), .int 0, .int 0]))] sz)) (qW (dC, dI) (fun v w1 ty1 => v = some (.int (-11)) ∧ w1 = [] ∧ ty1 = []) (va_A [(h0, .inr (7, [.ref (q 0), .int 1, .ref (q 1), .int 0, .int 0, .ref (q 2), .int 0, .ref (q 3), .int 0, .ref (q 4), .int 0, .int 0, .ref (q 5), .int 0, .int 0]))] sz)) 0 0 (va_A [(h0, .inr (7, [.ref (q 0), .int 1, .ref (q 1), .int 0, .int 0, .ref (q 2), .int 0, .ref (q 3), .int 0, .ref (q 4), .int 0, .int 0, .ref (q 5), .int 0, .int 0]))] sz) := by
  refine Met.ofW (cc := cX8_addHandle) (maxL := 2) (ret := (some .int)) (by decide) rfl ?_
  intro p e s m args below meth c s₁ B hml hv
  obtain ⟨rfl, hsz, hP, hK, hD, hN⟩ := hv
  have hx := B.exec
  have hb := B.bytes
  have hr := B.returns
  have hts := atoms_spec (ws := wsX8_addHandle) B.pre
  have hown : s.vm.findClass RX8 = some m.cls := findClass_of_methodNamed B.named
  have hlocks := B.notSynchronized
  subst hsz
  have hD := hD.self (sz := s.heap.size)
  generalize hAe : va_A [(h0, .inr (7, [.ref (q 0), .int 1, .ref (q 1), .int 0, .int 0, .ref (q 2), .int 0, .ref (q 3), .int 0, .ref (q 4), .int 0, .int 0, .ref (q 5), .int 0, .int 0]))] s.heap.size = A at hD ⊢
  have hA : ∀ q : Nat, s.heap.size ≤ q → A q := fun q h => by rw [← hAe]; exact Or.inr h
  have hS : va_S A s.heap s.heap [] := va_S.rf
  have hl := lv_entry ([.ref h0, .int (-1)]) (n := 2) (Nat.le_of_ble_eq_true rfl)
  rw [lg_entry_eq]
  generalize (lg_sl ([.ref h0, .int (-1)]) ++ List.replicate (2 - (lg_sl ([.ref h0, .int (-1)])).length) Slot.unset).toArray = ls at hl ⊢
  have hl : lv_has ls 2 [(0, .ref h0), (1, .int (-1))] := hl
  refine lv_iload_n hx hb dX8_addHandle_0 rfl (lv_at hl 1 rfl) ?_
  refine lv_iconst (v := (-1)) hx hb dX8_addHandle_1 (by decide) ?_
  refine lv_icmp_ne (tgt := 11) hx hb dX8_addHandle_2 (by decide) (fun h => absurd h (by decide)) (fun _ => ?_)
  refine lv_aload_n hx hb dX8_addHandle_5 rfl (lv_at hl 0 rfl) ?_
  refine lv_iconst (v := 1) hx hb dX8_addHandle_6 (by decide) ?_
  refine clW (wr := []) [0] [] (va_runV (As := [.int 1]) (rest := []) ⟨hx, hb, hml, hown, hts⟩ (c8_failed l dC dI h0 q _) (cwV 1 hts gX8_addHandle_X8_failed rfl rfl rfl (by decide +kernel) ⟨Nat.le_of_ble_eq_true rfl, Nat.le_of_ble_eq_true rfl⟩) ⟨pz_blind, va_recv hK hP (ci := 7) (q0 := 0) rfl rfl, pz_of hP hK hD hN [0] [] rfl (by decide) rfl⟩ rfl rfl hl.1 rfl (lv_room (Nat.le_of_ble_eq_true rfl)) dX8_addHandle_7 ⟨Nat.le_of_ble_eq_true rfl, Nat.le_of_ble_eq_true rfl⟩) hS hP hD hK hA rfl rfl (by decide) (by decide) (fun v w1 ty1 H locs w1 hP hD hK hS => ?_)
  obtain ⟨rfl, rfl, rfl⟩ := w1
  refine W.eq (g2 := F0 m 10 ls [.int (-11)]) rfl ?_
  have hP : va_P (dC, dI) vwCl [] H := hP
  have hD : va_D A [] := hD
  have hK : va_K (dC, dI) vwCl [] s := hK
  refine W.cs (cells' := 0) (slots' := 0) rfl rfl ?_
  have hP9 := hP.sub (ws' := []) [] rfl
  have hD9 := hD.sub (ws' := []) [] (by decide) rfl
  have hK9 := hK.sub (tys' := []) [] rfl
  exact W.zret (v := (-11)) (ty := .int) hx hb hr rfl (fun t ht hW => ⟨⟨(some (.int (-11))), rfl, _, _, ⟨rfl, rfl, rfl⟩, by rw [ht]; exact hP9, va_K.moved hW.alike hK9, hD9⟩, hS.F ht⟩) hS.2.2 dX8_addHandle_10

set_option maxHeartbeats 4000000 in
set_option maxRecDepth 100000 in
theorem c8_visibleField (l : Launch) (dC : Nat → ClassId) (dI : Nat → Nat → Nat) (h0 : Nat) (q : Nat → Nat) (r1 : Nat) (a2 : Int32) (sz : Nat)  : Met l yX8_visibleField wsX8_visibleField ({ frames := 1, cells := 0, slots := 0, locals := 25 }) (va_Pc [.ref h0, .ref r1, .int a2] (pz (dC, dI) [] [(h0, .inr (7, [.ref (q 0), .int 1, .ref (q 1), .int 0, .int 0, .ref (q 2), .int 0, .ref (q 3), .int 0, .ref (q 4), .int 0, .int 0, .ref (q 5), .int 0, .int 0])), (r1, .inr (0, [.int 0, .null, .int 0, .null, .int 0, .int 0, .int 1, .int 1, .int 0, .int 0, .int 0, .int 0]))] sz)) (qR (fun v => (v = some (.int (-1))))) 0 0 nA := by
  refine Met.ofW (cc := cX8_visibleField) (maxL := 5) (ret := (some .int)) (by decide) rfl ?_
  intro p e s m args below meth c s₁ B hml hv
  obtain ⟨rfl, hsz, hP, hK, hD, hN⟩ := hv
  have hx := B.exec
  have hb := B.bytes
  have hr := B.returns
  have hts := atoms_spec (ws := wsX8_visibleField) B.pre
  have hown : s.vm.findClass RX8 = some m.cls := findClass_of_methodNamed B.named
  have hlocks := B.notSynchronized
  subst hsz
  have hS : va_S nA s.heap s.heap [] := va_S.rf
  have hl := lv_entry ([.ref h0, .ref r1, .int a2]) (n := 5) (Nat.le_of_ble_eq_true rfl)
  rw [lg_entry_eq]
  generalize (lg_sl ([.ref h0, .ref r1, .int a2]) ++ List.replicate (5 - (lg_sl ([.ref h0, .ref r1, .int a2])).length) Slot.unset).toArray = ls at hl ⊢
  have hl : lv_has ls 5 [(0, .ref h0), (1, .ref r1), (2, .int a2)] := hl
  refine lv_aload_n hx hb dX8_visibleField_0 rfl (lv_at hl 1 rfl) ?_
  refine lv_astore_n (lv' := [(3, .ref r1), (0, .ref h0), (1, .ref r1), (2, .int a2)]) hx hb dX8_visibleField_1 rfl hl (by decide) rfl (fun ls hl => ?_)
  refine lv_aload_n hx hb dX8_visibleField_2 rfl (lv_at hl 0 rfl) ?_
  refine lv_ifnull hx hb dX8_visibleField_3 ?_
  refine lv_aload_n hx hb dX8_visibleField_6 rfl (lv_at hl 1 rfl) ?_
  refine lv_aload_n hx hb dX8_visibleField_7 rfl (lv_at hl 0 rfl) ?_
  refine lv_iload_n hx hb dX8_visibleField_8 rfl (lv_at hl 3 rfl) ?_
  refine clR (va_runV (As := [.ref r1, .int a2]) (rest := []) ⟨hx, hb, hml, hown, hts⟩ (c8_ownField l dC dI h0 q r1 a2 _) (cwV 2 hts gX8_visibleField_X8_ownField rfl rfl rfl (by decide +kernel) ⟨Nat.le_of_ble_eq_true rfl, Nat.le_of_ble_eq_true rfl⟩) ⟨pz_blind, va_recv hK hP (ci := 7) (q0 := 0) rfl rfl, pz_of hP hK hD hN [0] [] rfl (by decide) rfl⟩ rfl rfl hl.1 rfl (lv_room (Nat.le_of_ble_eq_true rfl)) dX8_visibleField_9 ⟨Nat.le_of_ble_eq_true rfl, Nat.le_of_ble_eq_true rfl⟩) hS hP (fun v H locs w1 hP hS => ?_)
  obtain rfl := w1
  refine W.eq (g2 := F0 m 12 ls [.int (-1)]) rfl ?_
  refine lv_istore (lv' := [(4, .int (-1)), (3, .ref r1), (0, .ref h0), (1, .ref r1), (2, .int a2)]) hx hb dX8_visibleField_12 hl (by decide) rfl (fun ls hl => ?_)
  refine lv_iload hx hb dX8_visibleField_14 (lv_at hl 0 rfl) ?_
  refine lv_iconst (v := (-1)) hx hb dX8_visibleField_16 (by decide) ?_
  refine lv_icmp_eq (tgt := 36) hx hb dX8_visibleField_17 (by decide) (fun _ => ?_) (fun h => absurd (by decide) h)
  refine lv_aload_n hx hb dX8_visibleField_36 rfl (lv_at hl 1 rfl) ?_
  refine va_getN (host := "ReflectModels") (D := (dC, dI)) (own := RX8) (ref := "ReflectModels$ClassModel") (index := 264) (ci := 0) (v := .null) (C := RX0) (T := TX0) (N := 12) hx hb hts inX8_visibleField_0 hown hK hP 1 rfl rfl 1 (by decide) (va_Nw.use rfl (hN _ (List.mem_of_getElem? (i := 11) rfl))) (fun _ h9 => h9) rfl dX8_visibleField_37 ?_
  refine lv_astore_nN (lv' := [(3, .null), (4, .int (-1)), (0, .ref h0), (1, .ref r1), (2, .int a2)]) hx hb dX8_visibleField_40 rfl hl (by decide) rfl (fun ls hl => ?_)
  refine lv_goto (tgt := 2) hx hb dX8_visibleField_41 (by decide) ?_
  refine lv_aload_nN hx hb dX8_visibleField_2 rfl (lv_at hl 0 rfl) ?_
  refine lv_ifnullN (tgt := 44) hx hb dX8_visibleField_3 (by decide) ?_
  refine lv_iconst (v := (-1)) hx hb dX8_visibleField_44 (by decide) ?_
  exact W.zret (v := (-1)) (ty := .int) hx hb hr rfl (fun t ht hW => ⟨⟨(some (.int (-1))), rfl, (by first | exact rfl)⟩, hS.F ht⟩) hS.2.2 dX8_visibleField_45

set_option maxHeartbeats 4000000 in
set_option maxRecDepth 100000 in
theorem c8_vmu0 (l : Launch) (dC : Nat → ClassId) (dI : Nat → Nat → Nat) (h0 : Nat) (q : Nat → Nat) (g1 : Nat) (sz : Nat)  : Met l yX8_visibleMethodUpward wsX8_visibleMethodUpward ({ frames := 0, cells := 0, slots := 0, locals := 0 }) (va_Pc [.ref h0, .null, .ref g1] (pz (dC, dI) [] [(h0, .inr (7, [.ref (q 0), .int 1, .ref (q 1), .int 0, .int 0, .ref (q 2), .int 0, .ref (q 3), .int 0, .ref (q 4), .int 0, .int 0, .ref (q 5), .int 0, .int 0]))] sz)) (qR (fun v => (v = some (.int (-1))))) 0 0 nA := by
  refine Met.ofW (cc := cX8_visibleMethodUpward) (maxL := 5) (ret := (some .int)) (by decide) rfl ?_
  intro p e s m args below meth c s₁ B hml hv
  obtain ⟨rfl, hsz, hP, hK, hD, hN⟩ := hv
  have hx := B.exec
  have hb := B.bytes
  have hr := B.returns
  have hts := atoms_spec (ws := wsX8_visibleMethodUpward) B.pre
  have hown : s.vm.findClass RX8 = some m.cls := findClass_of_methodNamed B.named
  have hlocks := B.notSynchronized
  subst hsz
  have hS : va_S nA s.heap s.heap [] := va_S.rf
  have hl := lv_entry ([.ref h0, .null, .ref g1]) (n := 5) (Nat.le_of_ble_eq_true rfl)
  rw [lg_entry_eq]
  generalize (lg_sl ([.ref h0, .null, .ref g1]) ++ List.replicate (5 - (lg_sl ([.ref h0, .null, .ref g1])).length) Slot.unset).toArray = ls at hl ⊢
  have hl : lv_has ls 5 [(0, .ref h0), (1, .null), (2, .ref g1)] := hl
  refine lv_aload_nN hx hb dX8_visibleMethodUpward_0 rfl (lv_at hl 1 rfl) ?_
  refine lv_astore_nN (lv' := [(3, .null), (0, .ref h0), (1, .null), (2, .ref g1)]) hx hb dX8_visibleMethodUpward_1 rfl hl (by decide) rfl (fun ls hl => ?_)
  refine lv_aload_nN hx hb dX8_visibleMethodUpward_2 rfl (lv_at hl 0 rfl) ?_
  refine lv_ifnullN (tgt := 44) hx hb dX8_visibleMethodUpward_3 (by decide) ?_
  refine lv_iconst (v := (-1)) hx hb dX8_visibleMethodUpward_44 (by decide) ?_
  exact W.zret (v := (-1)) (ty := .int) hx hb hr rfl (fun t ht hW => ⟨⟨(some (.int (-1))), rfl, (by first | exact rfl)⟩, hS.F ht⟩) hS.2.2 dX8_visibleMethodUpward_45

set_option maxHeartbeats 4000000 in
set_option maxRecDepth 100000 in
theorem c8_vmu1 (l : Launch) (dC : Nat → ClassId) (dI : Nat → Nat → Nat) (h0 : Nat) (q : Nat → Nat) (r1 g1 : Nat) (sz : Nat)  : Met l yX8_visibleMethodUpward wsX8_visibleMethodUpward ({ frames := 1, cells := 0, slots := 0, locals := 25 }) (va_Pc [.ref h0, .ref r1, .ref g1] (pz (dC, dI) [] [(h0, .inr (7, [.ref (q 0), .int 1, .ref (q 1), .int 0, .int 0, .ref (q 2), .int 0, .ref (q 3), .int 0, .ref (q 4), .int 0, .int 0, .ref (q 5), .int 0, .int 0])), (r1, .inr (0, [.int 0, .null, .int 0, .null, .int 0, .int 0, .int 1, .int 1, .int 0, .int 0, .int 0, .int 0]))] sz)) (qR (fun v => (v = some (.int (-1))))) 0 0 nA := by
  refine Met.ofW (cc := cX8_visibleMethodUpward) (maxL := 5) (ret := (some .int)) (by decide) rfl ?_
  intro p e s m args below meth c s₁ B hml hv
  obtain ⟨rfl, hsz, hP, hK, hD, hN⟩ := hv
  have hx := B.exec
  have hb := B.bytes
  have hr := B.returns
  have hts := atoms_spec (ws := wsX8_visibleMethodUpward) B.pre
  have hown : s.vm.findClass RX8 = some m.cls := findClass_of_methodNamed B.named
  have hlocks := B.notSynchronized
  subst hsz
  have hS : va_S nA s.heap s.heap [] := va_S.rf
  have hl := lv_entry ([.ref h0, .ref r1, .ref g1]) (n := 5) (Nat.le_of_ble_eq_true rfl)
  rw [lg_entry_eq]
  generalize (lg_sl ([.ref h0, .ref r1, .ref g1]) ++ List.replicate (5 - (lg_sl ([.ref h0, .ref r1, .ref g1])).length) Slot.unset).toArray = ls at hl ⊢
  have hl : lv_has ls 5 [(0, .ref h0), (1, .ref r1), (2, .ref g1)] := hl
  refine lv_aload_n hx hb dX8_visibleMethodUpward_0 rfl (lv_at hl 1 rfl) ?_
  refine lv_astore_n (lv' := [(3, .ref r1), (0, .ref h0), (1, .ref r1), (2, .ref g1)]) hx hb dX8_visibleMethodUpward_1 rfl hl (by decide) rfl (fun ls hl => ?_)
  refine lv_aload_n hx hb dX8_visibleMethodUpward_2 rfl (lv_at hl 0 rfl) ?_
  refine lv_ifnull hx hb dX8_visibleMethodUpward_3 ?_
  refine lv_aload_n hx hb dX8_visibleMethodUpward_6 rfl (lv_at hl 1 rfl) ?_
  refine lv_aload_n hx hb dX8_visibleMethodUpward_7 rfl (lv_at hl 0 rfl) ?_
  refine lv_aload_n hx hb dX8_visibleMethodUpward_8 rfl (lv_at hl 3 rfl) ?_
  refine clR (va_runV (As := [.ref r1, .ref g1]) (rest := []) ⟨hx, hb, hml, hown, hts⟩ (c8_ownMethod l dC dI h0 q r1 g1 _) (cwV 2 hts gX8_visibleMethodUpward_X8_ownMethod rfl rfl rfl (by decide +kernel) ⟨Nat.le_of_ble_eq_true rfl, Nat.le_of_ble_eq_true rfl⟩) ⟨pz_blind, va_recv hK hP (ci := 7) (q0 := 0) rfl rfl, pz_of hP hK hD hN [0] [] rfl (by decide) rfl⟩ rfl rfl hl.1 rfl (lv_room (Nat.le_of_ble_eq_true rfl)) dX8_visibleMethodUpward_9 ⟨Nat.le_of_ble_eq_true rfl, Nat.le_of_ble_eq_true rfl⟩) hS hP (fun v H locs w1 hP hS => ?_)
  obtain rfl := w1
  refine W.eq (g2 := F0 m 12 ls [.int (-1)]) rfl ?_
  refine lv_istore (lv' := [(4, .int (-1)), (3, .ref r1), (0, .ref h0), (1, .ref r1), (2, .ref g1)]) hx hb dX8_visibleMethodUpward_12 hl (by decide) rfl (fun ls hl => ?_)
  refine lv_iload hx hb dX8_visibleMethodUpward_14 (lv_at hl 0 rfl) ?_
  refine lv_iconst (v := (-1)) hx hb dX8_visibleMethodUpward_16 (by decide) ?_
  refine lv_icmp_eq (tgt := 36) hx hb dX8_visibleMethodUpward_17 (by decide) (fun _ => ?_) (fun h => absurd (by decide) h)
  refine lv_aload_n hx hb dX8_visibleMethodUpward_36 rfl (lv_at hl 1 rfl) ?_
  refine va_getN (host := "ReflectModels") (D := (dC, dI)) (own := RX8) (ref := "ReflectModels$ClassModel") (index := 264) (ci := 0) (v := .null) (C := RX0) (T := TX0) (N := 12) hx hb hts inX8_visibleMethodUpward_0 hown hK hP 1 rfl rfl 1 (by decide) (va_Nw.use rfl (hN _ (List.mem_of_getElem? (i := 11) rfl))) (fun _ h9 => h9) rfl dX8_visibleMethodUpward_37 ?_
  refine lv_astore_nN (lv' := [(3, .null), (4, .int (-1)), (0, .ref h0), (1, .ref r1), (2, .ref g1)]) hx hb dX8_visibleMethodUpward_40 rfl hl (by decide) rfl (fun ls hl => ?_)
  refine lv_goto (tgt := 2) hx hb dX8_visibleMethodUpward_41 (by decide) ?_
  refine lv_aload_nN hx hb dX8_visibleMethodUpward_2 rfl (lv_at hl 0 rfl) ?_
  refine lv_ifnullN (tgt := 44) hx hb dX8_visibleMethodUpward_3 (by decide) ?_
  refine lv_iconst (v := (-1)) hx hb dX8_visibleMethodUpward_44 (by decide) ?_
  exact W.zret (v := (-1)) (ty := .int) hx hb hr rfl (fun t ht hW => ⟨⟨(some (.int (-1))), rfl, (by first | exact rfl)⟩, hS.F ht⟩) hS.2.2 dX8_visibleMethodUpward_45

set_option maxHeartbeats 4000000 in
set_option maxRecDepth 100000 in
theorem c8_visibleMethod (l : Launch) (dC : Nat → ClassId) (dI : Nat → Nat → Nat) (h0 : Nat) (q : Nat → Nat) (r1 g1 : Nat) (sz : Nat)  : Met l yX8_visibleMethod wsX8_visibleMethod ({ frames := 2, cells := 0, slots := 0, locals := 49 }) (va_Pc [.ref h0, .ref r1, .ref g1] (pz (dC, dI) [] [(h0, .inr (7, [.ref (q 0), .int 1, .ref (q 1), .int 0, .int 0, .ref (q 2), .int 0, .ref (q 3), .int 0, .ref (q 4), .int 0, .int 0, .ref (q 5), .int 0, .int 0])), (r1, .inr (0, [.int 0, .null, .int 0, .null, .int 0, .int 0, .int 1, .int 1, .int 0, .int 0, .int 0, .int 0]))] sz)) (qR (fun v => (v = some (.int (-1))))) 0 0 nA := by
  refine Met.ofW (cc := cX8_visibleMethod) (maxL := 5) (ret := (some .int)) (by decide) rfl ?_
  intro p e s m args below meth c s₁ B hml hv
  obtain ⟨rfl, hsz, hP, hK, hD, hN⟩ := hv
  have hx := B.exec
  have hb := B.bytes
  have hr := B.returns
  have hts := atoms_spec (ws := wsX8_visibleMethod) B.pre
  have hown : s.vm.findClass RX8 = some m.cls := findClass_of_methodNamed B.named
  have hlocks := B.notSynchronized
  subst hsz
  have hS : va_S nA s.heap s.heap [] := va_S.rf
  have hl := lv_entry ([.ref h0, .ref r1, .ref g1]) (n := 5) (Nat.le_of_ble_eq_true rfl)
  rw [lg_entry_eq]
  generalize (lg_sl ([.ref h0, .ref r1, .ref g1]) ++ List.replicate (5 - (lg_sl ([.ref h0, .ref r1, .ref g1])).length) Slot.unset).toArray = ls at hl ⊢
  have hl : lv_has ls 5 [(0, .ref h0), (1, .ref r1), (2, .ref g1)] := hl
  refine lv_aload_n hx hb dX8_visibleMethod_0 rfl (lv_at hl 0 rfl) ?_
  refine lv_aload_n hx hb dX8_visibleMethod_1 rfl (lv_at hl 1 rfl) ?_
  refine lv_aload_n hx hb dX8_visibleMethod_2 rfl (lv_at hl 2 rfl) ?_
  refine clR (va_runV (As := [.ref r1, .ref g1]) (rest := []) ⟨hx, hb, hml, hown, hts⟩ (c8_vmu1 l dC dI h0 q r1 g1 _) (cwV 2 hts gX8_visibleMethod_X8_visibleMethodUpward rfl rfl rfl (by decide +kernel) ⟨Nat.le_of_ble_eq_true rfl, Nat.le_of_ble_eq_true rfl⟩) ⟨pz_blind, va_recv hK hP (ci := 7) (q0 := 0) rfl rfl, pz_of hP hK hD hN [0, 1] [] rfl (by decide) rfl⟩ rfl rfl hl.1 rfl (lv_room (Nat.le_of_ble_eq_true rfl)) dX8_visibleMethod_3 ⟨Nat.le_of_ble_eq_true rfl, Nat.le_of_ble_eq_true rfl⟩) hS hP (fun v H locs w1 hP hS => ?_)
  obtain rfl := w1
  refine W.eq (g2 := F0 m 6 ls [.int (-1)]) rfl ?_
  refine lv_istore_n (lv' := [(3, .int (-1)), (0, .ref h0), (1, .ref r1), (2, .ref g1)]) hx hb dX8_visibleMethod_6 rfl hl (by decide) rfl (fun ls hl => ?_)
  refine lv_aload_n hx hb dX8_visibleMethod_7 rfl (lv_at hl 2 rfl) ?_
  refine lv_astore (lv' := [(4, .ref r1), (3, .int (-1)), (0, .ref h0), (1, .ref r1), (2, .ref g1)]) hx hb dX8_visibleMethod_8 hl (by decide) rfl (fun ls hl => ?_)
  refine lv_aload hx hb dX8_visibleMethod_10 (lv_at hl 0 rfl) ?_
  refine lv_ifnull hx hb dX8_visibleMethod_12 ?_
  refine lv_iload_n hx hb dX8_visibleMethod_15 rfl (lv_at hl 1 rfl) ?_
  refine lv_iconst (v := (-1)) hx hb dX8_visibleMethod_16 (by decide) ?_
  refine lv_icmp_ne (tgt := 41) hx hb dX8_visibleMethod_17 (by decide) (fun h => absurd h (by decide)) (fun _ => ?_)
  refine lv_aload_n hx hb dX8_visibleMethod_20 rfl (lv_at hl 2 rfl) ?_
  refine lv_aload hx hb dX8_visibleMethod_21 (lv_at hl 0 rfl) ?_
  refine va_getN (host := "ReflectModels") (D := (dC, dI)) (own := RX8) (ref := "ReflectModels$ClassModel") (index := 267) (ci := 0) (v := .null) (C := RX0) (T := TX0) (N := 12) hx hb hts inX8_visibleMethod_0 hown hK hP 1 rfl rfl 3 (by decide) (va_Nw.use rfl (hN _ (List.mem_of_getElem? (i := 13) rfl))) (fun _ h9 => h9) rfl dX8_visibleMethod_23 ?_
  refine lv_aload_n hx hb dX8_visibleMethod_26 rfl (lv_at hl 4 rfl) ?_
  refine clR (va_runV (As := [.null, .ref g1]) (rest := []) ⟨hx, hb, hml, hown, hts⟩ (c8_vmu0 l dC dI h0 q g1 _) (cwV 2 hts gX8_visibleMethod_X8_visibleMethodUpward rfl rfl rfl (by decide +kernel) ⟨Nat.le_of_ble_eq_true rfl, Nat.le_of_ble_eq_true rfl⟩) ⟨pz_blind, va_recv hK hP (ci := 7) (q0 := 0) rfl rfl, pz_of hP hK hD hN [0] [] rfl (by decide) rfl⟩ rfl rfl hl.1 rfl (lv_room (Nat.le_of_ble_eq_true rfl)) dX8_visibleMethod_27 ⟨Nat.le_of_ble_eq_true rfl, Nat.le_of_ble_eq_true rfl⟩) hS hP (fun v H locs w2 hP hS => ?_)
  obtain rfl := w2
  refine W.eq (g2 := F0 m 30 ls [.int (-1)]) rfl ?_
  refine lv_istore_n (lv' := [(3, .int (-1)), (4, .ref r1), (0, .ref h0), (1, .ref r1), (2, .ref g1)]) hx hb dX8_visibleMethod_30 rfl hl (by decide) rfl (fun ls hl => ?_)
  refine lv_aload hx hb dX8_visibleMethod_31 (lv_at hl 1 rfl) ?_
  refine va_getN (host := "ReflectModels") (D := (dC, dI)) (own := RX8) (ref := "ReflectModels$ClassModel") (index := 264) (ci := 0) (v := .null) (C := RX0) (T := TX0) (N := 12) hx hb hts inX8_visibleMethod_0 hown hK hP 1 rfl rfl 1 (by decide) (va_Nw.use rfl (hN _ (List.mem_of_getElem? (i := 11) rfl))) (fun _ h9 => h9) rfl dX8_visibleMethod_33 ?_
  refine lv_astoreN (lv' := [(4, .null), (3, .int (-1)), (0, .ref h0), (1, .ref r1), (2, .ref g1)]) hx hb dX8_visibleMethod_36 hl (by decide) rfl (fun ls hl => ?_)
  refine lv_goto (tgt := 10) hx hb dX8_visibleMethod_38 (by decide) ?_
  refine lv_aloadN hx hb dX8_visibleMethod_10 (lv_at hl 0 rfl) ?_
  refine lv_ifnullN (tgt := 41) hx hb dX8_visibleMethod_12 (by decide) ?_
  refine lv_iload_n hx hb dX8_visibleMethod_41 rfl (lv_at hl 1 rfl) ?_
  exact W.zret (v := (-1)) (ty := .int) hx hb hr rfl (fun t ht hW => ⟨⟨(some (.int (-1))), rfl, (by first | exact rfl)⟩, hS.F ht⟩) hS.2.2 dX8_visibleMethod_42

set_option maxHeartbeats 4000000 in
set_option maxRecDepth 100000 in
/-- findField on a fresh object -/
theorem c8_findField (l : Launch) (dC : Nat → ClassId) (dI : Nat → Nat → Nat) (h0 : Nat) (q : Nat → Nat) (cA : Nat → ClassId) (a1 a2 a3 : Int32) (sz : Nat)  : Met l yX8_findField wsX8_findField ({ frames := 2, cells := 0, slots := 0, locals := 49 }) (va_Pc [.ref h0, .int a1, .int a2, .int a3] (pz (dC, dI) [((cA 0), .object "ReflectModels$ClassModel"), ((cA 1), .object "ReflectModels$Member"), ((cA 2), .object "ReflectModels$Handle"), ((cA 3), .object "ReflectModels$Thing"), ((cA 4), .object "ReflectModels$Value")] [(h0, .inr (7, [.ref (q 0), .int 1, .ref (q 1), .int 0, .int 0, .ref (q 2), .int 0, .ref (q 3), .int 0, .ref (q 4), .int 0, .int 0, .ref (q 5), .int 0, .int 0])), ((q 0), .inl ((cA 0), 16, .inr (.inr (.inr (.inr (va_up (fun _ => none) 0 (some (q 6)))))))), ((q 1), .inl ((cA 1), 40, .inr (.inr (.inr (.inr (fun _ => none)))))), ((q 2), .inl ((cA 2), 60, .inr (.inr (.inr (.inr (fun _ => none)))))), ((q 3), .inl ((cA 3), 124, .inr (.inr (.inr (.inr (fun _ => none)))))), ((q 4), .inl ((cA 4), 3, .inr (.inr (.inr (.inr (va_up (va_up (va_up (fun _ => none) 0 (some (q 7))) 1 (some (q 8))) 2 (some (q 9)))))))), ((q 5), .inr (6, [.int 0, .long 0])), ((q 6), .inr (0, [.int 0, .null, .int 0, .null, .int 0, .int 0, .int 1, .int 1, .int 0, .int 0, .int 0, .int 0])), ((q 7), .inr (6, [.int 0, .long 0])), ((q 8), .inr (6, [.int 0, .long 0])), ((q 9), .inr (6, [.int 0, .long 0]))] sz)) (qW (dC, dI) (fun v w1 ty1 => v = some (.int (an_findField a1.toInt a2.toInt)) ∧ w1 = [] ∧ ty1 = []) (va_A [(h0, .inr (7, [.ref (q 0), .int 1, .ref (q 1), .int 0, .int 0, .ref (q 2), .int 0, .ref (q 3), .int 0, .ref (q 4), .int 0, .int 0, .ref (q 5), .int 0, .int 0])), ((q 0), .inl ((cA 0), 16, .inr (.inr (.inr (.inr (va_up (fun _ => none) 0 (some (q 6)))))))), ((q 1), .inl ((cA 1), 40, .inr (.inr (.inr (.inr (fun _ => none)))))), ((q 2), .inl ((cA 2), 60, .inr (.inr (.inr (.inr (fun _ => none)))))), ((q 3), .inl ((cA 3), 124, .inr (.inr (.inr (.inr (fun _ => none)))))), ((q 4), .inl ((cA 4), 3, .inr (.inr (.inr (.inr (va_up (va_up (va_up (fun _ => none) 0 (some (q 7))) 1 (some (q 8))) 2 (some (q 9)))))))), ((q 5), .inr (6, [.int 0, .long 0])), ((q 6), .inr (0, [.int 0, .null, .int 0, .null, .int 0, .int 0, .int 1, .int 1, .int 0, .int 0, .int 0, .int 0])), ((q 7), .inr (6, [.int 0, .long 0])), ((q 8), .inr (6, [.int 0, .long 0])), ((q 9), .inr (6, [.int 0, .long 0]))] sz)) 0 0 (va_A [(h0, .inr (7, [.ref (q 0), .int 1, .ref (q 1), .int 0, .int 0, .ref (q 2), .int 0, .ref (q 3), .int 0, .ref (q 4), .int 0, .int 0, .ref (q 5), .int 0, .int 0])), ((q 0), .inl ((cA 0), 16, .inr (.inr (.inr (.inr (va_up (fun _ => none) 0 (some (q 6)))))))), ((q 1), .inl ((cA 1), 40, .inr (.inr (.inr (.inr (fun _ => none)))))), ((q 2), .inl ((cA 2), 60, .inr (.inr (.inr (.inr (fun _ => none)))))), ((q 3), .inl ((cA 3), 124, .inr (.inr (.inr (.inr (fun _ => none)))))), ((q 4), .inl ((cA 4), 3, .inr (.inr (.inr (.inr (va_up (va_up (va_up (fun _ => none) 0 (some (q 7))) 1 (some (q 8))) 2 (some (q 9)))))))), ((q 5), .inr (6, [.int 0, .long 0])), ((q 6), .inr (0, [.int 0, .null, .int 0, .null, .int 0, .int 0, .int 1, .int 1, .int 0, .int 0, .int 0, .int 0])), ((q 7), .inr (6, [.int 0, .long 0])), ((q 8), .inr (6, [.int 0, .long 0])), ((q 9), .inr (6, [.int 0, .long 0]))] sz) := by
  refine Met.ofW (cc := cX8_findField) (maxL := 4) (ret := (some .int)) (by decide) rfl ?_
  intro p e s m args below meth c s₁ B hml hv
  obtain ⟨rfl, hsz, hP, hK, hD, hN⟩ := hv
  have hx := B.exec
  have hb := B.bytes
  have hr := B.returns
  have hts := atoms_spec (ws := wsX8_findField) B.pre
  have hown : s.vm.findClass RX8 = some m.cls := findClass_of_methodNamed B.named
  have hlocks := B.notSynchronized
  subst hsz
  have hD := hD.self (sz := s.heap.size)
  generalize hAe : va_A [(h0, .inr (7, [.ref (q 0), .int 1, .ref (q 1), .int 0, .int 0, .ref (q 2), .int 0, .ref (q 3), .int 0, .ref (q 4), .int 0, .int 0, .ref (q 5), .int 0, .int 0])), ((q 0), .inl ((cA 0), 16, .inr (.inr (.inr (.inr (va_up (fun _ => none) 0 (some (q 6)))))))), ((q 1), .inl ((cA 1), 40, .inr (.inr (.inr (.inr (fun _ => none)))))), ((q 2), .inl ((cA 2), 60, .inr (.inr (.inr (.inr (fun _ => none)))))), ((q 3), .inl ((cA 3), 124, .inr (.inr (.inr (.inr (fun _ => none)))))), ((q 4), .inl ((cA 4), 3, .inr (.inr (.inr (.inr (va_up (va_up (va_up (fun _ => none) 0 (some (q 7))) 1 (some (q 8))) 2 (some (q 9)))))))), ((q 5), .inr (6, [.int 0, .long 0])), ((q 6), .inr (0, [.int 0, .null, .int 0, .null, .int 0, .int 0, .int 1, .int 1, .int 0, .int 0, .int 0, .int 0])), ((q 7), .inr (6, [.int 0, .long 0])), ((q 8), .inr (6, [.int 0, .long 0])), ((q 9), .inr (6, [.int 0, .long 0]))] s.heap.size = A at hD ⊢
  have hA : ∀ q : Nat, s.heap.size ≤ q → A q := fun q h => by rw [← hAe]; exact Or.inr h
  have hS : va_S A s.heap s.heap [] := va_S.rf
  have hl := lv_entry ([.ref h0, .int a1, .int a2, .int a3]) (n := 4) (Nat.le_of_ble_eq_true rfl)
  rw [lg_entry_eq]
  generalize (lg_sl ([.ref h0, .int a1, .int a2, .int a3]) ++ List.replicate (4 - (lg_sl ([.ref h0, .int a1, .int a2, .int a3])).length) Slot.unset).toArray = ls at hl ⊢
  have hl : lv_has ls 4 [(0, .ref h0), (1, .int a1), (2, .int a2), (3, .int a3)] := hl
  refine lv_aload_n hx hb dX8_findField_0 rfl (lv_at hl 0 rfl) ?_
  refine lv_iload_n hx hb dX8_findField_1 rfl (lv_at hl 1 rfl) ?_
  refine clR (va_runV (As := [.int a1]) (rest := []) ⟨hx, hb, hml, hown, hts⟩ (c8_isClass l dC dI h0 q a1 _) (cwV 1 hts gX8_findField_X8_isClass rfl rfl rfl (by decide +kernel) ⟨Nat.le_of_ble_eq_true rfl, Nat.le_of_ble_eq_true rfl⟩) ⟨pz_blind, va_recv hK hP (ci := 7) (q0 := 0) rfl rfl, pz_of hP hK hD hN [0] [] rfl (by decide) rfl⟩ rfl rfl hl.1 rfl (lv_room (Nat.le_of_ble_eq_true rfl)) dX8_findField_2 ⟨Nat.le_of_ble_eq_true rfl, Nat.le_of_ble_eq_true rfl⟩) hS hP (fun v H locs w2 hP hS => ?_)
  rcases w2 with ⟨rfl, rfl⟩ | ⟨rfl, u1⟩
  · refine W.eq (g2 := F0 m 5 ls [.int 1]) rfl ?_
    refine lv_if_ne (tgt := 11) hx hb dX8_findField_5 (by decide) (fun _ => ?_) (fun h => absurd h (by decide))
    refine lv_iload_n hx hb dX8_findField_11 rfl (lv_at hl 2 rfl) ?_
    refine clR (va_runS (As := [.int a2]) (rest := []) ⟨hx, hb, hml, hown, hts⟩ (c8_isOutsideName l dC dI a2 _) (va_cwS 1 hts gX8_findField_X8_isOutsideName rfl rfl rfl (by decide +kernel) ⟨Nat.le_of_ble_eq_true rfl, Nat.le_of_ble_eq_true rfl⟩) ⟨pz_blind, pz_of hP hK hD hN [] [] rfl (by decide) rfl⟩ rfl rfl hl.1 rfl (lv_room (Nat.le_of_ble_eq_true rfl)) dX8_findField_12 ⟨Nat.le_of_ble_eq_true rfl, Nat.le_of_ble_eq_true rfl⟩) hS hP (fun v H locs w5 hP hS => ?_)
    rcases w5 with ⟨rfl, u3⟩ | ⟨rfl, u4⟩
    · refine W.eq (g2 := F0 m 15 ls [.int 1]) rfl ?_
      refine lv_if_eq (tgt := 21) hx hb dX8_findField_15 (by decide) (fun h => absurd h (by decide)) (fun _ => ?_)
      refine lv_bipush (v := (-3)) hx hb dX8_findField_18 (by decide) ?_
      have hP9 := hP.sub (ws' := []) [] rfl
      have hD9 := hD.sub (ws' := []) [] (by decide) rfl
      have hK9 := hK.sub (tys' := []) [] rfl
      exact W.zret (v := (-3)) (ty := .int) hx hb hr rfl (fun t ht hW => ⟨⟨(some (.int (-3))), rfl, _, _, ⟨congrArg (fun z => some (Value.int z)) (by unfold an_findField; (repeat' split) <;> first | rfl | (exfalso; first | omega | (have kq := kz; omega))), rfl, rfl⟩, by rw [ht]; exact hP9, va_K.moved hW.alike hK9, hD9⟩, hS.F ht⟩) hS.2.2 dX8_findField_20
    · refine W.eq (g2 := F0 m 15 ls [.int 0]) rfl ?_
      refine lv_if_eq (tgt := 21) hx hb dX8_findField_15 (by decide) (fun _ => ?_) (fun h => absurd (by decide) h)
      refine lv_aload_n hx hb dX8_findField_21 rfl (lv_at hl 0 rfl) ?_
      refine lv_iload_n hx hb dX8_findField_22 rfl (lv_at hl 3 rfl) ?_
      refine lv_if_eq (tgt := 40) hx hb dX8_findField_23 (by decide) (fun c6 => ?_) (fun c6 => ?_)
      · have ic6 : a3.toInt = 0 := ieq2 rfl (by decide) c6
        refine lv_aload_n hx hb dX8_findField_40 rfl (lv_at hl 0 rfl) ?_
        refine lv_aload_n hx hb dX8_findField_41 rfl (lv_at hl 0 rfl) ?_
        refine va_get (D := (dC, dI)) (own := RX8) (ref := "ReflectModels") (index := 11) (ci := 7) (v := .ref (q 0)) (C := RX8) (T := TX8) (N := 15) hx hb hts inX8_findField_8 hown hK hP 0 rfl rfl 0 (by decide) (hts (.fieldLink RX8 11 "ReflectModels" "classes" "[LReflectModels$ClassModel;") (by decide +kernel)) (fun _ h9 => h9) rfl dX8_findField_42 ?_
        refine lv_iload_n hx hb dX8_findField_45 rfl (lv_at hl 1 rfl) ?_
        refine va_aldq hx hb hK hP 1 0 rfl rfl (vp_in_iff.mpr ⟨by decide, by decide⟩) dX8_findField_46 ?_
        refine W.eq (g2 := F0 m 47 ls [.ref (q 6), .ref h0, .ref h0]) rfl ?_
        refine lv_iload_n hx hb dX8_findField_47 rfl (lv_at hl 2 rfl) ?_
        refine clR (va_runV (As := [.ref (q 6), .int a2]) (rest := [.ref h0]) ⟨hx, hb, hml, hown, hts⟩ (c8_ownField l dC dI h0 q (q 6) a2 _) (cwV 2 hts gX8_findField_X8_ownField rfl rfl rfl (by decide +kernel) ⟨Nat.le_of_ble_eq_true rfl, Nat.le_of_ble_eq_true rfl⟩) ⟨pz_blind, va_recv hK hP (ci := 7) (q0 := 0) rfl rfl, pz_of hP hK hD hN [0] [] rfl (by decide) rfl⟩ rfl rfl hl.1 rfl (lv_room (Nat.le_of_ble_eq_true rfl)) dX8_findField_48 ⟨Nat.le_of_ble_eq_true rfl, Nat.le_of_ble_eq_true rfl⟩) hS hP (fun v H locs w7 hP hS => ?_)
        obtain rfl := w7
        refine W.eq (g2 := F0 m 51 ls [.int (-1), .ref h0]) rfl ?_
        refine clW (wr := [((q 0), .inl ((cA 0), 16, .inr (.inr (.inr (.inr (va_up (fun _ => none) 0 (some (q 6)))))))), ((q 1), .inl ((cA 1), 40, .inr (.inr (.inr (.inr (fun _ => none)))))), ((q 2), .inl ((cA 2), 60, .inr (.inr (.inr (.inr (fun _ => none)))))), ((q 3), .inl ((cA 3), 124, .inr (.inr (.inr (.inr (fun _ => none)))))), ((q 4), .inl ((cA 4), 3, .inr (.inr (.inr (.inr (va_up (va_up (va_up (fun _ => none) 0 (some (q 7))) 1 (some (q 8))) 2 (some (q 9)))))))), ((q 5), .inr (6, [.int 0, .long 0])), ((q 6), .inr (0, [.int 0, .null, .int 0, .null, .int 0, .int 0, .int 1, .int 1, .int 0, .int 0, .int 0, .int 0])), ((q 7), .inr (6, [.int 0, .long 0])), ((q 8), .inr (6, [.int 0, .long 0])), ((q 9), .inr (6, [.int 0, .long 0]))]) [0] [1, 2, 3, 4, 5, 6, 7, 8, 9, 10] (va_runV (As := [.int (-1)]) (rest := []) ⟨hx, hb, hml, hown, hts⟩ (c8_addHandle l dC dI h0 q _) (cwV 1 hts gX8_findField_X8_addHandle rfl rfl rfl (by decide +kernel) ⟨Nat.le_of_ble_eq_true rfl, Nat.le_of_ble_eq_true rfl⟩) ⟨pz_blind, va_recv hK hP (ci := 7) (q0 := 0) rfl rfl, pz_of hP hK hD hN [0] [] rfl (by decide) rfl⟩ rfl rfl hl.1 rfl (lv_room (Nat.le_of_ble_eq_true rfl)) dX8_findField_51 ⟨Nat.le_of_ble_eq_true rfl, Nat.le_of_ble_eq_true rfl⟩) hS hP hD hK hA rfl rfl (by decide) (by decide) (fun v w1 ty1 H locs w8 hP hD hK hS => ?_)
        obtain ⟨rfl, rfl, rfl⟩ := w8
        refine W.eq (g2 := F0 m 54 ls [.int (-11)]) rfl ?_
        have hP : va_P (dC, dI) vwCl [((q 0), .inl ((cA 0), 16, .inr (.inr (.inr (.inr (va_up (fun _ => none) 0 (some (q 6)))))))), ((q 1), .inl ((cA 1), 40, .inr (.inr (.inr (.inr (fun _ => none)))))), ((q 2), .inl ((cA 2), 60, .inr (.inr (.inr (.inr (fun _ => none)))))), ((q 3), .inl ((cA 3), 124, .inr (.inr (.inr (.inr (fun _ => none)))))), ((q 4), .inl ((cA 4), 3, .inr (.inr (.inr (.inr (va_up (va_up (va_up (fun _ => none) 0 (some (q 7))) 1 (some (q 8))) 2 (some (q 9)))))))), ((q 5), .inr (6, [.int 0, .long 0])), ((q 6), .inr (0, [.int 0, .null, .int 0, .null, .int 0, .int 0, .int 1, .int 1, .int 0, .int 0, .int 0, .int 0])), ((q 7), .inr (6, [.int 0, .long 0])), ((q 8), .inr (6, [.int 0, .long 0])), ((q 9), .inr (6, [.int 0, .long 0]))] H := hP
        have hD : va_D A [((q 0), .inl ((cA 0), 16, .inr (.inr (.inr (.inr (va_up (fun _ => none) 0 (some (q 6)))))))), ((q 1), .inl ((cA 1), 40, .inr (.inr (.inr (.inr (fun _ => none)))))), ((q 2), .inl ((cA 2), 60, .inr (.inr (.inr (.inr (fun _ => none)))))), ((q 3), .inl ((cA 3), 124, .inr (.inr (.inr (.inr (fun _ => none)))))), ((q 4), .inl ((cA 4), 3, .inr (.inr (.inr (.inr (va_up (va_up (va_up (fun _ => none) 0 (some (q 7))) 1 (some (q 8))) 2 (some (q 9)))))))), ((q 5), .inr (6, [.int 0, .long 0])), ((q 6), .inr (0, [.int 0, .null, .int 0, .null, .int 0, .int 0, .int 1, .int 1, .int 0, .int 0, .int 0, .int 0])), ((q 7), .inr (6, [.int 0, .long 0])), ((q 8), .inr (6, [.int 0, .long 0])), ((q 9), .inr (6, [.int 0, .long 0]))] := hD
        have hK : va_K (dC, dI) vwCl [((cA 0), .object "ReflectModels$ClassModel"), ((cA 1), .object "ReflectModels$Member"), ((cA 2), .object "ReflectModels$Handle"), ((cA 3), .object "ReflectModels$Thing"), ((cA 4), .object "ReflectModels$Value")] s := hK
        refine W.cs (cells' := 0) (slots' := 0) rfl rfl ?_
        have hP9 := hP.sub (ws' := []) [] rfl
        have hD9 := hD.sub (ws' := []) [] (by decide) rfl
        have hK9 := hK.sub (tys' := []) [] rfl
        exact W.zret (v := (-11)) (ty := .int) hx hb hr rfl (fun t ht hW => ⟨⟨(some (.int (-11))), rfl, _, _, ⟨congrArg (fun z => some (Value.int z)) (by unfold an_findField; (repeat' split) <;> first | rfl | (exfalso; first | omega | (have kq := kz; omega))), rfl, rfl⟩, by rw [ht]; exact hP9, va_K.moved hW.alike hK9, hD9⟩, hS.F ht⟩) hS.2.2 dX8_findField_54
      · have ic6 : a3.toInt ≠ 0 := ine2 rfl (by decide) c6
        refine lv_aload_n hx hb dX8_findField_26 rfl (lv_at hl 0 rfl) ?_
        refine lv_aload_n hx hb dX8_findField_27 rfl (lv_at hl 0 rfl) ?_
        refine va_get (D := (dC, dI)) (own := RX8) (ref := "ReflectModels") (index := 11) (ci := 7) (v := .ref (q 0)) (C := RX8) (T := TX8) (N := 15) hx hb hts inX8_findField_8 hown hK hP 0 rfl rfl 0 (by decide) (hts (.fieldLink RX8 11 "ReflectModels" "classes" "[LReflectModels$ClassModel;") (by decide +kernel)) (fun _ h9 => h9) rfl dX8_findField_28 ?_
        refine lv_iload_n hx hb dX8_findField_31 rfl (lv_at hl 1 rfl) ?_
        refine va_aldq hx hb hK hP 1 0 rfl rfl (vp_in_iff.mpr ⟨by decide, by decide⟩) dX8_findField_32 ?_
        refine W.eq (g2 := F0 m 33 ls [.ref (q 6), .ref h0, .ref h0]) rfl ?_
        refine lv_iload_n hx hb dX8_findField_33 rfl (lv_at hl 2 rfl) ?_
        refine clR (va_runV (As := [.ref (q 6), .int a2]) (rest := [.ref h0]) ⟨hx, hb, hml, hown, hts⟩ (c8_visibleField l dC dI h0 q (q 6) a2 _) (cwV 2 hts gX8_findField_X8_visibleField rfl rfl rfl (by decide +kernel) ⟨Nat.le_of_ble_eq_true rfl, Nat.le_of_ble_eq_true rfl⟩) ⟨pz_blind, va_recv hK hP (ci := 7) (q0 := 0) rfl rfl, pz_of hP hK hD hN [0, 7] [] rfl (by decide) rfl⟩ rfl rfl hl.1 rfl (lv_room (Nat.le_of_ble_eq_true rfl)) dX8_findField_34 ⟨Nat.le_of_ble_eq_true rfl, Nat.le_of_ble_eq_true rfl⟩) hS hP (fun v H locs w9 hP hS => ?_)
        obtain rfl := w9
        refine W.eq (g2 := F0 m 37 ls [.int (-1), .ref h0]) rfl ?_
        refine lv_goto (tgt := 51) hx hb dX8_findField_37 (by decide) ?_
        refine clW (wr := [((q 0), .inl ((cA 0), 16, .inr (.inr (.inr (.inr (va_up (fun _ => none) 0 (some (q 6)))))))), ((q 1), .inl ((cA 1), 40, .inr (.inr (.inr (.inr (fun _ => none)))))), ((q 2), .inl ((cA 2), 60, .inr (.inr (.inr (.inr (fun _ => none)))))), ((q 3), .inl ((cA 3), 124, .inr (.inr (.inr (.inr (fun _ => none)))))), ((q 4), .inl ((cA 4), 3, .inr (.inr (.inr (.inr (va_up (va_up (va_up (fun _ => none) 0 (some (q 7))) 1 (some (q 8))) 2 (some (q 9)))))))), ((q 5), .inr (6, [.int 0, .long 0])), ((q 6), .inr (0, [.int 0, .null, .int 0, .null, .int 0, .int 0, .int 1, .int 1, .int 0, .int 0, .int 0, .int 0])), ((q 7), .inr (6, [.int 0, .long 0])), ((q 8), .inr (6, [.int 0, .long 0])), ((q 9), .inr (6, [.int 0, .long 0]))]) [0] [1, 2, 3, 4, 5, 6, 7, 8, 9, 10] (va_runV (As := [.int (-1)]) (rest := []) ⟨hx, hb, hml, hown, hts⟩ (c8_addHandle l dC dI h0 q _) (cwV 1 hts gX8_findField_X8_addHandle rfl rfl rfl (by decide +kernel) ⟨Nat.le_of_ble_eq_true rfl, Nat.le_of_ble_eq_true rfl⟩) ⟨pz_blind, va_recv hK hP (ci := 7) (q0 := 0) rfl rfl, pz_of hP hK hD hN [0] [] rfl (by decide) rfl⟩ rfl rfl hl.1 rfl (lv_room (Nat.le_of_ble_eq_true rfl)) dX8_findField_51 ⟨Nat.le_of_ble_eq_true rfl, Nat.le_of_ble_eq_true rfl⟩) hS hP hD hK hA rfl rfl (by decide) (by decide) (fun v w1 ty1 H locs w10 hP hD hK hS => ?_)
        obtain ⟨rfl, rfl, rfl⟩ := w10
        refine W.eq (g2 := F0 m 54 ls [.int (-11)]) rfl ?_
        have hP : va_P (dC, dI) vwCl [((q 0), .inl ((cA 0), 16, .inr (.inr (.inr (.inr (va_up (fun _ => none) 0 (some (q 6)))))))), ((q 1), .inl ((cA 1), 40, .inr (.inr (.inr (.inr (fun _ => none)))))), ((q 2), .inl ((cA 2), 60, .inr (.inr (.inr (.inr (fun _ => none)))))), ((q 3), .inl ((cA 3), 124, .inr (.inr (.inr (.inr (fun _ => none)))))), ((q 4), .inl ((cA 4), 3, .inr (.inr (.inr (.inr (va_up (va_up (va_up (fun _ => none) 0 (some (q 7))) 1 (some (q 8))) 2 (some (q 9)))))))), ((q 5), .inr (6, [.int 0, .long 0])), ((q 6), .inr (0, [.int 0, .null, .int 0, .null, .int 0, .int 0, .int 1, .int 1, .int 0, .int 0, .int 0, .int 0])), ((q 7), .inr (6, [.int 0, .long 0])), ((q 8), .inr (6, [.int 0, .long 0])), ((q 9), .inr (6, [.int 0, .long 0]))] H := hP
        have hD : va_D A [((q 0), .inl ((cA 0), 16, .inr (.inr (.inr (.inr (va_up (fun _ => none) 0 (some (q 6)))))))), ((q 1), .inl ((cA 1), 40, .inr (.inr (.inr (.inr (fun _ => none)))))), ((q 2), .inl ((cA 2), 60, .inr (.inr (.inr (.inr (fun _ => none)))))), ((q 3), .inl ((cA 3), 124, .inr (.inr (.inr (.inr (fun _ => none)))))), ((q 4), .inl ((cA 4), 3, .inr (.inr (.inr (.inr (va_up (va_up (va_up (fun _ => none) 0 (some (q 7))) 1 (some (q 8))) 2 (some (q 9)))))))), ((q 5), .inr (6, [.int 0, .long 0])), ((q 6), .inr (0, [.int 0, .null, .int 0, .null, .int 0, .int 0, .int 1, .int 1, .int 0, .int 0, .int 0, .int 0])), ((q 7), .inr (6, [.int 0, .long 0])), ((q 8), .inr (6, [.int 0, .long 0])), ((q 9), .inr (6, [.int 0, .long 0]))] := hD
        have hK : va_K (dC, dI) vwCl [((cA 0), .object "ReflectModels$ClassModel"), ((cA 1), .object "ReflectModels$Member"), ((cA 2), .object "ReflectModels$Handle"), ((cA 3), .object "ReflectModels$Thing"), ((cA 4), .object "ReflectModels$Value")] s := hK
        refine W.cs (cells' := 0) (slots' := 0) rfl rfl ?_
        have hP9 := hP.sub (ws' := []) [] rfl
        have hD9 := hD.sub (ws' := []) [] (by decide) rfl
        have hK9 := hK.sub (tys' := []) [] rfl
        exact W.zret (v := (-11)) (ty := .int) hx hb hr rfl (fun t ht hW => ⟨⟨(some (.int (-11))), rfl, _, _, ⟨congrArg (fun z => some (Value.int z)) (by unfold an_findField; (repeat' split) <;> first | rfl | (exfalso; first | omega | (have kq := kz; omega))), rfl, rfl⟩, by rw [ht]; exact hP9, va_K.moved hW.alike hK9, hD9⟩, hS.F ht⟩) hS.2.2 dX8_findField_54
  · refine W.eq (g2 := F0 m 5 ls [.int 0]) rfl ?_
    refine lv_if_ne (tgt := 11) hx hb dX8_findField_5 (by decide) (fun h => absurd h (by decide)) (fun _ => ?_)
    refine lv_bipush (v := (-2)) hx hb dX8_findField_8 (by decide) ?_
    have hP9 := hP.sub (ws' := []) [] rfl
    have hD9 := hD.sub (ws' := []) [] (by decide) rfl
    have hK9 := hK.sub (tys' := []) [] rfl
    exact W.zret (v := (-2)) (ty := .int) hx hb hr rfl (fun t ht hW => ⟨⟨(some (.int (-2))), rfl, _, _, ⟨congrArg (fun z => some (Value.int z)) (by unfold an_findField; (repeat' split) <;> first | rfl | (exfalso; first | omega | (have kq := kz; omega))), rfl, rfl⟩, by rw [ht]; exact hP9, va_K.moved hW.alike hK9, hD9⟩, hS.F ht⟩) hS.2.2 dX8_findField_10

set_option maxHeartbeats 4000000 in
set_option maxRecDepth 100000 in
theorem c5_init (l : Launch) (dC : Nat → ClassId) (dI : Nat → Nat → Nat) (g1 : Nat) (a1 a2 a3 a4 : Int32) (sz : Nat)  : Met l yX5_init wsX5_init ({ frames := 1, cells := 0, slots := 0, locals := 12 }) (va_Pc [.ref g1, .int a1, .int a2, .int a3, .int a4] (pz (dC, dI) [] [(g1, .inr (4, [.int 0, .int 0, .int 0, .int 0]))] sz)) (qW (dC, dI) (fun v w1 ty1 => v = none ∧ ∃ f1 f2 : Int32, (((0 < a2.toInt ∧ f1.toInt = a3.toInt) ∨ (a2.toInt ≤ 0 ∧ f1.toInt = -1)) ∧ ((1 < a2.toInt ∧ f2.toInt = a4.toInt) ∨ (a2.toInt ≤ 1 ∧ f2.toInt = -1))) ∧ w1 = [(g1, .inr (4, [.int a1, .int a2, .int f1, .int f2]))] ∧ ty1 = []) (va_A [(g1, .inr (4, [.int 0, .int 0, .int 0, .int 0]))] sz)) 0 0 (va_A [(g1, .inr (4, [.int 0, .int 0, .int 0, .int 0]))] sz) := by
  refine Met.ofW (cc := cX5_init) (maxL := 5) (ret := none) (by decide) rfl ?_
  intro p e s m args below meth c s₁ B hml hv
  obtain ⟨rfl, hsz, hP, hK, hD, hN⟩ := hv
  have hx := B.exec
  have hb := B.bytes
  have hr := B.returns
  have hts := atoms_spec (ws := wsX5_init) B.pre
  have hown : s.vm.findClass RX5 = some m.cls := findClass_of_methodNamed B.named
  have hlocks := B.notSynchronized
  have hin : meth.name = "<init>" := (name_of_methodNamed B.named B.method).1
  subst hsz
  have hD := hD.self (sz := s.heap.size)
  generalize hAe : va_A [(g1, .inr (4, [.int 0, .int 0, .int 0, .int 0]))] s.heap.size = A at hD ⊢
  have hA : ∀ q : Nat, s.heap.size ≤ q → A q := fun q h => by rw [← hAe]; exact Or.inr h
  have hS : va_S A s.heap s.heap [] := va_S.rf
  have hl := lv_entry ([.ref g1, .int a1, .int a2, .int a3, .int a4]) (n := 5) (Nat.le_of_ble_eq_true rfl)
  rw [lg_entry_eq]
  generalize (lg_sl ([.ref g1, .int a1, .int a2, .int a3, .int a4]) ++ List.replicate (5 - (lg_sl ([.ref g1, .int a1, .int a2, .int a3, .int a4])).length) Slot.unset).toArray = ls at hl ⊢
  have hl : lv_has ls 5 [(0, .ref g1), (1, .int a1), (2, .int a2), (3, .int a3), (4, .int a4)] := hl
  refine lv_aload_n hx hb dX5_init_0 rfl (lv_at hl 0 rfl) ?_
  refine W.objInit hx hb hown (hts (.methodLink RX5 3 objectInit) (by decide +kernel)) (hts (.instanceMethod objectInit) (by decide +kernel)) (hts (.code objectInit ⟨#[0xb1]⟩ 1 none) (by decide +kernel)) rfl (by rw [hml]; exact hl.1) rfl dX5_init_1 (Nat.le_of_ble_eq_true rfl) (Nat.le_of_ble_eq_true rfl) ?_
  refine W.eq (g2 := F0 m 4 ls []) rfl ?_
  refine lv_aload_n hx hb dX5_init_4 rfl (lv_at hl 0 rfl) ?_
  refine lv_iload_n hx hb dX5_init_5 rfl (lv_at hl 1 rfl) ?_
  refine va_putF (D := (dC, dI)) (own := RX5) (ref := "ReflectModels$Signature") (index := 9) (ci := 4) (v := .int a1) (ty := .int) (C := RX5) (T := TX5) (N := 4) hx hb hts inX5_init_5 tyX5 tyX5_ok nmX5 hown hK hP hD hS 0 rfl rfl 0 (by decide) (hts (.fieldLink RX5 9 "ReflectModels$Signature" "name" "I") (by decide +kernel)) (fun _ h9 => h9) rfl hin rfl (by decide +kernel) rfl rfl (Nat.le_of_ble_eq_true rfl) dX5_init_6 (fun H locs hP hD hS => ?_)
  have hP : va_P (dC, dI) vwCl [(g1, .inr (4, [.int a1, .int 0, .int 0, .int 0]))] H := hP
  have hD : va_D A [(g1, .inr (4, [.int a1, .int 0, .int 0, .int 0]))] := hD
  refine lv_aload_n hx hb dX5_init_9 rfl (lv_at hl 0 rfl) ?_
  refine lv_iload_n hx hb dX5_init_10 rfl (lv_at hl 2 rfl) ?_
  refine va_putF (D := (dC, dI)) (own := RX5) (ref := "ReflectModels$Signature") (index := 15) (ci := 4) (v := .int a2) (ty := .int) (C := RX5) (T := TX5) (N := 4) hx hb hts inX5_init_5 tyX5 tyX5_ok nmX5 hown hK hP hD hS 0 rfl rfl 1 (by decide) (hts (.fieldLink RX5 15 "ReflectModels$Signature" "n" "I") (by decide +kernel)) (fun _ h9 => h9) rfl hin rfl (by decide +kernel) rfl rfl (Nat.le_of_ble_eq_true rfl) dX5_init_11 (fun H locs hP hD hS => ?_)
  have hP : va_P (dC, dI) vwCl [(g1, .inr (4, [.int a1, .int a2, .int 0, .int 0]))] H := hP
  have hD : va_D A [(g1, .inr (4, [.int a1, .int a2, .int 0, .int 0]))] := hD
  refine lv_aload_n hx hb dX5_init_14 rfl (lv_at hl 0 rfl) ?_
  refine lv_iload_n hx hb dX5_init_15 rfl (lv_at hl 2 rfl) ?_
  refine lv_if_le (tgt := 23) hx hb dX5_init_16 (by decide) (fun c1 => ?_) (fun c1 => ?_)
  · have ic1 : a2.toInt ≤ 0 := ile2 rfl (by decide) c1
    refine lv_iconst (v := (-1)) hx hb dX5_init_23 (by decide) ?_
    refine va_putF (D := (dC, dI)) (own := RX5) (ref := "ReflectModels$Signature") (index := 18) (ci := 4) (v := .int (-1)) (ty := .int) (C := RX5) (T := TX5) (N := 4) hx hb hts inX5_init_5 tyX5 tyX5_ok nmX5 hown hK hP hD hS 0 rfl rfl 2 (by decide) (hts (.fieldLink RX5 18 "ReflectModels$Signature" "first" "I") (by decide +kernel)) (fun _ h9 => h9) rfl hin rfl (by decide +kernel) rfl rfl (Nat.le_of_ble_eq_true rfl) dX5_init_24 (fun H locs hP hD hS => ?_)
    have hP : va_P (dC, dI) vwCl [(g1, .inr (4, [.int a1, .int a2, .int (-1), .int 0]))] H := hP
    have hD : va_D A [(g1, .inr (4, [.int a1, .int a2, .int (-1), .int 0]))] := hD
    refine lv_aload_n hx hb dX5_init_27 rfl (lv_at hl 0 rfl) ?_
    refine lv_iload_n hx hb dX5_init_28 rfl (lv_at hl 2 rfl) ?_
    refine lv_iconst (v := 1) hx hb dX5_init_29 (by decide) ?_
    refine lv_icmp_le (tgt := 38) hx hb dX5_init_30 (by decide) (fun c2 => ?_) (fun c2 => ?_)
    · have ic2 : a2.toInt ≤ 1 := ile2 rfl (by decide) c2
      refine lv_iconst (v := (-1)) hx hb dX5_init_38 (by decide) ?_
      refine va_putF (D := (dC, dI)) (own := RX5) (ref := "ReflectModels$Signature") (index := 21) (ci := 4) (v := .int (-1)) (ty := .int) (C := RX5) (T := TX5) (N := 4) hx hb hts inX5_init_5 tyX5 tyX5_ok nmX5 hown hK hP hD hS 0 rfl rfl 3 (by decide) (hts (.fieldLink RX5 21 "ReflectModels$Signature" "second" "I") (by decide +kernel)) (fun _ h9 => h9) rfl hin rfl (by decide +kernel) rfl rfl (Nat.le_of_ble_eq_true rfl) dX5_init_39 (fun H locs hP hD hS => ?_)
      have hP : va_P (dC, dI) vwCl [(g1, .inr (4, [.int a1, .int a2, .int (-1), .int (-1)]))] H := hP
      have hD : va_D A [(g1, .inr (4, [.int a1, .int a2, .int (-1), .int (-1)]))] := hD
      have hP9 := hP.sub (ws' := [(g1, .inr (4, [.int a1, .int a2, .int (-1), .int (-1)]))]) [0] rfl
      have hD9 := hD.sub (ws' := [(g1, .inr (4, [.int a1, .int a2, .int (-1), .int (-1)]))]) [0] (by decide) rfl
      have hK9 := hK.sub (tys' := []) [] rfl
      exact W.vret hx hb hr (fun t ht hW => ⟨⟨none, rfl, _, _, ⟨rfl, (-1), (-1), ⟨(by first | omega | (have kq := kz; omega)), (by first | omega | (have kq := kz; omega))⟩, rfl, rfl⟩, by rw [ht]; exact hP9, va_K.moved hW.alike hK9, hD9⟩, hS.F ht⟩) hS.2.2 dX5_init_42
    · have ic2 : 1 < a2.toInt := inle2 rfl (by decide) c2
      exfalso; first | omega | (have kq := kz; omega)
  · have ic1 : 0 < a2.toInt := inle2 rfl (by decide) c1
    refine lv_iload_n hx hb dX5_init_19 rfl (lv_at hl 3 rfl) ?_
    refine lv_goto (tgt := 24) hx hb dX5_init_20 (by decide) ?_
    refine va_putF (D := (dC, dI)) (own := RX5) (ref := "ReflectModels$Signature") (index := 18) (ci := 4) (v := .int a3) (ty := .int) (C := RX5) (T := TX5) (N := 4) hx hb hts inX5_init_5 tyX5 tyX5_ok nmX5 hown hK hP hD hS 0 rfl rfl 2 (by decide) (hts (.fieldLink RX5 18 "ReflectModels$Signature" "first" "I") (by decide +kernel)) (fun _ h9 => h9) rfl hin rfl (by decide +kernel) rfl rfl (Nat.le_of_ble_eq_true rfl) dX5_init_24 (fun H locs hP hD hS => ?_)
    have hP : va_P (dC, dI) vwCl [(g1, .inr (4, [.int a1, .int a2, .int a3, .int 0]))] H := hP
    have hD : va_D A [(g1, .inr (4, [.int a1, .int a2, .int a3, .int 0]))] := hD
    refine lv_aload_n hx hb dX5_init_27 rfl (lv_at hl 0 rfl) ?_
    refine lv_iload_n hx hb dX5_init_28 rfl (lv_at hl 2 rfl) ?_
    refine lv_iconst (v := 1) hx hb dX5_init_29 (by decide) ?_
    refine lv_icmp_le (tgt := 38) hx hb dX5_init_30 (by decide) (fun c3 => ?_) (fun c3 => ?_)
    · have ic3 : a2.toInt ≤ 1 := ile2 rfl (by decide) c3
      refine lv_iconst (v := (-1)) hx hb dX5_init_38 (by decide) ?_
      refine va_putF (D := (dC, dI)) (own := RX5) (ref := "ReflectModels$Signature") (index := 21) (ci := 4) (v := .int (-1)) (ty := .int) (C := RX5) (T := TX5) (N := 4) hx hb hts inX5_init_5 tyX5 tyX5_ok nmX5 hown hK hP hD hS 0 rfl rfl 3 (by decide) (hts (.fieldLink RX5 21 "ReflectModels$Signature" "second" "I") (by decide +kernel)) (fun _ h9 => h9) rfl hin rfl (by decide +kernel) rfl rfl (Nat.le_of_ble_eq_true rfl) dX5_init_39 (fun H locs hP hD hS => ?_)
      have hP : va_P (dC, dI) vwCl [(g1, .inr (4, [.int a1, .int a2, .int a3, .int (-1)]))] H := hP
      have hD : va_D A [(g1, .inr (4, [.int a1, .int a2, .int a3, .int (-1)]))] := hD
      have hP9 := hP.sub (ws' := [(g1, .inr (4, [.int a1, .int a2, .int a3, .int (-1)]))]) [0] rfl
      have hD9 := hD.sub (ws' := [(g1, .inr (4, [.int a1, .int a2, .int a3, .int (-1)]))]) [0] (by decide) rfl
      have hK9 := hK.sub (tys' := []) [] rfl
      exact W.vret hx hb hr (fun t ht hW => ⟨⟨none, rfl, _, _, ⟨rfl, a3, (-1), ⟨(by first | omega | (have kq := kz; omega)), (by first | omega | (have kq := kz; omega))⟩, rfl, rfl⟩, by rw [ht]; exact hP9, va_K.moved hW.alike hK9, hD9⟩, hS.F ht⟩) hS.2.2 dX5_init_42
    · have ic3 : 1 < a2.toInt := inle2 rfl (by decide) c3
      refine lv_iload hx hb dX5_init_33 (lv_at hl 4 rfl) ?_
      refine lv_goto (tgt := 39) hx hb dX5_init_35 (by decide) ?_
      refine va_putF (D := (dC, dI)) (own := RX5) (ref := "ReflectModels$Signature") (index := 21) (ci := 4) (v := .int a4) (ty := .int) (C := RX5) (T := TX5) (N := 4) hx hb hts inX5_init_5 tyX5 tyX5_ok nmX5 hown hK hP hD hS 0 rfl rfl 3 (by decide) (hts (.fieldLink RX5 21 "ReflectModels$Signature" "second" "I") (by decide +kernel)) (fun _ h9 => h9) rfl hin rfl (by decide +kernel) rfl rfl (Nat.le_of_ble_eq_true rfl) dX5_init_39 (fun H locs hP hD hS => ?_)
      have hP : va_P (dC, dI) vwCl [(g1, .inr (4, [.int a1, .int a2, .int a3, .int a4]))] H := hP
      have hD : va_D A [(g1, .inr (4, [.int a1, .int a2, .int a3, .int a4]))] := hD
      have hP9 := hP.sub (ws' := [(g1, .inr (4, [.int a1, .int a2, .int a3, .int a4]))]) [0] rfl
      have hD9 := hD.sub (ws' := [(g1, .inr (4, [.int a1, .int a2, .int a3, .int a4]))]) [0] (by decide) rfl
      have hK9 := hK.sub (tys' := []) [] rfl
      exact W.vret hx hb hr (fun t ht hW => ⟨⟨none, rfl, _, _, ⟨rfl, a3, a4, ⟨(by first | omega | (have kq := kz; omega)), (by first | omega | (have kq := kz; omega))⟩, rfl, rfl⟩, by rw [ht]; exact hP9, va_K.moved hW.alike hK9, hD9⟩, hS.F ht⟩) hS.2.2 dX5_init_42

set_option maxHeartbeats 4000000 in
set_option maxRecDepth 100000 in
theorem c8_hasMissingClass (l : Launch) (dC : Nat → ClassId) (dI : Nat → Nat → Nat) (h0 : Nat) (q : Nat → Nat) (g1 : Nat) (a1 a2 f1 f2 : Int32) (sz : Nat)  : Met l yX8_hasMissingClass wsX8_hasMissingClass ({ frames := 1, cells := 0, slots := 0, locals := 21 }) (va_Pc [.ref h0, .ref g1] (pz (dC, dI) [] [(h0, .inr (7, [.ref (q 0), .int 1, .ref (q 1), .int 0, .int 0, .ref (q 2), .int 0, .ref (q 3), .int 0, .ref (q 4), .int 0, .int 0, .ref (q 5), .int 0, .int 0])), (g1, .inr (4, [.int a1, .int a2, .int f1, .int f2]))] sz)) (qR (fun v => (v = some (.int 1) ∧ (1 ≤ f1.toInt ∨ 1 ≤ f2.toInt)) ∨ (v = some (.int 0) ∧ (f1.toInt < 1 ∧ f2.toInt < 1)))) 0 0 nA := by
  refine Met.ofW (cc := cX8_hasMissingClass) (maxL := 2) (ret := (some .boolean)) (by decide) rfl ?_
  intro p e s m args below meth c s₁ B hml hv
  obtain ⟨rfl, hsz, hP, hK, hD, hN⟩ := hv
  have hx := B.exec
  have hb := B.bytes
  have hr := B.returns
  have hts := atoms_spec (ws := wsX8_hasMissingClass) B.pre
  have hown : s.vm.findClass RX8 = some m.cls := findClass_of_methodNamed B.named
  have hlocks := B.notSynchronized
  subst hsz
  have hS : va_S nA s.heap s.heap [] := va_S.rf
  have hl := lv_entry ([.ref h0, .ref g1]) (n := 2) (Nat.le_of_ble_eq_true rfl)
  rw [lg_entry_eq]
  generalize (lg_sl ([.ref h0, .ref g1]) ++ List.replicate (2 - (lg_sl ([.ref h0, .ref g1])).length) Slot.unset).toArray = ls at hl ⊢
  have hl : lv_has ls 2 [(0, .ref h0), (1, .ref g1)] := hl
  refine lv_aload_n hx hb dX8_hasMissingClass_0 rfl (lv_at hl 0 rfl) ?_
  refine lv_aload_n hx hb dX8_hasMissingClass_1 rfl (lv_at hl 1 rfl) ?_
  refine va_getN (host := "ReflectModels") (D := (dC, dI)) (own := RX8) (ref := "ReflectModels$Signature") (index := 287) (ci := 4) (v := .int f1) (C := RX5) (T := TX5) (N := 4) hx hb hts inX8_hasMissingClass_5 hown hK hP 1 rfl rfl 2 (by decide) (va_Nw.use rfl (hN _ (List.mem_of_getElem? (i := 31) rfl))) (fun _ h9 => h9) rfl dX8_hasMissingClass_2 ?_
  refine clR (va_runV (As := [.int f1]) (rest := []) ⟨hx, hb, hml, hown, hts⟩ (c8_isMissingClass l dC dI h0 q f1 _) (cwV 1 hts gX8_hasMissingClass_X8_isMissingClass rfl rfl rfl (by decide +kernel) ⟨Nat.le_of_ble_eq_true rfl, Nat.le_of_ble_eq_true rfl⟩) ⟨pz_blind, va_recv hK hP (ci := 7) (q0 := 0) rfl rfl, pz_of hP hK hD hN [0] [] rfl (by decide) rfl⟩ rfl rfl hl.1 rfl (lv_room (Nat.le_of_ble_eq_true rfl)) dX8_hasMissingClass_5 ⟨Nat.le_of_ble_eq_true rfl, Nat.le_of_ble_eq_true rfl⟩) hS hP (fun v H locs w3 hP hS => ?_)
  rcases w3 with ⟨rfl, u1⟩ | ⟨rfl, u2⟩
  · refine W.eq (g2 := F0 m 8 ls [.int 1]) rfl ?_
    refine lv_if_ne (tgt := 22) hx hb dX8_hasMissingClass_8 (by decide) (fun _ => ?_) (fun h => absurd h (by decide))
    refine lv_iconst (v := 1) hx hb dX8_hasMissingClass_22 (by decide) ?_
    refine lv_goto (tgt := 27) hx hb dX8_hasMissingClass_23 (by decide) ?_
    exact W.zret (v := 1) (ty := .boolean) hx hb hr rfl (fun t ht hW => ⟨⟨(some (.int 1)), rfl, (by first | exact Or.inl ⟨rfl, (by first | omega | (have kq := kz; omega) | decide)⟩)⟩, hS.F ht⟩) hS.2.2 dX8_hasMissingClass_27
  · refine W.eq (g2 := F0 m 8 ls [.int 0]) rfl ?_
    refine lv_if_ne (tgt := 22) hx hb dX8_hasMissingClass_8 (by decide) (fun h => absurd h (by decide)) (fun _ => ?_)
    refine lv_aload_n hx hb dX8_hasMissingClass_11 rfl (lv_at hl 0 rfl) ?_
    refine lv_aload_n hx hb dX8_hasMissingClass_12 rfl (lv_at hl 1 rfl) ?_
    refine va_getN (host := "ReflectModels") (D := (dC, dI)) (own := RX8) (ref := "ReflectModels$Signature") (index := 290) (ci := 4) (v := .int f2) (C := RX5) (T := TX5) (N := 4) hx hb hts inX8_hasMissingClass_5 hown hK hP 1 rfl rfl 3 (by decide) (va_Nw.use rfl (hN _ (List.mem_of_getElem? (i := 32) rfl))) (fun _ h9 => h9) rfl dX8_hasMissingClass_13 ?_
    refine clR (va_runV (As := [.int f2]) (rest := []) ⟨hx, hb, hml, hown, hts⟩ (c8_isMissingClass l dC dI h0 q f2 _) (cwV 1 hts gX8_hasMissingClass_X8_isMissingClass rfl rfl rfl (by decide +kernel) ⟨Nat.le_of_ble_eq_true rfl, Nat.le_of_ble_eq_true rfl⟩) ⟨pz_blind, va_recv hK hP (ci := 7) (q0 := 0) rfl rfl, pz_of hP hK hD hN [0] [] rfl (by decide) rfl⟩ rfl rfl hl.1 rfl (lv_room (Nat.le_of_ble_eq_true rfl)) dX8_hasMissingClass_16 ⟨Nat.le_of_ble_eq_true rfl, Nat.le_of_ble_eq_true rfl⟩) hS hP (fun v H locs w6 hP hS => ?_)
    rcases w6 with ⟨rfl, u4⟩ | ⟨rfl, u5⟩
    · refine W.eq (g2 := F0 m 19 ls [.int 1]) rfl ?_
      refine lv_if_eq (tgt := 26) hx hb dX8_hasMissingClass_19 (by decide) (fun h => absurd h (by decide)) (fun _ => ?_)
      refine lv_iconst (v := 1) hx hb dX8_hasMissingClass_22 (by decide) ?_
      refine lv_goto (tgt := 27) hx hb dX8_hasMissingClass_23 (by decide) ?_
      exact W.zret (v := 1) (ty := .boolean) hx hb hr rfl (fun t ht hW => ⟨⟨(some (.int 1)), rfl, (by first | exact Or.inl ⟨rfl, (by first | omega | (have kq := kz; omega) | decide)⟩)⟩, hS.F ht⟩) hS.2.2 dX8_hasMissingClass_27
    · refine W.eq (g2 := F0 m 19 ls [.int 0]) rfl ?_
      refine lv_if_eq (tgt := 26) hx hb dX8_hasMissingClass_19 (by decide) (fun _ => ?_) (fun h => absurd (by decide) h)
      refine lv_iconst (v := 0) hx hb dX8_hasMissingClass_26 (by decide) ?_
      exact W.zret (v := 0) (ty := .boolean) hx hb hr rfl (fun t ht hW => ⟨⟨(some (.int 0)), rfl, (by first | exact Or.inr (⟨rfl, (by first | omega | (have kq := kz; omega) | decide)⟩))⟩, hS.F ht⟩) hS.2.2 dX8_hasMissingClass_27

set_option maxHeartbeats 4000000 in
set_option maxRecDepth 100000 in
theorem c5_isOutside (l : Launch) (dC : Nat → ClassId) (dI : Nat → Nat → Nat) (g1 : Nat) (a1 a2 f1 f2 : Int32) (sz : Nat)  : Met l yX5_isOutside wsX5_isOutside ({ frames := 1, cells := 0, slots := 0, locals := 20 }) (va_Pc [.ref g1] (pz (dC, dI) [] [(g1, .inr (4, [.int a1, .int a2, .int f1, .int f2]))] sz)) (qR (fun v => (v = some (.int 1) ∧ (a1.toInt < 0 ∨ 19 < a1.toInt ∨ a2.toInt < 0 ∨ 2 < a2.toInt ∨ f1.toInt < -2 ∨ f2.toInt < -2)) ∨ (v = some (.int 0) ∧ (0 ≤ a1.toInt ∧ a1.toInt ≤ 19 ∧ 0 ≤ a2.toInt ∧ a2.toInt ≤ 2 ∧ -2 ≤ f1.toInt ∧ -2 ≤ f2.toInt)))) 0 0 nA := by
  refine Met.ofW (cc := cX5_isOutside) (maxL := 1) (ret := (some .boolean)) (by decide) rfl ?_
  intro p e s m args below meth c s₁ B hml hv
  obtain ⟨rfl, hsz, hP, hK, hD, hN⟩ := hv
  have hx := B.exec
  have hb := B.bytes
  have hr := B.returns
  have hts := atoms_spec (ws := wsX5_isOutside) B.pre
  have hown : s.vm.findClass RX5 = some m.cls := findClass_of_methodNamed B.named
  have hlocks := B.notSynchronized
  subst hsz
  have hS : va_S nA s.heap s.heap [] := va_S.rf
  have hl := lv_entry ([.ref g1]) (n := 1) (Nat.le_of_ble_eq_true rfl)
  rw [lg_entry_eq]
  generalize (lg_sl ([.ref g1]) ++ List.replicate (1 - (lg_sl ([.ref g1])).length) Slot.unset).toArray = ls at hl ⊢
  have hl : lv_has ls 1 [(0, .ref g1)] := hl
  refine lv_aload_n hx hb dX5_isOutside_0 rfl (lv_at hl 0 rfl) ?_
  refine va_get (D := (dC, dI)) (own := RX5) (ref := "ReflectModels$Signature") (index := 9) (ci := 4) (v := .int a1) (C := RX5) (T := TX5) (N := 4) hx hb hts inX5_isOutside_5 hown hK hP 0 rfl rfl 0 (by decide) (hts (.fieldLink RX5 9 "ReflectModels$Signature" "name" "I") (by decide +kernel)) (fun _ h9 => h9) rfl dX5_isOutside_1 ?_
  refine clR (va_runSN (As := [.int a1]) (rest := []) ⟨hx, hb, hml, hown, hts⟩ (c8_isOutsideName l dC dI a1 _) ⟨va_cnB 1 hts gX5_isOutside_X8_isOutsideName_n24 rfl rfl rfl (hN _ (List.mem_of_getElem? (i := 34) rfl)) (hts (.initialized RX8) (by decide +kernel)) (by decide +kernel) ⟨Nat.le_of_ble_eq_true rfl, Nat.le_of_ble_eq_true rfl⟩, hts (.static yX8_isOutsideName) (by decide +kernel), trivial⟩ ⟨pz_blind, pz_of hP hK hD hN [] [] rfl (by decide) rfl⟩ rfl rfl hl.1 rfl (lv_room (Nat.le_of_ble_eq_true rfl)) dX5_isOutside_4 ⟨Nat.le_of_ble_eq_true rfl, Nat.le_of_ble_eq_true rfl⟩) hS hP (fun v H locs w3 hP hS => ?_)
  rcases w3 with ⟨rfl, u1⟩ | ⟨rfl, u2⟩
  · refine W.eq (g2 := F0 m 7 ls [.int 1]) rfl ?_
    refine lv_if_ne (tgt := 43) hx hb dX5_isOutside_7 (by decide) (fun _ => ?_) (fun h => absurd h (by decide))
    refine lv_iconst (v := 1) hx hb dX5_isOutside_43 (by decide) ?_
    refine lv_goto (tgt := 48) hx hb dX5_isOutside_44 (by decide) ?_
    exact W.zret (v := 1) (ty := .boolean) hx hb hr rfl (fun t ht hW => ⟨⟨(some (.int 1)), rfl, (by first | exact Or.inl ⟨rfl, (by first | omega | (have kq := kz; omega) | decide)⟩)⟩, hS.F ht⟩) hS.2.2 dX5_isOutside_48
  · refine W.eq (g2 := F0 m 7 ls [.int 0]) rfl ?_
    refine lv_if_ne (tgt := 43) hx hb dX5_isOutside_7 (by decide) (fun h => absurd h (by decide)) (fun _ => ?_)
    refine lv_aload_n hx hb dX5_isOutside_10 rfl (lv_at hl 0 rfl) ?_
    refine va_get (D := (dC, dI)) (own := RX5) (ref := "ReflectModels$Signature") (index := 15) (ci := 4) (v := .int a2) (C := RX5) (T := TX5) (N := 4) hx hb hts inX5_isOutside_5 hown hK hP 0 rfl rfl 1 (by decide) (hts (.fieldLink RX5 15 "ReflectModels$Signature" "n" "I") (by decide +kernel)) (fun _ h9 => h9) rfl dX5_isOutside_11 ?_
    refine lv_if_lt (tgt := 43) hx hb dX5_isOutside_14 (by decide) (fun c4 => ?_) (fun c4 => ?_)
    · have ic4 : a2.toInt < 0 := il2 rfl (by decide) c4
      refine lv_iconst (v := 1) hx hb dX5_isOutside_43 (by decide) ?_
      refine lv_goto (tgt := 48) hx hb dX5_isOutside_44 (by decide) ?_
      exact W.zret (v := 1) (ty := .boolean) hx hb hr rfl (fun t ht hW => ⟨⟨(some (.int 1)), rfl, (by first | exact Or.inl ⟨rfl, (by first | omega | (have kq := kz; omega) | decide)⟩)⟩, hS.F ht⟩) hS.2.2 dX5_isOutside_48
    · have ic4 : 0 ≤ a2.toInt := inl2 rfl (by decide) c4
      refine lv_aload_n hx hb dX5_isOutside_17 rfl (lv_at hl 0 rfl) ?_
      refine va_get (D := (dC, dI)) (own := RX5) (ref := "ReflectModels$Signature") (index := 15) (ci := 4) (v := .int a2) (C := RX5) (T := TX5) (N := 4) hx hb hts inX5_isOutside_5 hown hK hP 0 rfl rfl 1 (by decide) (hts (.fieldLink RX5 15 "ReflectModels$Signature" "n" "I") (by decide +kernel)) (fun _ h9 => h9) rfl dX5_isOutside_18 ?_
      refine lv_iconst (v := 2) hx hb dX5_isOutside_21 (by decide) ?_
      refine lv_icmp_gt (tgt := 43) hx hb dX5_isOutside_22 (by decide) (fun c5 => ?_) (fun c5 => ?_)
      · have ic5 : 2 < a2.toInt := il2 (by decide) rfl c5
        refine lv_iconst (v := 1) hx hb dX5_isOutside_43 (by decide) ?_
        refine lv_goto (tgt := 48) hx hb dX5_isOutside_44 (by decide) ?_
        exact W.zret (v := 1) (ty := .boolean) hx hb hr rfl (fun t ht hW => ⟨⟨(some (.int 1)), rfl, (by first | exact Or.inl ⟨rfl, (by first | omega | (have kq := kz; omega) | decide)⟩)⟩, hS.F ht⟩) hS.2.2 dX5_isOutside_48
      · have ic5 : a2.toInt ≤ 2 := inl2 (by decide) rfl c5
        refine lv_aload_n hx hb dX5_isOutside_25 rfl (lv_at hl 0 rfl) ?_
        refine va_get (D := (dC, dI)) (own := RX5) (ref := "ReflectModels$Signature") (index := 18) (ci := 4) (v := .int f1) (C := RX5) (T := TX5) (N := 4) hx hb hts inX5_isOutside_5 hown hK hP 0 rfl rfl 2 (by decide) (hts (.fieldLink RX5 18 "ReflectModels$Signature" "first" "I") (by decide +kernel)) (fun _ h9 => h9) rfl dX5_isOutside_26 ?_
        refine lv_bipush (v := (-2)) hx hb dX5_isOutside_29 (by decide) ?_
        refine lv_icmp_lt (tgt := 43) hx hb dX5_isOutside_31 (by decide) (fun c6 => ?_) (fun c6 => ?_)
        · have ic6 : f1.toInt < (-2) := il2 rfl (by decide) c6
          refine lv_iconst (v := 1) hx hb dX5_isOutside_43 (by decide) ?_
          refine lv_goto (tgt := 48) hx hb dX5_isOutside_44 (by decide) ?_
          exact W.zret (v := 1) (ty := .boolean) hx hb hr rfl (fun t ht hW => ⟨⟨(some (.int 1)), rfl, (by first | exact Or.inl ⟨rfl, (by first | omega | (have kq := kz; omega) | decide)⟩)⟩, hS.F ht⟩) hS.2.2 dX5_isOutside_48
        · have ic6 : (-2) ≤ f1.toInt := inl2 rfl (by decide) c6
          refine lv_aload_n hx hb dX5_isOutside_34 rfl (lv_at hl 0 rfl) ?_
          refine va_get (D := (dC, dI)) (own := RX5) (ref := "ReflectModels$Signature") (index := 21) (ci := 4) (v := .int f2) (C := RX5) (T := TX5) (N := 4) hx hb hts inX5_isOutside_5 hown hK hP 0 rfl rfl 3 (by decide) (hts (.fieldLink RX5 21 "ReflectModels$Signature" "second" "I") (by decide +kernel)) (fun _ h9 => h9) rfl dX5_isOutside_35 ?_
          refine lv_bipush (v := (-2)) hx hb dX5_isOutside_38 (by decide) ?_
          refine lv_icmp_ge (tgt := 47) hx hb dX5_isOutside_40 (by decide) (fun c7 => ?_) (fun c7 => ?_)
          · have ic7 : (-2) ≤ f2.toInt := ile2 (by decide) rfl c7
            refine lv_iconst (v := 0) hx hb dX5_isOutside_47 (by decide) ?_
            exact W.zret (v := 0) (ty := .boolean) hx hb hr rfl (fun t ht hW => ⟨⟨(some (.int 0)), rfl, (by first | exact Or.inr (⟨rfl, (by first | omega | (have kq := kz; omega) | decide)⟩))⟩, hS.F ht⟩) hS.2.2 dX5_isOutside_48
          · have ic7 : f2.toInt < (-2) := inle2 (by decide) rfl c7
            refine lv_iconst (v := 1) hx hb dX5_isOutside_43 (by decide) ?_
            refine lv_goto (tgt := 48) hx hb dX5_isOutside_44 (by decide) ?_
            exact W.zret (v := 1) (ty := .boolean) hx hb hr rfl (fun t ht hW => ⟨⟨(some (.int 1)), rfl, (by first | exact Or.inl ⟨rfl, (by first | omega | (have kq := kz; omega) | decide)⟩)⟩, hS.F ht⟩) hS.2.2 dX5_isOutside_48

set_option maxHeartbeats 4000000 in
set_option maxRecDepth 100000 in
theorem c5_startsWithInt (l : Launch) (dC : Nat → ClassId) (dI : Nat → Nat → Nat) (g1 : Nat) (a1 a2 f1 f2 : Int32) (sz : Nat)  : Met l yX5_startsWithInt wsX5_startsWithInt ({ frames := 0, cells := 0, slots := 0, locals := 0 }) (va_Pc [.ref g1] (pz (dC, dI) [] [(g1, .inr (4, [.int a1, .int a2, .int f1, .int f2]))] sz)) (qR (fun v => (v = some (.int 1) ∧ (0 < a2.toInt ∧ f1.toInt = -1)) ∨ (v = some (.int 0) ∧ (a2.toInt ≤ 0 ∨ f1.toInt ≠ -1)))) 0 0 nA := by
  refine Met.ofW (cc := cX5_startsWithInt) (maxL := 1) (ret := (some .boolean)) (by decide) rfl ?_
  intro p e s m args below meth c s₁ B hml hv
  obtain ⟨rfl, hsz, hP, hK, hD, hN⟩ := hv
  have hx := B.exec
  have hb := B.bytes
  have hr := B.returns
  have hts := atoms_spec (ws := wsX5_startsWithInt) B.pre
  have hown : s.vm.findClass RX5 = some m.cls := findClass_of_methodNamed B.named
  have hlocks := B.notSynchronized
  subst hsz
  have hS : va_S nA s.heap s.heap [] := va_S.rf
  have hl := lv_entry ([.ref g1]) (n := 1) (Nat.le_of_ble_eq_true rfl)
  rw [lg_entry_eq]
  generalize (lg_sl ([.ref g1]) ++ List.replicate (1 - (lg_sl ([.ref g1])).length) Slot.unset).toArray = ls at hl ⊢
  have hl : lv_has ls 1 [(0, .ref g1)] := hl
  refine lv_aload_n hx hb dX5_startsWithInt_0 rfl (lv_at hl 0 rfl) ?_
  refine va_get (D := (dC, dI)) (own := RX5) (ref := "ReflectModels$Signature") (index := 15) (ci := 4) (v := .int a2) (C := RX5) (T := TX5) (N := 4) hx hb hts inX5_startsWithInt_5 hown hK hP 0 rfl rfl 1 (by decide) (hts (.fieldLink RX5 15 "ReflectModels$Signature" "n" "I") (by decide +kernel)) (fun _ h9 => h9) rfl dX5_startsWithInt_1 ?_
  refine lv_if_le (tgt := 19) hx hb dX5_startsWithInt_4 (by decide) (fun c1 => ?_) (fun c1 => ?_)
  · have ic1 : a2.toInt ≤ 0 := ile2 rfl (by decide) c1
    refine lv_iconst (v := 0) hx hb dX5_startsWithInt_19 (by decide) ?_
    exact W.zret (v := 0) (ty := .boolean) hx hb hr rfl (fun t ht hW => ⟨⟨(some (.int 0)), rfl, (by first | exact Or.inr (⟨rfl, (by first | omega | (have kq := kz; omega) | decide)⟩))⟩, hS.F ht⟩) hS.2.2 dX5_startsWithInt_20
  · have ic1 : 0 < a2.toInt := inle2 rfl (by decide) c1
    refine lv_aload_n hx hb dX5_startsWithInt_7 rfl (lv_at hl 0 rfl) ?_
    refine va_get (D := (dC, dI)) (own := RX5) (ref := "ReflectModels$Signature") (index := 18) (ci := 4) (v := .int f1) (C := RX5) (T := TX5) (N := 4) hx hb hts inX5_startsWithInt_5 hown hK hP 0 rfl rfl 2 (by decide) (hts (.fieldLink RX5 18 "ReflectModels$Signature" "first" "I") (by decide +kernel)) (fun _ h9 => h9) rfl dX5_startsWithInt_8 ?_
    refine lv_iconst (v := (-1)) hx hb dX5_startsWithInt_11 (by decide) ?_
    refine lv_icmp_ne (tgt := 19) hx hb dX5_startsWithInt_12 (by decide) (fun c2 => ?_) (fun c2 => ?_)
    · have ic2 : f1.toInt ≠ (-1) := ine2 rfl (by decide) c2
      refine lv_iconst (v := 0) hx hb dX5_startsWithInt_19 (by decide) ?_
      exact W.zret (v := 0) (ty := .boolean) hx hb hr rfl (fun t ht hW => ⟨⟨(some (.int 0)), rfl, (by first | exact Or.inr (⟨rfl, (by first | omega | (have kq := kz; omega) | decide)⟩))⟩, hS.F ht⟩) hS.2.2 dX5_startsWithInt_20
    · have ic2 : f1.toInt = (-1) := ieq2 rfl (by decide) c2
      refine lv_iconst (v := 1) hx hb dX5_startsWithInt_15 (by decide) ?_
      refine lv_goto (tgt := 20) hx hb dX5_startsWithInt_16 (by decide) ?_
      exact W.zret (v := 1) (ty := .boolean) hx hb hr rfl (fun t ht hW => ⟨⟨(some (.int 1)), rfl, (by first | exact Or.inl ⟨rfl, (by first | omega | (have kq := kz; omega) | decide)⟩)⟩, hS.F ht⟩) hS.2.2 dX5_startsWithInt_20

set_option maxHeartbeats 4000000 in
set_option maxRecDepth 100000 in
theorem c5_startsWithClass (l : Launch) (dC : Nat → ClassId) (dI : Nat → Nat → Nat) (g1 : Nat) (a1 a2 f1 f2 : Int32) (sz : Nat)  : Met l yX5_startsWithClass wsX5_startsWithClass ({ frames := 0, cells := 0, slots := 0, locals := 0 }) (va_Pc [.ref g1] (pz (dC, dI) [] [(g1, .inr (4, [.int a1, .int a2, .int f1, .int f2]))] sz)) (qR (fun v => (v = some (.int 1) ∧ (0 < a2.toInt ∧ 0 ≤ f1.toInt)) ∨ (v = some (.int 0) ∧ (a2.toInt ≤ 0 ∨ f1.toInt < 0)))) 0 0 nA := by
  refine Met.ofW (cc := cX5_startsWithClass) (maxL := 1) (ret := (some .boolean)) (by decide) rfl ?_
  intro p e s m args below meth c s₁ B hml hv
  obtain ⟨rfl, hsz, hP, hK, hD, hN⟩ := hv
  have hx := B.exec
  have hb := B.bytes
  have hr := B.returns
  have hts := atoms_spec (ws := wsX5_startsWithClass) B.pre
  have hown : s.vm.findClass RX5 = some m.cls := findClass_of_methodNamed B.named
  have hlocks := B.notSynchronized
  subst hsz
  have hS : va_S nA s.heap s.heap [] := va_S.rf
  have hl := lv_entry ([.ref g1]) (n := 1) (Nat.le_of_ble_eq_true rfl)
  rw [lg_entry_eq]
  generalize (lg_sl ([.ref g1]) ++ List.replicate (1 - (lg_sl ([.ref g1])).length) Slot.unset).toArray = ls at hl ⊢
  have hl : lv_has ls 1 [(0, .ref g1)] := hl
  refine lv_aload_n hx hb dX5_startsWithClass_0 rfl (lv_at hl 0 rfl) ?_
  refine va_get (D := (dC, dI)) (own := RX5) (ref := "ReflectModels$Signature") (index := 15) (ci := 4) (v := .int a2) (C := RX5) (T := TX5) (N := 4) hx hb hts inX5_startsWithClass_5 hown hK hP 0 rfl rfl 1 (by decide) (hts (.fieldLink RX5 15 "ReflectModels$Signature" "n" "I") (by decide +kernel)) (fun _ h9 => h9) rfl dX5_startsWithClass_1 ?_
  refine lv_if_le (tgt := 18) hx hb dX5_startsWithClass_4 (by decide) (fun c1 => ?_) (fun c1 => ?_)
  · have ic1 : a2.toInt ≤ 0 := ile2 rfl (by decide) c1
    refine lv_iconst (v := 0) hx hb dX5_startsWithClass_18 (by decide) ?_
    exact W.zret (v := 0) (ty := .boolean) hx hb hr rfl (fun t ht hW => ⟨⟨(some (.int 0)), rfl, (by first | exact Or.inr (⟨rfl, (by first | omega | (have kq := kz; omega) | decide)⟩))⟩, hS.F ht⟩) hS.2.2 dX5_startsWithClass_19
  · have ic1 : 0 < a2.toInt := inle2 rfl (by decide) c1
    refine lv_aload_n hx hb dX5_startsWithClass_7 rfl (lv_at hl 0 rfl) ?_
    refine va_get (D := (dC, dI)) (own := RX5) (ref := "ReflectModels$Signature") (index := 18) (ci := 4) (v := .int f1) (C := RX5) (T := TX5) (N := 4) hx hb hts inX5_startsWithClass_5 hown hK hP 0 rfl rfl 2 (by decide) (hts (.fieldLink RX5 18 "ReflectModels$Signature" "first" "I") (by decide +kernel)) (fun _ h9 => h9) rfl dX5_startsWithClass_8 ?_
    refine lv_if_lt (tgt := 18) hx hb dX5_startsWithClass_11 (by decide) (fun c2 => ?_) (fun c2 => ?_)
    · have ic2 : f1.toInt < 0 := il2 rfl (by decide) c2
      refine lv_iconst (v := 0) hx hb dX5_startsWithClass_18 (by decide) ?_
      exact W.zret (v := 0) (ty := .boolean) hx hb hr rfl (fun t ht hW => ⟨⟨(some (.int 0)), rfl, (by first | exact Or.inr (⟨rfl, (by first | omega | (have kq := kz; omega) | decide)⟩))⟩, hS.F ht⟩) hS.2.2 dX5_startsWithClass_19
    · have ic2 : 0 ≤ f1.toInt := inl2 rfl (by decide) c2
      refine lv_iconst (v := 1) hx hb dX5_startsWithClass_14 (by decide) ?_
      refine lv_goto (tgt := 19) hx hb dX5_startsWithClass_15 (by decide) ?_
      exact W.zret (v := 1) (ty := .boolean) hx hb hr rfl (fun t ht hW => ⟨⟨(some (.int 1)), rfl, (by first | exact Or.inl ⟨rfl, (by first | omega | (have kq := kz; omega) | decide)⟩)⟩, hS.F ht⟩) hS.2.2 dX5_startsWithClass_19

set_option maxHeartbeats 4000000 in
set_option maxRecDepth 100000 in
/-- findMethod on a fresh object -/
theorem c8_findMethod (l : Launch) (dC : Nat → ClassId) (dI : Nat → Nat → Nat) (h0 : Nat) (q : Nat → Nat) (cA : Nat → ClassId) (a1 a2 a3 a4 a5 a6 : Int32) (sz : Nat)  : Met l yX8_findMethod wsX8_findMethod ({ frames := 3, cells := 1, slots := 4, locals := 73 }) (va_Pc [.ref h0, .int a1, .int a2, .int a3, .int a4, .int a5, .int a6] (pz (dC, dI) [((cA 0), .object "ReflectModels$ClassModel"), ((cA 1), .object "ReflectModels$Member"), ((cA 2), .object "ReflectModels$Handle"), ((cA 3), .object "ReflectModels$Thing"), ((cA 4), .object "ReflectModels$Value")] [(h0, .inr (7, [.ref (q 0), .int 1, .ref (q 1), .int 0, .int 0, .ref (q 2), .int 0, .ref (q 3), .int 0, .ref (q 4), .int 0, .int 0, .ref (q 5), .int 0, .int 0])), ((q 0), .inl ((cA 0), 16, .inr (.inr (.inr (.inr (va_up (fun _ => none) 0 (some (q 6)))))))), ((q 1), .inl ((cA 1), 40, .inr (.inr (.inr (.inr (fun _ => none)))))), ((q 2), .inl ((cA 2), 60, .inr (.inr (.inr (.inr (fun _ => none)))))), ((q 3), .inl ((cA 3), 124, .inr (.inr (.inr (.inr (fun _ => none)))))), ((q 4), .inl ((cA 4), 3, .inr (.inr (.inr (.inr (va_up (va_up (va_up (fun _ => none) 0 (some (q 7))) 1 (some (q 8))) 2 (some (q 9)))))))), ((q 5), .inr (6, [.int 0, .long 0])), ((q 6), .inr (0, [.int 0, .null, .int 0, .null, .int 0, .int 0, .int 1, .int 1, .int 0, .int 0, .int 0, .int 0])), ((q 7), .inr (6, [.int 0, .long 0])), ((q 8), .inr (6, [.int 0, .long 0])), ((q 9), .inr (6, [.int 0, .long 0]))] sz)) (qW (dC, dI) (fun v w1 ty1 => v = some (.int (an_findMethod a1.toInt a2.toInt a3.toInt a4.toInt a5.toInt)) ∧ w1 = [] ∧ ty1 = []) (va_A [(h0, .inr (7, [.ref (q 0), .int 1, .ref (q 1), .int 0, .int 0, .ref (q 2), .int 0, .ref (q 3), .int 0, .ref (q 4), .int 0, .int 0, .ref (q 5), .int 0, .int 0])), ((q 0), .inl ((cA 0), 16, .inr (.inr (.inr (.inr (va_up (fun _ => none) 0 (some (q 6)))))))), ((q 1), .inl ((cA 1), 40, .inr (.inr (.inr (.inr (fun _ => none)))))), ((q 2), .inl ((cA 2), 60, .inr (.inr (.inr (.inr (fun _ => none)))))), ((q 3), .inl ((cA 3), 124, .inr (.inr (.inr (.inr (fun _ => none)))))), ((q 4), .inl ((cA 4), 3, .inr (.inr (.inr (.inr (va_up (va_up (va_up (fun _ => none) 0 (some (q 7))) 1 (some (q 8))) 2 (some (q 9)))))))), ((q 5), .inr (6, [.int 0, .long 0])), ((q 6), .inr (0, [.int 0, .null, .int 0, .null, .int 0, .int 0, .int 1, .int 1, .int 0, .int 0, .int 0, .int 0])), ((q 7), .inr (6, [.int 0, .long 0])), ((q 8), .inr (6, [.int 0, .long 0])), ((q 9), .inr (6, [.int 0, .long 0]))] sz)) 1 4 (va_A [(h0, .inr (7, [.ref (q 0), .int 1, .ref (q 1), .int 0, .int 0, .ref (q 2), .int 0, .ref (q 3), .int 0, .ref (q 4), .int 0, .int 0, .ref (q 5), .int 0, .int 0])), ((q 0), .inl ((cA 0), 16, .inr (.inr (.inr (.inr (va_up (fun _ => none) 0 (some (q 6)))))))), ((q 1), .inl ((cA 1), 40, .inr (.inr (.inr (.inr (fun _ => none)))))), ((q 2), .inl ((cA 2), 60, .inr (.inr (.inr (.inr (fun _ => none)))))), ((q 3), .inl ((cA 3), 124, .inr (.inr (.inr (.inr (fun _ => none)))))), ((q 4), .inl ((cA 4), 3, .inr (.inr (.inr (.inr (va_up (va_up (va_up (fun _ => none) 0 (some (q 7))) 1 (some (q 8))) 2 (some (q 9)))))))), ((q 5), .inr (6, [.int 0, .long 0])), ((q 6), .inr (0, [.int 0, .null, .int 0, .null, .int 0, .int 0, .int 1, .int 1, .int 0, .int 0, .int 0, .int 0])), ((q 7), .inr (6, [.int 0, .long 0])), ((q 8), .inr (6, [.int 0, .long 0])), ((q 9), .inr (6, [.int 0, .long 0]))] sz) := by
  refine Met.ofW (cc := cX8_findMethod) (maxL := 8) (ret := (some .int)) (by decide) rfl ?_
  intro p e s m args below meth c s₁ B hml hv
  obtain ⟨rfl, hsz, hP, hK, hD, hN⟩ := hv
  have hx := B.exec
  have hb := B.bytes
  have hr := B.returns
  have hts := atoms_spec (ws := wsX8_findMethod) B.pre
  have hown : s.vm.findClass RX8 = some m.cls := findClass_of_methodNamed B.named
  have hlocks := B.notSynchronized
  subst hsz
  have hD := hD.self (sz := s.heap.size)
  generalize hAe : va_A [(h0, .inr (7, [.ref (q 0), .int 1, .ref (q 1), .int 0, .int 0, .ref (q 2), .int 0, .ref (q 3), .int 0, .ref (q 4), .int 0, .int 0, .ref (q 5), .int 0, .int 0])), ((q 0), .inl ((cA 0), 16, .inr (.inr (.inr (.inr (va_up (fun _ => none) 0 (some (q 6)))))))), ((q 1), .inl ((cA 1), 40, .inr (.inr (.inr (.inr (fun _ => none)))))), ((q 2), .inl ((cA 2), 60, .inr (.inr (.inr (.inr (fun _ => none)))))), ((q 3), .inl ((cA 3), 124, .inr (.inr (.inr (.inr (fun _ => none)))))), ((q 4), .inl ((cA 4), 3, .inr (.inr (.inr (.inr (va_up (va_up (va_up (fun _ => none) 0 (some (q 7))) 1 (some (q 8))) 2 (some (q 9)))))))), ((q 5), .inr (6, [.int 0, .long 0])), ((q 6), .inr (0, [.int 0, .null, .int 0, .null, .int 0, .int 0, .int 1, .int 1, .int 0, .int 0, .int 0, .int 0])), ((q 7), .inr (6, [.int 0, .long 0])), ((q 8), .inr (6, [.int 0, .long 0])), ((q 9), .inr (6, [.int 0, .long 0]))] s.heap.size = A at hD ⊢
  have hA : ∀ q : Nat, s.heap.size ≤ q → A q := fun q h => by rw [← hAe]; exact Or.inr h
  have hS : va_S A s.heap s.heap [] := va_S.rf
  have hl := lv_entry ([.ref h0, .int a1, .int a2, .int a3, .int a4, .int a5, .int a6]) (n := 8) (Nat.le_of_ble_eq_true rfl)
  rw [lg_entry_eq]
  generalize (lg_sl ([.ref h0, .int a1, .int a2, .int a3, .int a4, .int a5, .int a6]) ++ List.replicate (8 - (lg_sl ([.ref h0, .int a1, .int a2, .int a3, .int a4, .int a5, .int a6])).length) Slot.unset).toArray = ls at hl ⊢
  have hl : lv_has ls 8 [(0, .ref h0), (1, .int a1), (2, .int a2), (3, .int a3), (4, .int a4), (5, .int a5), (6, .int a6)] := hl
  refine va_new (ci := 4) (fs := [.int 0, .int 0, .int 0, .int 0]) (C := RX5) (T := TX5) (N := 4) hx hb hts inX8_findMethod_5 tyX5 tyX5_ok hown (hts (.classLink RX8 118 RX5) (by decide +kernel)) (hts (.instantiable RX5 4) (by decide +kernel)) (hts (.initialized RX5) (by decide +kernel)) hK hP hD hS hA rfl df_X5 (Nat.le_of_ble_eq_true rfl) (Nat.le_of_ble_eq_true rfl) dX8_findMethod_0 (fun q1 H hP hD hS => ?_)
  have hP : va_P (dC, dI) vwCl [(h0, .inr (7, [.ref (q 0), .int 1, .ref (q 1), .int 0, .int 0, .ref (q 2), .int 0, .ref (q 3), .int 0, .ref (q 4), .int 0, .int 0, .ref (q 5), .int 0, .int 0])), ((q 0), .inl ((cA 0), 16, .inr (.inr (.inr (.inr (va_up (fun _ => none) 0 (some (q 6)))))))), ((q 1), .inl ((cA 1), 40, .inr (.inr (.inr (.inr (fun _ => none)))))), ((q 2), .inl ((cA 2), 60, .inr (.inr (.inr (.inr (fun _ => none)))))), ((q 3), .inl ((cA 3), 124, .inr (.inr (.inr (.inr (fun _ => none)))))), ((q 4), .inl ((cA 4), 3, .inr (.inr (.inr (.inr (va_up (va_up (va_up (fun _ => none) 0 (some (q 7))) 1 (some (q 8))) 2 (some (q 9)))))))), ((q 5), .inr (6, [.int 0, .long 0])), ((q 6), .inr (0, [.int 0, .null, .int 0, .null, .int 0, .int 0, .int 1, .int 1, .int 0, .int 0, .int 0, .int 0])), ((q 7), .inr (6, [.int 0, .long 0])), ((q 8), .inr (6, [.int 0, .long 0])), ((q 9), .inr (6, [.int 0, .long 0])), (q1, .inr (4, [.int 0, .int 0, .int 0, .int 0]))] H := hP
  have hD : va_D A [(h0, .inr (7, [.ref (q 0), .int 1, .ref (q 1), .int 0, .int 0, .ref (q 2), .int 0, .ref (q 3), .int 0, .ref (q 4), .int 0, .int 0, .ref (q 5), .int 0, .int 0])), ((q 0), .inl ((cA 0), 16, .inr (.inr (.inr (.inr (va_up (fun _ => none) 0 (some (q 6)))))))), ((q 1), .inl ((cA 1), 40, .inr (.inr (.inr (.inr (fun _ => none)))))), ((q 2), .inl ((cA 2), 60, .inr (.inr (.inr (.inr (fun _ => none)))))), ((q 3), .inl ((cA 3), 124, .inr (.inr (.inr (.inr (fun _ => none)))))), ((q 4), .inl ((cA 4), 3, .inr (.inr (.inr (.inr (va_up (va_up (va_up (fun _ => none) 0 (some (q 7))) 1 (some (q 8))) 2 (some (q 9)))))))), ((q 5), .inr (6, [.int 0, .long 0])), ((q 6), .inr (0, [.int 0, .null, .int 0, .null, .int 0, .int 0, .int 1, .int 1, .int 0, .int 0, .int 0, .int 0])), ((q 7), .inr (6, [.int 0, .long 0])), ((q 8), .inr (6, [.int 0, .long 0])), ((q 9), .inr (6, [.int 0, .long 0])), (q1, .inr (4, [.int 0, .int 0, .int 0, .int 0]))] := hD
  refine W.cs (cells' := 1) (slots' := 4) rfl rfl ?_
  refine lv_dup hx hb dX8_findMethod_3 rfl ?_
  refine lv_iload_n hx hb dX8_findMethod_4 rfl (lv_at hl 2 rfl) ?_
  refine lv_iload_n hx hb dX8_findMethod_5 rfl (lv_at hl 3 rfl) ?_
  refine lv_iload hx hb dX8_findMethod_6 (lv_at hl 4 rfl) ?_
  refine lv_iload hx hb dX8_findMethod_8 (lv_at hl 5 rfl) ?_
  refine clW (wr := [(h0, .inr (7, [.ref (q 0), .int 1, .ref (q 1), .int 0, .int 0, .ref (q 2), .int 0, .ref (q 3), .int 0, .ref (q 4), .int 0, .int 0, .ref (q 5), .int 0, .int 0])), ((q 0), .inl ((cA 0), 16, .inr (.inr (.inr (.inr (va_up (fun _ => none) 0 (some (q 6)))))))), ((q 1), .inl ((cA 1), 40, .inr (.inr (.inr (.inr (fun _ => none)))))), ((q 2), .inl ((cA 2), 60, .inr (.inr (.inr (.inr (fun _ => none)))))), ((q 3), .inl ((cA 3), 124, .inr (.inr (.inr (.inr (fun _ => none)))))), ((q 4), .inl ((cA 4), 3, .inr (.inr (.inr (.inr (va_up (va_up (va_up (fun _ => none) 0 (some (q 7))) 1 (some (q 8))) 2 (some (q 9)))))))), ((q 5), .inr (6, [.int 0, .long 0])), ((q 6), .inr (0, [.int 0, .null, .int 0, .null, .int 0, .int 0, .int 1, .int 1, .int 0, .int 0, .int 0, .int 0])), ((q 7), .inr (6, [.int 0, .long 0])), ((q 8), .inr (6, [.int 0, .long 0])), ((q 9), .inr (6, [.int 0, .long 0]))]) [11] [0, 1, 2, 3, 4, 5, 6, 7, 8, 9, 10] (va_runIN (As := [.int a2, .int a3, .int a4, .int a5]) (rest := [.ref q1]) ⟨hx, hb, hml, hown, hts⟩ (c5_init l dC dI q1 a2 a3 a4 a5 _) ⟨va_cnB 4 hts gX8_findMethod_X5_init_n120 rfl rfl rfl (hN _ (List.mem_of_getElem? (i := 29) rfl)) (hts (.initialized RX5) (by decide +kernel)) (by decide +kernel) ⟨Nat.le_of_ble_eq_true rfl, Nat.le_of_ble_eq_true rfl⟩, rfl, hts (.instanceMethod yX5_init) (by decide +kernel)⟩ ⟨pz_blind, pz_of hP hK hD hN [11] [] rfl (by decide) rfl⟩ rfl rfl hl.1 rfl (lv_room (Nat.le_of_ble_eq_true rfl)) dX8_findMethod_10 ⟨Nat.le_of_ble_eq_true rfl, Nat.le_of_ble_eq_true rfl⟩) hS hP hD hK hA rfl rfl (by decide) (by decide) (fun v w1 ty1 H locs w6 hP hD hK hS => ?_)
  obtain ⟨rfl, f2, f3, ⟨u4, u5⟩, rfl, rfl⟩ := w6
  refine W.eq (g2 := F0 m 13 ls [.ref q1]) rfl ?_
  have hP : va_P (dC, dI) vwCl [(h0, .inr (7, [.ref (q 0), .int 1, .ref (q 1), .int 0, .int 0, .ref (q 2), .int 0, .ref (q 3), .int 0, .ref (q 4), .int 0, .int 0, .ref (q 5), .int 0, .int 0])), ((q 0), .inl ((cA 0), 16, .inr (.inr (.inr (.inr (va_up (fun _ => none) 0 (some (q 6)))))))), ((q 1), .inl ((cA 1), 40, .inr (.inr (.inr (.inr (fun _ => none)))))), ((q 2), .inl ((cA 2), 60, .inr (.inr (.inr (.inr (fun _ => none)))))), ((q 3), .inl ((cA 3), 124, .inr (.inr (.inr (.inr (fun _ => none)))))), ((q 4), .inl ((cA 4), 3, .inr (.inr (.inr (.inr (va_up (va_up (va_up (fun _ => none) 0 (some (q 7))) 1 (some (q 8))) 2 (some (q 9)))))))), ((q 5), .inr (6, [.int 0, .long 0])), ((q 6), .inr (0, [.int 0, .null, .int 0, .null, .int 0, .int 0, .int 1, .int 1, .int 0, .int 0, .int 0, .int 0])), ((q 7), .inr (6, [.int 0, .long 0])), ((q 8), .inr (6, [.int 0, .long 0])), ((q 9), .inr (6, [.int 0, .long 0])), (q1, .inr (4, [.int a2, .int a3, .int f2, .int f3]))] H := hP
  have hD : va_D A [(h0, .inr (7, [.ref (q 0), .int 1, .ref (q 1), .int 0, .int 0, .ref (q 2), .int 0, .ref (q 3), .int 0, .ref (q 4), .int 0, .int 0, .ref (q 5), .int 0, .int 0])), ((q 0), .inl ((cA 0), 16, .inr (.inr (.inr (.inr (va_up (fun _ => none) 0 (some (q 6)))))))), ((q 1), .inl ((cA 1), 40, .inr (.inr (.inr (.inr (fun _ => none)))))), ((q 2), .inl ((cA 2), 60, .inr (.inr (.inr (.inr (fun _ => none)))))), ((q 3), .inl ((cA 3), 124, .inr (.inr (.inr (.inr (fun _ => none)))))), ((q 4), .inl ((cA 4), 3, .inr (.inr (.inr (.inr (va_up (va_up (va_up (fun _ => none) 0 (some (q 7))) 1 (some (q 8))) 2 (some (q 9)))))))), ((q 5), .inr (6, [.int 0, .long 0])), ((q 6), .inr (0, [.int 0, .null, .int 0, .null, .int 0, .int 0, .int 1, .int 1, .int 0, .int 0, .int 0, .int 0])), ((q 7), .inr (6, [.int 0, .long 0])), ((q 8), .inr (6, [.int 0, .long 0])), ((q 9), .inr (6, [.int 0, .long 0])), (q1, .inr (4, [.int a2, .int a3, .int f2, .int f3]))] := hD
  have hK : va_K (dC, dI) vwCl [((cA 0), .object "ReflectModels$ClassModel"), ((cA 1), .object "ReflectModels$Member"), ((cA 2), .object "ReflectModels$Handle"), ((cA 3), .object "ReflectModels$Thing"), ((cA 4), .object "ReflectModels$Value")] s := hK
  refine W.cs (cells' := 1) (slots' := 4) rfl rfl ?_
  refine lv_astore (lv' := [(7, .ref q1), (0, .ref h0), (1, .int a1), (2, .int a2), (3, .int a3), (4, .int a4), (5, .int a5), (6, .int a6)]) hx hb dX8_findMethod_13 hl (by decide) rfl (fun ls hl => ?_)
  refine lv_aload_n hx hb dX8_findMethod_15 rfl (lv_at hl 1 rfl) ?_
  refine lv_iload_n hx hb dX8_findMethod_16 rfl (lv_at hl 2 rfl) ?_
  refine clR (va_runV (As := [.int a1]) (rest := []) ⟨hx, hb, hml, hown, hts⟩ (c8_isClass l dC dI h0 q a1 _) (cwV 1 hts gX8_findMethod_X8_isClass rfl rfl rfl (by decide +kernel) ⟨Nat.le_of_ble_eq_true rfl, Nat.le_of_ble_eq_true rfl⟩) ⟨pz_blind, va_recv hK hP (ci := 7) (q0 := 0) rfl rfl, pz_of hP hK hD hN [0] [] rfl (by decide) rfl⟩ rfl rfl hl.1 rfl (lv_room (Nat.le_of_ble_eq_true rfl)) dX8_findMethod_17 ⟨Nat.le_of_ble_eq_true rfl, Nat.le_of_ble_eq_true rfl⟩) hS hP (fun v H locs w8 hP hS => ?_)
  rcases w8 with ⟨rfl, rfl⟩ | ⟨rfl, u7⟩
  · refine W.eq (g2 := F0 m 20 ls [.int 1]) rfl ?_
    refine lv_if_eq (tgt := 32) hx hb dX8_findMethod_20 (by decide) (fun h => absurd h (by decide)) (fun _ => ?_)
    refine lv_aload_n hx hb dX8_findMethod_23 rfl (lv_at hl 1 rfl) ?_
    refine lv_aload hx hb dX8_findMethod_24 (lv_at hl 0 rfl) ?_
    refine clR (va_runV (As := [.ref q1]) (rest := []) ⟨hx, hb, hml, hown, hts⟩ (c8_hasMissingClass l dC dI h0 q q1 a2 a3 f2 f3 _) (cwV 1 hts gX8_findMethod_X8_hasMissingClass rfl rfl rfl (by decide +kernel) ⟨Nat.le_of_ble_eq_true rfl, Nat.le_of_ble_eq_true rfl⟩) ⟨pz_blind, va_recv hK hP (ci := 7) (q0 := 0) rfl rfl, pz_of hP hK hD hN [0, 11] [] rfl (by decide) rfl⟩ rfl rfl hl.1 rfl (lv_room (Nat.le_of_ble_eq_true rfl)) dX8_findMethod_26 ⟨Nat.le_of_ble_eq_true rfl, Nat.le_of_ble_eq_true rfl⟩) hS hP (fun v H locs w11 hP hS => ?_)
    rcases w11 with ⟨rfl, u9⟩ | ⟨rfl, u10⟩
    · refine W.eq (g2 := F0 m 29 ls [.int 1]) rfl ?_
      refine lv_if_eq (tgt := 35) hx hb dX8_findMethod_29 (by decide) (fun h => absurd h (by decide)) (fun _ => ?_)
      refine lv_bipush (v := (-2)) hx hb dX8_findMethod_32 (by decide) ?_
      have hP9 := hP.sub (ws' := []) [] rfl
      have hD9 := hD.sub (ws' := []) [] (by decide) rfl
      have hK9 := hK.sub (tys' := []) [] rfl
      exact W.zret (v := (-2)) (ty := .int) hx hb hr rfl (fun t ht hW => ⟨⟨(some (.int (-2))), rfl, _, _, ⟨congrArg (fun z => some (Value.int z)) (by unfold an_findMethod; (repeat' split) <;> first | rfl | (exfalso; first | omega | (have kq := kz; omega))), rfl, rfl⟩, by rw [ht]; exact hP9, va_K.moved hW.alike hK9, hD9⟩, hS.F ht⟩) hS.2.2 dX8_findMethod_34
    · refine W.eq (g2 := F0 m 29 ls [.int 0]) rfl ?_
      refine lv_if_eq (tgt := 35) hx hb dX8_findMethod_29 (by decide) (fun _ => ?_) (fun h => absurd (by decide) h)
      refine lv_aload hx hb dX8_findMethod_35 (lv_at hl 0 rfl) ?_
      refine clR (va_runVN (As := []) (rest := []) ⟨hx, hb, hml, hown, hts⟩ (c5_isOutside l dC dI q1 a2 a3 f2 f3 _) ⟨va_cnB 0 hts gX8_findMethod_X5_isOutside_n127 rfl rfl rfl (hN _ (List.mem_of_getElem? (i := 33) rfl)) (hts (.initialized RX5) (by decide +kernel)) (by decide +kernel) ⟨Nat.le_of_ble_eq_true rfl, Nat.le_of_ble_eq_true rfl⟩, hts (.instanceMethod yX5_isOutside) (by decide +kernel), hts (.selects RX5 yX5_isOutside yX5_isOutside) (by decide +kernel)⟩ ⟨pz_blind, va_recv hK hP (ci := 4) (q0 := 11) rfl rfl, pz_of hP hK hD hN [11] [] rfl (by decide) rfl⟩ rfl rfl hl.1 rfl (lv_room (Nat.le_of_ble_eq_true rfl)) dX8_findMethod_37 ⟨Nat.le_of_ble_eq_true rfl, Nat.le_of_ble_eq_true rfl⟩) hS hP (fun v H locs w14 hP hS => ?_)
      rcases w14 with ⟨rfl, u12⟩ | ⟨rfl, u13⟩
      · refine W.eq (g2 := F0 m 40 ls [.int 1]) rfl ?_
        refine lv_if_eq (tgt := 46) hx hb dX8_findMethod_40 (by decide) (fun h => absurd h (by decide)) (fun _ => ?_)
        refine lv_bipush (v := (-3)) hx hb dX8_findMethod_43 (by decide) ?_
        have hP9 := hP.sub (ws' := []) [] rfl
        have hD9 := hD.sub (ws' := []) [] (by decide) rfl
        have hK9 := hK.sub (tys' := []) [] rfl
        exact W.zret (v := (-3)) (ty := .int) hx hb hr rfl (fun t ht hW => ⟨⟨(some (.int (-3))), rfl, _, _, ⟨congrArg (fun z => some (Value.int z)) (by unfold an_findMethod; (repeat' split) <;> first | rfl | (exfalso; first | omega | (have kq := kz; omega))), rfl, rfl⟩, by rw [ht]; exact hP9, va_K.moved hW.alike hK9, hD9⟩, hS.F ht⟩) hS.2.2 dX8_findMethod_45
      · refine W.eq (g2 := F0 m 40 ls [.int 0]) rfl ?_
        refine lv_if_eq (tgt := 46) hx hb dX8_findMethod_40 (by decide) (fun _ => ?_) (fun h => absurd (by decide) h)
        refine lv_aload_n hx hb dX8_findMethod_46 rfl (lv_at hl 1 rfl) ?_
        refine lv_iload hx hb dX8_findMethod_47 (lv_at hl 7 rfl) ?_
        refine lv_if_eq (tgt := 67) hx hb dX8_findMethod_49 (by decide) (fun c15 => ?_) (fun c15 => ?_)
        · have ic15 : a6.toInt = 0 := ieq2 rfl (by decide) c15
          refine lv_aload_n hx hb dX8_findMethod_67 rfl (lv_at hl 1 rfl) ?_
          refine lv_aload_n hx hb dX8_findMethod_68 rfl (lv_at hl 1 rfl) ?_
          refine va_get (D := (dC, dI)) (own := RX8) (ref := "ReflectModels") (index := 11) (ci := 7) (v := .ref (q 0)) (C := RX8) (T := TX8) (N := 15) hx hb hts inX8_findMethod_8 hown hK hP 0 rfl rfl 0 (by decide) (hts (.fieldLink RX8 11 "ReflectModels" "classes" "[LReflectModels$ClassModel;") (by decide +kernel)) (fun _ h9 => h9) rfl dX8_findMethod_69 ?_
          refine lv_iload_n hx hb dX8_findMethod_72 rfl (lv_at hl 2 rfl) ?_
          refine va_aldq hx hb hK hP 1 0 rfl rfl (vp_in_iff.mpr ⟨by decide, by decide⟩) dX8_findMethod_73 ?_
          refine W.eq (g2 := F0 m 74 ls [.ref (q 6), .ref h0, .ref h0]) rfl ?_
          refine lv_aload hx hb dX8_findMethod_74 (lv_at hl 0 rfl) ?_
          refine clR (va_runV (As := [.ref (q 6), .ref q1]) (rest := [.ref h0]) ⟨hx, hb, hml, hown, hts⟩ (c8_ownMethod l dC dI h0 q (q 6) q1 _) (cwV 2 hts gX8_findMethod_X8_ownMethod rfl rfl rfl (by decide +kernel) ⟨Nat.le_of_ble_eq_true rfl, Nat.le_of_ble_eq_true rfl⟩) ⟨pz_blind, va_recv hK hP (ci := 7) (q0 := 0) rfl rfl, pz_of hP hK hD hN [0] [] rfl (by decide) rfl⟩ rfl rfl hl.1 rfl (lv_room (Nat.le_of_ble_eq_true rfl)) dX8_findMethod_76 ⟨Nat.le_of_ble_eq_true rfl, Nat.le_of_ble_eq_true rfl⟩) hS hP (fun v H locs w16 hP hS => ?_)
          obtain rfl := w16
          refine W.eq (g2 := F0 m 79 ls [.int (-1), .ref h0]) rfl ?_
          refine clW (wr := [((q 0), .inl ((cA 0), 16, .inr (.inr (.inr (.inr (va_up (fun _ => none) 0 (some (q 6)))))))), ((q 1), .inl ((cA 1), 40, .inr (.inr (.inr (.inr (fun _ => none)))))), ((q 2), .inl ((cA 2), 60, .inr (.inr (.inr (.inr (fun _ => none)))))), ((q 3), .inl ((cA 3), 124, .inr (.inr (.inr (.inr (fun _ => none)))))), ((q 4), .inl ((cA 4), 3, .inr (.inr (.inr (.inr (va_up (va_up (va_up (fun _ => none) 0 (some (q 7))) 1 (some (q 8))) 2 (some (q 9)))))))), ((q 5), .inr (6, [.int 0, .long 0])), ((q 6), .inr (0, [.int 0, .null, .int 0, .null, .int 0, .int 0, .int 1, .int 1, .int 0, .int 0, .int 0, .int 0])), ((q 7), .inr (6, [.int 0, .long 0])), ((q 8), .inr (6, [.int 0, .long 0])), ((q 9), .inr (6, [.int 0, .long 0])), (q1, .inr (4, [.int a2, .int a3, .int f2, .int f3]))]) [0] [1, 2, 3, 4, 5, 6, 7, 8, 9, 10, 11] (va_runV (As := [.int (-1)]) (rest := []) ⟨hx, hb, hml, hown, hts⟩ (c8_addHandle l dC dI h0 q _) (cwV 1 hts gX8_findMethod_X8_addHandle rfl rfl rfl (by decide +kernel) ⟨Nat.le_of_ble_eq_true rfl, Nat.le_of_ble_eq_true rfl⟩) ⟨pz_blind, va_recv hK hP (ci := 7) (q0 := 0) rfl rfl, pz_of hP hK hD hN [0] [] rfl (by decide) rfl⟩ rfl rfl hl.1 rfl (lv_room (Nat.le_of_ble_eq_true rfl)) dX8_findMethod_79 ⟨Nat.le_of_ble_eq_true rfl, Nat.le_of_ble_eq_true rfl⟩) hS hP hD hK hA rfl rfl (by decide) (by decide) (fun v w1 ty1 H locs w17 hP hD hK hS => ?_)
          obtain ⟨rfl, rfl, rfl⟩ := w17
          refine W.eq (g2 := F0 m 82 ls [.int (-11)]) rfl ?_
          have hP : va_P (dC, dI) vwCl [((q 0), .inl ((cA 0), 16, .inr (.inr (.inr (.inr (va_up (fun _ => none) 0 (some (q 6)))))))), ((q 1), .inl ((cA 1), 40, .inr (.inr (.inr (.inr (fun _ => none)))))), ((q 2), .inl ((cA 2), 60, .inr (.inr (.inr (.inr (fun _ => none)))))), ((q 3), .inl ((cA 3), 124, .inr (.inr (.inr (.inr (fun _ => none)))))), ((q 4), .inl ((cA 4), 3, .inr (.inr (.inr (.inr (va_up (va_up (va_up (fun _ => none) 0 (some (q 7))) 1 (some (q 8))) 2 (some (q 9)))))))), ((q 5), .inr (6, [.int 0, .long 0])), ((q 6), .inr (0, [.int 0, .null, .int 0, .null, .int 0, .int 0, .int 1, .int 1, .int 0, .int 0, .int 0, .int 0])), ((q 7), .inr (6, [.int 0, .long 0])), ((q 8), .inr (6, [.int 0, .long 0])), ((q 9), .inr (6, [.int 0, .long 0])), (q1, .inr (4, [.int a2, .int a3, .int f2, .int f3]))] H := hP
          have hD : va_D A [((q 0), .inl ((cA 0), 16, .inr (.inr (.inr (.inr (va_up (fun _ => none) 0 (some (q 6)))))))), ((q 1), .inl ((cA 1), 40, .inr (.inr (.inr (.inr (fun _ => none)))))), ((q 2), .inl ((cA 2), 60, .inr (.inr (.inr (.inr (fun _ => none)))))), ((q 3), .inl ((cA 3), 124, .inr (.inr (.inr (.inr (fun _ => none)))))), ((q 4), .inl ((cA 4), 3, .inr (.inr (.inr (.inr (va_up (va_up (va_up (fun _ => none) 0 (some (q 7))) 1 (some (q 8))) 2 (some (q 9)))))))), ((q 5), .inr (6, [.int 0, .long 0])), ((q 6), .inr (0, [.int 0, .null, .int 0, .null, .int 0, .int 0, .int 1, .int 1, .int 0, .int 0, .int 0, .int 0])), ((q 7), .inr (6, [.int 0, .long 0])), ((q 8), .inr (6, [.int 0, .long 0])), ((q 9), .inr (6, [.int 0, .long 0])), (q1, .inr (4, [.int a2, .int a3, .int f2, .int f3]))] := hD
          have hK : va_K (dC, dI) vwCl [((cA 0), .object "ReflectModels$ClassModel"), ((cA 1), .object "ReflectModels$Member"), ((cA 2), .object "ReflectModels$Handle"), ((cA 3), .object "ReflectModels$Thing"), ((cA 4), .object "ReflectModels$Value")] s := hK
          refine W.cs (cells' := 1) (slots' := 4) rfl rfl ?_
          have hP9 := hP.sub (ws' := []) [] rfl
          have hD9 := hD.sub (ws' := []) [] (by decide) rfl
          have hK9 := hK.sub (tys' := []) [] rfl
          exact W.zret (v := (-11)) (ty := .int) hx hb hr rfl (fun t ht hW => ⟨⟨(some (.int (-11))), rfl, _, _, ⟨congrArg (fun z => some (Value.int z)) (by unfold an_findMethod; (repeat' split) <;> first | rfl | (exfalso; first | omega | (have kq := kz; omega))), rfl, rfl⟩, by rw [ht]; exact hP9, va_K.moved hW.alike hK9, hD9⟩, hS.F ht⟩) hS.2.2 dX8_findMethod_82
        · have ic15 : a6.toInt ≠ 0 := ine2 rfl (by decide) c15
          refine lv_aload_n hx hb dX8_findMethod_52 rfl (lv_at hl 1 rfl) ?_
          refine lv_aload_n hx hb dX8_findMethod_53 rfl (lv_at hl 1 rfl) ?_
          refine va_get (D := (dC, dI)) (own := RX8) (ref := "ReflectModels") (index := 11) (ci := 7) (v := .ref (q 0)) (C := RX8) (T := TX8) (N := 15) hx hb hts inX8_findMethod_8 hown hK hP 0 rfl rfl 0 (by decide) (hts (.fieldLink RX8 11 "ReflectModels" "classes" "[LReflectModels$ClassModel;") (by decide +kernel)) (fun _ h9 => h9) rfl dX8_findMethod_54 ?_
          refine lv_iload_n hx hb dX8_findMethod_57 rfl (lv_at hl 2 rfl) ?_
          refine va_aldq hx hb hK hP 1 0 rfl rfl (vp_in_iff.mpr ⟨by decide, by decide⟩) dX8_findMethod_58 ?_
          refine W.eq (g2 := F0 m 59 ls [.ref (q 6), .ref h0, .ref h0]) rfl ?_
          refine lv_aload hx hb dX8_findMethod_59 (lv_at hl 0 rfl) ?_
          refine clR (va_runV (As := [.ref (q 6), .ref q1]) (rest := [.ref h0]) ⟨hx, hb, hml, hown, hts⟩ (c8_visibleMethod l dC dI h0 q (q 6) q1 _) (cwV 2 hts gX8_findMethod_X8_visibleMethod rfl rfl rfl (by decide +kernel) ⟨Nat.le_of_ble_eq_true rfl, Nat.le_of_ble_eq_true rfl⟩) ⟨pz_blind, va_recv hK hP (ci := 7) (q0 := 0) rfl rfl, pz_of hP hK hD hN [0, 7] [] rfl (by decide) rfl⟩ rfl rfl hl.1 rfl (lv_room (Nat.le_of_ble_eq_true rfl)) dX8_findMethod_61 ⟨Nat.le_of_ble_eq_true rfl, Nat.le_of_ble_eq_true rfl⟩) hS hP (fun v H locs w18 hP hS => ?_)
          obtain rfl := w18
          refine W.eq (g2 := F0 m 64 ls [.int (-1), .ref h0]) rfl ?_
          refine lv_goto (tgt := 79) hx hb dX8_findMethod_64 (by decide) ?_
          refine clW (wr := [((q 0), .inl ((cA 0), 16, .inr (.inr (.inr (.inr (va_up (fun _ => none) 0 (some (q 6)))))))), ((q 1), .inl ((cA 1), 40, .inr (.inr (.inr (.inr (fun _ => none)))))), ((q 2), .inl ((cA 2), 60, .inr (.inr (.inr (.inr (fun _ => none)))))), ((q 3), .inl ((cA 3), 124, .inr (.inr (.inr (.inr (fun _ => none)))))), ((q 4), .inl ((cA 4), 3, .inr (.inr (.inr (.inr (va_up (va_up (va_up (fun _ => none) 0 (some (q 7))) 1 (some (q 8))) 2 (some (q 9)))))))), ((q 5), .inr (6, [.int 0, .long 0])), ((q 6), .inr (0, [.int 0, .null, .int 0, .null, .int 0, .int 0, .int 1, .int 1, .int 0, .int 0, .int 0, .int 0])), ((q 7), .inr (6, [.int 0, .long 0])), ((q 8), .inr (6, [.int 0, .long 0])), ((q 9), .inr (6, [.int 0, .long 0])), (q1, .inr (4, [.int a2, .int a3, .int f2, .int f3]))]) [0] [1, 2, 3, 4, 5, 6, 7, 8, 9, 10, 11] (va_runV (As := [.int (-1)]) (rest := []) ⟨hx, hb, hml, hown, hts⟩ (c8_addHandle l dC dI h0 q _) (cwV 1 hts gX8_findMethod_X8_addHandle rfl rfl rfl (by decide +kernel) ⟨Nat.le_of_ble_eq_true rfl, Nat.le_of_ble_eq_true rfl⟩) ⟨pz_blind, va_recv hK hP (ci := 7) (q0 := 0) rfl rfl, pz_of hP hK hD hN [0] [] rfl (by decide) rfl⟩ rfl rfl hl.1 rfl (lv_room (Nat.le_of_ble_eq_true rfl)) dX8_findMethod_79 ⟨Nat.le_of_ble_eq_true rfl, Nat.le_of_ble_eq_true rfl⟩) hS hP hD hK hA rfl rfl (by decide) (by decide) (fun v w1 ty1 H locs w19 hP hD hK hS => ?_)
          obtain ⟨rfl, rfl, rfl⟩ := w19
          refine W.eq (g2 := F0 m 82 ls [.int (-11)]) rfl ?_
          have hP : va_P (dC, dI) vwCl [((q 0), .inl ((cA 0), 16, .inr (.inr (.inr (.inr (va_up (fun _ => none) 0 (some (q 6)))))))), ((q 1), .inl ((cA 1), 40, .inr (.inr (.inr (.inr (fun _ => none)))))), ((q 2), .inl ((cA 2), 60, .inr (.inr (.inr (.inr (fun _ => none)))))), ((q 3), .inl ((cA 3), 124, .inr (.inr (.inr (.inr (fun _ => none)))))), ((q 4), .inl ((cA 4), 3, .inr (.inr (.inr (.inr (va_up (va_up (va_up (fun _ => none) 0 (some (q 7))) 1 (some (q 8))) 2 (some (q 9)))))))), ((q 5), .inr (6, [.int 0, .long 0])), ((q 6), .inr (0, [.int 0, .null, .int 0, .null, .int 0, .int 0, .int 1, .int 1, .int 0, .int 0, .int 0, .int 0])), ((q 7), .inr (6, [.int 0, .long 0])), ((q 8), .inr (6, [.int 0, .long 0])), ((q 9), .inr (6, [.int 0, .long 0])), (q1, .inr (4, [.int a2, .int a3, .int f2, .int f3]))] H := hP
          have hD : va_D A [((q 0), .inl ((cA 0), 16, .inr (.inr (.inr (.inr (va_up (fun _ => none) 0 (some (q 6)))))))), ((q 1), .inl ((cA 1), 40, .inr (.inr (.inr (.inr (fun _ => none)))))), ((q 2), .inl ((cA 2), 60, .inr (.inr (.inr (.inr (fun _ => none)))))), ((q 3), .inl ((cA 3), 124, .inr (.inr (.inr (.inr (fun _ => none)))))), ((q 4), .inl ((cA 4), 3, .inr (.inr (.inr (.inr (va_up (va_up (va_up (fun _ => none) 0 (some (q 7))) 1 (some (q 8))) 2 (some (q 9)))))))), ((q 5), .inr (6, [.int 0, .long 0])), ((q 6), .inr (0, [.int 0, .null, .int 0, .null, .int 0, .int 0, .int 1, .int 1, .int 0, .int 0, .int 0, .int 0])), ((q 7), .inr (6, [.int 0, .long 0])), ((q 8), .inr (6, [.int 0, .long 0])), ((q 9), .inr (6, [.int 0, .long 0])), (q1, .inr (4, [.int a2, .int a3, .int f2, .int f3]))] := hD
          have hK : va_K (dC, dI) vwCl [((cA 0), .object "ReflectModels$ClassModel"), ((cA 1), .object "ReflectModels$Member"), ((cA 2), .object "ReflectModels$Handle"), ((cA 3), .object "ReflectModels$Thing"), ((cA 4), .object "ReflectModels$Value")] s := hK
          refine W.cs (cells' := 1) (slots' := 4) rfl rfl ?_
          have hP9 := hP.sub (ws' := []) [] rfl
          have hD9 := hD.sub (ws' := []) [] (by decide) rfl
          have hK9 := hK.sub (tys' := []) [] rfl
          exact W.zret (v := (-11)) (ty := .int) hx hb hr rfl (fun t ht hW => ⟨⟨(some (.int (-11))), rfl, _, _, ⟨congrArg (fun z => some (Value.int z)) (by unfold an_findMethod; (repeat' split) <;> first | rfl | (exfalso; first | omega | (have kq := kz; omega))), rfl, rfl⟩, by rw [ht]; exact hP9, va_K.moved hW.alike hK9, hD9⟩, hS.F ht⟩) hS.2.2 dX8_findMethod_82
  · refine W.eq (g2 := F0 m 20 ls [.int 0]) rfl ?_
    refine lv_if_eq (tgt := 32) hx hb dX8_findMethod_20 (by decide) (fun _ => ?_) (fun h => absurd (by decide) h)
    refine lv_bipush (v := (-2)) hx hb dX8_findMethod_32 (by decide) ?_
    have hP9 := hP.sub (ws' := []) [] rfl
    have hD9 := hD.sub (ws' := []) [] (by decide) rfl
    have hK9 := hK.sub (tys' := []) [] rfl
    exact W.zret (v := (-2)) (ty := .int) hx hb hr rfl (fun t ht hW => ⟨⟨(some (.int (-2))), rfl, _, _, ⟨congrArg (fun z => some (Value.int z)) (by unfold an_findMethod; (repeat' split) <;> first | rfl | (exfalso; first | omega | (have kq := kz; omega))), rfl, rfl⟩, by rw [ht]; exact hP9, va_K.moved hW.alike hK9, hD9⟩, hS.F ht⟩) hS.2.2 dX8_findMethod_34
