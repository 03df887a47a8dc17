set_option maxHeartbeats 4000000 in
set_option maxRecDepth 100000 in
theorem c7_become (l : Launch) (dC : Nat → ClassId) (dI : Nat → Nat → Nat) (h1 : Nat) (a1 : Int32) (a2 : Int64) (sz : Nat)  : Met l yX7_become wsX7_become ({ frames := 0, cells := 0, slots := 0, locals := 0 }) (va_Pc [.ref h1, .int a1, .long a2] (pz (dC, dI) [] [(h1, .inr (6, [.int 0, .long 0]))] sz)) (qW (dC, dI) (fun v w1 ty1 => v = none ∧ ∃ n : Int64, w1 = [(h1, .inr (6, [.int a1, .long n]))] ∧ ty1 = []) (va_A [(h1, .inr (6, [.int 0, .long 0]))] sz)) 0 0 (va_A [(h1, .inr (6, [.int 0, .long 0]))] sz) := by
  refine Met.ofW (cc := cX7_become) (maxL := 4) (ret := none) (by decide) rfl ?_
  intro p e s m args below meth c s₁ B hml hv
  obtain ⟨rfl, hsz, hP, hK, hD, hN⟩ := hv
  have hx := B.exec
  have hb := B.bytes
  have hr := B.returns
  have hts := atoms_spec (ws := wsX7_become) B.pre
  have hown : s.vm.findClass RX7 = some m.cls := findClass_of_methodNamed B.named
  have hlocks := B.notSynchronized
  subst hsz
  have hD := hD.self (sz := s.heap.size)
  generalize hAe : va_A [(h1, .inr (6, [.int 0, .long 0]))] s.heap.size = A at hD ⊢
  have hA : ∀ q : Nat, s.heap.size ≤ q → A q := fun q h => by rw [← hAe]; exact Or.inr h
  have hS : va_S A s.heap s.heap [] := va_S.rf
  have hl := lv_entry ([.ref h1, .int a1, .long a2]) (n := 4) (Nat.le_of_ble_eq_true rfl)
  rw [lg_entry_eq]
  generalize (lg_sl ([.ref h1, .int a1, .long a2]) ++ List.replicate (4 - (lg_sl ([.ref h1, .int a1, .long a2])).length) Slot.unset).toArray = ls at hl ⊢
  have hl : lv_has ls 4 [(0, .ref h1), (1, .int a1), (2, .long a2)] := hl
  refine lv_aload_n hx hb dX7_become_0 rfl (lv_at hl 0 rfl) ?_
  refine lv_iload_n hx hb dX7_become_1 rfl (lv_at hl 1 rfl) ?_
  refine va_put (D := (dC, dI)) (own := RX7) (ref := "ReflectModels$Value") (index := 9) (ci := 6) (v := .int a1) (ty := .int) (C := RX7) (T := TX7) (N := 2) hx hb hts inX7_become_7 tyX7 tyX7_ok nmX7 hown hK hP hD hS 0 rfl rfl 0 (by decide) (hts (.fieldLink RX7 9 "ReflectModels$Value" "kind" "I") (by decide +kernel)) (fun _ h9 => h9) rfl (by decide +kernel) rfl rfl (Nat.le_of_ble_eq_true rfl) dX7_become_2 (fun H locs hP hD hS => ?_)
  have hP : va_P (dC, dI) vwCl [(h1, .inr (6, [.int a1, .long 0]))] H := hP
  have hD : va_D A [(h1, .inr (6, [.int a1, .long 0]))] := hD
  refine lv_aload_n hx hb dX7_become_5 rfl (lv_at hl 0 rfl) ?_
  refine lv_iload_n hx hb dX7_become_6 rfl (lv_at hl 1 rfl) ?_
  refine lv_if_ne (tgt := 14) hx hb dX7_become_7 (by decide) (fun c1 => ?_) (fun c1 => ?_)
  · have ic1 : a1.toInt ≠ 0 := ine2 rfl (by decide) c1
    refine lv_lload_n hx hb dX7_become_14 rfl (lv_at hl 2 rfl) ?_
    refine va_put (D := (dC, dI)) (own := RX7) (ref := "ReflectModels$Value") (index := 15) (ci := 6) (v := .long a2) (ty := .long) (C := RX7) (T := TX7) (N := 2) hx hb hts inX7_become_7 tyX7 tyX7_ok nmX7 hown hK hP hD hS 0 rfl rfl 1 (by decide) (hts (.fieldLink RX7 15 "ReflectModels$Value" "number" "J") (by decide +kernel)) (fun _ h9 => h9) rfl (by decide +kernel) rfl rfl (Nat.le_of_ble_eq_true rfl) dX7_become_15 (fun H locs hP hD hS => ?_)
    have hP : va_P (dC, dI) vwCl [(h1, .inr (6, [.int a1, .long a2]))] H := hP
    have hD : va_D A [(h1, .inr (6, [.int a1, .long a2]))] := hD
    have hP9 := hP.sub (ws' := [(h1, .inr (6, [.int a1, .long a2]))]) [0] rfl
    have hD9 := hD.sub (ws' := [(h1, .inr (6, [.int a1, .long a2]))]) [0] (by decide) rfl
    have hK9 := hK.sub (tys' := []) [] rfl
    exact W.vret hx hb hr (fun t ht hW => ⟨⟨none, rfl, _, _, ⟨rfl, _, rfl, rfl⟩, by rw [ht]; exact hP9, va_K.moved hW.alike hK9, hD9⟩, hS.F ht⟩) hS.2.2 dX7_become_18
  · have ic1 : a1.toInt = 0 := ieq2 rfl (by decide) c1
    refine lv_lconst (v := 0) hx hb dX7_become_10 (by decide) ?_
    refine lv_goto (tgt := 15) hx hb dX7_become_11 (by decide) ?_
    refine va_put (D := (dC, dI)) (own := RX7) (ref := "ReflectModels$Value") (index := 15) (ci := 6) (v := .long 0) (ty := .long) (C := RX7) (T := TX7) (N := 2) hx hb hts inX7_become_7 tyX7 tyX7_ok nmX7 hown hK hP hD hS 0 rfl rfl 1 (by decide) (hts (.fieldLink RX7 15 "ReflectModels$Value" "number" "J") (by decide +kernel)) (fun _ h9 => h9) rfl (by decide +kernel) rfl rfl (Nat.le_of_ble_eq_true rfl) dX7_become_15 (fun H locs hP hD hS => ?_)
    have hP : va_P (dC, dI) vwCl [(h1, .inr (6, [.int a1, .long 0]))] H := hP
    have hD : va_D A [(h1, .inr (6, [.int a1, .long 0]))] := hD
    have hP9 := hP.sub (ws' := [(h1, .inr (6, [.int a1, .long 0]))]) [0] rfl
    have hD9 := hD.sub (ws' := [(h1, .inr (6, [.int a1, .long 0]))]) [0] (by decide) rfl
    have hK9 := hK.sub (tys' := []) [] rfl
    exact W.vret hx hb hr (fun t ht hW => ⟨⟨none, rfl, _, _, ⟨rfl, _, rfl, rfl⟩, by rw [ht]; exact hP9, va_K.moved hW.alike hK9, hD9⟩, hS.F ht⟩) hS.2.2 dX7_become_18

set_option maxHeartbeats 4000000 in
set_option maxRecDepth 100000 in
/-- value on a fresh object -/
theorem c8_value (l : Launch) (dC : Nat → ClassId) (dI : Nat → Nat → Nat) (h0 : Nat) (q : Nat → Nat) (cA : Nat → ClassId) (a1 a2 : Int32) (a3 : Int64) (sz : Nat)  : Met l yX8_value wsX8_value ({ frames := 1, cells := 0, slots := 0, locals := 23 }) (va_Pc [.ref h0, .int a1, .int a2, .long a3] (pz (dC, dI) [((cA 0), .object "ReflectModels$ClassModel"), ((cA 1), .object "ReflectModels$Member"), ((cA 2), .object "ReflectModels$Handle"), ((cA 3), .object "ReflectModels$Thing"), ((cA 4), .object "ReflectModels$Value")] [(h0, .inr (7, [.ref (q 0), .int 1, .ref (q 1), .int 0, .int 0, .ref (q 2), .int 0, .ref (q 3), .int 0, .ref (q 4), .int 0, .int 0, .ref (q 5), .int 0, .int 0])), ((q 0), .inl ((cA 0), 16, .inr (.inr (.inr (.inr (va_up (fun _ => none) 0 (some (q 6)))))))), ((q 1), .inl ((cA 1), 40, .inr (.inr (.inr (.inr (fun _ => none)))))), ((q 2), .inl ((cA 2), 60, .inr (.inr (.inr (.inr (fun _ => none)))))), ((q 3), .inl ((cA 3), 124, .inr (.inr (.inr (.inr (fun _ => none)))))), ((q 4), .inl ((cA 4), 3, .inr (.inr (.inr (.inr (va_up (va_up (va_up (fun _ => none) 0 (some (q 7))) 1 (some (q 8))) 2 (some (q 9)))))))), ((q 5), .inr (6, [.int 0, .long 0])), ((q 6), .inr (0, [.int 0, .null, .int 0, .null, .int 0, .int 0, .int 1, .int 1, .int 0, .int 0, .int 0, .int 0])), ((q 7), .inr (6, [.int 0, .long 0])), ((q 8), .inr (6, [.int 0, .long 0])), ((q 9), .inr (6, [.int 0, .long 0]))] sz)) (qW (dC, dI) (fun v w1 ty1 => v = some (.int (an_value a1.toInt a2.toInt a3.toInt)) ∧ w1 = [] ∧ ty1 = []) (va_A [(h0, .inr (7, [.ref (q 0), .int 1, .ref (q 1), .int 0, .int 0, .ref (q 2), .int 0, .ref (q 3), .int 0, .ref (q 4), .int 0, .int 0, .ref (q 5), .int 0, .int 0])), ((q 0), .inl ((cA 0), 16, .inr (.inr (.inr (.inr (va_up (fun _ => none) 0 (some (q 6)))))))), ((q 1), .inl ((cA 1), 40, .inr (.inr (.inr (.inr (fun _ => none)))))), ((q 2), .inl ((cA 2), 60, .inr (.inr (.inr (.inr (fun _ => none)))))), ((q 3), .inl ((cA 3), 124, .inr (.inr (.inr (.inr (fun _ => none)))))), ((q 4), .inl ((cA 4), 3, .inr (.inr (.inr (.inr (va_up (va_up (va_up (fun _ => none) 0 (some (q 7))) 1 (some (q 8))) 2 (some (q 9)))))))), ((q 5), .inr (6, [.int 0, .long 0])), ((q 6), .inr (0, [.int 0, .null, .int 0, .null, .int 0, .int 0, .int 1, .int 1, .int 0, .int 0, .int 0, .int 0])), ((q 7), .inr (6, [.int 0, .long 0])), ((q 8), .inr (6, [.int 0, .long 0])), ((q 9), .inr (6, [.int 0, .long 0]))] sz)) 0 0 (va_A [(h0, .inr (7, [.ref (q 0), .int 1, .ref (q 1), .int 0, .int 0, .ref (q 2), .int 0, .ref (q 3), .int 0, .ref (q 4), .int 0, .int 0, .ref (q 5), .int 0, .int 0])), ((q 0), .inl ((cA 0), 16, .inr (.inr (.inr (.inr (va_up (fun _ => none) 0 (some (q 6)))))))), ((q 1), .inl ((cA 1), 40, .inr (.inr (.inr (.inr (fun _ => none)))))), ((q 2), .inl ((cA 2), 60, .inr (.inr (.inr (.inr (fun _ => none)))))), ((q 3), .inl ((cA 3), 124, .inr (.inr (.inr (.inr (fun _ => none)))))), ((q 4), .inl ((cA 4), 3, .inr (.inr (.inr (.inr (va_up (va_up (va_up (fun _ => none) 0 (some (q 7))) 1 (some (q 8))) 2 (some (q 9)))))))), ((q 5), .inr (6, [.int 0, .long 0])), ((q 6), .inr (0, [.int 0, .null, .int 0, .null, .int 0, .int 0, .int 1, .int 1, .int 0, .int 0, .int 0, .int 0])), ((q 7), .inr (6, [.int 0, .long 0])), ((q 8), .inr (6, [.int 0, .long 0])), ((q 9), .inr (6, [.int 0, .long 0]))] sz) := by
  refine Met.ofW (cc := cX8_value) (maxL := 5) (ret := (some .int)) (by decide) rfl ?_
  intro p e s m args below meth c s₁ B hml hv
  obtain ⟨rfl, hsz, hP, hK, hD, hN⟩ := hv
  have hx := B.exec
  have hb := B.bytes
  have hr := B.returns
  have hts := atoms_spec (ws := wsX8_value) B.pre
  have hown : s.vm.findClass RX8 = some m.cls := findClass_of_methodNamed B.named
  have hlocks := B.notSynchronized
  subst hsz
  have hD := hD.self (sz := s.heap.size)
  generalize hAe : va_A [(h0, .inr (7, [.ref (q 0), .int 1, .ref (q 1), .int 0, .int 0, .ref (q 2), .int 0, .ref (q 3), .int 0, .ref (q 4), .int 0, .int 0, .ref (q 5), .int 0, .int 0])), ((q 0), .inl ((cA 0), 16, .inr (.inr (.inr (.inr (va_up (fun _ => none) 0 (some (q 6)))))))), ((q 1), .inl ((cA 1), 40, .inr (.inr (.inr (.inr (fun _ => none)))))), ((q 2), .inl ((cA 2), 60, .inr (.inr (.inr (.inr (fun _ => none)))))), ((q 3), .inl ((cA 3), 124, .inr (.inr (.inr (.inr (fun _ => none)))))), ((q 4), .inl ((cA 4), 3, .inr (.inr (.inr (.inr (va_up (va_up (va_up (fun _ => none) 0 (some (q 7))) 1 (some (q 8))) 2 (some (q 9)))))))), ((q 5), .inr (6, [.int 0, .long 0])), ((q 6), .inr (0, [.int 0, .null, .int 0, .null, .int 0, .int 0, .int 1, .int 1, .int 0, .int 0, .int 0, .int 0])), ((q 7), .inr (6, [.int 0, .long 0])), ((q 8), .inr (6, [.int 0, .long 0])), ((q 9), .inr (6, [.int 0, .long 0]))] s.heap.size = A at hD ⊢
  have hA : ∀ q : Nat, s.heap.size ≤ q → A q := fun q h => by rw [← hAe]; exact Or.inr h
  have hS : va_S A s.heap s.heap [] := va_S.rf
  have hl := lv_entry ([.ref h0, .int a1, .int a2, .long a3]) (n := 5) (Nat.le_of_ble_eq_true rfl)
  rw [lg_entry_eq]
  generalize (lg_sl ([.ref h0, .int a1, .int a2, .long a3]) ++ List.replicate (5 - (lg_sl ([.ref h0, .int a1, .int a2, .long a3])).length) Slot.unset).toArray = ls at hl ⊢
  have hl : lv_has ls 5 [(0, .ref h0), (1, .int a1), (2, .int a2), (3, .long a3)] := hl
  refine lv_iload_n hx hb dX8_value_0 rfl (lv_at hl 2 rfl) ?_
  refine lv_iconst (v := 3) hx hb dX8_value_1 (by decide) ?_
  refine lv_icmp_ne (tgt := 24) hx hb dX8_value_2 (by decide) (fun c1 => ?_) (fun c1 => ?_)
  · have ic1 : a2.toInt ≠ 3 := ine2 rfl (by decide) c1
    refine lv_iload_n hx hb dX8_value_24 rfl (lv_at hl 1 rfl) ?_
    refine lv_if_lt (tgt := 50) hx hb dX8_value_25 (by decide) (fun c2 => ?_) (fun c2 => ?_)
    · have ic2 : a1.toInt < 0 := il2 rfl (by decide) c2
      refine lv_bipush (v := (-3)) hx hb dX8_value_50 (by decide) ?_
      have hP9 := hP.sub (ws' := []) [] rfl
      have hD9 := hD.sub (ws' := []) [] (by decide) rfl
      have hK9 := hK.sub (tys' := []) [] rfl
      exact W.zret (v := (-3)) (ty := .int) hx hb hr rfl (fun t ht hW => ⟨⟨(some (.int (-3))), rfl, _, _, ⟨congrArg (fun z => some (Value.int z)) (by unfold an_value; (repeat' split) <;> first | rfl | (exfalso; first | omega | (have kq := kz; omega))), rfl, rfl⟩, by rw [ht]; exact hP9, va_K.moved hW.alike hK9, hD9⟩, hS.F ht⟩) hS.2.2 dX8_value_52
    · have ic2 : 0 ≤ a1.toInt := inl2 rfl (by decide) c2
      refine lv_iload_n hx hb dX8_value_28 rfl (lv_at hl 1 rfl) ?_
      refine lv_aload_n hx hb dX8_value_29 rfl (lv_at hl 0 rfl) ?_
      refine va_get (D := (dC, dI)) (own := RX8) (ref := "ReflectModels") (index := 55) (ci := 7) (v := .int 0) (C := RX8) (T := TX8) (N := 15) hx hb hts inX8_value_8 hown hK hP 0 rfl rfl 10 (by decide) (hts (.fieldLink RX8 55 "ReflectModels" "valueCount" "I") (by decide +kernel)) (fun _ h9 => h9) rfl dX8_value_30 ?_
      refine lv_icmp_gt (tgt := 50) hx hb dX8_value_33 (by decide) (fun c3 => ?_) (fun c3 => ?_)
      · have ic3 : 0 < a1.toInt := il2 (by decide) rfl c3
        refine lv_bipush (v := (-3)) hx hb dX8_value_50 (by decide) ?_
        have hP9 := hP.sub (ws' := []) [] rfl
        have hD9 := hD.sub (ws' := []) [] (by decide) rfl
        have hK9 := hK.sub (tys' := []) [] rfl
        exact W.zret (v := (-3)) (ty := .int) hx hb hr rfl (fun t ht hW => ⟨⟨(some (.int (-3))), rfl, _, _, ⟨congrArg (fun z => some (Value.int z)) (by unfold an_value; (repeat' split) <;> first | rfl | (exfalso; first | omega | (have kq := kz; omega))), rfl, rfl⟩, by rw [ht]; exact hP9, va_K.moved hW.alike hK9, hD9⟩, hS.F ht⟩) hS.2.2 dX8_value_52
      · have ic3 : a1.toInt ≤ 0 := inl2 (by decide) rfl c3
        refine lv_iload_n hx hb dX8_value_36 rfl (lv_at hl 1 rfl) ?_
        refine lv_iconst (v := 3) hx hb dX8_value_37 (by decide) ?_
        refine lv_icmp_ge (tgt := 50) hx hb dX8_value_38 (by decide) (fun c4 => ?_) (fun c4 => ?_)
        · have ic4 : 3 ≤ a1.toInt := ile2 (by decide) rfl c4
          exfalso; first | omega | (have kq := kz; omega)
        · have ic4 : a1.toInt < 3 := inle2 (by decide) rfl c4
          refine lv_iload_n hx hb dX8_value_41 rfl (lv_at hl 2 rfl) ?_
          refine lv_if_lt (tgt := 50) hx hb dX8_value_42 (by decide) (fun c5 => ?_) (fun c5 => ?_)
          · have ic5 : a2.toInt < 0 := il2 rfl (by decide) c5
            refine lv_bipush (v := (-3)) hx hb dX8_value_50 (by decide) ?_
            have hP9 := hP.sub (ws' := []) [] rfl
            have hD9 := hD.sub (ws' := []) [] (by decide) rfl
            have hK9 := hK.sub (tys' := []) [] rfl
            exact W.zret (v := (-3)) (ty := .int) hx hb hr rfl (fun t ht hW => ⟨⟨(some (.int (-3))), rfl, _, _, ⟨congrArg (fun z => some (Value.int z)) (by unfold an_value; (repeat' split) <;> first | rfl | (exfalso; first | omega | (have kq := kz; omega))), rfl, rfl⟩, by rw [ht]; exact hP9, va_K.moved hW.alike hK9, hD9⟩, hS.F ht⟩) hS.2.2 dX8_value_52
          · have ic5 : 0 ≤ a2.toInt := inl2 rfl (by decide) c5
            refine lv_iload_n hx hb dX8_value_45 rfl (lv_at hl 2 rfl) ?_
            refine lv_iconst (v := 3) hx hb dX8_value_46 (by decide) ?_
            refine lv_icmp_le (tgt := 53) hx hb dX8_value_47 (by decide) (fun c6 => ?_) (fun c6 => ?_)
            · have ic6 : a2.toInt ≤ 3 := ile2 rfl (by decide) c6
              refine lv_iload_n hx hb dX8_value_53 rfl (lv_at hl 2 rfl) ?_
              refine lv_iconst (v := 1) hx hb dX8_value_54 (by decide) ?_
              refine lv_icmp_ne (tgt := 77) hx hb dX8_value_55 (by decide) (fun c7 => ?_) (fun c7 => ?_)
              · have ic7 : a2.toInt ≠ 1 := ine2 rfl (by decide) c7
                refine lv_aload_n hx hb dX8_value_77 rfl (lv_at hl 0 rfl) ?_
                refine va_get (D := (dC, dI)) (own := RX8) (ref := "ReflectModels") (index := 51) (ci := 7) (v := .ref (q 4)) (C := RX8) (T := TX8) (N := 15) hx hb hts inX8_value_8 hown hK hP 0 rfl rfl 9 (by decide) (hts (.fieldLink RX8 51 "ReflectModels" "values" "[LReflectModels$Value;") (by decide +kernel)) (fun _ h9 => h9) rfl dX8_value_78 ?_
                refine lv_iload_n hx hb dX8_value_81 rfl (lv_at hl 1 rfl) ?_
                obtain rfl : a1 = 0 := iof (a := 0) (by decide) (by omega)
                refine va_aldq hx hb hK hP 5 4 rfl rfl (vp_in_iff.mpr ⟨by decide, by decide⟩) dX8_value_82 ?_
                refine W.eq (g2 := F0 m 83 ls [.ref (q 7)]) rfl ?_
                refine lv_iload_n hx hb dX8_value_83 rfl (lv_at hl 2 rfl) ?_
                refine lv_lload_n hx hb dX8_value_84 rfl (lv_at hl 3 rfl) ?_
                refine clW (wr := [(h0, .inr (7, [.ref (q 0), .int 1, .ref (q 1), .int 0, .int 0, .ref (q 2), .int 0, .ref (q 3), .int 0, .ref (q 4), .int 0, .int 0, .ref (q 5), .int 0, .int 0])), ((q 0), .inl ((cA 0), 16, .inr (.inr (.inr (.inr (va_up (fun _ => none) 0 (some (q 6)))))))), ((q 1), .inl ((cA 1), 40, .inr (.inr (.inr (.inr (fun _ => none)))))), ((q 2), .inl ((cA 2), 60, .inr (.inr (.inr (.inr (fun _ => none)))))), ((q 3), .inl ((cA 3), 124, .inr (.inr (.inr (.inr (fun _ => none)))))), ((q 4), .inl ((cA 4), 3, .inr (.inr (.inr (.inr (va_up (va_up (va_up (fun _ => none) 0 (some (q 7))) 1 (some (q 8))) 2 (some (q 9)))))))), ((q 5), .inr (6, [.int 0, .long 0])), ((q 6), .inr (0, [.int 0, .null, .int 0, .null, .int 0, .int 0, .int 1, .int 1, .int 0, .int 0, .int 0, .int 0])), ((q 8), .inr (6, [.int 0, .long 0])), ((q 9), .inr (6, [.int 0, .long 0]))]) [8] [0, 1, 2, 3, 4, 5, 6, 7, 9, 10] (va_runVN (As := [.int a2, .long a3]) (rest := []) ⟨hx, hb, hml, hown, hts⟩ (c7_become l dC dI (q 7) a2 a3 _) ⟨va_cnB 2 hts gX8_value_X7_become_n195 rfl rfl rfl (hN _ (List.mem_of_getElem? (i := 50) rfl)) (hts (.initialized RX7) (by decide +kernel)) (by decide +kernel) ⟨Nat.le_of_ble_eq_true rfl, Nat.le_of_ble_eq_true rfl⟩, hts (.instanceMethod yX7_become) (by decide +kernel), hts (.selects RX7 yX7_become yX7_become) (by decide +kernel)⟩ ⟨pz_blind, va_recv hK hP (ci := 6) (q0 := 8) rfl rfl, pz_of hP hK hD hN [8] [] rfl (by decide) rfl⟩ rfl rfl hl.1 rfl (lv_room (Nat.le_of_ble_eq_true rfl)) dX8_value_85 ⟨Nat.le_of_ble_eq_true rfl, Nat.le_of_ble_eq_true rfl⟩) hS hP hD hK hA rfl rfl (by decide) (by decide) (fun v w1 ty1 H locs w9 hP hD hK hS => ?_)
                obtain ⟨rfl, n8, rfl, rfl⟩ := w9
                refine W.eq (g2 := F0 m 88 ls []) rfl ?_
                have hP : va_P (dC, dI) vwCl [(h0, .inr (7, [.ref (q 0), .int 1, .ref (q 1), .int 0, .int 0, .ref (q 2), .int 0, .ref (q 3), .int 0, .ref (q 4), .int 0, .int 0, .ref (q 5), .int 0, .int 0])), ((q 0), .inl ((cA 0), 16, .inr (.inr (.inr (.inr (va_up (fun _ => none) 0 (some (q 6)))))))), ((q 1), .inl ((cA 1), 40, .inr (.inr (.inr (.inr (fun _ => none)))))), ((q 2), .inl ((cA 2), 60, .inr (.inr (.inr (.inr (fun _ => none)))))), ((q 3), .inl ((cA 3), 124, .inr (.inr (.inr (.inr (fun _ => none)))))), ((q 4), .inl ((cA 4), 3, .inr (.inr (.inr (.inr (va_up (va_up (va_up (fun _ => none) 0 (some (q 7))) 1 (some (q 8))) 2 (some (q 9)))))))), ((q 5), .inr (6, [.int 0, .long 0])), ((q 6), .inr (0, [.int 0, .null, .int 0, .null, .int 0, .int 0, .int 1, .int 1, .int 0, .int 0, .int 0, .int 0])), ((q 8), .inr (6, [.int 0, .long 0])), ((q 9), .inr (6, [.int 0, .long 0])), ((q 7), .inr (6, [.int a2, .long n8]))] H := hP
                have hD : va_D A [(h0, .inr (7, [.ref (q 0), .int 1, .ref (q 1), .int 0, .int 0, .ref (q 2), .int 0, .ref (q 3), .int 0, .ref (q 4), .int 0, .int 0, .ref (q 5), .int 0, .int 0])), ((q 0), .inl ((cA 0), 16, .inr (.inr (.inr (.inr (va_up (fun _ => none) 0 (some (q 6)))))))), ((q 1), .inl ((cA 1), 40, .inr (.inr (.inr (.inr (fun _ => none)))))), ((q 2), .inl ((cA 2), 60, .inr (.inr (.inr (.inr (fun _ => none)))))), ((q 3), .inl ((cA 3), 124, .inr (.inr (.inr (.inr (fun _ => none)))))), ((q 4), .inl ((cA 4), 3, .inr (.inr (.inr (.inr (va_up (va_up (va_up (fun _ => none) 0 (some (q 7))) 1 (some (q 8))) 2 (some (q 9)))))))), ((q 5), .inr (6, [.int 0, .long 0])), ((q 6), .inr (0, [.int 0, .null, .int 0, .null, .int 0, .int 0, .int 1, .int 1, .int 0, .int 0, .int 0, .int 0])), ((q 8), .inr (6, [.int 0, .long 0])), ((q 9), .inr (6, [.int 0, .long 0])), ((q 7), .inr (6, [.int a2, .long n8]))] := hD
                have hK : va_K (dC, dI) vwCl [((cA 0), .object "ReflectModels$ClassModel"), ((cA 1), .object "ReflectModels$Member"), ((cA 2), .object "ReflectModels$Handle"), ((cA 3), .object "ReflectModels$Thing"), ((cA 4), .object "ReflectModels$Value")] s := hK
                refine W.cs (cells' := 0) (slots' := 0) rfl rfl ?_
                refine lv_aload_n hx hb dX8_value_88 rfl (lv_at hl 0 rfl) ?_
                refine lv_iload_n hx hb dX8_value_89 rfl (lv_at hl 1 rfl) ?_
                refine lv_iconst (v := 1) hx hb dX8_value_90 (by decide) ?_
                refine lv_iadd hx hb dX8_value_91 ?_
                refine lv_topi (fun y10 ey10 => ?_)
                obtain rfl : y10 = 1 := ey10.trans (by decide)
                refine va_put (D := (dC, dI)) (own := RX8) (ref := "ReflectModels") (index := 55) (ci := 7) (v := .int 1) (ty := .int) (C := RX8) (T := TX8) (N := 15) hx hb hts inX8_value_8 tyX8 tyX8_ok nmX8 hown hK hP hD hS 0 rfl rfl 10 (by decide) (hts (.fieldLink RX8 55 "ReflectModels" "valueCount" "I") (by decide +kernel)) (fun _ h9 => h9) rfl (by decide +kernel) rfl rfl (Nat.le_of_ble_eq_true rfl) dX8_value_92 (fun H locs hP hD hS => ?_)
                have hP : va_P (dC, dI) vwCl [(h0, .inr (7, [.ref (q 0), .int 1, .ref (q 1), .int 0, .int 0, .ref (q 2), .int 0, .ref (q 3), .int 0, .ref (q 4), .int 1, .int 0, .ref (q 5), .int 0, .int 0])), ((q 0), .inl ((cA 0), 16, .inr (.inr (.inr (.inr (va_up (fun _ => none) 0 (some (q 6)))))))), ((q 1), .inl ((cA 1), 40, .inr (.inr (.inr (.inr (fun _ => none)))))), ((q 2), .inl ((cA 2), 60, .inr (.inr (.inr (.inr (fun _ => none)))))), ((q 3), .inl ((cA 3), 124, .inr (.inr (.inr (.inr (fun _ => none)))))), ((q 4), .inl ((cA 4), 3, .inr (.inr (.inr (.inr (va_up (va_up (va_up (fun _ => none) 0 (some (q 7))) 1 (some (q 8))) 2 (some (q 9)))))))), ((q 5), .inr (6, [.int 0, .long 0])), ((q 6), .inr (0, [.int 0, .null, .int 0, .null, .int 0, .int 0, .int 1, .int 1, .int 0, .int 0, .int 0, .int 0])), ((q 8), .inr (6, [.int 0, .long 0])), ((q 9), .inr (6, [.int 0, .long 0])), ((q 7), .inr (6, [.int a2, .long n8]))] H := hP
                have hD : va_D A [(h0, .inr (7, [.ref (q 0), .int 1, .ref (q 1), .int 0, .int 0, .ref (q 2), .int 0, .ref (q 3), .int 0, .ref (q 4), .int 1, .int 0, .ref (q 5), .int 0, .int 0])), ((q 0), .inl ((cA 0), 16, .inr (.inr (.inr (.inr (va_up (fun _ => none) 0 (some (q 6)))))))), ((q 1), .inl ((cA 1), 40, .inr (.inr (.inr (.inr (fun _ => none)))))), ((q 2), .inl ((cA 2), 60, .inr (.inr (.inr (.inr (fun _ => none)))))), ((q 3), .inl ((cA 3), 124, .inr (.inr (.inr (.inr (fun _ => none)))))), ((q 4), .inl ((cA 4), 3, .inr (.inr (.inr (.inr (va_up (va_up (va_up (fun _ => none) 0 (some (q 7))) 1 (some (q 8))) 2 (some (q 9)))))))), ((q 5), .inr (6, [.int 0, .long 0])), ((q 6), .inr (0, [.int 0, .null, .int 0, .null, .int 0, .int 0, .int 1, .int 1, .int 0, .int 0, .int 0, .int 0])), ((q 8), .inr (6, [.int 0, .long 0])), ((q 9), .inr (6, [.int 0, .long 0])), ((q 7), .inr (6, [.int a2, .long n8]))] := hD
                refine lv_aload_n hx hb dX8_value_95 rfl (lv_at hl 0 rfl) ?_
                refine va_get (D := (dC, dI)) (own := RX8) (ref := "ReflectModels") (index := 55) (ci := 7) (v := .int 1) (C := RX8) (T := TX8) (N := 15) hx hb hts inX8_value_8 hown hK hP 0 rfl rfl 10 (by decide) (hts (.fieldLink RX8 55 "ReflectModels" "valueCount" "I") (by decide +kernel)) (fun _ h9 => h9) rfl dX8_value_96 ?_
                have hP9 := hP.sub (ws' := []) [] rfl
                have hD9 := hD.sub (ws' := []) [] (by decide) rfl
                have hK9 := hK.sub (tys' := []) [] rfl
                exact W.zret (v := 1) (ty := .int) hx hb hr rfl (fun t ht hW => ⟨⟨(some (.int 1)), rfl, _, _, ⟨congrArg (fun z => some (Value.int z)) (by unfold an_value; (repeat' split) <;> first | rfl | (exfalso; first | omega | (have kq := kz; omega))), rfl, rfl⟩, by rw [ht]; exact hP9, va_K.moved hW.alike hK9, hD9⟩, hS.F ht⟩) hS.2.2 dX8_value_99
              · have ic7 : a2.toInt = 1 := ieq2 rfl (by decide) c7
                refine lv_lload_n hx hb dX8_value_58 rfl (lv_at hl 3 rfl) ?_
                refine lv_ldc2 (v := (-2147483648)) hx hb hown (hts (.constantLong RX8 191 (-2147483648)) (by decide +kernel)) dX8_value_59 ?_
                refine W.lcmp hx hb dX8_value_62 ?_
                refine lv_if_lt (tgt := 74) hx hb dX8_value_63 (by decide) (fun c11 => ?_) (fun c11 => ?_)
                · have ic11 : a3.toInt < (-2147483648) := Ll2 rfl (by decide) ((lg_cmp_lt _ _).mp c11)
                  refine lv_bipush (v := (-3)) hx hb dX8_value_74 (by decide) ?_
                  have hP9 := hP.sub (ws' := []) [] rfl
                  have hD9 := hD.sub (ws' := []) [] (by decide) rfl
                  have hK9 := hK.sub (tys' := []) [] rfl
                  exact W.zret (v := (-3)) (ty := .int) hx hb hr rfl (fun t ht hW => ⟨⟨(some (.int (-3))), rfl, _, _, ⟨congrArg (fun z => some (Value.int z)) (by unfold an_value; (repeat' split) <;> first | rfl | (exfalso; first | omega | (have kq := kz; omega))), rfl, rfl⟩, by rw [ht]; exact hP9, va_K.moved hW.alike hK9, hD9⟩, hS.F ht⟩) hS.2.2 dX8_value_76
                · have ic11 : (-2147483648) ≤ a3.toInt := Lnl2 rfl (by decide) (fun q => c11 ((lg_cmp_lt _ _).mpr q))
                  refine lv_lload_n hx hb dX8_value_66 rfl (lv_at hl 3 rfl) ?_
                  refine lv_ldc2 (v := 2147483647) hx hb hown (hts (.constantLong RX8 193 2147483647) (by decide +kernel)) dX8_value_67 ?_
                  refine W.lcmp hx hb dX8_value_70 ?_
                  refine lv_if_le (tgt := 77) hx hb dX8_value_71 (by decide) (fun c12 => ?_) (fun c12 => ?_)
                  · have ic12 : a3.toInt ≤ 2147483647 := Lle2 rfl (by decide) ((lg_cmp_le _ _).mp c12)
                    refine lv_aload_n hx hb dX8_value_77 rfl (lv_at hl 0 rfl) ?_
                    refine va_get (D := (dC, dI)) (own := RX8) (ref := "ReflectModels") (index := 51) (ci := 7) (v := .ref (q 4)) (C := RX8) (T := TX8) (N := 15) hx hb hts inX8_value_8 hown hK hP 0 rfl rfl 9 (by decide) (hts (.fieldLink RX8 51 "ReflectModels" "values" "[LReflectModels$Value;") (by decide +kernel)) (fun _ h9 => h9) rfl dX8_value_78 ?_
                    refine lv_iload_n hx hb dX8_value_81 rfl (lv_at hl 1 rfl) ?_
                    obtain rfl : a1 = 0 := iof (a := 0) (by decide) (by omega)
                    refine va_aldq hx hb hK hP 5 4 rfl rfl (vp_in_iff.mpr ⟨by decide, by decide⟩) dX8_value_82 ?_
                    refine W.eq (g2 := F0 m 83 ls [.ref (q 7)]) rfl ?_
                    refine lv_iload_n hx hb dX8_value_83 rfl (lv_at hl 2 rfl) ?_
                    refine lv_lload_n hx hb dX8_value_84 rfl (lv_at hl 3 rfl) ?_
                    refine clW (wr := [(h0, .inr (7, [.ref (q 0), .int 1, .ref (q 1), .int 0, .int 0, .ref (q 2), .int 0, .ref (q 3), .int 0, .ref (q 4), .int 0, .int 0, .ref (q 5), .int 0, .int 0])), ((q 0), .inl ((cA 0), 16, .inr (.inr (.inr (.inr (va_up (fun _ => none) 0 (some (q 6)))))))), ((q 1), .inl ((cA 1), 40, .inr (.inr (.inr (.inr (fun _ => none)))))), ((q 2), .inl ((cA 2), 60, .inr (.inr (.inr (.inr (fun _ => none)))))), ((q 3), .inl ((cA 3), 124, .inr (.inr (.inr (.inr (fun _ => none)))))), ((q 4), .inl ((cA 4), 3, .inr (.inr (.inr (.inr (va_up (va_up (va_up (fun _ => none) 0 (some (q 7))) 1 (some (q 8))) 2 (some (q 9)))))))), ((q 5), .inr (6, [.int 0, .long 0])), ((q 6), .inr (0, [.int 0, .null, .int 0, .null, .int 0, .int 0, .int 1, .int 1, .int 0, .int 0, .int 0, .int 0])), ((q 8), .inr (6, [.int 0, .long 0])), ((q 9), .inr (6, [.int 0, .long 0]))]) [8] [0, 1, 2, 3, 4, 5, 6, 7, 9, 10] (va_runVN (As := [.int a2, .long a3]) (rest := []) ⟨hx, hb, hml, hown, hts⟩ (c7_become l dC dI (q 7) a2 a3 _) ⟨va_cnB 2 hts gX8_value_X7_become_n195 rfl rfl rfl (hN _ (List.mem_of_getElem? (i := 50) rfl)) (hts (.initialized RX7) (by decide +kernel)) (by decide +kernel) ⟨Nat.le_of_ble_eq_true rfl, Nat.le_of_ble_eq_true rfl⟩, hts (.instanceMethod yX7_become) (by decide +kernel), hts (.selects RX7 yX7_become yX7_become) (by decide +kernel)⟩ ⟨pz_blind, va_recv hK hP (ci := 6) (q0 := 8) rfl rfl, pz_of hP hK hD hN [8] [] rfl (by decide) rfl⟩ rfl rfl hl.1 rfl (lv_room (Nat.le_of_ble_eq_true rfl)) dX8_value_85 ⟨Nat.le_of_ble_eq_true rfl, Nat.le_of_ble_eq_true rfl⟩) hS hP hD hK hA rfl rfl (by decide) (by decide) (fun v w1 ty1 H locs w14 hP hD hK hS => ?_)
                    obtain ⟨rfl, n13, rfl, rfl⟩ := w14
                    refine W.eq (g2 := F0 m 88 ls []) rfl ?_
                    have hP : va_P (dC, dI) vwCl [(h0, .inr (7, [.ref (q 0), .int 1, .ref (q 1), .int 0, .int 0, .ref (q 2), .int 0, .ref (q 3), .int 0, .ref (q 4), .int 0, .int 0, .ref (q 5), .int 0, .int 0])), ((q 0), .inl ((cA 0), 16, .inr (.inr (.inr (.inr (va_up (fun _ => none) 0 (some (q 6)))))))), ((q 1), .inl ((cA 1), 40, .inr (.inr (.inr (.inr (fun _ => none)))))), ((q 2), .inl ((cA 2), 60, .inr (.inr (.inr (.inr (fun _ => none)))))), ((q 3), .inl ((cA 3), 124, .inr (.inr (.inr (.inr (fun _ => none)))))), ((q 4), .inl ((cA 4), 3, .inr (.inr (.inr (.inr (va_up (va_up (va_up (fun _ => none) 0 (some (q 7))) 1 (some (q 8))) 2 (some (q 9)))))))), ((q 5), .inr (6, [.int 0, .long 0])), ((q 6), .inr (0, [.int 0, .null, .int 0, .null, .int 0, .int 0, .int 1, .int 1, .int 0, .int 0, .int 0, .int 0])), ((q 8), .inr (6, [.int 0, .long 0])), ((q 9), .inr (6, [.int 0, .long 0])), ((q 7), .inr (6, [.int a2, .long n13]))] H := hP
                    have hD : va_D A [(h0, .inr (7, [.ref (q 0), .int 1, .ref (q 1), .int 0, .int 0, .ref (q 2), .int 0, .ref (q 3), .int 0, .ref (q 4), .int 0, .int 0, .ref (q 5), .int 0, .int 0])), ((q 0), .inl ((cA 0), 16, .inr (.inr (.inr (.inr (va_up (fun _ => none) 0 (some (q 6)))))))), ((q 1), .inl ((cA 1), 40, .inr (.inr (.inr (.inr (fun _ => none)))))), ((q 2), .inl ((cA 2), 60, .inr (.inr (.inr (.inr (fun _ => none)))))), ((q 3), .inl ((cA 3), 124, .inr (.inr (.inr (.inr (fun _ => none)))))), ((q 4), .inl ((cA 4), 3, .inr (.inr (.inr (.inr (va_up (va_up (va_up (fun _ => none) 0 (some (q 7))) 1 (some (q 8))) 2 (some (q 9)))))))), ((q 5), .inr (6, [.int 0, .long 0])), ((q 6), .inr (0, [.int 0, .null, .int 0, .null, .int 0, .int 0, .int 1, .int 1, .int 0, .int 0, .int 0, .int 0])), ((q 8), .inr (6, [.int 0, .long 0])), ((q 9), .inr (6, [.int 0, .long 0])), ((q 7), .inr (6, [.int a2, .long n13]))] := hD
                    have hK : va_K (dC, dI) vwCl [((cA 0), .object "ReflectModels$ClassModel"), ((cA 1), .object "ReflectModels$Member"), ((cA 2), .object "ReflectModels$Handle"), ((cA 3), .object "ReflectModels$Thing"), ((cA 4), .object "ReflectModels$Value")] s := hK
                    refine W.cs (cells' := 0) (slots' := 0) rfl rfl ?_
                    refine lv_aload_n hx hb dX8_value_88 rfl (lv_at hl 0 rfl) ?_
                    refine lv_iload_n hx hb dX8_value_89 rfl (lv_at hl 1 rfl) ?_
                    refine lv_iconst (v := 1) hx hb dX8_value_90 (by decide) ?_
                    refine lv_iadd hx hb dX8_value_91 ?_
                    refine lv_topi (fun y15 ey15 => ?_)
                    obtain rfl : y15 = 1 := ey15.trans (by decide)
                    refine va_put (D := (dC, dI)) (own := RX8) (ref := "ReflectModels") (index := 55) (ci := 7) (v := .int 1) (ty := .int) (C := RX8) (T := TX8) (N := 15) hx hb hts inX8_value_8 tyX8 tyX8_ok nmX8 hown hK hP hD hS 0 rfl rfl 10 (by decide) (hts (.fieldLink RX8 55 "ReflectModels" "valueCount" "I") (by decide +kernel)) (fun _ h9 => h9) rfl (by decide +kernel) rfl rfl (Nat.le_of_ble_eq_true rfl) dX8_value_92 (fun H locs hP hD hS => ?_)
                    have hP : va_P (dC, dI) vwCl [(h0, .inr (7, [.ref (q 0), .int 1, .ref (q 1), .int 0, .int 0, .ref (q 2), .int 0, .ref (q 3), .int 0, .ref (q 4), .int 1, .int 0, .ref (q 5), .int 0, .int 0])), ((q 0), .inl ((cA 0), 16, .inr (.inr (.inr (.inr (va_up (fun _ => none) 0 (some (q 6)))))))), ((q 1), .inl ((cA 1), 40, .inr (.inr (.inr (.inr (fun _ => none)))))), ((q 2), .inl ((cA 2), 60, .inr (.inr (.inr (.inr (fun _ => none)))))), ((q 3), .inl ((cA 3), 124, .inr (.inr (.inr (.inr (fun _ => none)))))), ((q 4), .inl ((cA 4), 3, .inr (.inr (.inr (.inr (va_up (va_up (va_up (fun _ => none) 0 (some (q 7))) 1 (some (q 8))) 2 (some (q 9)))))))), ((q 5), .inr (6, [.int 0, .long 0])), ((q 6), .inr (0, [.int 0, .null, .int 0, .null, .int 0, .int 0, .int 1, .int 1, .int 0, .int 0, .int 0, .int 0])), ((q 8), .inr (6, [.int 0, .long 0])), ((q 9), .inr (6, [.int 0, .long 0])), ((q 7), .inr (6, [.int a2, .long n13]))] H := hP
                    have hD : va_D A [(h0, .inr (7, [.ref (q 0), .int 1, .ref (q 1), .int 0, .int 0, .ref (q 2), .int 0, .ref (q 3), .int 0, .ref (q 4), .int 1, .int 0, .ref (q 5), .int 0, .int 0])), ((q 0), .inl ((cA 0), 16, .inr (.inr (.inr (.inr (va_up (fun _ => none) 0 (some (q 6)))))))), ((q 1), .inl ((cA 1), 40, .inr (.inr (.inr (.inr (fun _ => none)))))), ((q 2), .inl ((cA 2), 60, .inr (.inr (.inr (.inr (fun _ => none)))))), ((q 3), .inl ((cA 3), 124, .inr (.inr (.inr (.inr (fun _ => none)))))), ((q 4), .inl ((cA 4), 3, .inr (.inr (.inr (.inr (va_up (va_up (va_up (fun _ => none) 0 (some (q 7))) 1 (some (q 8))) 2 (some (q 9)))))))), ((q 5), .inr (6, [.int 0, .long 0])), ((q 6), .inr (0, [.int 0, .null, .int 0, .null, .int 0, .int 0, .int 1, .int 1, .int 0, .int 0, .int 0, .int 0])), ((q 8), .inr (6, [.int 0, .long 0])), ((q 9), .inr (6, [.int 0, .long 0])), ((q 7), .inr (6, [.int a2, .long n13]))] := hD
                    refine lv_aload_n hx hb dX8_value_95 rfl (lv_at hl 0 rfl) ?_
                    refine va_get (D := (dC, dI)) (own := RX8) (ref := "ReflectModels") (index := 55) (ci := 7) (v := .int 1) (C := RX8) (T := TX8) (N := 15) hx hb hts inX8_value_8 hown hK hP 0 rfl rfl 10 (by decide) (hts (.fieldLink RX8 55 "ReflectModels" "valueCount" "I") (by decide +kernel)) (fun _ h9 => h9) rfl dX8_value_96 ?_
                    have hP9 := hP.sub (ws' := []) [] rfl
                    have hD9 := hD.sub (ws' := []) [] (by decide) rfl
                    have hK9 := hK.sub (tys' := []) [] rfl
                    exact W.zret (v := 1) (ty := .int) hx hb hr rfl (fun t ht hW => ⟨⟨(some (.int 1)), rfl, _, _, ⟨congrArg (fun z => some (Value.int z)) (by unfold an_value; (repeat' split) <;> first | rfl | (exfalso; first | omega | (have kq := kz; omega))), rfl, rfl⟩, by rw [ht]; exact hP9, va_K.moved hW.alike hK9, hD9⟩, hS.F ht⟩) hS.2.2 dX8_value_99
                  · have ic12 : 2147483647 < a3.toInt := Lnle2 rfl (by decide) (fun q => c12 ((lg_cmp_le _ _).mpr q))
                    refine lv_bipush (v := (-3)) hx hb dX8_value_74 (by decide) ?_
                    have hP9 := hP.sub (ws' := []) [] rfl
                    have hD9 := hD.sub (ws' := []) [] (by decide) rfl
                    have hK9 := hK.sub (tys' := []) [] rfl
                    exact W.zret (v := (-3)) (ty := .int) hx hb hr rfl (fun t ht hW => ⟨⟨(some (.int (-3))), rfl, _, _, ⟨congrArg (fun z => some (Value.int z)) (by unfold an_value; (repeat' split) <;> first | rfl | (exfalso; first | omega | (have kq := kz; omega))), rfl, rfl⟩, by rw [ht]; exact hP9, va_K.moved hW.alike hK9, hD9⟩, hS.F ht⟩) hS.2.2 dX8_value_76
            · have ic6 : 3 < a2.toInt := inle2 rfl (by decide) c6
              refine lv_bipush (v := (-3)) hx hb dX8_value_50 (by decide) ?_
              have hP9 := hP.sub (ws' := []) [] rfl
              have hD9 := hD.sub (ws' := []) [] (by decide) rfl
              have hK9 := hK.sub (tys' := []) [] rfl
              exact W.zret (v := (-3)) (ty := .int) hx hb hr rfl (fun t ht hW => ⟨⟨(some (.int (-3))), rfl, _, _, ⟨congrArg (fun z => some (Value.int z)) (by unfold an_value; (repeat' split) <;> first | rfl | (exfalso; first | omega | (have kq := kz; omega))), rfl, rfl⟩, by rw [ht]; exact hP9, va_K.moved hW.alike hK9, hD9⟩, hS.F ht⟩) hS.2.2 dX8_value_52
  · have ic1 : a2.toInt = 3 := ieq2 rfl (by decide) c1
    refine lv_lload_n hx hb dX8_value_5 rfl (lv_at hl 3 rfl) ?_
    refine lv_lconst (v := 0) hx hb dX8_value_6 (by decide) ?_
    refine W.lcmp hx hb dX8_value_7 ?_
    refine lv_if_lt (tgt := 21) hx hb dX8_value_8 (by decide) (fun c16 => ?_) (fun c16 => ?_)
    · have ic16 : a3.toInt < 0 := Ll2 rfl (by decide) ((lg_cmp_lt _ _).mp c16)
      refine lv_bipush (v := (-2)) hx hb dX8_value_21 (by decide) ?_
      have hP9 := hP.sub (ws' := []) [] rfl
      have hD9 := hD.sub (ws' := []) [] (by decide) rfl
      have hK9 := hK.sub (tys' := []) [] rfl
      exact W.zret (v := (-2)) (ty := .int) hx hb hr rfl (fun t ht hW => ⟨⟨(some (.int (-2))), rfl, _, _, ⟨congrArg (fun z => some (Value.int z)) (by unfold an_value; (repeat' split) <;> first | rfl | (exfalso; first | omega | (have kq := kz; omega))), rfl, rfl⟩, by rw [ht]; exact hP9, va_K.moved hW.alike hK9, hD9⟩, hS.F ht⟩) hS.2.2 dX8_value_23
    · have ic16 : 0 ≤ a3.toInt := Lnl2 rfl (by decide) (fun q => c16 ((lg_cmp_lt _ _).mpr q))
      refine lv_lload_n hx hb dX8_value_11 rfl (lv_at hl 3 rfl) ?_
      refine lv_aload_n hx hb dX8_value_12 rfl (lv_at hl 0 rfl) ?_
      refine va_get (D := (dC, dI)) (own := RX8) (ref := "ReflectModels") (index := 46) (ci := 7) (v := .int 0) (C := RX8) (T := TX8) (N := 15) hx hb hts inX8_value_8 hown hK hP 0 rfl rfl 8 (by decide) (hts (.fieldLink RX8 46 "ReflectModels" "thingCount" "I") (by decide +kernel)) (fun _ h9 => h9) rfl dX8_value_13 ?_
      refine lv_i2l (v := 0) hx hb dX8_value_16 (by decide) ?_
      refine W.lcmp hx hb dX8_value_17 ?_
      refine lv_if_lt (tgt := 24) hx hb dX8_value_18 (by decide) (fun c17 => ?_) (fun c17 => ?_)
      · have ic17 : a3.toInt < 0 := Ll2 rfl (by decide) ((lg_cmp_lt _ _).mp c17)
        exfalso; first | omega | (have kq := kz; omega)
      · have ic17 : 0 ≤ a3.toInt := Lnl2 rfl (by decide) (fun q => c17 ((lg_cmp_lt _ _).mpr q))
        refine lv_bipush (v := (-2)) hx hb dX8_value_21 (by decide) ?_
        have hP9 := hP.sub (ws' := []) [] rfl
        have hD9 := hD.sub (ws' := []) [] (by decide) rfl
        have hK9 := hK.sub (tys' := []) [] rfl
        exact W.zret (v := (-2)) (ty := .int) hx hb hr rfl (fun t ht hW => ⟨⟨(some (.int (-2))), rfl, _, _, ⟨congrArg (fun z => some (Value.int z)) (by unfold an_value; (repeat' split) <;> first | rfl | (exfalso; first | omega | (have kq := kz; omega))), rfl, rfl⟩, by rw [ht]; exact hP9, va_K.moved hW.alike hK9, hD9⟩, hS.F ht⟩) hS.2.2 dX8_value_23

set_option maxHeartbeats 4000000 in
set_option maxRecDepth 100000 in
theorem c0_standsUnder (l : Launch) (dC : Nat → ClassId) (dI : Nat → Nat → Nat) (r1 : Nat) (sz : Nat)  : Met l yX0_standsUnder wsX0_standsUnder ({ frames := 0, cells := 0, slots := 0, locals := 0 }) (va_Pc [.ref r1, .ref r1] (pz (dC, dI) [] [(r1, .inr (0, [.int 0, .null, .int 0, .null, .int 0, .int 0, .int 1, .int 1, .int 0, .int 0, .int 0, .int 0]))] sz)) (qR (fun v => (v = some (.int 1)))) 0 0 nA := by
  refine Met.ofW (cc := cX0_standsUnder) (maxL := 2) (ret := (some .boolean)) (by decide) rfl ?_
  intro p e s m args below meth c s₁ B hml hv
  obtain ⟨rfl, hsz, hP, hK, hD, hN⟩ := hv
  have hx := B.exec
  have hb := B.bytes
  have hr := B.returns
  have hts := atoms_spec (ws := wsX0_standsUnder) B.pre
  have hown : s.vm.findClass RX0 = some m.cls := findClass_of_methodNamed B.named
  have hlocks := B.notSynchronized
  subst hsz
  have hS : va_S nA s.heap s.heap [] := va_S.rf
  have hl := lv_entry ([.ref r1, .ref r1]) (n := 2) (Nat.le_of_ble_eq_true rfl)
  rw [lg_entry_eq]
  generalize (lg_sl ([.ref r1, .ref r1]) ++ List.replicate (2 - (lg_sl ([.ref r1, .ref r1])).length) Slot.unset).toArray = ls at hl ⊢
  have hl : lv_has ls 2 [(0, .ref r1), (1, .ref r1)] := hl
  refine lv_aload_n hx hb dX0_standsUnder_0 rfl (lv_at hl 0 rfl) ?_
  refine va_get (D := (dC, dI)) (own := RX0) (ref := "ReflectModels$ClassModel") (index := 44) (ci := 0) (v := .int 1) (C := RX0) (T := TX0) (N := 12) hx hb hts inX0_standsUnder_0 hown hK hP 0 rfl rfl 6 (by decide) (hts (.fieldLink RX0 44 "ReflectModels$ClassModel" "line" "I") (by decide +kernel)) (fun _ h9 => h9) rfl dX0_standsUnder_1 ?_
  refine lv_aload_n hx hb dX0_standsUnder_4 rfl (lv_at hl 1 rfl) ?_
  refine va_get (D := (dC, dI)) (own := RX0) (ref := "ReflectModels$ClassModel") (index := 24) (ci := 0) (v := .int 0) (C := RX0) (T := TX0) (N := 12) hx hb hts inX0_standsUnder_0 hown hK hP 0 rfl rfl 0 (by decide) (hts (.fieldLink RX0 24 "ReflectModels$ClassModel" "number" "I") (by decide +kernel)) (fun _ h9 => h9) rfl dX0_standsUnder_5 ?_
  refine lv_iushr (v := 1) hx hb dX0_standsUnder_8 (by decide) ?_
  refine lv_iconst (v := 1) hx hb dX0_standsUnder_9 (by decide) ?_
  refine lv_iand hx hb dX0_standsUnder_10 ?_
  refine lv_topi (fun y1 ey1 => ?_)
  obtain rfl : y1 = 1 := ey1.trans (by decide)
  refine lv_if_eq (tgt := 18) hx hb dX0_standsUnder_11 (by decide) (fun h => absurd h (by decide)) (fun _ => ?_)
  refine lv_iconst (v := 1) hx hb dX0_standsUnder_14 (by decide) ?_
  refine lv_goto (tgt := 19) hx hb dX0_standsUnder_15 (by decide) ?_
  exact W.zret (v := 1) (ty := .boolean) hx hb hr rfl (fun t ht hW => ⟨⟨(some (.int 1)), rfl, (by first | exact rfl)⟩, hS.F ht⟩) hS.2.2 dX0_standsUnder_19

set_option maxHeartbeats 4000000 in
set_option maxRecDepth 100000 in
theorem c8_startAlone (l : Launch) (dC : Nat → ClassId) (dI : Nat → Nat → Nat) (h0 : Nat) (q : Nat → Nat) (cA : Nat → ClassId) (r1 : Nat) (sz : Nat)  : Met l yX8_startAlone wsX8_startAlone ({ frames := 0, cells := 0, slots := 0, locals := 0 }) (va_Pc [.ref h0, .ref r1] (pz (dC, dI) [] [(h0, .inr (7, [.ref (q 0), .int 1, .ref (q 1), .int 0, .int 0, .ref (q 2), .int 0, .ref (q 3), .int 0, .ref (q 4), .int 0, .int 0, .ref (q 5), .int 0, .int 0])), (r1, .inr (0, [.int 0, .null, .int 0, .null, .int 0, .int 0, .int 1, .int 1, .int 0, .int 0, .int 0, .int 0]))] sz)) (qW (dC, dI) (fun v w1 ty1 => v = some (.int 0) ∧ w1 = [(h0, .inr (7, [.ref (q 0), .int 1, .ref (q 1), .int 0, .int 0, .ref (q 2), .int 0, .ref (q 3), .int 0, .ref (q 4), .int 0, .int 0, .ref (q 5), .int 0, .int 0])), (r1, .inr (0, [.int 0, .null, .int 0, .null, .int 0, .int 0, .int 1, .int 1, .int 1, .int 0, .int 0, .int 0]))] ∧ ty1 = []) (va_A [(h0, .inr (7, [.ref (q 0), .int 1, .ref (q 1), .int 0, .int 0, .ref (q 2), .int 0, .ref (q 3), .int 0, .ref (q 4), .int 0, .int 0, .ref (q 5), .int 0, .int 0])), (r1, .inr (0, [.int 0, .null, .int 0, .null, .int 0, .int 0, .int 1, .int 1, .int 0, .int 0, .int 0, .int 0]))] sz)) 0 0 (va_A [(h0, .inr (7, [.ref (q 0), .int 1, .ref (q 1), .int 0, .int 0, .ref (q 2), .int 0, .ref (q 3), .int 0, .ref (q 4), .int 0, .int 0, .ref (q 5), .int 0, .int 0])), (r1, .inr (0, [.int 0, .null, .int 0, .null, .int 0, .int 0, .int 1, .int 1, .int 0, .int 0, .int 0, .int 0]))] sz) := by
  refine Met.ofW (cc := cX8_startAlone) (maxL := 3) (ret := (some .int)) (by decide) rfl ?_
  intro p e s m args below meth c s₁ B hml hv
  obtain ⟨rfl, hsz, hP, hK, hD, hN⟩ := hv
  have hx := B.exec
  have hb := B.bytes
  have hr := B.returns
  have hts := atoms_spec (ws := wsX8_startAlone) B.pre
  have hown : s.vm.findClass RX8 = some m.cls := findClass_of_methodNamed B.named
  have hlocks := B.notSynchronized
  subst hsz
  have hD := hD.self (sz := s.heap.size)
  generalize hAe : va_A [(h0, .inr (7, [.ref (q 0), .int 1, .ref (q 1), .int 0, .int 0, .ref (q 2), .int 0, .ref (q 3), .int 0, .ref (q 4), .int 0, .int 0, .ref (q 5), .int 0, .int 0])), (r1, .inr (0, [.int 0, .null, .int 0, .null, .int 0, .int 0, .int 1, .int 1, .int 0, .int 0, .int 0, .int 0]))] s.heap.size = A at hD ⊢
  have hA : ∀ q : Nat, s.heap.size ≤ q → A q := fun q h => by rw [← hAe]; exact Or.inr h
  have hS : va_S A s.heap s.heap [] := va_S.rf
  have hl := lv_entry ([.ref h0, .ref r1]) (n := 3) (Nat.le_of_ble_eq_true rfl)
  rw [lg_entry_eq]
  generalize (lg_sl ([.ref h0, .ref r1]) ++ List.replicate (3 - (lg_sl ([.ref h0, .ref r1])).length) Slot.unset).toArray = ls at hl ⊢
  have hl : lv_has ls 3 [(0, .ref h0), (1, .ref r1)] := hl
  refine lv_aload_n hx hb dX8_startAlone_0 rfl (lv_at hl 1 rfl) ?_
  refine va_getN (host := "ReflectModels") (D := (dC, dI)) (own := RX8) (ref := "ReflectModels$ClassModel") (index := 92) (ci := 0) (v := .int 0) (C := RX0) (T := TX0) (N := 12) hx hb hts inX8_startAlone_0 hown hK hP 1 rfl rfl 8 (by decide) (va_Nw.use rfl (hN _ (List.mem_of_getElem? (i := 17) rfl))) (fun _ h9 => h9) rfl dX8_startAlone_1 ?_
  refine lv_iconst (v := 1) hx hb dX8_startAlone_4 (by decide) ?_
  refine lv_icmp_ne (tgt := 10) hx hb dX8_startAlone_5 (by decide) (fun _ => ?_) (fun h => absurd h (by decide))
  refine lv_aload_n hx hb dX8_startAlone_10 rfl (lv_at hl 1 rfl) ?_
  refine va_getN (host := "ReflectModels") (D := (dC, dI)) (own := RX8) (ref := "ReflectModels$ClassModel") (index := 92) (ci := 0) (v := .int 0) (C := RX0) (T := TX0) (N := 12) hx hb hts inX8_startAlone_0 hown hK hP 1 rfl rfl 8 (by decide) (va_Nw.use rfl (hN _ (List.mem_of_getElem? (i := 17) rfl))) (fun _ h9 => h9) rfl dX8_startAlone_11 ?_
  refine lv_iconst (v := 2) hx hb dX8_startAlone_14 (by decide) ?_
  refine lv_icmp_ne (tgt := 21) hx hb dX8_startAlone_15 (by decide) (fun _ => ?_) (fun h => absurd h (by decide))
  refine lv_aload_n hx hb dX8_startAlone_21 rfl (lv_at hl 1 rfl) ?_
  refine va_getN (host := "ReflectModels") (D := (dC, dI)) (own := RX8) (ref := "ReflectModels$ClassModel") (index := 348) (ci := 0) (v := .int 0) (C := RX0) (T := TX0) (N := 12) hx hb hts inX8_startAlone_0 hown hK hP 1 rfl rfl 5 (by decide) (va_Nw.use rfl (hN _ (List.mem_of_getElem? (i := 15) rfl))) (fun _ h9 => h9) rfl dX8_startAlone_22 ?_
  refine lv_if_eq (tgt := 36) hx hb dX8_startAlone_25 (by decide) (fun _ => ?_) (fun h => absurd (by decide) h)
  refine lv_aload_n hx hb dX8_startAlone_36 rfl (lv_at hl 1 rfl) ?_
  refine lv_iconst (v := 1) hx hb dX8_startAlone_37 (by decide) ?_
  refine va_putN (host := "ReflectModels") (D := (dC, dI)) (own := RX8) (ref := "ReflectModels$ClassModel") (index := 92) (ci := 0) (v := .int 1) (ty := .int) (C := RX0) (T := TX0) (N := 12) hx hb hts inX8_startAlone_0 tyX0 tyX0_ok nmX0 hown hK hP hD hS 1 rfl rfl 8 (by decide) (va_Nw.use rfl (hN _ (List.mem_of_getElem? (i := 17) rfl))) (fun _ h9 => h9) rfl (by decide +kernel) rfl rfl (Nat.le_of_ble_eq_true rfl) dX8_startAlone_38 (fun H locs hP hD hS => ?_)
  have hP : va_P (dC, dI) vwCl [(h0, .inr (7, [.ref (q 0), .int 1, .ref (q 1), .int 0, .int 0, .ref (q 2), .int 0, .ref (q 3), .int 0, .ref (q 4), .int 0, .int 0, .ref (q 5), .int 0, .int 0])), (r1, .inr (0, [.int 0, .null, .int 0, .null, .int 0, .int 0, .int 1, .int 1, .int 1, .int 0, .int 0, .int 0]))] H := hP
  have hD : va_D A [(h0, .inr (7, [.ref (q 0), .int 1, .ref (q 1), .int 0, .int 0, .ref (q 2), .int 0, .ref (q 3), .int 0, .ref (q 4), .int 0, .int 0, .ref (q 5), .int 0, .int 0])), (r1, .inr (0, [.int 0, .null, .int 0, .null, .int 0, .int 0, .int 1, .int 1, .int 1, .int 0, .int 0, .int 0]))] := hD
  refine lv_aload_n hx hb dX8_startAlone_41 rfl (lv_at hl 1 rfl) ?_
  refine lv_aload_n hx hb dX8_startAlone_42 rfl (lv_at hl 0 rfl) ?_
  refine va_get (D := (dC, dI)) (own := RX8) (ref := "ReflectModels") (index := 46) (ci := 7) (v := .int 0) (C := RX8) (T := TX8) (N := 15) hx hb hts inX8_startAlone_8 hown hK hP 0 rfl rfl 8 (by decide) (hts (.fieldLink RX8 46 "ReflectModels" "thingCount" "I") (by decide +kernel)) (fun _ h9 => h9) rfl dX8_startAlone_43 ?_
  refine va_putN (host := "ReflectModels") (D := (dC, dI)) (own := RX8) (ref := "ReflectModels$ClassModel") (index := 255) (ci := 0) (v := .int 0) (ty := .int) (C := RX0) (T := TX0) (N := 12) hx hb hts inX8_startAlone_0 tyX0 tyX0_ok nmX0 hown hK hP hD hS 1 rfl rfl 10 (by decide) (va_Nw.use rfl (hN _ (List.mem_of_getElem? (i := 19) rfl))) (fun _ h9 => h9) rfl (by decide +kernel) rfl rfl (Nat.le_of_ble_eq_true rfl) dX8_startAlone_46 (fun H locs hP hD hS => ?_)
  have hP : va_P (dC, dI) vwCl [(h0, .inr (7, [.ref (q 0), .int 1, .ref (q 1), .int 0, .int 0, .ref (q 2), .int 0, .ref (q 3), .int 0, .ref (q 4), .int 0, .int 0, .ref (q 5), .int 0, .int 0])), (r1, .inr (0, [.int 0, .null, .int 0, .null, .int 0, .int 0, .int 1, .int 1, .int 1, .int 0, .int 0, .int 0]))] H := hP
  have hD : va_D A [(h0, .inr (7, [.ref (q 0), .int 1, .ref (q 1), .int 0, .int 0, .ref (q 2), .int 0, .ref (q 3), .int 0, .ref (q 4), .int 0, .int 0, .ref (q 5), .int 0, .int 0])), (r1, .inr (0, [.int 0, .null, .int 0, .null, .int 0, .int 0, .int 1, .int 1, .int 1, .int 0, .int 0, .int 0]))] := hD
  refine lv_iconst (v := 0) hx hb dX8_startAlone_49 (by decide) ?_
  refine lv_istore_n (lv' := [(2, .int 0), (0, .ref h0), (1, .ref r1)]) hx hb dX8_startAlone_50 rfl hl (by decide) rfl (fun ls hl => ?_)
  refine lv_iload_n hx hb dX8_startAlone_51 rfl (lv_at hl 0 rfl) ?_
  refine lv_aload_n hx hb dX8_startAlone_52 rfl (lv_at hl 2 rfl) ?_
  refine va_getN (host := "ReflectModels") (D := (dC, dI)) (own := RX8) (ref := "ReflectModels$ClassModel") (index := 89) (ci := 0) (v := .int 0) (C := RX0) (T := TX0) (N := 12) hx hb hts inX8_startAlone_0 hown hK hP 1 rfl rfl 9 (by decide) (va_Nw.use rfl (hN _ (List.mem_of_getElem? (i := 18) rfl))) (fun _ h9 => h9) rfl dX8_startAlone_53 ?_
  refine lv_icmp_ge (tgt := 73) hx hb dX8_startAlone_56 (by decide) (fun _ => ?_) (fun h => absurd (by decide) h)
  refine lv_iconst (v := 0) hx hb dX8_startAlone_73 (by decide) ?_
  have hP9 := hP.sub (ws' := [(h0, .inr (7, [.ref (q 0), .int 1, .ref (q 1), .int 0, .int 0, .ref (q 2), .int 0, .ref (q 3), .int 0, .ref (q 4), .int 0, .int 0, .ref (q 5), .int 0, .int 0])), (r1, .inr (0, [.int 0, .null, .int 0, .null, .int 0, .int 0, .int 1, .int 1, .int 1, .int 0, .int 0, .int 0]))]) [0, 1] rfl
  have hD9 := hD.sub (ws' := [(h0, .inr (7, [.ref (q 0), .int 1, .ref (q 1), .int 0, .int 0, .ref (q 2), .int 0, .ref (q 3), .int 0, .ref (q 4), .int 0, .int 0, .ref (q 5), .int 0, .int 0])), (r1, .inr (0, [.int 0, .null, .int 0, .null, .int 0, .int 0, .int 1, .int 1, .int 1, .int 0, .int 0, .int 0]))]) [0, 1] (by decide) rfl
  have hK9 := hK.sub (tys' := []) [] rfl
  exact W.zret (v := 0) (ty := .int) hx hb hr rfl (fun t ht hW => ⟨⟨(some (.int 0)), rfl, _, _, ⟨rfl, rfl, rfl⟩, by rw [ht]; exact hP9, va_K.moved hW.alike hK9, hD9⟩, hS.F ht⟩) hS.2.2 dX8_startAlone_74

set_option maxHeartbeats 4000000 in
set_option maxRecDepth 100000 in
theorem c8_startFailure (l : Launch) (dC : Nat → ClassId) (dI : Nat → Nat → Nat) (h0 : Nat) (q : Nat → Nat) (cA : Nat → ClassId) (sz : Nat)  : Met l yX8_startFailure wsX8_startFailure ({ frames := 1, cells := 0, slots := 0, locals := 22 }) (va_Pc [.ref h0, .ref (q 6)] (pz (dC, dI) [((cA 0), .object "ReflectModels$ClassModel")] [(h0, .inr (7, [.ref (q 0), .int 1, .ref (q 1), .int 0, .int 0, .ref (q 2), .int 0, .ref (q 3), .int 0, .ref (q 4), .int 0, .int 0, .ref (q 5), .int 0, .int 0])), ((q 0), .inl ((cA 0), 16, .inr (.inr (.inr (.inr (va_up (fun _ => none) 0 (some (q 6)))))))), ((q 6), .inr (0, [.int 0, .null, .int 0, .null, .int 0, .int 0, .int 1, .int 1, .int 0, .int 0, .int 0, .int 0]))] sz)) (qW (dC, dI) (fun v w1 ty1 => v = some (.int 0) ∧ w1 = [(h0, .inr (7, [.ref (q 0), .int 1, .ref (q 1), .int 0, .int 0, .ref (q 2), .int 0, .ref (q 3), .int 0, .ref (q 4), .int 0, .int 0, .ref (q 5), .int 0, .int 0])), ((q 0), .inl ((cA 0), 16, .inr (.inr (.inr (.inr (va_up (fun _ => none) 0 (some (q 6)))))))), ((q 6), .inr (0, [.int 0, .null, .int 0, .null, .int 0, .int 0, .int 1, .int 1, .int 1, .int 0, .int 0, .int 0]))] ∧ ty1 = []) (va_A [(h0, .inr (7, [.ref (q 0), .int 1, .ref (q 1), .int 0, .int 0, .ref (q 2), .int 0, .ref (q 3), .int 0, .ref (q 4), .int 0, .int 0, .ref (q 5), .int 0, .int 0])), ((q 0), .inl ((cA 0), 16, .inr (.inr (.inr (.inr (va_up (fun _ => none) 0 (some (q 6)))))))), ((q 6), .inr (0, [.int 0, .null, .int 0, .null, .int 0, .int 0, .int 1, .int 1, .int 0, .int 0, .int 0, .int 0]))] sz)) 0 0 (va_A [(h0, .inr (7, [.ref (q 0), .int 1, .ref (q 1), .int 0, .int 0, .ref (q 2), .int 0, .ref (q 3), .int 0, .ref (q 4), .int 0, .int 0, .ref (q 5), .int 0, .int 0])), ((q 0), .inl ((cA 0), 16, .inr (.inr (.inr (.inr (va_up (fun _ => none) 0 (some (q 6)))))))), ((q 6), .inr (0, [.int 0, .null, .int 0, .null, .int 0, .int 0, .int 1, .int 1, .int 0, .int 0, .int 0, .int 0]))] sz) := by
  refine Met.ofW (cc := cX8_startFailure) (maxL := 4) (ret := (some .int)) (by decide) rfl ?_
  intro p e s m args below meth c s₁ B hml hv
  obtain ⟨rfl, hsz, hP, hK, hD, hN⟩ := hv
  have hx := B.exec
  have hb := B.bytes
  have hr := B.returns
  have hts := atoms_spec (ws := wsX8_startFailure) B.pre
  have hown : s.vm.findClass RX8 = some m.cls := findClass_of_methodNamed B.named
  have hlocks := B.notSynchronized
  subst hsz
  have hD := hD.self (sz := s.heap.size)
  generalize hAe : va_A [(h0, .inr (7, [.ref (q 0), .int 1, .ref (q 1), .int 0, .int 0, .ref (q 2), .int 0, .ref (q 3), .int 0, .ref (q 4), .int 0, .int 0, .ref (q 5), .int 0, .int 0])), ((q 0), .inl ((cA 0), 16, .inr (.inr (.inr (.inr (va_up (fun _ => none) 0 (some (q 6)))))))), ((q 6), .inr (0, [.int 0, .null, .int 0, .null, .int 0, .int 0, .int 1, .int 1, .int 0, .int 0, .int 0, .int 0]))] s.heap.size = A at hD ⊢
  have hA : ∀ q : Nat, s.heap.size ≤ q → A q := fun q h => by rw [← hAe]; exact Or.inr h
  have hS : va_S A s.heap s.heap [] := va_S.rf
  have hl := lv_entry ([.ref h0, .ref (q 6)]) (n := 4) (Nat.le_of_ble_eq_true rfl)
  rw [lg_entry_eq]
  generalize (lg_sl ([.ref h0, .ref (q 6)]) ++ List.replicate (4 - (lg_sl ([.ref h0, .ref (q 6)])).length) Slot.unset).toArray = ls at hl ⊢
  have hl : lv_has ls 4 [(0, .ref h0), (1, .ref (q 6))] := hl
  refine lv_iconst (v := 0) hx hb dX8_startFailure_0 (by decide) ?_
  refine lv_istore_n (lv' := [(2, .int 0), (0, .ref h0), (1, .ref (q 6))]) hx hb dX8_startFailure_1 rfl hl (by decide) rfl (fun ls hl => ?_)
  refine lv_iconst (v := 0) hx hb dX8_startFailure_2 (by decide) ?_
  refine lv_istore_n (lv' := [(3, .int 0), (2, .int 0), (0, .ref h0), (1, .ref (q 6))]) hx hb dX8_startFailure_3 rfl hl (by decide) rfl (fun ls hl => ?_)
  refine lv_iload_n hx hb dX8_startFailure_4 rfl (lv_at hl 0 rfl) ?_
  refine lv_aload_n hx hb dX8_startFailure_5 rfl (lv_at hl 2 rfl) ?_
  refine va_get (D := (dC, dI)) (own := RX8) (ref := "ReflectModels") (index := 15) (ci := 7) (v := .int 1) (C := RX8) (T := TX8) (N := 15) hx hb hts inX8_startFailure_8 hown hK hP 0 rfl rfl 1 (by decide) (hts (.fieldLink RX8 15 "ReflectModels" "classCount" "I") (by decide +kernel)) (fun _ h9 => h9) rfl dX8_startFailure_6 ?_
  refine lv_icmp_ge (tgt := 67) hx hb dX8_startFailure_9 (by decide) (fun h => absurd h (by decide)) (fun _ => ?_)
  refine lv_iload_n hx hb dX8_startFailure_12 rfl (lv_at hl 0 rfl) ?_
  refine lv_aload_n hx hb dX8_startFailure_13 rfl (lv_at hl 3 rfl) ?_
  refine va_getN (host := "ReflectModels") (D := (dC, dI)) (own := RX8) (ref := "ReflectModels$ClassModel") (index := 180) (ci := 0) (v := .int 0) (C := RX0) (T := TX0) (N := 12) hx hb hts inX8_startFailure_0 hown hK hP 2 rfl rfl 0 (by decide) (va_Nw.use rfl (hN _ (List.mem_of_getElem? (i := 10) rfl))) (fun _ h9 => h9) rfl dX8_startFailure_14 ?_
  refine lv_icmp_gt (tgt := 67) hx hb dX8_startFailure_17 (by decide) (fun h => absurd h (by decide)) (fun _ => ?_)
  refine lv_aload_n hx hb dX8_startFailure_20 rfl (lv_at hl 3 rfl) ?_
  refine lv_aload_n hx hb dX8_startFailure_21 rfl (lv_at hl 2 rfl) ?_
  refine va_get (D := (dC, dI)) (own := RX8) (ref := "ReflectModels") (index := 11) (ci := 7) (v := .ref (q 0)) (C := RX8) (T := TX8) (N := 15) hx hb hts inX8_startFailure_8 hown hK hP 0 rfl rfl 0 (by decide) (hts (.fieldLink RX8 11 "ReflectModels" "classes" "[LReflectModels$ClassModel;") (by decide +kernel)) (fun _ h9 => h9) rfl dX8_startFailure_22 ?_
  refine lv_iload_n hx hb dX8_startFailure_25 rfl (lv_at hl 0 rfl) ?_
  refine va_aldq hx hb hK hP 1 0 rfl rfl (vp_in_iff.mpr ⟨by decide, by decide⟩) dX8_startFailure_26 ?_
  refine W.eq (g2 := F0 m 27 ls [.ref (q 6), .ref (q 6)]) rfl ?_
  refine clR (va_runVN (As := [.ref (q 6)]) (rest := []) ⟨hx, hb, hml, hown, hts⟩ (c0_standsUnder l dC dI (q 6) _) ⟨va_cnB 1 hts gX8_startFailure_X0_standsUnder_n342 rfl rfl rfl (hN _ (List.mem_of_getElem? (i := 51) rfl)) (hts (.initialized RX0) (by decide +kernel)) (by decide +kernel) ⟨Nat.le_of_ble_eq_true rfl, Nat.le_of_ble_eq_true rfl⟩, hts (.instanceMethod yX0_standsUnder) (by decide +kernel), hts (.selects RX0 yX0_standsUnder yX0_standsUnder) (by decide +kernel)⟩ ⟨pz_blind, va_recv hK hP (ci := 0) (q0 := 2) rfl rfl, pz_of hP hK hD hN [2] [] rfl (by decide) rfl⟩ rfl rfl hl.1 rfl (lv_room (Nat.le_of_ble_eq_true rfl)) dX8_startFailure_27 ⟨Nat.le_of_ble_eq_true rfl, Nat.le_of_ble_eq_true rfl⟩) hS hP (fun v H locs w1 hP hS => ?_)
  obtain rfl := w1
  refine W.eq (g2 := F0 m 30 ls [.int 1]) rfl ?_
  refine lv_if_eq (tgt := 61) hx hb dX8_startFailure_30 (by decide) (fun h => absurd h (by decide)) (fun _ => ?_)
  refine lv_iload_n hx hb dX8_startFailure_33 rfl (lv_at hl 1 rfl) ?_
  refine lv_if_eq (tgt := 50) hx hb dX8_startFailure_34 (by decide) (fun _ => ?_) (fun h => absurd (by decide) h)
  refine lv_aload_n hx hb dX8_startFailure_50 rfl (lv_at hl 2 rfl) ?_
  refine lv_aload_n hx hb dX8_startFailure_51 rfl (lv_at hl 2 rfl) ?_
  refine va_get (D := (dC, dI)) (own := RX8) (ref := "ReflectModels") (index := 11) (ci := 7) (v := .ref (q 0)) (C := RX8) (T := TX8) (N := 15) hx hb hts inX8_startFailure_8 hown hK hP 0 rfl rfl 0 (by decide) (hts (.fieldLink RX8 11 "ReflectModels" "classes" "[LReflectModels$ClassModel;") (by decide +kernel)) (fun _ h9 => h9) rfl dX8_startFailure_52 ?_
  refine lv_iload_n hx hb dX8_startFailure_55 rfl (lv_at hl 0 rfl) ?_
  refine va_aldq hx hb hK hP 1 0 rfl rfl (vp_in_iff.mpr ⟨by decide, by decide⟩) dX8_startFailure_56 ?_
  refine W.eq (g2 := F0 m 57 ls [.ref (q 6), .ref h0]) rfl ?_
  refine clW (wr := [((q 0), .inl ((cA 0), 16, .inr (.inr (.inr (.inr (va_up (fun _ => none) 0 (some (q 6))))))))]) [0, 2] [1] (va_runV (As := [.ref (q 6)]) (rest := []) ⟨hx, hb, hml, hown, hts⟩ (c8_startAlone l dC dI h0 q cA (q 6) _) (cwV 1 hts gX8_startFailure_X8_startAlone rfl rfl rfl (by decide +kernel) ⟨Nat.le_of_ble_eq_true rfl, Nat.le_of_ble_eq_true rfl⟩) ⟨pz_blind, va_recv hK hP (ci := 7) (q0 := 0) rfl rfl, pz_of hP hK hD hN [0, 2] [] rfl (by decide) rfl⟩ rfl rfl hl.1 rfl (lv_room (Nat.le_of_ble_eq_true rfl)) dX8_startFailure_57 ⟨Nat.le_of_ble_eq_true rfl, Nat.le_of_ble_eq_true rfl⟩) hS hP hD hK hA rfl rfl (by decide) (by decide) (fun v w1 ty1 H locs w2 hP hD hK hS => ?_)
  obtain ⟨rfl, rfl, rfl⟩ := w2
  refine W.eq (g2 := F0 m 60 ls [.int 0]) rfl ?_
  have hP : va_P (dC, dI) vwCl [((q 0), .inl ((cA 0), 16, .inr (.inr (.inr (.inr (va_up (fun _ => none) 0 (some (q 6)))))))), (h0, .inr (7, [.ref (q 0), .int 1, .ref (q 1), .int 0, .int 0, .ref (q 2), .int 0, .ref (q 3), .int 0, .ref (q 4), .int 0, .int 0, .ref (q 5), .int 0, .int 0])), ((q 6), .inr (0, [.int 0, .null, .int 0, .null, .int 0, .int 0, .int 1, .int 1, .int 1, .int 0, .int 0, .int 0]))] H := hP
  have hD : va_D A [((q 0), .inl ((cA 0), 16, .inr (.inr (.inr (.inr (va_up (fun _ => none) 0 (some (q 6)))))))), (h0, .inr (7, [.ref (q 0), .int 1, .ref (q 1), .int 0, .int 0, .ref (q 2), .int 0, .ref (q 3), .int 0, .ref (q 4), .int 0, .int 0, .ref (q 5), .int 0, .int 0])), ((q 6), .inr (0, [.int 0, .null, .int 0, .null, .int 0, .int 0, .int 1, .int 1, .int 1, .int 0, .int 0, .int 0]))] := hD
  have hK : va_K (dC, dI) vwCl [((cA 0), .object "ReflectModels$ClassModel")] s := hK
  refine W.cs (cells' := 0) (slots' := 0) rfl rfl ?_
  refine lv_istore_n (lv' := [(2, .int 0), (3, .int 0), (0, .ref h0), (1, .ref (q 6))]) hx hb dX8_startFailure_60 rfl hl (by decide) rfl (fun ls hl => ?_)
  refine lv_iinc (v := 1) (lv' := [(3, .int 1), (2, .int 0), (0, .ref h0), (1, .ref (q 6))]) hx hb dX8_startFailure_61 hl (k := 1) rfl (by decide) (by decide) rfl (fun ls hl => ?_)
  refine lv_goto (tgt := 4) hx hb dX8_startFailure_64 (by decide) ?_
  refine lv_iload_n hx hb dX8_startFailure_4 rfl (lv_at hl 0 rfl) ?_
  refine lv_aload_n hx hb dX8_startFailure_5 rfl (lv_at hl 2 rfl) ?_
  refine va_get (D := (dC, dI)) (own := RX8) (ref := "ReflectModels") (index := 15) (ci := 7) (v := .int 1) (C := RX8) (T := TX8) (N := 15) hx hb hts inX8_startFailure_8 hown hK hP 1 rfl rfl 1 (by decide) (hts (.fieldLink RX8 15 "ReflectModels" "classCount" "I") (by decide +kernel)) (fun _ h9 => h9) rfl dX8_startFailure_6 ?_
  refine lv_icmp_ge (tgt := 67) hx hb dX8_startFailure_9 (by decide) (fun _ => ?_) (fun h => absurd (by decide) h)
  refine lv_iload_n hx hb dX8_startFailure_67 rfl (lv_at hl 1 rfl) ?_
  have hP9 := hP.sub (ws' := [(h0, .inr (7, [.ref (q 0), .int 1, .ref (q 1), .int 0, .int 0, .ref (q 2), .int 0, .ref (q 3), .int 0, .ref (q 4), .int 0, .int 0, .ref (q 5), .int 0, .int 0])), ((q 0), .inl ((cA 0), 16, .inr (.inr (.inr (.inr (va_up (fun _ => none) 0 (some (q 6)))))))), ((q 6), .inr (0, [.int 0, .null, .int 0, .null, .int 0, .int 0, .int 1, .int 1, .int 1, .int 0, .int 0, .int 0]))]) [1, 0, 2] rfl
  have hD9 := hD.sub (ws' := [(h0, .inr (7, [.ref (q 0), .int 1, .ref (q 1), .int 0, .int 0, .ref (q 2), .int 0, .ref (q 3), .int 0, .ref (q 4), .int 0, .int 0, .ref (q 5), .int 0, .int 0])), ((q 0), .inl ((cA 0), 16, .inr (.inr (.inr (.inr (va_up (fun _ => none) 0 (some (q 6)))))))), ((q 6), .inr (0, [.int 0, .null, .int 0, .null, .int 0, .int 0, .int 1, .int 1, .int 1, .int 0, .int 0, .int 0]))]) [1, 0, 2] (by decide) rfl
  have hK9 := hK.sub (tys' := []) [] rfl
  exact W.zret (v := 0) (ty := .int) hx hb hr rfl (fun t ht hW => ⟨⟨(some (.int 0)), rfl, _, _, ⟨rfl, rfl, rfl⟩, by rw [ht]; exact hP9, va_K.moved hW.alike hK9, hD9⟩, hS.F ht⟩) hS.2.2 dX8_startFailure_68

set_option maxHeartbeats 4000000 in
set_option maxRecDepth 100000 in
theorem c8_makeFailure (l : Launch) (dC : Nat → ClassId) (dI : Nat → Nat → Nat) (h0 : Nat) (q : Nat → Nat) (cA : Nat → ClassId) (sz : Nat)  : Met l yX8_makeFailure wsX8_makeFailure ({ frames := 2, cells := 0, slots := 0, locals := 45 }) (va_Pc [.ref h0, .ref (q 6)] (pz (dC, dI) [((cA 0), .object "ReflectModels$ClassModel")] [(h0, .inr (7, [.ref (q 0), .int 1, .ref (q 1), .int 0, .int 0, .ref (q 2), .int 0, .ref (q 3), .int 0, .ref (q 4), .int 0, .int 0, .ref (q 5), .int 0, .int 0])), ((q 0), .inl ((cA 0), 16, .inr (.inr (.inr (.inr (va_up (fun _ => none) 0 (some (q 6)))))))), ((q 6), .inr (0, [.int 0, .null, .int 0, .null, .int 0, .int 0, .int 1, .int 1, .int 0, .int 0, .int 0, .int 0]))] sz)) (qW (dC, dI) (fun v w1 ty1 => v = some (.int 0) ∧ w1 = [(h0, .inr (7, [.ref (q 0), .int 1, .ref (q 1), .int 0, .int 0, .ref (q 2), .int 0, .ref (q 3), .int 0, .ref (q 4), .int 0, .int 0, .ref (q 5), .int 0, .int 0])), ((q 0), .inl ((cA 0), 16, .inr (.inr (.inr (.inr (va_up (fun _ => none) 0 (some (q 6)))))))), ((q 6), .inr (0, [.int 0, .null, .int 0, .null, .int 0, .int 0, .int 1, .int 1, .int 1, .int 0, .int 0, .int 0]))] ∧ ty1 = []) (va_A [(h0, .inr (7, [.ref (q 0), .int 1, .ref (q 1), .int 0, .int 0, .ref (q 2), .int 0, .ref (q 3), .int 0, .ref (q 4), .int 0, .int 0, .ref (q 5), .int 0, .int 0])), ((q 0), .inl ((cA 0), 16, .inr (.inr (.inr (.inr (va_up (fun _ => none) 0 (some (q 6)))))))), ((q 6), .inr (0, [.int 0, .null, .int 0, .null, .int 0, .int 0, .int 1, .int 1, .int 0, .int 0, .int 0, .int 0]))] sz)) 0 0 (va_A [(h0, .inr (7, [.ref (q 0), .int 1, .ref (q 1), .int 0, .int 0, .ref (q 2), .int 0, .ref (q 3), .int 0, .ref (q 4), .int 0, .int 0, .ref (q 5), .int 0, .int 0])), ((q 0), .inl ((cA 0), 16, .inr (.inr (.inr (.inr (va_up (fun _ => none) 0 (some (q 6)))))))), ((q 6), .inr (0, [.int 0, .null, .int 0, .null, .int 0, .int 0, .int 1, .int 1, .int 0, .int 0, .int 0, .int 0]))] sz) := by
  refine Met.ofW (cc := cX8_makeFailure) (maxL := 3) (ret := (some .int)) (by decide) rfl ?_
  intro p e s m args below meth c s₁ B hml hv
  obtain ⟨rfl, hsz, hP, hK, hD, hN⟩ := hv
  have hx := B.exec
  have hb := B.bytes
  have hr := B.returns
  have hts := atoms_spec (ws := wsX8_makeFailure) B.pre
  have hown : s.vm.findClass RX8 = some m.cls := findClass_of_methodNamed B.named
  have hlocks := B.notSynchronized
  subst hsz
  have hD := hD.self (sz := s.heap.size)
  generalize hAe : va_A [(h0, .inr (7, [.ref (q 0), .int 1, .ref (q 1), .int 0, .int 0, .ref (q 2), .int 0, .ref (q 3), .int 0, .ref (q 4), .int 0, .int 0, .ref (q 5), .int 0, .int 0])), ((q 0), .inl ((cA 0), 16, .inr (.inr (.inr (.inr (va_up (fun _ => none) 0 (some (q 6)))))))), ((q 6), .inr (0, [.int 0, .null, .int 0, .null, .int 0, .int 0, .int 1, .int 1, .int 0, .int 0, .int 0, .int 0]))] s.heap.size = A at hD ⊢
  have hA : ∀ q : Nat, s.heap.size ≤ q → A q := fun q h => by rw [← hAe]; exact Or.inr h
  have hS : va_S A s.heap s.heap [] := va_S.rf
  have hl := lv_entry ([.ref h0, .ref (q 6)]) (n := 3) (Nat.le_of_ble_eq_true rfl)
  rw [lg_entry_eq]
  generalize (lg_sl ([.ref h0, .ref (q 6)]) ++ List.replicate (3 - (lg_sl ([.ref h0, .ref (q 6)])).length) Slot.unset).toArray = ls at hl ⊢
  have hl : lv_has ls 3 [(0, .ref h0), (1, .ref (q 6))] := hl
  refine lv_aload_n hx hb dX8_makeFailure_0 rfl (lv_at hl 1 rfl) ?_
  refine va_getN (host := "ReflectModels") (D := (dC, dI)) (own := RX8) (ref := "ReflectModels$ClassModel") (index := 86) (ci := 0) (v := .int 0) (C := RX0) (T := TX0) (N := 12) hx hb hts inX8_makeFailure_0 hown hK hP 2 rfl rfl 2 (by decide) (va_Nw.use rfl (hN _ (List.mem_of_getElem? (i := 12) rfl))) (fun _ h9 => h9) rfl dX8_makeFailure_1 ?_
  refine lv_iconst (v := 1) hx hb dX8_makeFailure_4 (by decide) ?_
  refine lv_icmp_eq (tgt := 16) hx hb dX8_makeFailure_5 (by decide) (fun h => absurd h (by decide)) (fun _ => ?_)
  refine lv_aload_n hx hb dX8_makeFailure_8 rfl (lv_at hl 1 rfl) ?_
  refine va_getN (host := "ReflectModels") (D := (dC, dI)) (own := RX8) (ref := "ReflectModels$ClassModel") (index := 86) (ci := 0) (v := .int 0) (C := RX0) (T := TX0) (N := 12) hx hb hts inX8_makeFailure_0 hown hK hP 2 rfl rfl 2 (by decide) (va_Nw.use rfl (hN _ (List.mem_of_getElem? (i := 12) rfl))) (fun _ h9 => h9) rfl dX8_makeFailure_9 ?_
  refine lv_iconst (v := 2) hx hb dX8_makeFailure_12 (by decide) ?_
  refine lv_icmp_ne (tgt := 18) hx hb dX8_makeFailure_13 (by decide) (fun _ => ?_) (fun h => absurd h (by decide))
  refine lv_aload_n hx hb dX8_makeFailure_18 rfl (lv_at hl 1 rfl) ?_
  refine va_getN (host := "ReflectModels") (D := (dC, dI)) (own := RX8) (ref := "ReflectModels$ClassModel") (index := 86) (ci := 0) (v := .int 0) (C := RX0) (T := TX0) (N := 12) hx hb hts inX8_makeFailure_0 hown hK hP 2 rfl rfl 2 (by decide) (va_Nw.use rfl (hN _ (List.mem_of_getElem? (i := 12) rfl))) (fun _ h9 => h9) rfl dX8_makeFailure_19 ?_
  refine lv_iconst (v := 3) hx hb dX8_makeFailure_22 (by decide) ?_
  refine lv_icmp_ne (tgt := 34) hx hb dX8_makeFailure_23 (by decide) (fun _ => ?_) (fun h => absurd h (by decide))
  refine lv_aload_n hx hb dX8_makeFailure_34 rfl (lv_at hl 1 rfl) ?_
  refine va_getN (host := "ReflectModels") (D := (dC, dI)) (own := RX8) (ref := "ReflectModels$ClassModel") (index := 86) (ci := 0) (v := .int 0) (C := RX0) (T := TX0) (N := 12) hx hb hts inX8_makeFailure_0 hown hK hP 2 rfl rfl 2 (by decide) (va_Nw.use rfl (hN _ (List.mem_of_getElem? (i := 12) rfl))) (fun _ h9 => h9) rfl dX8_makeFailure_35 ?_
  refine lv_if_ne (tgt := 52) hx hb dX8_makeFailure_38 (by decide) (fun h => absurd h (by decide)) (fun _ => ?_)
  refine lv_aload_n hx hb dX8_makeFailure_41 rfl (lv_at hl 0 rfl) ?_
  refine va_get (D := (dC, dI)) (own := RX8) (ref := "ReflectModels") (index := 55) (ci := 7) (v := .int 0) (C := RX8) (T := TX8) (N := 15) hx hb hts inX8_makeFailure_8 hown hK hP 0 rfl rfl 10 (by decide) (hts (.fieldLink RX8 55 "ReflectModels" "valueCount" "I") (by decide +kernel)) (fun _ h9 => h9) rfl dX8_makeFailure_42 ?_
  refine lv_if_ne (tgt := 52) hx hb dX8_makeFailure_45 (by decide) (fun h => absurd h (by decide)) (fun _ => ?_)
  refine lv_iconst (v := 1) hx hb dX8_makeFailure_48 (by decide) ?_
  refine lv_goto (tgt := 53) hx hb dX8_makeFailure_49 (by decide) ?_
  refine lv_istore_n (lv' := [(2, .int 1), (0, .ref h0), (1, .ref (q 6))]) hx hb dX8_makeFailure_53 rfl hl (by decide) rfl (fun ls hl => ?_)
  refine lv_iload_n hx hb dX8_makeFailure_54 rfl (lv_at hl 0 rfl) ?_
  refine lv_if_eq (tgt := 66) hx hb dX8_makeFailure_55 (by decide) (fun h => absurd h (by decide)) (fun _ => ?_)
  refine lv_aload_n hx hb dX8_makeFailure_58 rfl (lv_at hl 1 rfl) ?_
  refine lv_aload_n hx hb dX8_makeFailure_59 rfl (lv_at hl 2 rfl) ?_
  refine clW (wr := []) [0, 1, 2] [] (va_runV (As := [.ref (q 6)]) (rest := []) ⟨hx, hb, hml, hown, hts⟩ (c8_startFailure l dC dI h0 q cA _) (cwV 1 hts gX8_makeFailure_X8_startFailure rfl rfl rfl (by decide +kernel) ⟨Nat.le_of_ble_eq_true rfl, Nat.le_of_ble_eq_true rfl⟩) ⟨pz_blind, va_recv hK hP (ci := 7) (q0 := 0) rfl rfl, pz_of hP hK hD hN [0, 1, 2] [0] rfl (by decide) rfl⟩ rfl rfl hl.1 rfl (lv_room (Nat.le_of_ble_eq_true rfl)) dX8_makeFailure_60 ⟨Nat.le_of_ble_eq_true rfl, Nat.le_of_ble_eq_true rfl⟩) hS hP hD hK hA rfl rfl (by decide) (by decide) (fun v w1 ty1 H locs w1 hP hD hK hS => ?_)
  obtain ⟨rfl, rfl, rfl⟩ := w1
  refine W.eq (g2 := F0 m 63 ls [.int 0]) rfl ?_
  have hP : va_P (dC, dI) vwCl [(h0, .inr (7, [.ref (q 0), .int 1, .ref (q 1), .int 0, .int 0, .ref (q 2), .int 0, .ref (q 3), .int 0, .ref (q 4), .int 0, .int 0, .ref (q 5), .int 0, .int 0])), ((q 0), .inl ((cA 0), 16, .inr (.inr (.inr (.inr (va_up (fun _ => none) 0 (some (q 6)))))))), ((q 6), .inr (0, [.int 0, .null, .int 0, .null, .int 0, .int 0, .int 1, .int 1, .int 1, .int 0, .int 0, .int 0]))] H := hP
  have hD : va_D A [(h0, .inr (7, [.ref (q 0), .int 1, .ref (q 1), .int 0, .int 0, .ref (q 2), .int 0, .ref (q 3), .int 0, .ref (q 4), .int 0, .int 0, .ref (q 5), .int 0, .int 0])), ((q 0), .inl ((cA 0), 16, .inr (.inr (.inr (.inr (va_up (fun _ => none) 0 (some (q 6)))))))), ((q 6), .inr (0, [.int 0, .null, .int 0, .null, .int 0, .int 0, .int 1, .int 1, .int 1, .int 0, .int 0, .int 0]))] := hD
  have hK : va_K (dC, dI) vwCl [((cA 0), .object "ReflectModels$ClassModel")] s := hK
  refine W.cs (cells' := 0) (slots' := 0) rfl rfl ?_
  refine lv_goto (tgt := 67) hx hb dX8_makeFailure_63 (by decide) ?_
  have hP9 := hP.sub (ws' := [(h0, .inr (7, [.ref (q 0), .int 1, .ref (q 1), .int 0, .int 0, .ref (q 2), .int 0, .ref (q 3), .int 0, .ref (q 4), .int 0, .int 0, .ref (q 5), .int 0, .int 0])), ((q 0), .inl ((cA 0), 16, .inr (.inr (.inr (.inr (va_up (fun _ => none) 0 (some (q 6)))))))), ((q 6), .inr (0, [.int 0, .null, .int 0, .null, .int 0, .int 0, .int 1, .int 1, .int 1, .int 0, .int 0, .int 0]))]) [0, 1, 2] rfl
  have hD9 := hD.sub (ws' := [(h0, .inr (7, [.ref (q 0), .int 1, .ref (q 1), .int 0, .int 0, .ref (q 2), .int 0, .ref (q 3), .int 0, .ref (q 4), .int 0, .int 0, .ref (q 5), .int 0, .int 0])), ((q 0), .inl ((cA 0), 16, .inr (.inr (.inr (.inr (va_up (fun _ => none) 0 (some (q 6)))))))), ((q 6), .inr (0, [.int 0, .null, .int 0, .null, .int 0, .int 0, .int 1, .int 1, .int 1, .int 0, .int 0, .int 0]))]) [0, 1, 2] (by decide) rfl
  have hK9 := hK.sub (tys' := []) [] rfl
  exact W.zret (v := 0) (ty := .int) hx hb hr rfl (fun t ht hW => ⟨⟨(some (.int 0)), rfl, _, _, ⟨rfl, rfl, rfl⟩, by rw [ht]; exact hP9, va_K.moved hW.alike hK9, hD9⟩, hS.F ht⟩) hS.2.2 dX8_makeFailure_67

set_option maxHeartbeats 4000000 in
set_option maxRecDepth 100000 in
/-- start on a fresh object -/
theorem c8_start (l : Launch) (dC : Nat → ClassId) (dI : Nat → Nat → Nat) (h0 : Nat) (q : Nat → Nat) (cA : Nat → ClassId) (a1 : Int32) (sz : Nat)  : Met l yX8_start wsX8_start ({ frames := 2, cells := 0, slots := 0, locals := 45 }) (va_Pc [.ref h0, .int a1] (pz (dC, dI) [((cA 0), .object "ReflectModels$ClassModel"), ((cA 1), .object "ReflectModels$Member"), ((cA 2), .object "ReflectModels$Handle"), ((cA 3), .object "ReflectModels$Thing"), ((cA 4), .object "ReflectModels$Value")] [(h0, .inr (7, [.ref (q 0), .int 1, .ref (q 1), .int 0, .int 0, .ref (q 2), .int 0, .ref (q 3), .int 0, .ref (q 4), .int 0, .int 0, .ref (q 5), .int 0, .int 0])), ((q 0), .inl ((cA 0), 16, .inr (.inr (.inr (.inr (va_up (fun _ => none) 0 (some (q 6)))))))), ((q 1), .inl ((cA 1), 40, .inr (.inr (.inr (.inr (fun _ => none)))))), ((q 2), .inl ((cA 2), 60, .inr (.inr (.inr (.inr (fun _ => none)))))), ((q 3), .inl ((cA 3), 124, .inr (.inr (.inr (.inr (fun _ => none)))))), ((q 4), .inl ((cA 4), 3, .inr (.inr (.inr (.inr (va_up (va_up (va_up (fun _ => none) 0 (some (q 7))) 1 (some (q 8))) 2 (some (q 9)))))))), ((q 5), .inr (6, [.int 0, .long 0])), ((q 6), .inr (0, [.int 0, .null, .int 0, .null, .int 0, .int 0, .int 1, .int 1, .int 0, .int 0, .int 0, .int 0])), ((q 7), .inr (6, [.int 0, .long 0])), ((q 8), .inr (6, [.int 0, .long 0])), ((q 9), .inr (6, [.int 0, .long 0]))] sz)) (qW (dC, dI) (fun v w1 ty1 => v = some (.int (an_start a1.toInt)) ∧ w1 = [] ∧ ty1 = []) (va_A [(h0, .inr (7, [.ref (q 0), .int 1, .ref (q 1), .int 0, .int 0, .ref (q 2), .int 0, .ref (q 3), .int 0, .ref (q 4), .int 0, .int 0, .ref (q 5), .int 0, .int 0])), ((q 0), .inl ((cA 0), 16, .inr (.inr (.inr (.inr (va_up (fun _ => none) 0 (some (q 6)))))))), ((q 1), .inl ((cA 1), 40, .inr (.inr (.inr (.inr (fun _ => none)))))), ((q 2), .inl ((cA 2), 60, .inr (.inr (.inr (.inr (fun _ => none)))))), ((q 3), .inl ((cA 3), 124, .inr (.inr (.inr (.inr (fun _ => none)))))), ((q 4), .inl ((cA 4), 3, .inr (.inr (.inr (.inr (va_up (va_up (va_up (fun _ => none) 0 (some (q 7))) 1 (some (q 8))) 2 (some (q 9)))))))), ((q 5), .inr (6, [.int 0, .long 0])), ((q 6), .inr (0, [.int 0, .null, .int 0, .null, .int 0, .int 0, .int 1, .int 1, .int 0, .int 0, .int 0, .int 0])), ((q 7), .inr (6, [.int 0, .long 0])), ((q 8), .inr (6, [.int 0, .long 0])), ((q 9), .inr (6, [.int 0, .long 0]))] sz)) 0 0 (va_A [(h0, .inr (7, [.ref (q 0), .int 1, .ref (q 1), .int 0, .int 0, .ref (q 2), .int 0, .ref (q 3), .int 0, .ref (q 4), .int 0, .int 0, .ref (q 5), .int 0, .int 0])), ((q 0), .inl ((cA 0), 16, .inr (.inr (.inr (.inr (va_up (fun _ => none) 0 (some (q 6)))))))), ((q 1), .inl ((cA 1), 40, .inr (.inr (.inr (.inr (fun _ => none)))))), ((q 2), .inl ((cA 2), 60, .inr (.inr (.inr (.inr (fun _ => none)))))), ((q 3), .inl ((cA 3), 124, .inr (.inr (.inr (.inr (fun _ => none)))))), ((q 4), .inl ((cA 4), 3, .inr (.inr (.inr (.inr (va_up (va_up (va_up (fun _ => none) 0 (some (q 7))) 1 (some (q 8))) 2 (some (q 9)))))))), ((q 5), .inr (6, [.int 0, .long 0])), ((q 6), .inr (0, [.int 0, .null, .int 0, .null, .int 0, .int 0, .int 1, .int 1, .int 0, .int 0, .int 0, .int 0])), ((q 7), .inr (6, [.int 0, .long 0])), ((q 8), .inr (6, [.int 0, .long 0])), ((q 9), .inr (6, [.int 0, .long 0]))] sz) := by
  refine Met.ofW (cc := cX8_start) (maxL := 3) (ret := (some .int)) (by decide) rfl ?_
  intro p e s m args below meth c s₁ B hml hv
  obtain ⟨rfl, hsz, hP, hK, hD, hN⟩ := hv
  have hx := B.exec
  have hb := B.bytes
  have hr := B.returns
  have hts := atoms_spec (ws := wsX8_start) B.pre
  have hown : s.vm.findClass RX8 = some m.cls := findClass_of_methodNamed B.named
  have hlocks := B.notSynchronized
  subst hsz
  have hD := hD.self (sz := s.heap.size)
  generalize hAe : va_A [(h0, .inr (7, [.ref (q 0), .int 1, .ref (q 1), .int 0, .int 0, .ref (q 2), .int 0, .ref (q 3), .int 0, .ref (q 4), .int 0, .int 0, .ref (q 5), .int 0, .int 0])), ((q 0), .inl ((cA 0), 16, .inr (.inr (.inr (.inr (va_up (fun _ => none) 0 (some (q 6)))))))), ((q 1), .inl ((cA 1), 40, .inr (.inr (.inr (.inr (fun _ => none)))))), ((q 2), .inl ((cA 2), 60, .inr (.inr (.inr (.inr (fun _ => none)))))), ((q 3), .inl ((cA 3), 124, .inr (.inr (.inr (.inr (fun _ => none)))))), ((q 4), .inl ((cA 4), 3, .inr (.inr (.inr (.inr (va_up (va_up (va_up (fun _ => none) 0 (some (q 7))) 1 (some (q 8))) 2 (some (q 9)))))))), ((q 5), .inr (6, [.int 0, .long 0])), ((q 6), .inr (0, [.int 0, .null, .int 0, .null, .int 0, .int 0, .int 1, .int 1, .int 0, .int 0, .int 0, .int 0])), ((q 7), .inr (6, [.int 0, .long 0])), ((q 8), .inr (6, [.int 0, .long 0])), ((q 9), .inr (6, [.int 0, .long 0]))] s.heap.size = A at hD ⊢
  have hA : ∀ q : Nat, s.heap.size ≤ q → A q := fun q h => by rw [← hAe]; exact Or.inr h
  have hS : va_S A s.heap s.heap [] := va_S.rf
  have hl := lv_entry ([.ref h0, .int a1]) (n := 3) (Nat.le_of_ble_eq_true rfl)
  rw [lg_entry_eq]
  generalize (lg_sl ([.ref h0, .int a1]) ++ List.replicate (3 - (lg_sl ([.ref h0, .int a1])).length) Slot.unset).toArray = ls at hl ⊢
  have hl : lv_has ls 3 [(0, .ref h0), (1, .int a1)] := hl
  refine lv_aload_n hx hb dX8_start_0 rfl (lv_at hl 0 rfl) ?_
  refine lv_iload_n hx hb dX8_start_1 rfl (lv_at hl 1 rfl) ?_
  refine clR (va_runV (As := [.int a1]) (rest := []) ⟨hx, hb, hml, hown, hts⟩ (c8_isClass l dC dI h0 q a1 _) (cwV 1 hts gX8_start_X8_isClass rfl rfl rfl (by decide +kernel) ⟨Nat.le_of_ble_eq_true rfl, Nat.le_of_ble_eq_true rfl⟩) ⟨pz_blind, va_recv hK hP (ci := 7) (q0 := 0) rfl rfl, pz_of hP hK hD hN [0] [] rfl (by decide) rfl⟩ rfl rfl hl.1 rfl (lv_room (Nat.le_of_ble_eq_true rfl)) dX8_start_2 ⟨Nat.le_of_ble_eq_true rfl, Nat.le_of_ble_eq_true rfl⟩) hS hP (fun v H locs w2 hP hS => ?_)
  rcases w2 with ⟨rfl, rfl⟩ | ⟨rfl, u1⟩
  · refine W.eq (g2 := F0 m 5 ls [.int 1]) rfl ?_
    refine lv_if_ne (tgt := 11) hx hb dX8_start_5 (by decide) (fun _ => ?_) (fun h => absurd h (by decide))
    refine lv_aload_n hx hb dX8_start_11 rfl (lv_at hl 0 rfl) ?_
    refine lv_aload_n hx hb dX8_start_12 rfl (lv_at hl 0 rfl) ?_
    refine va_get (D := (dC, dI)) (own := RX8) (ref := "ReflectModels") (index := 11) (ci := 7) (v := .ref (q 0)) (C := RX8) (T := TX8) (N := 15) hx hb hts inX8_start_8 hown hK hP 0 rfl rfl 0 (by decide) (hts (.fieldLink RX8 11 "ReflectModels" "classes" "[LReflectModels$ClassModel;") (by decide +kernel)) (fun _ h9 => h9) rfl dX8_start_13 ?_
    refine lv_iload_n hx hb dX8_start_16 rfl (lv_at hl 1 rfl) ?_
    refine va_aldq hx hb hK hP 1 0 rfl rfl (vp_in_iff.mpr ⟨by decide, by decide⟩) dX8_start_17 ?_
    refine W.eq (g2 := F0 m 18 ls [.ref (q 6), .ref h0]) rfl ?_
    refine clW (wr := [((q 1), .inl ((cA 1), 40, .inr (.inr (.inr (.inr (fun _ => none)))))), ((q 2), .inl ((cA 2), 60, .inr (.inr (.inr (.inr (fun _ => none)))))), ((q 3), .inl ((cA 3), 124, .inr (.inr (.inr (.inr (fun _ => none)))))), ((q 4), .inl ((cA 4), 3, .inr (.inr (.inr (.inr (va_up (va_up (va_up (fun _ => none) 0 (some (q 7))) 1 (some (q 8))) 2 (some (q 9)))))))), ((q 5), .inr (6, [.int 0, .long 0])), ((q 7), .inr (6, [.int 0, .long 0])), ((q 8), .inr (6, [.int 0, .long 0])), ((q 9), .inr (6, [.int 0, .long 0]))]) [0, 1, 7] [2, 3, 4, 5, 6, 8, 9, 10] (va_runV (As := [.ref (q 6)]) (rest := []) ⟨hx, hb, hml, hown, hts⟩ (c8_startFailure l dC dI h0 q cA _) (cwV 1 hts gX8_start_X8_startFailure rfl rfl rfl (by decide +kernel) ⟨Nat.le_of_ble_eq_true rfl, Nat.le_of_ble_eq_true rfl⟩) ⟨pz_blind, va_recv hK hP (ci := 7) (q0 := 0) rfl rfl, pz_of hP hK hD hN [0, 1, 7] [0] rfl (by decide) rfl⟩ rfl rfl hl.1 rfl (lv_room (Nat.le_of_ble_eq_true rfl)) dX8_start_18 ⟨Nat.le_of_ble_eq_true rfl, Nat.le_of_ble_eq_true rfl⟩) hS hP hD hK hA rfl rfl (by decide) (by decide) (fun v w1 ty1 H locs w3 hP hD hK hS => ?_)
    obtain ⟨rfl, rfl, rfl⟩ := w3
    refine W.eq (g2 := F0 m 21 ls [.int 0]) rfl ?_
    have hP : va_P (dC, dI) vwCl [((q 1), .inl ((cA 1), 40, .inr (.inr (.inr (.inr (fun _ => none)))))), ((q 2), .inl ((cA 2), 60, .inr (.inr (.inr (.inr (fun _ => none)))))), ((q 3), .inl ((cA 3), 124, .inr (.inr (.inr (.inr (fun _ => none)))))), ((q 4), .inl ((cA 4), 3, .inr (.inr (.inr (.inr (va_up (va_up (va_up (fun _ => none) 0 (some (q 7))) 1 (some (q 8))) 2 (some (q 9)))))))), ((q 5), .inr (6, [.int 0, .long 0])), ((q 7), .inr (6, [.int 0, .long 0])), ((q 8), .inr (6, [.int 0, .long 0])), ((q 9), .inr (6, [.int 0, .long 0])), (h0, .inr (7, [.ref (q 0), .int 1, .ref (q 1), .int 0, .int 0, .ref (q 2), .int 0, .ref (q 3), .int 0, .ref (q 4), .int 0, .int 0, .ref (q 5), .int 0, .int 0])), ((q 0), .inl ((cA 0), 16, .inr (.inr (.inr (.inr (va_up (fun _ => none) 0 (some (q 6)))))))), ((q 6), .inr (0, [.int 0, .null, .int 0, .null, .int 0, .int 0, .int 1, .int 1, .int 1, .int 0, .int 0, .int 0]))] H := hP
    have hD : va_D A [((q 1), .inl ((cA 1), 40, .inr (.inr (.inr (.inr (fun _ => none)))))), ((q 2), .inl ((cA 2), 60, .inr (.inr (.inr (.inr (fun _ => none)))))), ((q 3), .inl ((cA 3), 124, .inr (.inr (.inr (.inr (fun _ => none)))))), ((q 4), .inl ((cA 4), 3, .inr (.inr (.inr (.inr (va_up (va_up (va_up (fun _ => none) 0 (some (q 7))) 1 (some (q 8))) 2 (some (q 9)))))))), ((q 5), .inr (6, [.int 0, .long 0])), ((q 7), .inr (6, [.int 0, .long 0])), ((q 8), .inr (6, [.int 0, .long 0])), ((q 9), .inr (6, [.int 0, .long 0])), (h0, .inr (7, [.ref (q 0), .int 1, .ref (q 1), .int 0, .int 0, .ref (q 2), .int 0, .ref (q 3), .int 0, .ref (q 4), .int 0, .int 0, .ref (q 5), .int 0, .int 0])), ((q 0), .inl ((cA 0), 16, .inr (.inr (.inr (.inr (va_up (fun _ => none) 0 (some (q 6)))))))), ((q 6), .inr (0, [.int 0, .null, .int 0, .null, .int 0, .int 0, .int 1, .int 1, .int 1, .int 0, .int 0, .int 0]))] := hD
    have hK : va_K (dC, dI) vwCl [((cA 0), .object "ReflectModels$ClassModel"), ((cA 1), .object "ReflectModels$Member"), ((cA 2), .object "ReflectModels$Handle"), ((cA 3), .object "ReflectModels$Thing"), ((cA 4), .object "ReflectModels$Value")] s := hK
    refine W.cs (cells' := 0) (slots' := 0) rfl rfl ?_
    refine lv_istore_n (lv' := [(2, .int 0), (0, .ref h0), (1, .int 0)]) hx hb dX8_start_21 rfl hl (by decide) rfl (fun ls hl => ?_)
    refine lv_iload_n hx hb dX8_start_22 rfl (lv_at hl 0 rfl) ?_
    refine lv_if_eq (tgt := 34) hx hb dX8_start_23 (by decide) (fun _ => ?_) (fun h => absurd (by decide) h)
    refine lv_iconst (v := 1) hx hb dX8_start_34 (by decide) ?_
    have hP9 := hP.sub (ws' := []) [] rfl
    have hD9 := hD.sub (ws' := []) [] (by decide) rfl
    have hK9 := hK.sub (tys' := []) [] rfl
    exact W.zret (v := 1) (ty := .int) hx hb hr rfl (fun t ht hW => ⟨⟨(some (.int 1)), rfl, _, _, ⟨congrArg (fun z => some (Value.int z)) (by unfold an_start; (repeat' split) <;> first | rfl | (exfalso; first | omega | (have kq := kz; omega))), rfl, rfl⟩, by rw [ht]; exact hP9, va_K.moved hW.alike hK9, hD9⟩, hS.F ht⟩) hS.2.2 dX8_start_35
  · refine W.eq (g2 := F0 m 5 ls [.int 0]) rfl ?_
    refine lv_if_ne (tgt := 11) hx hb dX8_start_5 (by decide) (fun h => absurd h (by decide)) (fun _ => ?_)
    refine lv_bipush (v := (-2)) hx hb dX8_start_8 (by decide) ?_
    have hP9 := hP.sub (ws' := []) [] rfl
    have hD9 := hD.sub (ws' := []) [] (by decide) rfl
    have hK9 := hK.sub (tys' := []) [] rfl
    exact W.zret (v := (-2)) (ty := .int) hx hb hr rfl (fun t ht hW => ⟨⟨(some (.int (-2))), rfl, _, _, ⟨congrArg (fun z => some (Value.int z)) (by unfold an_start; (repeat' split) <;> first | rfl | (exfalso; first | omega | (have kq := kz; omega))), rfl, rfl⟩, by rw [ht]; exact hP9, va_K.moved hW.alike hK9, hD9⟩, hS.F ht⟩) hS.2.2 dX8_start_10

set_option maxHeartbeats 4000000 in
set_option maxRecDepth 100000 in
theorem c8_firstSlots (l : Launch) (dC : Nat → ClassId) (dI : Nat → Nat → Nat) (h0 : Nat) (q : Nat → Nat) (sz : Nat)  : Met l yX8_firstSlots wsX8_firstSlots ({ frames := 0, cells := 1, slots := 0, locals := 0 }) (va_Pc [.ref h0] (pz (dC, dI) [] [(h0, .inr (7, [.ref (q 0), .int 1, .ref (q 1), .int 0, .int 0, .ref (q 2), .int 0, .ref (q 3), .int 0, .ref (q 4), .int 0, .int 0, .ref (q 5), .int 0, .int 0]))] sz)) (qW (dC, dI) (fun v w1 ty1 => ∃ (t1 : Nat) (k1 : ClassId), v = some (.ref t1) ∧ w1 = [(h0, .inr (7, [.ref (q 0), .int 1, .ref (q 1), .int 0, .int 0, .ref (q 2), .int 0, .ref (q 3), .int 0, .ref (q 4), .int 0, .int 0, .ref (q 5), .int 0, .int 0])), (t1, .inl (k1, 0, .inr (.inl (fun _ => 0))))] ∧ ty1 = [(k1, .long)]) (va_A [(h0, .inr (7, [.ref (q 0), .int 1, .ref (q 1), .int 0, .int 0, .ref (q 2), .int 0, .ref (q 3), .int 0, .ref (q 4), .int 0, .int 0, .ref (q 5), .int 0, .int 0]))] sz)) 1 0 (va_A [(h0, .inr (7, [.ref (q 0), .int 1, .ref (q 1), .int 0, .int 0, .ref (q 2), .int 0, .ref (q 3), .int 0, .ref (q 4), .int 0, .int 0, .ref (q 5), .int 0, .int 0]))] sz) := by
  refine Met.ofW (cc := cX8_firstSlots) (maxL := 5) (ret := (some (.array .long))) (by decide) rfl ?_
  intro p e s m args below meth c s₁ B hml hv
  obtain ⟨rfl, hsz, hP, hK, hD, hN⟩ := hv
  have hx := B.exec
  have hb := B.bytes
  have hr := B.returns
  have hts := atoms_spec (ws := wsX8_firstSlots) B.pre
  have hown : s.vm.findClass RX8 = some m.cls := findClass_of_methodNamed B.named
  have hlocks := B.notSynchronized
  subst hsz
  have hD := hD.self (sz := s.heap.size)
  generalize hAe : va_A [(h0, .inr (7, [.ref (q 0), .int 1, .ref (q 1), .int 0, .int 0, .ref (q 2), .int 0, .ref (q 3), .int 0, .ref (q 4), .int 0, .int 0, .ref (q 5), .int 0, .int 0]))] s.heap.size = A at hD ⊢
  have hA : ∀ q : Nat, s.heap.size ≤ q → A q := fun q h => by rw [← hAe]; exact Or.inr h
  have hS : va_S A s.heap s.heap [] := va_S.rf
  have hl := lv_entry ([.ref h0]) (n := 5) (Nat.le_of_ble_eq_true rfl)
  rw [lg_entry_eq]
  generalize (lg_sl ([.ref h0]) ++ List.replicate (5 - (lg_sl ([.ref h0])).length) Slot.unset).toArray = ls at hl ⊢
  have hl : lv_has ls 5 [(0, .ref h0)] := hl
  refine lv_aload_n hx hb dX8_firstSlots_0 rfl (lv_at hl 0 rfl) ?_
  refine va_get (D := (dC, dI)) (own := RX8) (ref := "ReflectModels") (index := 28) (ci := 7) (v := .int 0) (C := RX8) (T := TX8) (N := 15) hx hb hts inX8_firstSlots_8 hown hK hP 0 rfl rfl 4 (by decide) (hts (.fieldLink RX8 28 "ReflectModels" "slotCount" "I") (by decide +kernel)) (fun _ h9 => h9) rfl dX8_firstSlots_1 ?_
  refine va_newa (atype := .long) (ty := .long) (a0 := (0, .inr (.inl (fun _ => 0)))) (N' := 0) hx hb (hts (.arrayClass .long) (by decide +kernel)) rfl hK hP hD hS hA (fun _ => rfl) (by decide) (by decide) (by decide) (Nat.le_of_ble_eq_true rfl) (Nat.le_of_ble_eq_true rfl) dX8_firstSlots_4 (fun q1 cA2 H hK hP hD hS => ?_)
  have hP : va_P (dC, dI) vwCl [(h0, .inr (7, [.ref (q 0), .int 1, .ref (q 1), .int 0, .int 0, .ref (q 2), .int 0, .ref (q 3), .int 0, .ref (q 4), .int 0, .int 0, .ref (q 5), .int 0, .int 0])), (q1, .inl (cA2, 0, .inr (.inl (fun _ => 0))))] H := hP
  have hD : va_D A [(h0, .inr (7, [.ref (q 0), .int 1, .ref (q 1), .int 0, .int 0, .ref (q 2), .int 0, .ref (q 3), .int 0, .ref (q 4), .int 0, .int 0, .ref (q 5), .int 0, .int 0])), (q1, .inl (cA2, 0, .inr (.inl (fun _ => 0))))] := hD
  have hK : va_K (dC, dI) vwCl [(cA2, .long)] s := hK
  refine W.cs (cells' := 1) (slots' := 0) rfl rfl ?_
  refine lv_astore_n (lv' := [(1, .ref q1), (0, .ref h0)]) hx hb dX8_firstSlots_6 rfl hl (by decide) rfl (fun ls hl => ?_)
  refine lv_iconst (v := 0) hx hb dX8_firstSlots_7 (by decide) ?_
  refine lv_istore_n (lv' := [(2, .int 0), (1, .ref q1), (0, .ref h0)]) hx hb dX8_firstSlots_8 rfl hl (by decide) rfl (fun ls hl => ?_)
  refine lv_iload_n hx hb dX8_firstSlots_9 rfl (lv_at hl 0 rfl) ?_
  refine lv_aload_n hx hb dX8_firstSlots_10 rfl (lv_at hl 2 rfl) ?_
  refine va_get (D := (dC, dI)) (own := RX8) (ref := "ReflectModels") (index := 25) (ci := 7) (v := .int 0) (C := RX8) (T := TX8) (N := 15) hx hb hts inX8_firstSlots_8 hown hK hP 0 rfl rfl 3 (by decide) (hts (.fieldLink RX8 25 "ReflectModels" "memberCount" "I") (by decide +kernel)) (fun _ h9 => h9) rfl dX8_firstSlots_11 ?_
  refine lv_icmp_ge (tgt := 71) hx hb dX8_firstSlots_14 (by decide) (fun _ => ?_) (fun h => absurd (by decide) h)
  refine lv_aload_n hx hb dX8_firstSlots_71 rfl (lv_at hl 1 rfl) ?_
  have hP9 := hP.sub (ws' := [(h0, .inr (7, [.ref (q 0), .int 1, .ref (q 1), .int 0, .int 0, .ref (q 2), .int 0, .ref (q 3), .int 0, .ref (q 4), .int 0, .int 0, .ref (q 5), .int 0, .int 0])), (q1, .inl (cA2, 0, .inr (.inl (fun _ => 0))))]) [0, 1] rfl
  have hD9 := hD.sub (ws' := [(h0, .inr (7, [.ref (q 0), .int 1, .ref (q 1), .int 0, .int 0, .ref (q 2), .int 0, .ref (q 3), .int 0, .ref (q 4), .int 0, .int 0, .ref (q 5), .int 0, .int 0])), (q1, .inl (cA2, 0, .inr (.inl (fun _ => 0))))]) [0, 1] (by decide) rfl
  have hK9 := hK.sub (tys' := [(cA2, .long)]) [0] rfl
  exact W.aret (v := .ref q1) hx hb hr (Or.inr ⟨_, rfl⟩) (Or.inr ⟨_, rfl⟩) (fun t ht hW => ⟨⟨(some (.ref q1)), rfl, _, _, ⟨_, _, rfl, rfl, rfl⟩, by rw [ht]; exact hP9, va_K.moved hW.alike hK9, hD9⟩, hS.F ht⟩) hS.2.2 dX8_firstSlots_72

set_option maxHeartbeats 4000000 in
set_option maxRecDepth 100000 in
theorem c6_init (l : Launch) (dC : Nat → ClassId) (dI : Nat → Nat → Nat) (h1 r1 t1 : Nat) (sz : Nat)  : Met l yX6_init wsX6_init ({ frames := 1, cells := 0, slots := 0, locals := 12 }) (va_Pc [.ref h1, .ref r1, .null, .int (-1), .ref t1] (pz (dC, dI) [] [(h1, .inr (5, [.null, .int 0, .null, .int 0, .int 0])), (r1, .inr (0, [.int 0, .null, .int 0, .null, .int 0, .int 0, .int 1, .int 1, .int 1, .int 0, .int 0, .int 0]))] sz)) (qW (dC, dI) (fun v w1 ty1 => v = none ∧ w1 = [(h1, .inr (5, [.ref r1, .int (-1), .ref t1, .int 1, .int 0])), (r1, .inr (0, [.int 0, .null, .int 0, .null, .int 0, .int 0, .int 1, .int 1, .int 1, .int 0, .int 0, .int 0]))] ∧ ty1 = []) (va_A [(h1, .inr (5, [.null, .int 0, .null, .int 0, .int 0])), (r1, .inr (0, [.int 0, .null, .int 0, .null, .int 0, .int 0, .int 1, .int 1, .int 1, .int 0, .int 0, .int 0]))] sz)) 0 0 (va_A [(h1, .inr (5, [.null, .int 0, .null, .int 0, .int 0])), (r1, .inr (0, [.int 0, .null, .int 0, .null, .int 0, .int 0, .int 1, .int 1, .int 1, .int 0, .int 0, .int 0]))] sz) := by
  refine Met.ofW (cc := cX6_init) (maxL := 5) (ret := none) (by decide) rfl ?_
  intro p e s m args below meth c s₁ B hml hv
  obtain ⟨rfl, hsz, hP, hK, hD, hN⟩ := hv
  have hx := B.exec
  have hb := B.bytes
  have hr := B.returns
  have hts := atoms_spec (ws := wsX6_init) B.pre
  have hown : s.vm.findClass RX6 = some m.cls := findClass_of_methodNamed B.named
  have hlocks := B.notSynchronized
  have hin : meth.name = "<init>" := (name_of_methodNamed B.named B.method).1
  subst hsz
  have hD := hD.self (sz := s.heap.size)
  generalize hAe : va_A [(h1, .inr (5, [.null, .int 0, .null, .int 0, .int 0])), (r1, .inr (0, [.int 0, .null, .int 0, .null, .int 0, .int 0, .int 1, .int 1, .int 1, .int 0, .int 0, .int 0]))] s.heap.size = A at hD ⊢
  have hA : ∀ q : Nat, s.heap.size ≤ q → A q := fun q h => by rw [← hAe]; exact Or.inr h
  have hS : va_S A s.heap s.heap [] := va_S.rf
  have hl := lv_entry ([.ref h1, .ref r1, .null, .int (-1), .ref t1]) (n := 5) (Nat.le_of_ble_eq_true rfl)
  rw [lg_entry_eq]
  generalize (lg_sl ([.ref h1, .ref r1, .null, .int (-1), .ref t1]) ++ List.replicate (5 - (lg_sl ([.ref h1, .ref r1, .null, .int (-1), .ref t1])).length) Slot.unset).toArray = ls at hl ⊢
  have hl : lv_has ls 5 [(0, .ref h1), (1, .ref r1), (2, .null), (3, .int (-1)), (4, .ref t1)] := hl
  refine lv_aload_n hx hb dX6_init_0 rfl (lv_at hl 0 rfl) ?_
  refine W.objInit hx hb hown (hts (.methodLink RX6 1 objectInit) (by decide +kernel)) (hts (.instanceMethod objectInit) (by decide +kernel)) (hts (.code objectInit ⟨#[0xb1]⟩ 1 none) (by decide +kernel)) rfl (by rw [hml]; exact hl.1) rfl dX6_init_1 (Nat.le_of_ble_eq_true rfl) (Nat.le_of_ble_eq_true rfl) ?_
  refine W.eq (g2 := F0 m 4 ls []) rfl ?_
  refine lv_aload_n hx hb dX6_init_4 rfl (lv_at hl 0 rfl) ?_
  refine lv_iconst (v := 0) hx hb dX6_init_5 (by decide) ?_
  refine va_put (D := (dC, dI)) (own := RX6) (ref := "ReflectModels$Thing") (index := 7) (ci := 5) (v := .int 0) (ty := .int) (C := RX6) (T := TX6) (N := 5) hx hb hts inX6_init_6 tyX6 tyX6_ok nmX6 hown hK hP hD hS 0 rfl rfl 4 (by decide) (hts (.fieldLink RX6 7 "ReflectModels$Thing" "asked" "I") (by decide +kernel)) (fun _ h9 => h9) rfl (by decide +kernel) rfl rfl (Nat.le_of_ble_eq_true rfl) dX6_init_6 (fun H locs hP hD hS => ?_)
  have hP : va_P (dC, dI) vwCl [(h1, .inr (5, [.null, .int 0, .null, .int 0, .int 0])), (r1, .inr (0, [.int 0, .null, .int 0, .null, .int 0, .int 0, .int 1, .int 1, .int 1, .int 0, .int 0, .int 0]))] H := hP
  have hD : va_D A [(h1, .inr (5, [.null, .int 0, .null, .int 0, .int 0])), (r1, .inr (0, [.int 0, .null, .int 0, .null, .int 0, .int 0, .int 1, .int 1, .int 1, .int 0, .int 0, .int 0]))] := hD
  refine lv_aload_n hx hb dX6_init_9 rfl (lv_at hl 0 rfl) ?_
  refine lv_aload_n hx hb dX6_init_10 rfl (lv_at hl 1 rfl) ?_
  refine va_putF (D := (dC, dI)) (own := RX6) (ref := "ReflectModels$Thing") (index := 13) (ci := 5) (v := .ref r1) (ty := .object "ReflectModels$ClassModel") (C := RX6) (T := TX6) (N := 5) hx hb hts inX6_init_6 tyX6 tyX6_ok nmX6 hown hK hP hD hS 0 rfl rfl 0 (by decide) (hts (.fieldLink RX6 13 "ReflectModels$Thing" "model" "LReflectModels$ClassModel;") (by decide +kernel)) (fun _ h9 => h9) rfl hin rfl (by decide +kernel) rfl rfl (Nat.le_of_ble_eq_true rfl) dX6_init_11 (fun H locs hP hD hS => ?_)
  have hP : va_P (dC, dI) vwCl [(h1, .inr (5, [.ref r1, .int 0, .null, .int 0, .int 0])), (r1, .inr (0, [.int 0, .null, .int 0, .null, .int 0, .int 0, .int 1, .int 1, .int 1, .int 0, .int 0, .int 0]))] H := hP
  have hD : va_D A [(h1, .inr (5, [.ref r1, .int 0, .null, .int 0, .int 0])), (r1, .inr (0, [.int 0, .null, .int 0, .null, .int 0, .int 0, .int 1, .int 1, .int 1, .int 0, .int 0, .int 0]))] := hD
  refine lv_aload_n hx hb dX6_init_14 rfl (lv_at hl 0 rfl) ?_
  refine lv_iload_n hx hb dX6_init_15 rfl (lv_at hl 3 rfl) ?_
  refine va_putF (D := (dC, dI)) (own := RX6) (ref := "ReflectModels$Thing") (index := 17) (ci := 5) (v := .int (-1)) (ty := .int) (C := RX6) (T := TX6) (N := 5) hx hb hts inX6_init_6 tyX6 tyX6_ok nmX6 hown hK hP hD hS 0 rfl rfl 1 (by decide) (hts (.fieldLink RX6 17 "ReflectModels$Thing" "handler" "I") (by decide +kernel)) (fun _ h9 => h9) rfl hin rfl (by decide +kernel) rfl rfl (Nat.le_of_ble_eq_true rfl) dX6_init_16 (fun H locs hP hD hS => ?_)
  have hP : va_P (dC, dI) vwCl [(h1, .inr (5, [.ref r1, .int (-1), .null, .int 0, .int 0])), (r1, .inr (0, [.int 0, .null, .int 0, .null, .int 0, .int 0, .int 1, .int 1, .int 1, .int 0, .int 0, .int 0]))] H := hP
  have hD : va_D A [(h1, .inr (5, [.ref r1, .int (-1), .null, .int 0, .int 0])), (r1, .inr (0, [.int 0, .null, .int 0, .null, .int 0, .int 0, .int 1, .int 1, .int 1, .int 0, .int 0, .int 0]))] := hD
  refine lv_aload_n hx hb dX6_init_19 rfl (lv_at hl 0 rfl) ?_
  refine lv_aload hx hb dX6_init_20 (lv_at hl 4 rfl) ?_
  refine va_putF (D := (dC, dI)) (own := RX6) (ref := "ReflectModels$Thing") (index := 20) (ci := 5) (v := .ref t1) (ty := .array .long) (C := RX6) (T := TX6) (N := 5) hx hb hts inX6_init_6 tyX6 tyX6_ok nmX6 hown hK hP hD hS 0 rfl rfl 2 (by decide) (hts (.fieldLink RX6 20 "ReflectModels$Thing" "slots" "[J") (by decide +kernel)) (fun _ h9 => h9) rfl hin rfl (by decide +kernel) rfl rfl (Nat.le_of_ble_eq_true rfl) dX6_init_22 (fun H locs hP hD hS => ?_)
  have hP : va_P (dC, dI) vwCl [(h1, .inr (5, [.ref r1, .int (-1), .ref t1, .int 0, .int 0])), (r1, .inr (0, [.int 0, .null, .int 0, .null, .int 0, .int 0, .int 1, .int 1, .int 1, .int 0, .int 0, .int 0]))] H := hP
  have hD : va_D A [(h1, .inr (5, [.ref r1, .int (-1), .ref t1, .int 0, .int 0])), (r1, .inr (0, [.int 0, .null, .int 0, .null, .int 0, .int 0, .int 1, .int 1, .int 1, .int 0, .int 0, .int 0]))] := hD
  refine lv_aload_n hx hb dX6_init_25 rfl (lv_at hl 0 rfl) ?_
  refine lv_aload_n hx hb dX6_init_26 rfl (lv_at hl 1 rfl) ?_
  refine va_getN (host := "ReflectModels") (D := (dC, dI)) (own := RX6) (ref := "ReflectModels$ClassModel") (index := 24) (ci := 0) (v := .int 1) (C := RX0) (T := TX0) (N := 12) hx hb hts inX6_init_0 hown hK hP 1 rfl rfl 7 (by decide) (va_Nw.use rfl (hN _ (List.mem_of_getElem? (i := 16) rfl))) (fun _ h9 => h9) rfl dX6_init_27 ?_
  refine lv_aload_nN hx hb dX6_init_30 rfl (lv_at hl 2 rfl) ?_
  refine lv_ifnonnullN hx hb dX6_init_31 ?_
  refine lv_iconst (v := 0) hx hb dX6_init_34 (by decide) ?_
  refine lv_goto (tgt := 42) hx hb dX6_init_35 (by decide) ?_
  refine lv_ior hx hb dX6_init_42 ?_
  refine lv_topi (fun y1 ey1 => ?_)
  obtain rfl : y1 = 1 := ey1.trans (by decide)
  refine va_putF (D := (dC, dI)) (own := RX6) (ref := "ReflectModels$Thing") (index := 29) (ci := 5) (v := .int 1) (ty := .int) (C := RX6) (T := TX6) (N := 5) hx hb hts inX6_init_6 tyX6 tyX6_ok nmX6 hown hK hP hD hS 0 rfl rfl 3 (by decide) (hts (.fieldLink RX6 29 "ReflectModels$Thing" "all" "I") (by decide +kernel)) (fun _ h9 => h9) rfl hin rfl (by decide +kernel) rfl rfl (Nat.le_of_ble_eq_true rfl) dX6_init_43 (fun H locs hP hD hS => ?_)
  have hP : va_P (dC, dI) vwCl [(h1, .inr (5, [.ref r1, .int (-1), .ref t1, .int 1, .int 0])), (r1, .inr (0, [.int 0, .null, .int 0, .null, .int 0, .int 0, .int 1, .int 1, .int 1, .int 0, .int 0, .int 0]))] H := hP
  have hD : va_D A [(h1, .inr (5, [.ref r1, .int (-1), .ref t1, .int 1, .int 0])), (r1, .inr (0, [.int 0, .null, .int 0, .null, .int 0, .int 0, .int 1, .int 1, .int 1, .int 0, .int 0, .int 0]))] := hD
  have hP9 := hP.sub (ws' := [(h1, .inr (5, [.ref r1, .int (-1), .ref t1, .int 1, .int 0])), (r1, .inr (0, [.int 0, .null, .int 0, .null, .int 0, .int 0, .int 1, .int 1, .int 1, .int 0, .int 0, .int 0]))]) [0, 1] rfl
  have hD9 := hD.sub (ws' := [(h1, .inr (5, [.ref r1, .int (-1), .ref t1, .int 1, .int 0])), (r1, .inr (0, [.int 0, .null, .int 0, .null, .int 0, .int 0, .int 1, .int 1, .int 1, .int 0, .int 0, .int 0]))]) [0, 1] (by decide) rfl
  have hK9 := hK.sub (tys' := []) [] rfl
  exact W.vret hx hb hr (fun t ht hW => ⟨⟨none, rfl, _, _, ⟨rfl, rfl, rfl⟩, by rw [ht]; exact hP9, va_K.moved hW.alike hK9, hD9⟩, hS.F ht⟩) hS.2.2 dX6_init_46

set_option maxHeartbeats 4000000 in
set_option maxRecDepth 100000 in
theorem c8_addThing (l : Launch) (dC : Nat → ClassId) (dI : Nat → Nat → Nat) (h0 : Nat) (q : Nat → Nat) (cA : Nat → ClassId) (r1 : Nat) (sz : Nat)  : Met l yX8_addThing wsX8_addThing ({ frames := 2, cells := 2, slots := 5, locals := 36 }) (va_Pc [.ref h0, .ref r1, .null, .int (-1)] (pz (dC, dI) [((cA 3), .object "ReflectModels$Thing")] [(h0, .inr (7, [.ref (q 0), .int 1, .ref (q 1), .int 0, .int 0, .ref (q 2), .int 0, .ref (q 3), .int 0, .ref (q 4), .int 0, .int 0, .ref (q 5), .int 0, .int 0])), ((q 3), .inl ((cA 3), 124, .inr (.inr (.inr (.inr (fun _ => none)))))), (r1, .inr (0, [.int 0, .null, .int 0, .null, .int 0, .int 0, .int 1, .int 1, .int 1, .int 0, .int 0, .int 0]))] sz)) (qW (dC, dI) (fun v w1 ty1 => v = some (.int 0) ∧ w1 = [(h0, .inr (7, [.ref (q 0), .int 1, .ref (q 1), .int 0, .int 0, .ref (q 2), .int 0, .ref (q 3), .int 1, .ref (q 4), .int 0, .int 0, .ref (q 5), .int 0, .int 0])), (r1, .inr (0, [.int 0, .null, .int 0, .null, .int 0, .int 0, .int 1, .int 1, .int 1, .int 0, .int 0, .int 0]))] ∧ ty1 = []) (va_A [(h0, .inr (7, [.ref (q 0), .int 1, .ref (q 1), .int 0, .int 0, .ref (q 2), .int 0, .ref (q 3), .int 0, .ref (q 4), .int 0, .int 0, .ref (q 5), .int 0, .int 0])), ((q 3), .inl ((cA 3), 124, .inr (.inr (.inr (.inr (fun _ => none)))))), (r1, .inr (0, [.int 0, .null, .int 0, .null, .int 0, .int 0, .int 1, .int 1, .int 1, .int 0, .int 0, .int 0]))] sz)) 2 5 (va_A [(h0, .inr (7, [.ref (q 0), .int 1, .ref (q 1), .int 0, .int 0, .ref (q 2), .int 0, .ref (q 3), .int 0, .ref (q 4), .int 0, .int 0, .ref (q 5), .int 0, .int 0])), ((q 3), .inl ((cA 3), 124, .inr (.inr (.inr (.inr (fun _ => none)))))), (r1, .inr (0, [.int 0, .null, .int 0, .null, .int 0, .int 0, .int 1, .int 1, .int 1, .int 0, .int 0, .int 0]))] sz) := by
  refine Met.ofW (cc := cX8_addThing) (maxL := 4) (ret := (some .int)) (by decide) rfl ?_
  intro p e s m args below meth c s₁ B hml hv
  obtain ⟨rfl, hsz, hP, hK, hD, hN⟩ := hv
  have hx := B.exec
  have hb := B.bytes
  have hr := B.returns
  have hts := atoms_spec (ws := wsX8_addThing) B.pre
  have hown : s.vm.findClass RX8 = some m.cls := findClass_of_methodNamed B.named
  have hlocks := B.notSynchronized
  subst hsz
  have hD := hD.self (sz := s.heap.size)
  generalize hAe : va_A [(h0, .inr (7, [.ref (q 0), .int 1, .ref (q 1), .int 0, .int 0, .ref (q 2), .int 0, .ref (q 3), .int 0, .ref (q 4), .int 0, .int 0, .ref (q 5), .int 0, .int 0])), ((q 3), .inl ((cA 3), 124, .inr (.inr (.inr (.inr (fun _ => none)))))), (r1, .inr (0, [.int 0, .null, .int 0, .null, .int 0, .int 0, .int 1, .int 1, .int 1, .int 0, .int 0, .int 0]))] s.heap.size = A at hD ⊢
  have hA : ∀ q : Nat, s.heap.size ≤ q → A q := fun q h => by rw [← hAe]; exact Or.inr h
  have hS : va_S A s.heap s.heap [] := va_S.rf
  have hl := lv_entry ([.ref h0, .ref r1, .null, .int (-1)]) (n := 4) (Nat.le_of_ble_eq_true rfl)
  rw [lg_entry_eq]
  generalize (lg_sl ([.ref h0, .ref r1, .null, .int (-1)]) ++ List.replicate (4 - (lg_sl ([.ref h0, .ref r1, .null, .int (-1)])).length) Slot.unset).toArray = ls at hl ⊢
  have hl : lv_has ls 4 [(0, .ref h0), (1, .ref r1), (2, .null), (3, .int (-1))] := hl
  refine lv_aload_n hx hb dX8_addThing_0 rfl (lv_at hl 0 rfl) ?_
  refine va_get (D := (dC, dI)) (own := RX8) (ref := "ReflectModels") (index := 46) (ci := 7) (v := .int 0) (C := RX8) (T := TX8) (N := 15) hx hb hts inX8_addThing_8 hown hK hP 0 rfl rfl 8 (by decide) (hts (.fieldLink RX8 46 "ReflectModels" "thingCount" "I") (by decide +kernel)) (fun _ h9 => h9) rfl dX8_addThing_1 ?_
  refine lv_aload_n hx hb dX8_addThing_4 rfl (lv_at hl 0 rfl) ?_
  refine va_get (D := (dC, dI)) (own := RX8) (ref := "ReflectModels") (index := 42) (ci := 7) (v := .ref (q 3)) (C := RX8) (T := TX8) (N := 15) hx hb hts inX8_addThing_8 hown hK hP 0 rfl rfl 7 (by decide) (hts (.fieldLink RX8 42 "ReflectModels" "things" "[LReflectModels$Thing;") (by decide +kernel)) (fun _ h9 => h9) rfl dX8_addThing_5 ?_
  refine va_alen (v := 124) hx hb hK hP 1 0 rfl rfl (by decide) dX8_addThing_8 ?_
  refine lv_icmp_lt (tgt := 14) hx hb dX8_addThing_9 (by decide) (fun _ => ?_) (fun h => absurd (by decide) h)
  refine lv_aload_n hx hb dX8_addThing_14 rfl (lv_at hl 0 rfl) ?_
  refine va_get (D := (dC, dI)) (own := RX8) (ref := "ReflectModels") (index := 42) (ci := 7) (v := .ref (q 3)) (C := RX8) (T := TX8) (N := 15) hx hb hts inX8_addThing_8 hown hK hP 0 rfl rfl 7 (by decide) (hts (.fieldLink RX8 42 "ReflectModels" "things" "[LReflectModels$Thing;") (by decide +kernel)) (fun _ h9 => h9) rfl dX8_addThing_15 ?_
  refine lv_aload_n hx hb dX8_addThing_18 rfl (lv_at hl 0 rfl) ?_
  refine va_get (D := (dC, dI)) (own := RX8) (ref := "ReflectModels") (index := 46) (ci := 7) (v := .int 0) (C := RX8) (T := TX8) (N := 15) hx hb hts inX8_addThing_8 hown hK hP 0 rfl rfl 8 (by decide) (hts (.fieldLink RX8 46 "ReflectModels" "thingCount" "I") (by decide +kernel)) (fun _ h9 => h9) rfl dX8_addThing_19 ?_
  refine va_new (ci := 5) (fs := [.null, .int 0, .null, .int 0, .int 0]) (C := RX6) (T := TX6) (N := 5) hx hb hts inX8_addThing_6 tyX6 tyX6_ok hown (hts (.classLink RX8 40 RX6) (by decide +kernel)) (hts (.instantiable RX6 5) (by decide +kernel)) (hts (.initialized RX6) (by decide +kernel)) hK hP hD hS hA rfl df_X6 (Nat.le_of_ble_eq_true rfl) (Nat.le_of_ble_eq_true rfl) dX8_addThing_22 (fun q1 H hP hD hS => ?_)
  have hP : va_P (dC, dI) vwCl [(h0, .inr (7, [.ref (q 0), .int 1, .ref (q 1), .int 0, .int 0, .ref (q 2), .int 0, .ref (q 3), .int 0, .ref (q 4), .int 0, .int 0, .ref (q 5), .int 0, .int 0])), ((q 3), .inl ((cA 3), 124, .inr (.inr (.inr (.inr (fun _ => none)))))), (r1, .inr (0, [.int 0, .null, .int 0, .null, .int 0, .int 0, .int 1, .int 1, .int 1, .int 0, .int 0, .int 0])), (q1, .inr (5, [.null, .int 0, .null, .int 0, .int 0]))] H := hP
  have hD : va_D A [(h0, .inr (7, [.ref (q 0), .int 1, .ref (q 1), .int 0, .int 0, .ref (q 2), .int 0, .ref (q 3), .int 0, .ref (q 4), .int 0, .int 0, .ref (q 5), .int 0, .int 0])), ((q 3), .inl ((cA 3), 124, .inr (.inr (.inr (.inr (fun _ => none)))))), (r1, .inr (0, [.int 0, .null, .int 0, .null, .int 0, .int 0, .int 1, .int 1, .int 1, .int 0, .int 0, .int 0])), (q1, .inr (5, [.null, .int 0, .null, .int 0, .int 0]))] := hD
  refine W.cs (cells' := 1) (slots' := 5) rfl rfl ?_
  refine lv_dup hx hb dX8_addThing_25 rfl ?_
  refine lv_aload_n hx hb dX8_addThing_26 rfl (lv_at hl 1 rfl) ?_
  refine lv_aload_nN hx hb dX8_addThing_27 rfl (lv_at hl 2 rfl) ?_
  refine lv_iload_n hx hb dX8_addThing_28 rfl (lv_at hl 3 rfl) ?_
  refine lv_aload_n hx hb dX8_addThing_29 rfl (lv_at hl 0 rfl) ?_
  refine clW (wr := [((q 3), .inl ((cA 3), 124, .inr (.inr (.inr (.inr (fun _ => none)))))), (r1, .inr (0, [.int 0, .null, .int 0, .null, .int 0, .int 0, .int 1, .int 1, .int 1, .int 0, .int 0, .int 0])), (q1, .inr (5, [.null, .int 0, .null, .int 0, .int 0]))]) [0] [1, 2, 3] (va_runV (As := []) (rest := [.int (-1), .null, .ref r1, .ref q1, .ref q1, .int 0, .ref (q 3)]) ⟨hx, hb, hml, hown, hts⟩ (c8_firstSlots l dC dI h0 q _) (cwV 0 hts gX8_addThing_X8_firstSlots rfl rfl rfl (by decide +kernel) ⟨Nat.le_of_ble_eq_true rfl, Nat.le_of_ble_eq_true rfl⟩) ⟨pz_blind, va_recv hK hP (ci := 7) (q0 := 0) rfl rfl, pz_of hP hK hD hN [0] [] rfl (by decide) rfl⟩ rfl rfl hl.1 rfl (lv_room (Nat.le_of_ble_eq_true rfl)) dX8_addThing_30 ⟨Nat.le_of_ble_eq_true rfl, Nat.le_of_ble_eq_true rfl⟩) hS hP hD hK hA rfl rfl (by decide) (by decide) (fun v w1 ty1 H locs w4 hP hD hK hS => ?_)
  obtain ⟨q2, cA3, rfl, rfl, rfl⟩ := w4
  refine W.eq (g2 := F0 m 33 ls [.ref q2, .int (-1), .null, .ref r1, .ref q1, .ref q1, .int 0, .ref (q 3)]) rfl ?_
  have hP : va_P (dC, dI) vwCl [((q 3), .inl ((cA 3), 124, .inr (.inr (.inr (.inr (fun _ => none)))))), (r1, .inr (0, [.int 0, .null, .int 0, .null, .int 0, .int 0, .int 1, .int 1, .int 1, .int 0, .int 0, .int 0])), (q1, .inr (5, [.null, .int 0, .null, .int 0, .int 0])), (h0, .inr (7, [.ref (q 0), .int 1, .ref (q 1), .int 0, .int 0, .ref (q 2), .int 0, .ref (q 3), .int 0, .ref (q 4), .int 0, .int 0, .ref (q 5), .int 0, .int 0])), (q2, .inl (cA3, 0, .inr (.inl (fun _ => 0))))] H := hP
  have hD : va_D A [((q 3), .inl ((cA 3), 124, .inr (.inr (.inr (.inr (fun _ => none)))))), (r1, .inr (0, [.int 0, .null, .int 0, .null, .int 0, .int 0, .int 1, .int 1, .int 1, .int 0, .int 0, .int 0])), (q1, .inr (5, [.null, .int 0, .null, .int 0, .int 0])), (h0, .inr (7, [.ref (q 0), .int 1, .ref (q 1), .int 0, .int 0, .ref (q 2), .int 0, .ref (q 3), .int 0, .ref (q 4), .int 0, .int 0, .ref (q 5), .int 0, .int 0])), (q2, .inl (cA3, 0, .inr (.inl (fun _ => 0))))] := hD
  have hK : va_K (dC, dI) vwCl [((cA 3), .object "ReflectModels$Thing"), (cA3, .long)] s := hK
  refine W.cs (cells' := 2) (slots' := 5) rfl rfl ?_
  refine clW (wr := [((q 3), .inl ((cA 3), 124, .inr (.inr (.inr (.inr (fun _ => none)))))), (h0, .inr (7, [.ref (q 0), .int 1, .ref (q 1), .int 0, .int 0, .ref (q 2), .int 0, .ref (q 3), .int 0, .ref (q 4), .int 0, .int 0, .ref (q 5), .int 0, .int 0])), (q2, .inl (cA3, 0, .inr (.inl (fun _ => 0))))]) [2, 1] [0, 3, 4] (va_runIN (As := [.ref r1, .null, .int (-1), .ref q2]) (rest := [.ref q1, .int 0, .ref (q 3)]) ⟨hx, hb, hml, hown, hts⟩ (c6_init l dC dI q1 r1 q2 _) ⟨va_cnB 4 hts gX8_addThing_X6_init_n379 rfl rfl rfl (hN _ (List.mem_of_getElem? (i := 52) rfl)) (hts (.initialized RX6) (by decide +kernel)) (by decide +kernel) ⟨Nat.le_of_ble_eq_true rfl, Nat.le_of_ble_eq_true rfl⟩, rfl, hts (.instanceMethod yX6_init) (by decide +kernel)⟩ ⟨pz_blind, pz_of hP hK hD hN [2, 1] [] rfl (by decide) rfl⟩ rfl rfl hl.1 rfl (lv_room (Nat.le_of_ble_eq_true rfl)) dX8_addThing_33 ⟨Nat.le_of_ble_eq_true rfl, Nat.le_of_ble_eq_true rfl⟩) hS hP hD hK hA rfl rfl (by decide) (by decide) (fun v w1 ty1 H locs w5 hP hD hK hS => ?_)
  obtain ⟨rfl, rfl, rfl⟩ := w5
  refine W.eq (g2 := F0 m 36 ls [.ref q1, .int 0, .ref (q 3)]) rfl ?_
  have hP : va_P (dC, dI) vwCl [((q 3), .inl ((cA 3), 124, .inr (.inr (.inr (.inr (fun _ => none)))))), (h0, .inr (7, [.ref (q 0), .int 1, .ref (q 1), .int 0, .int 0, .ref (q 2), .int 0, .ref (q 3), .int 0, .ref (q 4), .int 0, .int 0, .ref (q 5), .int 0, .int 0])), (q2, .inl (cA3, 0, .inr (.inl (fun _ => 0)))), (q1, .inr (5, [.ref r1, .int (-1), .ref q2, .int 1, .int 0])), (r1, .inr (0, [.int 0, .null, .int 0, .null, .int 0, .int 0, .int 1, .int 1, .int 1, .int 0, .int 0, .int 0]))] H := hP
  have hD : va_D A [((q 3), .inl ((cA 3), 124, .inr (.inr (.inr (.inr (fun _ => none)))))), (h0, .inr (7, [.ref (q 0), .int 1, .ref (q 1), .int 0, .int 0, .ref (q 2), .int 0, .ref (q 3), .int 0, .ref (q 4), .int 0, .int 0, .ref (q 5), .int 0, .int 0])), (q2, .inl (cA3, 0, .inr (.inl (fun _ => 0)))), (q1, .inr (5, [.ref r1, .int (-1), .ref q2, .int 1, .int 0])), (r1, .inr (0, [.int 0, .null, .int 0, .null, .int 0, .int 0, .int 1, .int 1, .int 1, .int 0, .int 0, .int 0]))] := hD
  have hK : va_K (dC, dI) vwCl [((cA 3), .object "ReflectModels$Thing"), (cA3, .long)] s := hK
  refine W.cs (cells' := 2) (slots' := 5) rfl rfl ?_
  refine va_astq (r := (RX6, TX6, 5)) hx hb hK hP hD hS 0 0 3 5 rfl rfl rfl rfl (vp_in_iff.mpr ⟨by decide, by decide⟩) dX8_addThing_36 (fun H locs hP hD hS => ?_)
  have hP : va_P (dC, dI) vwCl [((q 3), .inl ((cA 3), 124, .inr (.inr (.inr (.inr (va_up (fun _ => none) 0 (some q1))))))), (h0, .inr (7, [.ref (q 0), .int 1, .ref (q 1), .int 0, .int 0, .ref (q 2), .int 0, .ref (q 3), .int 0, .ref (q 4), .int 0, .int 0, .ref (q 5), .int 0, .int 0])), (q2, .inl (cA3, 0, .inr (.inl (fun _ => 0)))), (q1, .inr (5, [.ref r1, .int (-1), .ref q2, .int 1, .int 0])), (r1, .inr (0, [.int 0, .null, .int 0, .null, .int 0, .int 0, .int 1, .int 1, .int 1, .int 0, .int 0, .int 0]))] H := hP
  have hD : va_D A [((q 3), .inl ((cA 3), 124, .inr (.inr (.inr (.inr (va_up (fun _ => none) 0 (some q1))))))), (h0, .inr (7, [.ref (q 0), .int 1, .ref (q 1), .int 0, .int 0, .ref (q 2), .int 0, .ref (q 3), .int 0, .ref (q 4), .int 0, .int 0, .ref (q 5), .int 0, .int 0])), (q2, .inl (cA3, 0, .inr (.inl (fun _ => 0)))), (q1, .inr (5, [.ref r1, .int (-1), .ref q2, .int 1, .int 0])), (r1, .inr (0, [.int 0, .null, .int 0, .null, .int 0, .int 0, .int 1, .int 1, .int 1, .int 0, .int 0, .int 0]))] := hD
  refine lv_aload_n hx hb dX8_addThing_37 rfl (lv_at hl 0 rfl) ?_
  refine lv_dup hx hb dX8_addThing_38 rfl ?_
  refine va_get (D := (dC, dI)) (own := RX8) (ref := "ReflectModels") (index := 46) (ci := 7) (v := .int 0) (C := RX8) (T := TX8) (N := 15) hx hb hts inX8_addThing_8 hown hK hP 1 rfl rfl 8 (by decide) (hts (.fieldLink RX8 46 "ReflectModels" "thingCount" "I") (by decide +kernel)) (fun _ h9 => h9) rfl dX8_addThing_39 ?_
  refine lv_iconst (v := 1) hx hb dX8_addThing_42 (by decide) ?_
  refine lv_iadd hx hb dX8_addThing_43 ?_
  refine lv_topi (fun y6 ey6 => ?_)
  obtain rfl : y6 = 1 := ey6.trans (by decide)
  refine va_put (D := (dC, dI)) (own := RX8) (ref := "ReflectModels") (index := 46) (ci := 7) (v := .int 1) (ty := .int) (C := RX8) (T := TX8) (N := 15) hx hb hts inX8_addThing_8 tyX8 tyX8_ok nmX8 hown hK hP hD hS 1 rfl rfl 8 (by decide) (hts (.fieldLink RX8 46 "ReflectModels" "thingCount" "I") (by decide +kernel)) (fun _ h9 => h9) rfl (by decide +kernel) rfl rfl (Nat.le_of_ble_eq_true rfl) dX8_addThing_44 (fun H locs hP hD hS => ?_)
  have hP : va_P (dC, dI) vwCl [((q 3), .inl ((cA 3), 124, .inr (.inr (.inr (.inr (va_up (fun _ => none) 0 (some q1))))))), (h0, .inr (7, [.ref (q 0), .int 1, .ref (q 1), .int 0, .int 0, .ref (q 2), .int 0, .ref (q 3), .int 1, .ref (q 4), .int 0, .int 0, .ref (q 5), .int 0, .int 0])), (q2, .inl (cA3, 0, .inr (.inl (fun _ => 0)))), (q1, .inr (5, [.ref r1, .int (-1), .ref q2, .int 1, .int 0])), (r1, .inr (0, [.int 0, .null, .int 0, .null, .int 0, .int 0, .int 1, .int 1, .int 1, .int 0, .int 0, .int 0]))] H := hP
  have hD : va_D A [((q 3), .inl ((cA 3), 124, .inr (.inr (.inr (.inr (va_up (fun _ => none) 0 (some q1))))))), (h0, .inr (7, [.ref (q 0), .int 1, .ref (q 1), .int 0, .int 0, .ref (q 2), .int 0, .ref (q 3), .int 1, .ref (q 4), .int 0, .int 0, .ref (q 5), .int 0, .int 0])), (q2, .inl (cA3, 0, .inr (.inl (fun _ => 0)))), (q1, .inr (5, [.ref r1, .int (-1), .ref q2, .int 1, .int 0])), (r1, .inr (0, [.int 0, .null, .int 0, .null, .int 0, .int 0, .int 1, .int 1, .int 1, .int 0, .int 0, .int 0]))] := hD
  refine lv_aload_n hx hb dX8_addThing_47 rfl (lv_at hl 0 rfl) ?_
  refine va_get (D := (dC, dI)) (own := RX8) (ref := "ReflectModels") (index := 46) (ci := 7) (v := .int 1) (C := RX8) (T := TX8) (N := 15) hx hb hts inX8_addThing_8 hown hK hP 1 rfl rfl 8 (by decide) (hts (.fieldLink RX8 46 "ReflectModels" "thingCount" "I") (by decide +kernel)) (fun _ h9 => h9) rfl dX8_addThing_48 ?_
  refine lv_iconst (v := 1) hx hb dX8_addThing_51 (by decide) ?_
  refine lv_isub hx hb dX8_addThing_52 ?_
  refine lv_topi (fun y7 ey7 => ?_)
  obtain rfl : y7 = 0 := ey7.trans (by decide)
  have hP9 := hP.sub (ws' := [(h0, .inr (7, [.ref (q 0), .int 1, .ref (q 1), .int 0, .int 0, .ref (q 2), .int 0, .ref (q 3), .int 1, .ref (q 4), .int 0, .int 0, .ref (q 5), .int 0, .int 0])), (r1, .inr (0, [.int 0, .null, .int 0, .null, .int 0, .int 0, .int 1, .int 1, .int 1, .int 0, .int 0, .int 0]))]) [1, 4] rfl
  have hD9 := hD.sub (ws' := [(h0, .inr (7, [.ref (q 0), .int 1, .ref (q 1), .int 0, .int 0, .ref (q 2), .int 0, .ref (q 3), .int 1, .ref (q 4), .int 0, .int 0, .ref (q 5), .int 0, .int 0])), (r1, .inr (0, [.int 0, .null, .int 0, .null, .int 0, .int 0, .int 1, .int 1, .int 1, .int 0, .int 0, .int 0]))]) [1, 4] (by decide) rfl
  have hK9 := hK.sub (tys' := []) [] rfl
  exact W.zret (v := 0) (ty := .int) hx hb hr rfl (fun t ht hW => ⟨⟨(some (.int 0)), rfl, _, _, ⟨rfl, rfl, rfl⟩, by rw [ht]; exact hP9, va_K.moved hW.alike hK9, hD9⟩, hS.F ht⟩) hS.2.2 dX8_addThing_53

set_option maxHeartbeats 4000000 in
set_option maxRecDepth 100000 in
/-- make on a fresh object -/
theorem c8_make (l : Launch) (dC : Nat → ClassId) (dI : Nat → Nat → Nat) (h0 : Nat) (q : Nat → Nat) (cA : Nat → ClassId) (a1 : Int32) (sz : Nat)  : Met l yX8_make wsX8_make ({ frames := 3, cells := 2, slots := 5, locals := 67 }) (va_Pc [.ref h0, .int a1] (pz (dC, dI) [((cA 0), .object "ReflectModels$ClassModel"), ((cA 1), .object "ReflectModels$Member"), ((cA 2), .object "ReflectModels$Handle"), ((cA 3), .object "ReflectModels$Thing"), ((cA 4), .object "ReflectModels$Value")] [(h0, .inr (7, [.ref (q 0), .int 1, .ref (q 1), .int 0, .int 0, .ref (q 2), .int 0, .ref (q 3), .int 0, .ref (q 4), .int 0, .int 0, .ref (q 5), .int 0, .int 0])), ((q 0), .inl ((cA 0), 16, .inr (.inr (.inr (.inr (va_up (fun _ => none) 0 (some (q 6)))))))), ((q 1), .inl ((cA 1), 40, .inr (.inr (.inr (.inr (fun _ => none)))))), ((q 2), .inl ((cA 2), 60, .inr (.inr (.inr (.inr (fun _ => none)))))), ((q 3), .inl ((cA 3), 124, .inr (.inr (.inr (.inr (fun _ => none)))))), ((q 4), .inl ((cA 4), 3, .inr (.inr (.inr (.inr (va_up (va_up (va_up (fun _ => none) 0 (some (q 7))) 1 (some (q 8))) 2 (some (q 9)))))))), ((q 5), .inr (6, [.int 0, .long 0])), ((q 6), .inr (0, [.int 0, .null, .int 0, .null, .int 0, .int 0, .int 1, .int 1, .int 0, .int 0, .int 0, .int 0])), ((q 7), .inr (6, [.int 0, .long 0])), ((q 8), .inr (6, [.int 0, .long 0])), ((q 9), .inr (6, [.int 0, .long 0]))] sz)) (qW (dC, dI) (fun v w1 ty1 => v = some (.int (an_make a1.toInt)) ∧ w1 = [] ∧ ty1 = []) (va_A [(h0, .inr (7, [.ref (q 0), .int 1, .ref (q 1), .int 0, .int 0, .ref (q 2), .int 0, .ref (q 3), .int 0, .ref (q 4), .int 0, .int 0, .ref (q 5), .int 0, .int 0])), ((q 0), .inl ((cA 0), 16, .inr (.inr (.inr (.inr (va_up (fun _ => none) 0 (some (q 6)))))))), ((q 1), .inl ((cA 1), 40, .inr (.inr (.inr (.inr (fun _ => none)))))), ((q 2), .inl ((cA 2), 60, .inr (.inr (.inr (.inr (fun _ => none)))))), ((q 3), .inl ((cA 3), 124, .inr (.inr (.inr (.inr (fun _ => none)))))), ((q 4), .inl ((cA 4), 3, .inr (.inr (.inr (.inr (va_up (va_up (va_up (fun _ => none) 0 (some (q 7))) 1 (some (q 8))) 2 (some (q 9)))))))), ((q 5), .inr (6, [.int 0, .long 0])), ((q 6), .inr (0, [.int 0, .null, .int 0, .null, .int 0, .int 0, .int 1, .int 1, .int 0, .int 0, .int 0, .int 0])), ((q 7), .inr (6, [.int 0, .long 0])), ((q 8), .inr (6, [.int 0, .long 0])), ((q 9), .inr (6, [.int 0, .long 0]))] sz)) 2 5 (va_A [(h0, .inr (7, [.ref (q 0), .int 1, .ref (q 1), .int 0, .int 0, .ref (q 2), .int 0, .ref (q 3), .int 0, .ref (q 4), .int 0, .int 0, .ref (q 5), .int 0, .int 0])), ((q 0), .inl ((cA 0), 16, .inr (.inr (.inr (.inr (va_up (fun _ => none) 0 (some (q 6)))))))), ((q 1), .inl ((cA 1), 40, .inr (.inr (.inr (.inr (fun _ => none)))))), ((q 2), .inl ((cA 2), 60, .inr (.inr (.inr (.inr (fun _ => none)))))), ((q 3), .inl ((cA 3), 124, .inr (.inr (.inr (.inr (fun _ => none)))))), ((q 4), .inl ((cA 4), 3, .inr (.inr (.inr (.inr (va_up (va_up (va_up (fun _ => none) 0 (some (q 7))) 1 (some (q 8))) 2 (some (q 9)))))))), ((q 5), .inr (6, [.int 0, .long 0])), ((q 6), .inr (0, [.int 0, .null, .int 0, .null, .int 0, .int 0, .int 1, .int 1, .int 0, .int 0, .int 0, .int 0])), ((q 7), .inr (6, [.int 0, .long 0])), ((q 8), .inr (6, [.int 0, .long 0])), ((q 9), .inr (6, [.int 0, .long 0]))] sz) := by
  refine Met.ofW (cc := cX8_make) (maxL := 4) (ret := (some .int)) (by decide) rfl ?_
  intro p e s m args below meth c s₁ B hml hv
  obtain ⟨rfl, hsz, hP, hK, hD, hN⟩ := hv
  have hx := B.exec
  have hb := B.bytes
  have hr := B.returns
  have hts := atoms_spec (ws := wsX8_make) B.pre
  have hown : s.vm.findClass RX8 = some m.cls := findClass_of_methodNamed B.named
  have hlocks := B.notSynchronized
  subst hsz
  have hD := hD.self (sz := s.heap.size)
  generalize hAe : va_A [(h0, .inr (7, [.ref (q 0), .int 1, .ref (q 1), .int 0, .int 0, .ref (q 2), .int 0, .ref (q 3), .int 0, .ref (q 4), .int 0, .int 0, .ref (q 5), .int 0, .int 0])), ((q 0), .inl ((cA 0), 16, .inr (.inr (.inr (.inr (va_up (fun _ => none) 0 (some (q 6)))))))), ((q 1), .inl ((cA 1), 40, .inr (.inr (.inr (.inr (fun _ => none)))))), ((q 2), .inl ((cA 2), 60, .inr (.inr (.inr (.inr (fun _ => none)))))), ((q 3), .inl ((cA 3), 124, .inr (.inr (.inr (.inr (fun _ => none)))))), ((q 4), .inl ((cA 4), 3, .inr (.inr (.inr (.inr (va_up (va_up (va_up (fun _ => none) 0 (some (q 7))) 1 (some (q 8))) 2 (some (q 9)))))))), ((q 5), .inr (6, [.int 0, .long 0])), ((q 6), .inr (0, [.int 0, .null, .int 0, .null, .int 0, .int 0, .int 1, .int 1, .int 0, .int 0, .int 0, .int 0])), ((q 7), .inr (6, [.int 0, .long 0])), ((q 8), .inr (6, [.int 0, .long 0])), ((q 9), .inr (6, [.int 0, .long 0]))] s.heap.size = A at hD ⊢
  have hA : ∀ q : Nat, s.heap.size ≤ q → A q := fun q h => by rw [← hAe]; exact Or.inr h
  have hS : va_S A s.heap s.heap [] := va_S.rf
  have hl := lv_entry ([.ref h0, .int a1]) (n := 4) (Nat.le_of_ble_eq_true rfl)
  rw [lg_entry_eq]
  generalize (lg_sl ([.ref h0, .int a1]) ++ List.replicate (4 - (lg_sl ([.ref h0, .int a1])).length) Slot.unset).toArray = ls at hl ⊢
  have hl : lv_has ls 4 [(0, .ref h0), (1, .int a1)] := hl
  refine lv_aload_n hx hb dX8_make_0 rfl (lv_at hl 0 rfl) ?_
  refine lv_iload_n hx hb dX8_make_1 rfl (lv_at hl 1 rfl) ?_
  refine clR (va_runV (As := [.int a1]) (rest := []) ⟨hx, hb, hml, hown, hts⟩ (c8_isClass l dC dI h0 q a1 _) (cwV 1 hts gX8_make_X8_isClass rfl rfl rfl (by decide +kernel) ⟨Nat.le_of_ble_eq_true rfl, Nat.le_of_ble_eq_true rfl⟩) ⟨pz_blind, va_recv hK hP (ci := 7) (q0 := 0) rfl rfl, pz_of hP hK hD hN [0] [] rfl (by decide) rfl⟩ rfl rfl hl.1 rfl (lv_room (Nat.le_of_ble_eq_true rfl)) dX8_make_2 ⟨Nat.le_of_ble_eq_true rfl, Nat.le_of_ble_eq_true rfl⟩) hS hP (fun v H locs w2 hP hS => ?_)
  rcases w2 with ⟨rfl, rfl⟩ | ⟨rfl, u1⟩
  · refine W.eq (g2 := F0 m 5 ls [.int 1]) rfl ?_
    refine lv_if_ne (tgt := 11) hx hb dX8_make_5 (by decide) (fun _ => ?_) (fun h => absurd h (by decide))
    refine lv_aload_n hx hb dX8_make_11 rfl (lv_at hl 0 rfl) ?_
    refine va_get (D := (dC, dI)) (own := RX8) (ref := "ReflectModels") (index := 46) (ci := 7) (v := .int 0) (C := RX8) (T := TX8) (N := 15) hx hb hts inX8_make_8 hown hK hP 0 rfl rfl 8 (by decide) (hts (.fieldLink RX8 46 "ReflectModels" "thingCount" "I") (by decide +kernel)) (fun _ h9 => h9) rfl dX8_make_12 ?_
    refine lv_bipush (v := 60) hx hb dX8_make_15 (by decide) ?_
    refine lv_icmp_lt (tgt := 23) hx hb dX8_make_17 (by decide) (fun _ => ?_) (fun h => absurd (by decide) h)
    refine lv_aload_n hx hb dX8_make_23 rfl (lv_at hl 0 rfl) ?_
    refine lv_aload_n hx hb dX8_make_24 rfl (lv_at hl 0 rfl) ?_
    refine va_get (D := (dC, dI)) (own := RX8) (ref := "ReflectModels") (index := 11) (ci := 7) (v := .ref (q 0)) (C := RX8) (T := TX8) (N := 15) hx hb hts inX8_make_8 hown hK hP 0 rfl rfl 0 (by decide) (hts (.fieldLink RX8 11 "ReflectModels" "classes" "[LReflectModels$ClassModel;") (by decide +kernel)) (fun _ h9 => h9) rfl dX8_make_25 ?_
    refine lv_iload_n hx hb dX8_make_28 rfl (lv_at hl 1 rfl) ?_
    refine va_aldq hx hb hK hP 1 0 rfl rfl (vp_in_iff.mpr ⟨by decide, by decide⟩) dX8_make_29 ?_
    refine W.eq (g2 := F0 m 30 ls [.ref (q 6), .ref h0]) rfl ?_
    refine clW (wr := [((q 1), .inl ((cA 1), 40, .inr (.inr (.inr (.inr (fun _ => none)))))), ((q 2), .inl ((cA 2), 60, .inr (.inr (.inr (.inr (fun _ => none)))))), ((q 3), .inl ((cA 3), 124, .inr (.inr (.inr (.inr (fun _ => none)))))), ((q 4), .inl ((cA 4), 3, .inr (.inr (.inr (.inr (va_up (va_up (va_up (fun _ => none) 0 (some (q 7))) 1 (some (q 8))) 2 (some (q 9)))))))), ((q 5), .inr (6, [.int 0, .long 0])), ((q 7), .inr (6, [.int 0, .long 0])), ((q 8), .inr (6, [.int 0, .long 0])), ((q 9), .inr (6, [.int 0, .long 0]))]) [0, 1, 7] [2, 3, 4, 5, 6, 8, 9, 10] (va_runV (As := [.ref (q 6)]) (rest := []) ⟨hx, hb, hml, hown, hts⟩ (c8_makeFailure l dC dI h0 q cA _) (cwV 1 hts gX8_make_X8_makeFailure rfl rfl rfl (by decide +kernel) ⟨Nat.le_of_ble_eq_true rfl, Nat.le_of_ble_eq_true rfl⟩) ⟨pz_blind, va_recv hK hP (ci := 7) (q0 := 0) rfl rfl, pz_of hP hK hD hN [0, 1, 7] [0] rfl (by decide) rfl⟩ rfl rfl hl.1 rfl (lv_room (Nat.le_of_ble_eq_true rfl)) dX8_make_30 ⟨Nat.le_of_ble_eq_true rfl, Nat.le_of_ble_eq_true rfl⟩) hS hP hD hK hA rfl rfl (by decide) (by decide) (fun v w1 ty1 H locs w3 hP hD hK hS => ?_)
    obtain ⟨rfl, rfl, rfl⟩ := w3
    refine W.eq (g2 := F0 m 33 ls [.int 0]) rfl ?_
    have hP : va_P (dC, dI) vwCl [((q 1), .inl ((cA 1), 40, .inr (.inr (.inr (.inr (fun _ => none)))))), ((q 2), .inl ((cA 2), 60, .inr (.inr (.inr (.inr (fun _ => none)))))), ((q 3), .inl ((cA 3), 124, .inr (.inr (.inr (.inr (fun _ => none)))))), ((q 4), .inl ((cA 4), 3, .inr (.inr (.inr (.inr (va_up (va_up (va_up (fun _ => none) 0 (some (q 7))) 1 (some (q 8))) 2 (some (q 9)))))))), ((q 5), .inr (6, [.int 0, .long 0])), ((q 7), .inr (6, [.int 0, .long 0])), ((q 8), .inr (6, [.int 0, .long 0])), ((q 9), .inr (6, [.int 0, .long 0])), (h0, .inr (7, [.ref (q 0), .int 1, .ref (q 1), .int 0, .int 0, .ref (q 2), .int 0, .ref (q 3), .int 0, .ref (q 4), .int 0, .int 0, .ref (q 5), .int 0, .int 0])), ((q 0), .inl ((cA 0), 16, .inr (.inr (.inr (.inr (va_up (fun _ => none) 0 (some (q 6)))))))), ((q 6), .inr (0, [.int 0, .null, .int 0, .null, .int 0, .int 0, .int 1, .int 1, .int 1, .int 0, .int 0, .int 0]))] H := hP
    have hD : va_D A [((q 1), .inl ((cA 1), 40, .inr (.inr (.inr (.inr (fun _ => none)))))), ((q 2), .inl ((cA 2), 60, .inr (.inr (.inr (.inr (fun _ => none)))))), ((q 3), .inl ((cA 3), 124, .inr (.inr (.inr (.inr (fun _ => none)))))), ((q 4), .inl ((cA 4), 3, .inr (.inr (.inr (.inr (va_up (va_up (va_up (fun _ => none) 0 (some (q 7))) 1 (some (q 8))) 2 (some (q 9)))))))), ((q 5), .inr (6, [.int 0, .long 0])), ((q 7), .inr (6, [.int 0, .long 0])), ((q 8), .inr (6, [.int 0, .long 0])), ((q 9), .inr (6, [.int 0, .long 0])), (h0, .inr (7, [.ref (q 0), .int 1, .ref (q 1), .int 0, .int 0, .ref (q 2), .int 0, .ref (q 3), .int 0, .ref (q 4), .int 0, .int 0, .ref (q 5), .int 0, .int 0])), ((q 0), .inl ((cA 0), 16, .inr (.inr (.inr (.inr (va_up (fun _ => none) 0 (some (q 6)))))))), ((q 6), .inr (0, [.int 0, .null, .int 0, .null, .int 0, .int 0, .int 1, .int 1, .int 1, .int 0, .int 0, .int 0]))] := hD
    have hK : va_K (dC, dI) vwCl [((cA 0), .object "ReflectModels$ClassModel"), ((cA 1), .object "ReflectModels$Member"), ((cA 2), .object "ReflectModels$Handle"), ((cA 3), .object "ReflectModels$Thing"), ((cA 4), .object "ReflectModels$Value")] s := hK
    refine W.cs (cells' := 0) (slots' := 0) rfl rfl ?_
    refine lv_istore_n (lv' := [(2, .int 0), (0, .ref h0), (1, .int 0)]) hx hb dX8_make_33 rfl hl (by decide) rfl (fun ls hl => ?_)
    refine lv_iload_n hx hb dX8_make_34 rfl (lv_at hl 0 rfl) ?_
    refine lv_if_eq (tgt := 44) hx hb dX8_make_35 (by decide) (fun _ => ?_) (fun h => absurd (by decide) h)
    refine lv_aload_n hx hb dX8_make_44 rfl (lv_at hl 1 rfl) ?_
    refine lv_aload_n hx hb dX8_make_45 rfl (lv_at hl 1 rfl) ?_
    refine va_get (D := (dC, dI)) (own := RX8) (ref := "ReflectModels") (index := 11) (ci := 7) (v := .ref (q 0)) (C := RX8) (T := TX8) (N := 15) hx hb hts inX8_make_8 hown hK hP 8 rfl rfl 0 (by decide) (hts (.fieldLink RX8 11 "ReflectModels" "classes" "[LReflectModels$ClassModel;") (by decide +kernel)) (fun _ h9 => h9) rfl dX8_make_46 ?_
    refine lv_iload_n hx hb dX8_make_49 rfl (lv_at hl 2 rfl) ?_
    refine va_aldq hx hb hK hP 9 0 rfl rfl (vp_in_iff.mpr ⟨by decide, by decide⟩) dX8_make_50 ?_
    refine W.eq (g2 := F0 m 51 ls [.ref (q 6), .ref h0]) rfl ?_
    refine lv_null hx hb dX8_make_51 ?_
    refine lv_iconst (v := (-1)) hx hb dX8_make_52 (by decide) ?_
    refine clW (wr := [((q 1), .inl ((cA 1), 40, .inr (.inr (.inr (.inr (fun _ => none)))))), ((q 2), .inl ((cA 2), 60, .inr (.inr (.inr (.inr (fun _ => none)))))), ((q 4), .inl ((cA 4), 3, .inr (.inr (.inr (.inr (va_up (va_up (va_up (fun _ => none) 0 (some (q 7))) 1 (some (q 8))) 2 (some (q 9)))))))), ((q 5), .inr (6, [.int 0, .long 0])), ((q 7), .inr (6, [.int 0, .long 0])), ((q 8), .inr (6, [.int 0, .long 0])), ((q 9), .inr (6, [.int 0, .long 0])), ((q 0), .inl ((cA 0), 16, .inr (.inr (.inr (.inr (va_up (fun _ => none) 0 (some (q 6))))))))]) [8, 2, 10] [0, 1, 3, 4, 5, 6, 7, 9] (va_runV (As := [.ref (q 6), .null, .int (-1)]) (rest := []) ⟨hx, hb, hml, hown, hts⟩ (c8_addThing l dC dI h0 q cA (q 6) _) (cwV 3 hts gX8_make_X8_addThing rfl rfl rfl (by decide +kernel) ⟨Nat.le_of_ble_eq_true rfl, Nat.le_of_ble_eq_true rfl⟩) ⟨pz_blind, va_recv hK hP (ci := 7) (q0 := 8) rfl rfl, pz_of hP hK hD hN [8, 2, 10] [3] rfl (by decide) rfl⟩ rfl rfl hl.1 rfl (lv_room (Nat.le_of_ble_eq_true rfl)) dX8_make_53 ⟨Nat.le_of_ble_eq_true rfl, Nat.le_of_ble_eq_true rfl⟩) hS hP hD hK hA rfl rfl (by decide) (by decide) (fun v w1 ty1 H locs w4 hP hD hK hS => ?_)
    obtain ⟨rfl, rfl, rfl⟩ := w4
    refine W.eq (g2 := F0 m 56 ls [.int 0]) rfl ?_
    have hP : va_P (dC, dI) vwCl [((q 1), .inl ((cA 1), 40, .inr (.inr (.inr (.inr (fun _ => none)))))), ((q 2), .inl ((cA 2), 60, .inr (.inr (.inr (.inr (fun _ => none)))))), ((q 4), .inl ((cA 4), 3, .inr (.inr (.inr (.inr (va_up (va_up (va_up (fun _ => none) 0 (some (q 7))) 1 (some (q 8))) 2 (some (q 9)))))))), ((q 5), .inr (6, [.int 0, .long 0])), ((q 7), .inr (6, [.int 0, .long 0])), ((q 8), .inr (6, [.int 0, .long 0])), ((q 9), .inr (6, [.int 0, .long 0])), ((q 0), .inl ((cA 0), 16, .inr (.inr (.inr (.inr (va_up (fun _ => none) 0 (some (q 6)))))))), (h0, .inr (7, [.ref (q 0), .int 1, .ref (q 1), .int 0, .int 0, .ref (q 2), .int 0, .ref (q 3), .int 1, .ref (q 4), .int 0, .int 0, .ref (q 5), .int 0, .int 0])), ((q 6), .inr (0, [.int 0, .null, .int 0, .null, .int 0, .int 0, .int 1, .int 1, .int 1, .int 0, .int 0, .int 0]))] H := hP
    have hD : va_D A [((q 1), .inl ((cA 1), 40, .inr (.inr (.inr (.inr (fun _ => none)))))), ((q 2), .inl ((cA 2), 60, .inr (.inr (.inr (.inr (fun _ => none)))))), ((q 4), .inl ((cA 4), 3, .inr (.inr (.inr (.inr (va_up (va_up (va_up (fun _ => none) 0 (some (q 7))) 1 (some (q 8))) 2 (some (q 9)))))))), ((q 5), .inr (6, [.int 0, .long 0])), ((q 7), .inr (6, [.int 0, .long 0])), ((q 8), .inr (6, [.int 0, .long 0])), ((q 9), .inr (6, [.int 0, .long 0])), ((q 0), .inl ((cA 0), 16, .inr (.inr (.inr (.inr (va_up (fun _ => none) 0 (some (q 6)))))))), (h0, .inr (7, [.ref (q 0), .int 1, .ref (q 1), .int 0, .int 0, .ref (q 2), .int 0, .ref (q 3), .int 1, .ref (q 4), .int 0, .int 0, .ref (q 5), .int 0, .int 0])), ((q 6), .inr (0, [.int 0, .null, .int 0, .null, .int 0, .int 0, .int 1, .int 1, .int 1, .int 0, .int 0, .int 0]))] := hD
    have hK : va_K (dC, dI) vwCl [((cA 0), .object "ReflectModels$ClassModel"), ((cA 1), .object "ReflectModels$Member"), ((cA 2), .object "ReflectModels$Handle"), ((cA 3), .object "ReflectModels$Thing"), ((cA 4), .object "ReflectModels$Value")] s := hK
    refine W.cs (cells' := 2) (slots' := 5) rfl rfl ?_
    refine lv_istore_n (lv' := [(3, .int 0), (2, .int 0), (0, .ref h0), (1, .int 0)]) hx hb dX8_make_56 rfl hl (by decide) rfl (fun ls hl => ?_)
    refine lv_aload_n hx hb dX8_make_57 rfl (lv_at hl 2 rfl) ?_
    refine va_get (D := (dC, dI)) (own := RX8) (ref := "ReflectModels") (index := 11) (ci := 7) (v := .ref (q 0)) (C := RX8) (T := TX8) (N := 15) hx hb hts inX8_make_8 hown hK hP 8 rfl rfl 0 (by decide) (hts (.fieldLink RX8 11 "ReflectModels" "classes" "[LReflectModels$ClassModel;") (by decide +kernel)) (fun _ h9 => h9) rfl dX8_make_58 ?_
    refine lv_iload_n hx hb dX8_make_61 rfl (lv_at hl 3 rfl) ?_
    refine va_aldq hx hb hK hP 7 0 rfl rfl (vp_in_iff.mpr ⟨by decide, by decide⟩) dX8_make_62 ?_
    refine W.eq (g2 := F0 m 63 ls [.ref (q 6)]) rfl ?_
    refine va_getN (host := "ReflectModels") (D := (dC, dI)) (own := RX8) (ref := "ReflectModels$ClassModel") (index := 86) (ci := 0) (v := .int 0) (C := RX0) (T := TX0) (N := 12) hx hb hts inX8_make_0 hown hK hP 9 rfl rfl 2 (by decide) (va_Nw.use rfl (hN _ (List.mem_of_getElem? (i := 12) rfl))) (fun _ h9 => h9) rfl dX8_make_63 ?_
    refine lv_iconst (v := 3) hx hb dX8_make_66 (by decide) ?_
    refine lv_icmp_ne (tgt := 81) hx hb dX8_make_67 (by decide) (fun _ => ?_) (fun h => absurd h (by decide))
    refine lv_iload_n hx hb dX8_make_81 rfl (lv_at hl 0 rfl) ?_
    have hP9 := hP.sub (ws' := []) [] rfl
    have hD9 := hD.sub (ws' := []) [] (by decide) rfl
    have hK9 := hK.sub (tys' := []) [] rfl
    exact W.zret (v := 0) (ty := .int) hx hb hr rfl (fun t ht hW => ⟨⟨(some (.int 0)), rfl, _, _, ⟨congrArg (fun z => some (Value.int z)) (by unfold an_make; (repeat' split) <;> first | rfl | (exfalso; first | omega | (have kq := kz; omega))), rfl, rfl⟩, by rw [ht]; exact hP9, va_K.moved hW.alike hK9, hD9⟩, hS.F ht⟩) hS.2.2 dX8_make_82
  · refine W.eq (g2 := F0 m 5 ls [.int 0]) rfl ?_
    refine lv_if_ne (tgt := 11) hx hb dX8_make_5 (by decide) (fun h => absurd h (by decide)) (fun _ => ?_)
    refine lv_bipush (v := (-2)) hx hb dX8_make_8 (by decide) ?_
    refine W.widen (k := 2) (n := 5) (by omega) (by omega) ?_
    have hP9 := hP.sub (ws' := []) [] rfl
    have hD9 := hD.sub (ws' := []) [] (by decide) rfl
    have hK9 := hK.sub (tys' := []) [] rfl
    exact W.zret (v := (-2)) (ty := .int) hx hb hr rfl (fun t ht hW => ⟨⟨(some (.int (-2))), rfl, _, _, ⟨congrArg (fun z => some (Value.int z)) (by unfold an_make; (repeat' split) <;> first | rfl | (exfalso; first | omega | (have kq := kz; omega))), rfl, rfl⟩, by rw [ht]; exact hP9, va_K.moved hW.alike hK9, hD9⟩, hS.F ht⟩) hS.2.2 dX8_make_10
