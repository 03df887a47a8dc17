set_option maxHeartbeats 4000000 in
set_option maxRecDepth 100000 in
theorem c8_hasMark (l : Launch) (dC : Nat → ClassId) (dI : Nat → Nat → Nat) (a0 a1 : Int32) (sz : Nat)  : Met l yX8_hasMark wsX8_hasMark ({ frames := 0, cells := 0, slots := 0, locals := 0 }) (va_Pc [.int a0, .int a1] (pz (dC, dI) [] [] sz)) (qR (fun v => v = some (.int (bz (a0 &&& a1))))) 0 0 nA := by
  refine Met.ofW (cc := cX8_hasMark) (maxL := 2) (ret := (some .boolean)) (by decide) rfl ?_
  intro p e s m args below meth c s₁ B hml hv
  obtain ⟨rfl, hsz, hP, hK, hD, hN⟩ := hv
  have hx := B.exec
  have hb := B.bytes
  have hr := B.returns
  have hts := atoms_spec (ws := wsX8_hasMark) B.pre
  have hown : s.vm.findClass RX8 = some m.cls := findClass_of_methodNamed B.named
  have hlocks := B.notSynchronized
  subst hsz
  have hS : va_S nA s.heap s.heap [] := va_S.rf
  have hl := lv_entry ([.int a0, .int a1]) (n := 2) (Nat.le_of_ble_eq_true rfl)
  rw [lg_entry_eq]
  generalize (lg_sl ([.int a0, .int a1]) ++ List.replicate (2 - (lg_sl ([.int a0, .int a1])).length) Slot.unset).toArray = ls at hl ⊢
  have hl : lv_has ls 2 [(0, .int a0), (1, .int a1)] := hl
  refine lv_iload_n hx hb dX8_hasMark_0 rfl (lv_at hl 0 rfl) ?_
  refine lv_iload_n hx hb dX8_hasMark_1 rfl (lv_at hl 1 rfl) ?_
  refine lv_iand hx hb dX8_hasMark_2 ?_
  refine lv_topi (fun y1 ey1 => ?_)
  refine lw_b hx hb dX8_hasMark_3 dX8_hasMark_6 dX8_hasMark_7 dX8_hasMark_10 ?_
  exact W.zret (v := (bz y1)) (ty := .boolean) hx hb hr (nar_b (bz_01 _)) (fun t ht hW => ⟨⟨(some (.int (bz y1))), rfl, (by rw [ey1])⟩, hS.F ht⟩) hS.2.2 dX8_hasMark_11

set_option maxHeartbeats 4000000 in
set_option maxRecDepth 100000 in
theorem c8_areOutsideMarks (l : Launch) (dC : Nat → ClassId) (dI : Nat → Nat → Nat) (a0 : Int32) (sz : Nat)  : Met l yX8_areOutsideMarks wsX8_areOutsideMarks ({ frames := 1, cells := 0, slots := 0, locals := 21 }) (va_Pc [.int a0] (pz (dC, dI) [] [] sz)) (qR (fun v => (v = some (.int 1) ∧ (a0.toInt < 0 ∨ 7 < a0.toInt ∨ a0.toInt = 3 ∨ a0.toInt = 6 ∨ a0.toInt = 7)) ∨ (v = some (.int 0) ∧ a0 = 0) ∨ (v = some (.int 0) ∧ a0 = 1) ∨ (v = some (.int 0) ∧ a0 = 2) ∨ (v = some (.int 0) ∧ a0 = 4) ∨ (v = some (.int 0) ∧ a0 = 5))) 0 0 nA := by
  refine Met.ofW (cc := cX8_areOutsideMarks) (maxL := 1) (ret := (some .boolean)) (by decide) rfl ?_
  intro p e s m args below meth c s₁ B hml hv
  obtain ⟨rfl, hsz, hP, hK, hD, hN⟩ := hv
  have hx := B.exec
  have hb := B.bytes
  have hr := B.returns
  have hts := atoms_spec (ws := wsX8_areOutsideMarks) B.pre
  have hown : s.vm.findClass RX8 = some m.cls := findClass_of_methodNamed B.named
  have hlocks := B.notSynchronized
  subst hsz
  have hS : va_S nA s.heap s.heap [] := va_S.rf
  have hl := lv_entry ([.int a0]) (n := 1) (Nat.le_of_ble_eq_true rfl)
  rw [lg_entry_eq]
  generalize (lg_sl ([.int a0]) ++ List.replicate (1 - (lg_sl ([.int a0])).length) Slot.unset).toArray = ls at hl ⊢
  have hl : lv_has ls 1 [(0, .int a0)] := hl
  refine lv_iload_n hx hb dX8_areOutsideMarks_0 rfl (lv_at hl 0 rfl) ?_
  refine lv_if_lt (tgt := 23) hx hb dX8_areOutsideMarks_1 (by decide) (fun c1 => ?_) (fun c1 => ?_)
  · have ic1 : a0.toInt < 0 := il2 rfl (by decide) c1
    refine lv_iconst (v := 1) hx hb dX8_areOutsideMarks_23 (by decide) ?_
    refine lv_goto (tgt := 28) hx hb dX8_areOutsideMarks_24 (by decide) ?_
    exact W.zret (v := 1) (ty := .boolean) hx hb hr rfl (fun t ht hW => ⟨⟨(some (.int 1)), rfl, (by first | exact Or.inl ⟨rfl, (by first | omega | (have kq := kz; omega) | decide)⟩)⟩, hS.F ht⟩) hS.2.2 dX8_areOutsideMarks_28
  · have ic1 : 0 ≤ a0.toInt := inl2 rfl (by decide) c1
    refine lv_iload_n hx hb dX8_areOutsideMarks_4 rfl (lv_at hl 0 rfl) ?_
    refine lv_bipush (v := 7) hx hb dX8_areOutsideMarks_5 (by decide) ?_
    refine lv_icmp_gt (tgt := 23) hx hb dX8_areOutsideMarks_7 (by decide) (fun c2 => ?_) (fun c2 => ?_)
    · have ic2 : 7 < a0.toInt := il2 (by decide) rfl c2
      refine lv_iconst (v := 1) hx hb dX8_areOutsideMarks_23 (by decide) ?_
      refine lv_goto (tgt := 28) hx hb dX8_areOutsideMarks_24 (by decide) ?_
      exact W.zret (v := 1) (ty := .boolean) hx hb hr rfl (fun t ht hW => ⟨⟨(some (.int 1)), rfl, (by first | exact Or.inl ⟨rfl, (by first | omega | (have kq := kz; omega) | decide)⟩)⟩, hS.F ht⟩) hS.2.2 dX8_areOutsideMarks_28
    · have ic2 : a0.toInt ≤ 7 := inl2 (by decide) rfl c2
      refine lv_iload_n hx hb dX8_areOutsideMarks_10 rfl (lv_at hl 0 rfl) ?_
      refine lv_iconst (v := 2) hx hb dX8_areOutsideMarks_11 (by decide) ?_
      rcases tw_0_7 (x := a0) (by omega) (by omega) with rfl | rfl | rfl | rfl | rfl | rfl | rfl | rfl
      · refine clR (va_runS (As := [.int 0, .int 2]) (rest := []) ⟨hx, hb, hml, hown, hts⟩ (c8_hasMark l dC dI 0 2 _) (va_cwS 2 hts gX8_areOutsideMarks_X8_hasMark rfl rfl rfl (by decide +kernel) ⟨Nat.le_of_ble_eq_true rfl, Nat.le_of_ble_eq_true rfl⟩) ⟨pz_blind, pz_of hP hK hD hN [] [] rfl (by decide) rfl⟩ rfl rfl hl.1 rfl (lv_room (Nat.le_of_ble_eq_true rfl)) dX8_areOutsideMarks_12 ⟨Nat.le_of_ble_eq_true rfl, Nat.le_of_ble_eq_true rfl⟩) hS hP (fun v H locs w3 hP hS => ?_)
        obtain rfl : v = some (.int 0) := w3.trans (by decide)
        refine W.eq (g2 := F0 m 15 ls [.int 0]) rfl ?_
        refine lv_if_eq (tgt := 27) hx hb dX8_areOutsideMarks_15 (by decide) (fun _ => ?_) (fun h => absurd (by decide) h)
        refine lv_iconst (v := 0) hx hb dX8_areOutsideMarks_27 (by decide) ?_
        exact W.zret (v := 0) (ty := .boolean) hx hb hr rfl (fun t ht hW => ⟨⟨(some (.int 0)), rfl, (by first | exact Or.inr (Or.inl ⟨rfl, rfl⟩) | exact Or.inr (Or.inr (Or.inl ⟨rfl, rfl⟩)) | exact Or.inr (Or.inr (Or.inr (Or.inl ⟨rfl, rfl⟩))) | exact Or.inr (Or.inr (Or.inr (Or.inr (Or.inl ⟨rfl, rfl⟩)))) | exact Or.inr (Or.inr (Or.inr (Or.inr (Or.inr (⟨rfl, rfl⟩))))))⟩, hS.F ht⟩) hS.2.2 dX8_areOutsideMarks_28
      · refine clR (va_runS (As := [.int 1, .int 2]) (rest := []) ⟨hx, hb, hml, hown, hts⟩ (c8_hasMark l dC dI 1 2 _) (va_cwS 2 hts gX8_areOutsideMarks_X8_hasMark rfl rfl rfl (by decide +kernel) ⟨Nat.le_of_ble_eq_true rfl, Nat.le_of_ble_eq_true rfl⟩) ⟨pz_blind, pz_of hP hK hD hN [] [] rfl (by decide) rfl⟩ rfl rfl hl.1 rfl (lv_room (Nat.le_of_ble_eq_true rfl)) dX8_areOutsideMarks_12 ⟨Nat.le_of_ble_eq_true rfl, Nat.le_of_ble_eq_true rfl⟩) hS hP (fun v H locs w4 hP hS => ?_)
        obtain rfl : v = some (.int 0) := w4.trans (by decide)
        refine W.eq (g2 := F0 m 15 ls [.int 0]) rfl ?_
        refine lv_if_eq (tgt := 27) hx hb dX8_areOutsideMarks_15 (by decide) (fun _ => ?_) (fun h => absurd (by decide) h)
        refine lv_iconst (v := 0) hx hb dX8_areOutsideMarks_27 (by decide) ?_
        exact W.zret (v := 0) (ty := .boolean) hx hb hr rfl (fun t ht hW => ⟨⟨(some (.int 0)), rfl, (by first | exact Or.inr (Or.inl ⟨rfl, rfl⟩) | exact Or.inr (Or.inr (Or.inl ⟨rfl, rfl⟩)) | exact Or.inr (Or.inr (Or.inr (Or.inl ⟨rfl, rfl⟩))) | exact Or.inr (Or.inr (Or.inr (Or.inr (Or.inl ⟨rfl, rfl⟩)))) | exact Or.inr (Or.inr (Or.inr (Or.inr (Or.inr (⟨rfl, rfl⟩))))))⟩, hS.F ht⟩) hS.2.2 dX8_areOutsideMarks_28
      · refine clR (va_runS (As := [.int 2, .int 2]) (rest := []) ⟨hx, hb, hml, hown, hts⟩ (c8_hasMark l dC dI 2 2 _) (va_cwS 2 hts gX8_areOutsideMarks_X8_hasMark rfl rfl rfl (by decide +kernel) ⟨Nat.le_of_ble_eq_true rfl, Nat.le_of_ble_eq_true rfl⟩) ⟨pz_blind, pz_of hP hK hD hN [] [] rfl (by decide) rfl⟩ rfl rfl hl.1 rfl (lv_room (Nat.le_of_ble_eq_true rfl)) dX8_areOutsideMarks_12 ⟨Nat.le_of_ble_eq_true rfl, Nat.le_of_ble_eq_true rfl⟩) hS hP (fun v H locs w5 hP hS => ?_)
        obtain rfl : v = some (.int 1) := w5.trans (by decide)
        refine W.eq (g2 := F0 m 15 ls [.int 1]) rfl ?_
        refine lv_if_eq (tgt := 27) hx hb dX8_areOutsideMarks_15 (by decide) (fun h => absurd h (by decide)) (fun _ => ?_)
        refine lv_iload_n hx hb dX8_areOutsideMarks_18 rfl (lv_at hl 0 rfl) ?_
        refine lv_iconst (v := 2) hx hb dX8_areOutsideMarks_19 (by decide) ?_
        refine lv_icmp_eq (tgt := 27) hx hb dX8_areOutsideMarks_20 (by decide) (fun _ => ?_) (fun h => absurd (by decide) h)
        refine lv_iconst (v := 0) hx hb dX8_areOutsideMarks_27 (by decide) ?_
        exact W.zret (v := 0) (ty := .boolean) hx hb hr rfl (fun t ht hW => ⟨⟨(some (.int 0)), rfl, (by first | exact Or.inr (Or.inl ⟨rfl, rfl⟩) | exact Or.inr (Or.inr (Or.inl ⟨rfl, rfl⟩)) | exact Or.inr (Or.inr (Or.inr (Or.inl ⟨rfl, rfl⟩))) | exact Or.inr (Or.inr (Or.inr (Or.inr (Or.inl ⟨rfl, rfl⟩)))) | exact Or.inr (Or.inr (Or.inr (Or.inr (Or.inr (⟨rfl, rfl⟩))))))⟩, hS.F ht⟩) hS.2.2 dX8_areOutsideMarks_28
      · refine clR (va_runS (As := [.int 3, .int 2]) (rest := []) ⟨hx, hb, hml, hown, hts⟩ (c8_hasMark l dC dI 3 2 _) (va_cwS 2 hts gX8_areOutsideMarks_X8_hasMark rfl rfl rfl (by decide +kernel) ⟨Nat.le_of_ble_eq_true rfl, Nat.le_of_ble_eq_true rfl⟩) ⟨pz_blind, pz_of hP hK hD hN [] [] rfl (by decide) rfl⟩ rfl rfl hl.1 rfl (lv_room (Nat.le_of_ble_eq_true rfl)) dX8_areOutsideMarks_12 ⟨Nat.le_of_ble_eq_true rfl, Nat.le_of_ble_eq_true rfl⟩) hS hP (fun v H locs w6 hP hS => ?_)
        obtain rfl : v = some (.int 1) := w6.trans (by decide)
        refine W.eq (g2 := F0 m 15 ls [.int 1]) rfl ?_
        refine lv_if_eq (tgt := 27) hx hb dX8_areOutsideMarks_15 (by decide) (fun h => absurd h (by decide)) (fun _ => ?_)
        refine lv_iload_n hx hb dX8_areOutsideMarks_18 rfl (lv_at hl 0 rfl) ?_
        refine lv_iconst (v := 2) hx hb dX8_areOutsideMarks_19 (by decide) ?_
        refine lv_icmp_eq (tgt := 27) hx hb dX8_areOutsideMarks_20 (by decide) (fun h => absurd h (by decide)) (fun _ => ?_)
        refine lv_iconst (v := 1) hx hb dX8_areOutsideMarks_23 (by decide) ?_
        refine lv_goto (tgt := 28) hx hb dX8_areOutsideMarks_24 (by decide) ?_
        exact W.zret (v := 1) (ty := .boolean) hx hb hr rfl (fun t ht hW => ⟨⟨(some (.int 1)), rfl, (by first | exact Or.inl ⟨rfl, (by first | omega | (have kq := kz; omega) | decide)⟩)⟩, hS.F ht⟩) hS.2.2 dX8_areOutsideMarks_28
      · refine clR (va_runS (As := [.int 4, .int 2]) (rest := []) ⟨hx, hb, hml, hown, hts⟩ (c8_hasMark l dC dI 4 2 _) (va_cwS 2 hts gX8_areOutsideMarks_X8_hasMark rfl rfl rfl (by decide +kernel) ⟨Nat.le_of_ble_eq_true rfl, Nat.le_of_ble_eq_true rfl⟩) ⟨pz_blind, pz_of hP hK hD hN [] [] rfl (by decide) rfl⟩ rfl rfl hl.1 rfl (lv_room (Nat.le_of_ble_eq_true rfl)) dX8_areOutsideMarks_12 ⟨Nat.le_of_ble_eq_true rfl, Nat.le_of_ble_eq_true rfl⟩) hS hP (fun v H locs w7 hP hS => ?_)
        obtain rfl : v = some (.int 0) := w7.trans (by decide)
        refine W.eq (g2 := F0 m 15 ls [.int 0]) rfl ?_
        refine lv_if_eq (tgt := 27) hx hb dX8_areOutsideMarks_15 (by decide) (fun _ => ?_) (fun h => absurd (by decide) h)
        refine lv_iconst (v := 0) hx hb dX8_areOutsideMarks_27 (by decide) ?_
        exact W.zret (v := 0) (ty := .boolean) hx hb hr rfl (fun t ht hW => ⟨⟨(some (.int 0)), rfl, (by first | exact Or.inr (Or.inl ⟨rfl, rfl⟩) | exact Or.inr (Or.inr (Or.inl ⟨rfl, rfl⟩)) | exact Or.inr (Or.inr (Or.inr (Or.inl ⟨rfl, rfl⟩))) | exact Or.inr (Or.inr (Or.inr (Or.inr (Or.inl ⟨rfl, rfl⟩)))) | exact Or.inr (Or.inr (Or.inr (Or.inr (Or.inr (⟨rfl, rfl⟩))))))⟩, hS.F ht⟩) hS.2.2 dX8_areOutsideMarks_28
      · refine clR (va_runS (As := [.int 5, .int 2]) (rest := []) ⟨hx, hb, hml, hown, hts⟩ (c8_hasMark l dC dI 5 2 _) (va_cwS 2 hts gX8_areOutsideMarks_X8_hasMark rfl rfl rfl (by decide +kernel) ⟨Nat.le_of_ble_eq_true rfl, Nat.le_of_ble_eq_true rfl⟩) ⟨pz_blind, pz_of hP hK hD hN [] [] rfl (by decide) rfl⟩ rfl rfl hl.1 rfl (lv_room (Nat.le_of_ble_eq_true rfl)) dX8_areOutsideMarks_12 ⟨Nat.le_of_ble_eq_true rfl, Nat.le_of_ble_eq_true rfl⟩) hS hP (fun v H locs w8 hP hS => ?_)
        obtain rfl : v = some (.int 0) := w8.trans (by decide)
        refine W.eq (g2 := F0 m 15 ls [.int 0]) rfl ?_
        refine lv_if_eq (tgt := 27) hx hb dX8_areOutsideMarks_15 (by decide) (fun _ => ?_) (fun h => absurd (by decide) h)
        refine lv_iconst (v := 0) hx hb dX8_areOutsideMarks_27 (by decide) ?_
        exact W.zret (v := 0) (ty := .boolean) hx hb hr rfl (fun t ht hW => ⟨⟨(some (.int 0)), rfl, (by first | exact Or.inr (Or.inl ⟨rfl, rfl⟩) | exact Or.inr (Or.inr (Or.inl ⟨rfl, rfl⟩)) | exact Or.inr (Or.inr (Or.inr (Or.inl ⟨rfl, rfl⟩))) | exact Or.inr (Or.inr (Or.inr (Or.inr (Or.inl ⟨rfl, rfl⟩)))) | exact Or.inr (Or.inr (Or.inr (Or.inr (Or.inr (⟨rfl, rfl⟩))))))⟩, hS.F ht⟩) hS.2.2 dX8_areOutsideMarks_28
      · refine clR (va_runS (As := [.int 6, .int 2]) (rest := []) ⟨hx, hb, hml, hown, hts⟩ (c8_hasMark l dC dI 6 2 _) (va_cwS 2 hts gX8_areOutsideMarks_X8_hasMark rfl rfl rfl (by decide +kernel) ⟨Nat.le_of_ble_eq_true rfl, Nat.le_of_ble_eq_true rfl⟩) ⟨pz_blind, pz_of hP hK hD hN [] [] rfl (by decide) rfl⟩ rfl rfl hl.1 rfl (lv_room (Nat.le_of_ble_eq_true rfl)) dX8_areOutsideMarks_12 ⟨Nat.le_of_ble_eq_true rfl, Nat.le_of_ble_eq_true rfl⟩) hS hP (fun v H locs w9 hP hS => ?_)
        obtain rfl : v = some (.int 1) := w9.trans (by decide)
        refine W.eq (g2 := F0 m 15 ls [.int 1]) rfl ?_
        refine lv_if_eq (tgt := 27) hx hb dX8_areOutsideMarks_15 (by decide) (fun h => absurd h (by decide)) (fun _ => ?_)
        refine lv_iload_n hx hb dX8_areOutsideMarks_18 rfl (lv_at hl 0 rfl) ?_
        refine lv_iconst (v := 2) hx hb dX8_areOutsideMarks_19 (by decide) ?_
        refine lv_icmp_eq (tgt := 27) hx hb dX8_areOutsideMarks_20 (by decide) (fun h => absurd h (by decide)) (fun _ => ?_)
        refine lv_iconst (v := 1) hx hb dX8_areOutsideMarks_23 (by decide) ?_
        refine lv_goto (tgt := 28) hx hb dX8_areOutsideMarks_24 (by decide) ?_
        exact W.zret (v := 1) (ty := .boolean) hx hb hr rfl (fun t ht hW => ⟨⟨(some (.int 1)), rfl, (by first | exact Or.inl ⟨rfl, (by first | omega | (have kq := kz; omega) | decide)⟩)⟩, hS.F ht⟩) hS.2.2 dX8_areOutsideMarks_28
      · refine clR (va_runS (As := [.int 7, .int 2]) (rest := []) ⟨hx, hb, hml, hown, hts⟩ (c8_hasMark l dC dI 7 2 _) (va_cwS 2 hts gX8_areOutsideMarks_X8_hasMark rfl rfl rfl (by decide +kernel) ⟨Nat.le_of_ble_eq_true rfl, Nat.le_of_ble_eq_true rfl⟩) ⟨pz_blind, pz_of hP hK hD hN [] [] rfl (by decide) rfl⟩ rfl rfl hl.1 rfl (lv_room (Nat.le_of_ble_eq_true rfl)) dX8_areOutsideMarks_12 ⟨Nat.le_of_ble_eq_true rfl, Nat.le_of_ble_eq_true rfl⟩) hS hP (fun v H locs w10 hP hS => ?_)
        obtain rfl : v = some (.int 1) := w10.trans (by decide)
        refine W.eq (g2 := F0 m 15 ls [.int 1]) rfl ?_
        refine lv_if_eq (tgt := 27) hx hb dX8_areOutsideMarks_15 (by decide) (fun h => absurd h (by decide)) (fun _ => ?_)
        refine lv_iload_n hx hb dX8_areOutsideMarks_18 rfl (lv_at hl 0 rfl) ?_
        refine lv_iconst (v := 2) hx hb dX8_areOutsideMarks_19 (by decide) ?_
        refine lv_icmp_eq (tgt := 27) hx hb dX8_areOutsideMarks_20 (by decide) (fun h => absurd h (by decide)) (fun _ => ?_)
        refine lv_iconst (v := 1) hx hb dX8_areOutsideMarks_23 (by decide) ?_
        refine lv_goto (tgt := 28) hx hb dX8_areOutsideMarks_24 (by decide) ?_
        exact W.zret (v := 1) (ty := .boolean) hx hb hr rfl (fun t ht hW => ⟨⟨(some (.int 1)), rfl, (by first | exact Or.inl ⟨rfl, (by first | omega | (have kq := kz; omega) | decide)⟩)⟩, hS.F ht⟩) hS.2.2 dX8_areOutsideMarks_28

set_option maxHeartbeats 4000000 in
set_option maxRecDepth 100000 in
theorem c8_isOutsideBody (l : Launch) (dC : Nat → ClassId) (dI : Nat → Nat → Nat) (a0 a1 : Int32) (sz : Nat)  : Met l yX8_isOutsideBody wsX8_isOutsideBody ({ frames := 0, cells := 0, slots := 0, locals := 0 }) (va_Pc [.int a0, .int a1] (pz (dC, dI) [] [] sz)) (qR (fun v => (v = some (.int 1) ∧ (a0.toInt < 0 ∨ 7 < a0.toInt ∨ (a0.toInt = 5 ∧ (a1.toInt < 0 ∨ 99 < a1.toInt)))) ∨ (v = some (.int 0) ∧ (0 ≤ a0.toInt ∧ a0.toInt ≤ 7 ∧ (a0.toInt ≠ 5 ∨ (0 ≤ a1.toInt ∧ a1.toInt ≤ 99)))))) 0 0 nA := by
  refine Met.ofW (cc := cX8_isOutsideBody) (maxL := 2) (ret := (some .boolean)) (by decide) rfl ?_
  intro p e s m args below meth c s₁ B hml hv
  obtain ⟨rfl, hsz, hP, hK, hD, hN⟩ := hv
  have hx := B.exec
  have hb := B.bytes
  have hr := B.returns
  have hts := atoms_spec (ws := wsX8_isOutsideBody) B.pre
  have hown : s.vm.findClass RX8 = some m.cls := findClass_of_methodNamed B.named
  have hlocks := B.notSynchronized
  subst hsz
  have hS : va_S nA s.heap s.heap [] := va_S.rf
  have hl := lv_entry ([.int a0, .int a1]) (n := 2) (Nat.le_of_ble_eq_true rfl)
  rw [lg_entry_eq]
  generalize (lg_sl ([.int a0, .int a1]) ++ List.replicate (2 - (lg_sl ([.int a0, .int a1])).length) Slot.unset).toArray = ls at hl ⊢
  have hl : lv_has ls 2 [(0, .int a0), (1, .int a1)] := hl
  refine lv_iload_n hx hb dX8_isOutsideBody_0 rfl (lv_at hl 0 rfl) ?_
  refine lv_if_lt (tgt := 25) hx hb dX8_isOutsideBody_1 (by decide) (fun c1 => ?_) (fun c1 => ?_)
  · have ic1 : a0.toInt < 0 := il2 rfl (by decide) c1
    refine lv_iconst (v := 1) hx hb dX8_isOutsideBody_25 (by decide) ?_
    refine lv_goto (tgt := 30) hx hb dX8_isOutsideBody_26 (by decide) ?_
    exact W.zret (v := 1) (ty := .boolean) hx hb hr rfl (fun t ht hW => ⟨⟨(some (.int 1)), rfl, (by first | exact Or.inl ⟨rfl, (by first | omega | (have kq := kz; omega) | decide)⟩)⟩, hS.F ht⟩) hS.2.2 dX8_isOutsideBody_30
  · have ic1 : 0 ≤ a0.toInt := inl2 rfl (by decide) c1
    refine lv_iload_n hx hb dX8_isOutsideBody_4 rfl (lv_at hl 0 rfl) ?_
    refine lv_bipush (v := 7) hx hb dX8_isOutsideBody_5 (by decide) ?_
    refine lv_icmp_gt (tgt := 25) hx hb dX8_isOutsideBody_7 (by decide) (fun c2 => ?_) (fun c2 => ?_)
    · have ic2 : 7 < a0.toInt := il2 (by decide) rfl c2
      refine lv_iconst (v := 1) hx hb dX8_isOutsideBody_25 (by decide) ?_
      refine lv_goto (tgt := 30) hx hb dX8_isOutsideBody_26 (by decide) ?_
      exact W.zret (v := 1) (ty := .boolean) hx hb hr rfl (fun t ht hW => ⟨⟨(some (.int 1)), rfl, (by first | exact Or.inl ⟨rfl, (by first | omega | (have kq := kz; omega) | decide)⟩)⟩, hS.F ht⟩) hS.2.2 dX8_isOutsideBody_30
    · have ic2 : a0.toInt ≤ 7 := inl2 (by decide) rfl c2
      refine lv_iload_n hx hb dX8_isOutsideBody_10 rfl (lv_at hl 0 rfl) ?_
      refine lv_iconst (v := 5) hx hb dX8_isOutsideBody_11 (by decide) ?_
      refine lv_icmp_ne (tgt := 29) hx hb dX8_isOutsideBody_12 (by decide) (fun c3 => ?_) (fun c3 => ?_)
      · have ic3 : a0.toInt ≠ 5 := ine2 rfl (by decide) c3
        refine lv_iconst (v := 0) hx hb dX8_isOutsideBody_29 (by decide) ?_
        exact W.zret (v := 0) (ty := .boolean) hx hb hr rfl (fun t ht hW => ⟨⟨(some (.int 0)), rfl, (by first | exact Or.inr (⟨rfl, (by first | omega | (have kq := kz; omega) | decide)⟩))⟩, hS.F ht⟩) hS.2.2 dX8_isOutsideBody_30
      · have ic3 : a0.toInt = 5 := ieq2 rfl (by decide) c3
        refine lv_iload_n hx hb dX8_isOutsideBody_15 rfl (lv_at hl 1 rfl) ?_
        refine lv_if_lt (tgt := 25) hx hb dX8_isOutsideBody_16 (by decide) (fun c4 => ?_) (fun c4 => ?_)
        · have ic4 : a1.toInt < 0 := il2 rfl (by decide) c4
          refine lv_iconst (v := 1) hx hb dX8_isOutsideBody_25 (by decide) ?_
          refine lv_goto (tgt := 30) hx hb dX8_isOutsideBody_26 (by decide) ?_
          exact W.zret (v := 1) (ty := .boolean) hx hb hr rfl (fun t ht hW => ⟨⟨(some (.int 1)), rfl, (by first | exact Or.inl ⟨rfl, (by first | omega | (have kq := kz; omega) | decide)⟩)⟩, hS.F ht⟩) hS.2.2 dX8_isOutsideBody_30
        · have ic4 : 0 ≤ a1.toInt := inl2 rfl (by decide) c4
          refine lv_iload_n hx hb dX8_isOutsideBody_19 rfl (lv_at hl 1 rfl) ?_
          refine lv_bipush (v := 99) hx hb dX8_isOutsideBody_20 (by decide) ?_
          refine lv_icmp_le (tgt := 29) hx hb dX8_isOutsideBody_22 (by decide) (fun c5 => ?_) (fun c5 => ?_)
          · have ic5 : a1.toInt ≤ 99 := ile2 rfl (by decide) c5
            refine lv_iconst (v := 0) hx hb dX8_isOutsideBody_29 (by decide) ?_
            exact W.zret (v := 0) (ty := .boolean) hx hb hr rfl (fun t ht hW => ⟨⟨(some (.int 0)), rfl, (by first | exact Or.inr (⟨rfl, (by first | omega | (have kq := kz; omega) | decide)⟩))⟩, hS.F ht⟩) hS.2.2 dX8_isOutsideBody_30
          · have ic5 : 99 < a1.toInt := inle2 rfl (by decide) c5
            refine lv_iconst (v := 1) hx hb dX8_isOutsideBody_25 (by decide) ?_
            refine lv_goto (tgt := 30) hx hb dX8_isOutsideBody_26 (by decide) ?_
            exact W.zret (v := 1) (ty := .boolean) hx hb hr rfl (fun t ht hW => ⟨⟨(some (.int 1)), rfl, (by first | exact Or.inl ⟨rfl, (by first | omega | (have kq := kz; omega) | decide)⟩)⟩, hS.F ht⟩) hS.2.2 dX8_isOutsideBody_30

set_option maxHeartbeats 4000000 in
set_option maxRecDepth 100000 in
theorem c4_init0 (l : Launch) (dC : Nat → ClassId) (dI : Nat → Nat → Nat) (h1 r1 g1 : Nat) (a3 a5 a6 : Int32) (sz : Nat)  : Met l yX4_init wsX4_init ({ frames := 2, cells := 0, slots := 0, locals := 35 }) (va_Pc [.ref h1, .ref r1, .ref g1, .int a3, .int 0, .int a5, .int a6] (pz (dC, dI) [] [(h1, .inr (3, [.null, .int 0, .int 0, .null, .int 0, .int 0, .int 0, .int 0]))] sz)) (qW (dC, dI) (fun v w1 ty1 => v = none ∧ w1 = [(h1, .inr (3, [.ref r1, .int 0, .int 0, .ref g1, .int a3, .int 0, .int a5, .int a6]))] ∧ ty1 = []) (va_A [(h1, .inr (3, [.null, .int 0, .int 0, .null, .int 0, .int 0, .int 0, .int 0]))] sz)) 0 0 (va_A [(h1, .inr (3, [.null, .int 0, .int 0, .null, .int 0, .int 0, .int 0, .int 0]))] sz) := by
  refine Met.ofW (cc := cX4_init) (maxL := 7) (ret := none) (by decide) rfl ?_
  intro p e s m args below meth c s₁ B hml hv
  obtain ⟨rfl, hsz, hP, hK, hD, hN⟩ := hv
  have hx := B.exec
  have hb := B.bytes
  have hr := B.returns
  have hts := atoms_spec (ws := wsX4_init) B.pre
  have hown : s.vm.findClass RX4 = some m.cls := findClass_of_methodNamed B.named
  have hlocks := B.notSynchronized
  have hin : meth.name = "<init>" := (name_of_methodNamed B.named B.method).1
  subst hsz
  have hD := hD.self (sz := s.heap.size)
  generalize hAe : va_A [(h1, .inr (3, [.null, .int 0, .int 0, .null, .int 0, .int 0, .int 0, .int 0]))] s.heap.size = A at hD ⊢
  have hA : ∀ q : Nat, s.heap.size ≤ q → A q := fun q h => by rw [← hAe]; exact Or.inr h
  have hS : va_S A s.heap s.heap [] := va_S.rf
  have hl := lv_entry ([.ref h1, .ref r1, .ref g1, .int a3, .int 0, .int a5, .int a6]) (n := 7) (Nat.le_of_ble_eq_true rfl)
  rw [lg_entry_eq]
  generalize (lg_sl ([.ref h1, .ref r1, .ref g1, .int a3, .int 0, .int a5, .int a6]) ++ List.replicate (7 - (lg_sl ([.ref h1, .ref r1, .ref g1, .int a3, .int 0, .int a5, .int a6])).length) Slot.unset).toArray = ls at hl ⊢
  have hl : lv_has ls 7 [(0, .ref h1), (1, .ref r1), (2, .ref g1), (3, .int a3), (4, .int 0), (5, .int a5), (6, .int a6)] := hl
  refine lv_aload_n hx hb dX4_init_0 rfl (lv_at hl 0 rfl) ?_
  refine lv_aload_n hx hb dX4_init_1 rfl (lv_at hl 1 rfl) ?_
  refine lv_iload hx hb dX4_init_2 (lv_at hl 4 rfl) ?_
  refine lv_iconst (v := 1) hx hb dX4_init_4 (by decide) ?_
  refine clR (va_runSN (As := [.int 0, .int 1]) (rest := [.ref r1, .ref h1]) ⟨hx, hb, hml, hown, hts⟩ (c8_hasMark l dC dI 0 1 _) ⟨va_cnB 2 hts gX4_init_X8_hasMark_n3 rfl rfl rfl (hN _ (List.mem_of_getElem? (i := 36) rfl)) (hts (.initialized RX8) (by decide +kernel)) (by decide +kernel) ⟨Nat.le_of_ble_eq_true rfl, Nat.le_of_ble_eq_true rfl⟩, hts (.static yX8_hasMark) (by decide +kernel), trivial⟩ ⟨pz_blind, pz_of hP hK hD hN [] [] rfl (by decide) rfl⟩ rfl rfl hl.1 rfl (lv_room (Nat.le_of_ble_eq_true rfl)) dX4_init_5 ⟨Nat.le_of_ble_eq_true rfl, Nat.le_of_ble_eq_true rfl⟩) hS hP (fun v H locs w1 hP hS => ?_)
  obtain rfl : v = some (.int 0) := w1.trans (by decide)
  refine W.eq (g2 := F0 m 8 ls [.int 0, .ref r1, .ref h1]) rfl ?_
  refine lv_iload hx hb dX4_init_8 (lv_at hl 4 rfl) ?_
  refine lv_iconst (v := 4) hx hb dX4_init_10 (by decide) ?_
  refine clR (va_runSN (As := [.int 0, .int 4]) (rest := [.int 0, .ref r1, .ref h1]) ⟨hx, hb, hml, hown, hts⟩ (c8_hasMark l dC dI 0 4 _) ⟨va_cnB 2 hts gX4_init_X8_hasMark_n3 rfl rfl rfl (hN _ (List.mem_of_getElem? (i := 36) rfl)) (hts (.initialized RX8) (by decide +kernel)) (by decide +kernel) ⟨Nat.le_of_ble_eq_true rfl, Nat.le_of_ble_eq_true rfl⟩, hts (.static yX8_hasMark) (by decide +kernel), trivial⟩ ⟨pz_blind, pz_of hP hK hD hN [] [] rfl (by decide) rfl⟩ rfl rfl hl.1 rfl (lv_room (Nat.le_of_ble_eq_true rfl)) dX4_init_11 ⟨Nat.le_of_ble_eq_true rfl, Nat.le_of_ble_eq_true rfl⟩) hS hP (fun v H locs w2 hP hS => ?_)
  obtain rfl : v = some (.int 0) := w2.trans (by decide)
  refine W.eq (g2 := F0 m 14 ls [.int 0, .int 0, .ref r1, .ref h1]) rfl ?_
  refine clW (wr := []) [0] [] (va_runIN (As := [.ref r1, .int 0, .int 0]) (rest := []) ⟨hx, hb, hml, hown, hts⟩ (c3_initM00 l dC dI h1 r1 _) ⟨va_cnB 3 hts gX4_init_X3_init_n7 rfl rfl rfl (hN _ (List.mem_of_getElem? (i := 37) rfl)) (hts (.initialized RX3) (by decide +kernel)) (by decide +kernel) ⟨Nat.le_of_ble_eq_true rfl, Nat.le_of_ble_eq_true rfl⟩, rfl, hts (.instanceMethod yX3_init) (by decide +kernel)⟩ ⟨pz_blind, pz_of hP hK hD hN [0] [] rfl (by decide) rfl⟩ rfl rfl hl.1 rfl (lv_room (Nat.le_of_ble_eq_true rfl)) dX4_init_14 ⟨Nat.le_of_ble_eq_true rfl, Nat.le_of_ble_eq_true rfl⟩) hS hP hD hK hA rfl rfl (by decide) (by decide) (fun v w1 ty1 H locs w3 hP hD hK hS => ?_)
  obtain ⟨rfl, rfl, rfl⟩ := w3
  refine W.eq (g2 := F0 m 17 ls []) rfl ?_
  have hP : va_P (dC, dI) vwCl [(h1, .inr (3, [.ref r1, .int 0, .int 0, .null, .int 0, .int 0, .int 0, .int 0]))] H := hP
  have hD : va_D A [(h1, .inr (3, [.ref r1, .int 0, .int 0, .null, .int 0, .int 0, .int 0, .int 0]))] := hD
  have hK : va_K (dC, dI) vwCl [] s := hK
  refine W.cs (cells' := 0) (slots' := 0) rfl rfl ?_
  refine lv_aload_n hx hb dX4_init_17 rfl (lv_at hl 0 rfl) ?_
  refine lv_aload_n hx hb dX4_init_18 rfl (lv_at hl 2 rfl) ?_
  refine va_putF (D := (dC, dI)) (own := RX4) (ref := "ReflectModels$Method") (index := 13) (ci := 3) (v := .ref g1) (ty := .object "ReflectModels$Signature") (C := RX4) (T := TX4) (N := 8) hx hb hts inX4_init_4 tyX4 tyX4_ok nmX4 hown hK hP hD hS 0 rfl rfl 3 (by decide) (hts (.fieldLink RX4 13 "ReflectModels$Method" "signature" "LReflectModels$Signature;") (by decide +kernel)) (fun _ h9 => h9) rfl hin rfl (by decide +kernel) rfl rfl (Nat.le_of_ble_eq_true rfl) dX4_init_19 (fun H locs hP hD hS => ?_)
  have hP : va_P (dC, dI) vwCl [(h1, .inr (3, [.ref r1, .int 0, .int 0, .ref g1, .int 0, .int 0, .int 0, .int 0]))] H := hP
  have hD : va_D A [(h1, .inr (3, [.ref r1, .int 0, .int 0, .ref g1, .int 0, .int 0, .int 0, .int 0]))] := hD
  refine lv_aload_n hx hb dX4_init_22 rfl (lv_at hl 0 rfl) ?_
  refine lv_iload_n hx hb dX4_init_23 rfl (lv_at hl 3 rfl) ?_
  refine va_putF (D := (dC, dI)) (own := RX4) (ref := "ReflectModels$Method") (index := 19) (ci := 3) (v := .int a3) (ty := .int) (C := RX4) (T := TX4) (N := 8) hx hb hts inX4_init_4 tyX4 tyX4_ok nmX4 hown hK hP hD hS 0 rfl rfl 4 (by decide) (hts (.fieldLink RX4 19 "ReflectModels$Method" "gives" "I") (by decide +kernel)) (fun _ h9 => h9) rfl hin rfl (by decide +kernel) rfl rfl (Nat.le_of_ble_eq_true rfl) dX4_init_24 (fun H locs hP hD hS => ?_)
  have hP : va_P (dC, dI) vwCl [(h1, .inr (3, [.ref r1, .int 0, .int 0, .ref g1, .int a3, .int 0, .int 0, .int 0]))] H := hP
  have hD : va_D A [(h1, .inr (3, [.ref r1, .int 0, .int 0, .ref g1, .int a3, .int 0, .int 0, .int 0]))] := hD
  refine lv_aload_n hx hb dX4_init_27 rfl (lv_at hl 0 rfl) ?_
  refine lv_iload hx hb dX4_init_28 (lv_at hl 4 rfl) ?_
  refine lv_iconst (v := 2) hx hb dX4_init_30 (by decide) ?_
  refine clR (va_runSN (As := [.int 0, .int 2]) (rest := [.ref h1]) ⟨hx, hb, hml, hown, hts⟩ (c8_hasMark l dC dI 0 2 _) ⟨va_cnB 2 hts gX4_init_X8_hasMark_n3 rfl rfl rfl (hN _ (List.mem_of_getElem? (i := 36) rfl)) (hts (.initialized RX8) (by decide +kernel)) (by decide +kernel) ⟨Nat.le_of_ble_eq_true rfl, Nat.le_of_ble_eq_true rfl⟩, hts (.static yX8_hasMark) (by decide +kernel), trivial⟩ ⟨pz_blind, pz_of hP hK hD hN [] [] rfl (by decide) rfl⟩ rfl rfl hl.1 rfl (lv_room (Nat.le_of_ble_eq_true rfl)) dX4_init_31 ⟨Nat.le_of_ble_eq_true rfl, Nat.le_of_ble_eq_true rfl⟩) hS hP (fun v H locs w4 hP hS => ?_)
  obtain rfl : v = some (.int 0) := w4.trans (by decide)
  refine W.eq (g2 := F0 m 34 ls [.int 0, .ref h1]) rfl ?_
  refine va_putF (D := (dC, dI)) (own := RX4) (ref := "ReflectModels$Method") (index := 23) (ci := 3) (v := .int 0) (ty := .boolean) (C := RX4) (T := TX4) (N := 8) hx hb hts inX4_init_4 tyX4 tyX4_ok nmX4 hown hK hP hD hS 0 rfl rfl 5 (by decide) (hts (.fieldLink RX4 23 "ReflectModels$Method" "isAbstract" "Z") (by decide +kernel)) (fun _ h9 => h9) rfl hin rfl (by decide +kernel) rfl rfl (Nat.le_of_ble_eq_true rfl) dX4_init_34 (fun H locs hP hD hS => ?_)
  have hP : va_P (dC, dI) vwCl [(h1, .inr (3, [.ref r1, .int 0, .int 0, .ref g1, .int a3, .int 0, .int 0, .int 0]))] H := hP
  have hD : va_D A [(h1, .inr (3, [.ref r1, .int 0, .int 0, .ref g1, .int a3, .int 0, .int 0, .int 0]))] := hD
  refine lv_aload_n hx hb dX4_init_37 rfl (lv_at hl 0 rfl) ?_
  refine lv_iload hx hb dX4_init_38 (lv_at hl 5 rfl) ?_
  refine va_putF (D := (dC, dI)) (own := RX4) (ref := "ReflectModels$Method") (index := 27) (ci := 3) (v := .int a5) (ty := .int) (C := RX4) (T := TX4) (N := 8) hx hb hts inX4_init_4 tyX4 tyX4_ok nmX4 hown hK hP hD hS 0 rfl rfl 6 (by decide) (hts (.fieldLink RX4 27 "ReflectModels$Method" "body" "I") (by decide +kernel)) (fun _ h9 => h9) rfl hin rfl (by decide +kernel) rfl rfl (Nat.le_of_ble_eq_true rfl) dX4_init_40 (fun H locs hP hD hS => ?_)
  have hP : va_P (dC, dI) vwCl [(h1, .inr (3, [.ref r1, .int 0, .int 0, .ref g1, .int a3, .int 0, .int a5, .int 0]))] H := hP
  have hD : va_D A [(h1, .inr (3, [.ref r1, .int 0, .int 0, .ref g1, .int a3, .int 0, .int a5, .int 0]))] := hD
  refine lv_aload_n hx hb dX4_init_43 rfl (lv_at hl 0 rfl) ?_
  refine lv_iload hx hb dX4_init_44 (lv_at hl 6 rfl) ?_
  refine va_putF (D := (dC, dI)) (own := RX4) (ref := "ReflectModels$Method") (index := 30) (ci := 3) (v := .int a6) (ty := .int) (C := RX4) (T := TX4) (N := 8) hx hb hts inX4_init_4 tyX4 tyX4_ok nmX4 hown hK hP hD hS 0 rfl rfl 7 (by decide) (hts (.fieldLink RX4 30 "ReflectModels$Method" "b" "I") (by decide +kernel)) (fun _ h9 => h9) rfl hin rfl (by decide +kernel) rfl rfl (Nat.le_of_ble_eq_true rfl) dX4_init_46 (fun H locs hP hD hS => ?_)
  have hP : va_P (dC, dI) vwCl [(h1, .inr (3, [.ref r1, .int 0, .int 0, .ref g1, .int a3, .int 0, .int a5, .int a6]))] H := hP
  have hD : va_D A [(h1, .inr (3, [.ref r1, .int 0, .int 0, .ref g1, .int a3, .int 0, .int a5, .int a6]))] := hD
  have hP9 := hP.sub (ws' := [(h1, .inr (3, [.ref r1, .int 0, .int 0, .ref g1, .int a3, .int 0, .int a5, .int a6]))]) [0] rfl
  have hD9 := hD.sub (ws' := [(h1, .inr (3, [.ref r1, .int 0, .int 0, .ref g1, .int a3, .int 0, .int a5, .int a6]))]) [0] (by decide) rfl
  have hK9 := hK.sub (tys' := []) [] rfl
  exact W.vret hx hb hr (fun t ht hW => ⟨⟨none, rfl, _, _, ⟨rfl, rfl, rfl⟩, by rw [ht]; exact hP9, va_K.moved hW.alike hK9, hD9⟩, hS.F ht⟩) hS.2.2 dX4_init_49

set_option maxHeartbeats 4000000 in
set_option maxRecDepth 100000 in
theorem c4_init1 (l : Launch) (dC : Nat → ClassId) (dI : Nat → Nat → Nat) (h1 r1 g1 : Nat) (a3 a5 a6 : Int32) (sz : Nat)  : Met l yX4_init wsX4_init ({ frames := 2, cells := 0, slots := 0, locals := 35 }) (va_Pc [.ref h1, .ref r1, .ref g1, .int a3, .int 1, .int a5, .int a6] (pz (dC, dI) [] [(h1, .inr (3, [.null, .int 0, .int 0, .null, .int 0, .int 0, .int 0, .int 0]))] sz)) (qW (dC, dI) (fun v w1 ty1 => v = none ∧ w1 = [(h1, .inr (3, [.ref r1, .int 1, .int 0, .ref g1, .int a3, .int 0, .int a5, .int a6]))] ∧ ty1 = []) (va_A [(h1, .inr (3, [.null, .int 0, .int 0, .null, .int 0, .int 0, .int 0, .int 0]))] sz)) 0 0 (va_A [(h1, .inr (3, [.null, .int 0, .int 0, .null, .int 0, .int 0, .int 0, .int 0]))] sz) := by
  refine Met.ofW (cc := cX4_init) (maxL := 7) (ret := none) (by decide) rfl ?_
  intro p e s m args below meth c s₁ B hml hv
  obtain ⟨rfl, hsz, hP, hK, hD, hN⟩ := hv
  have hx := B.exec
  have hb := B.bytes
  have hr := B.returns
  have hts := atoms_spec (ws := wsX4_init) B.pre
  have hown : s.vm.findClass RX4 = some m.cls := findClass_of_methodNamed B.named
  have hlocks := B.notSynchronized
  have hin : meth.name = "<init>" := (name_of_methodNamed B.named B.method).1
  subst hsz
  have hD := hD.self (sz := s.heap.size)
  generalize hAe : va_A [(h1, .inr (3, [.null, .int 0, .int 0, .null, .int 0, .int 0, .int 0, .int 0]))] s.heap.size = A at hD ⊢
  have hA : ∀ q : Nat, s.heap.size ≤ q → A q := fun q h => by rw [← hAe]; exact Or.inr h
  have hS : va_S A s.heap s.heap [] := va_S.rf
  have hl := lv_entry ([.ref h1, .ref r1, .ref g1, .int a3, .int 1, .int a5, .int a6]) (n := 7) (Nat.le_of_ble_eq_true rfl)
  rw [lg_entry_eq]
  generalize (lg_sl ([.ref h1, .ref r1, .ref g1, .int a3, .int 1, .int a5, .int a6]) ++ List.replicate (7 - (lg_sl ([.ref h1, .ref r1, .ref g1, .int a3, .int 1, .int a5, .int a6])).length) Slot.unset).toArray = ls at hl ⊢
  have hl : lv_has ls 7 [(0, .ref h1), (1, .ref r1), (2, .ref g1), (3, .int a3), (4, .int 1), (5, .int a5), (6, .int a6)] := hl
  refine lv_aload_n hx hb dX4_init_0 rfl (lv_at hl 0 rfl) ?_
  refine lv_aload_n hx hb dX4_init_1 rfl (lv_at hl 1 rfl) ?_
  refine lv_iload hx hb dX4_init_2 (lv_at hl 4 rfl) ?_
  refine lv_iconst (v := 1) hx hb dX4_init_4 (by decide) ?_
  refine clR (va_runSN (As := [.int 1, .int 1]) (rest := [.ref r1, .ref h1]) ⟨hx, hb, hml, hown, hts⟩ (c8_hasMark l dC dI 1 1 _) ⟨va_cnB 2 hts gX4_init_X8_hasMark_n3 rfl rfl rfl (hN _ (List.mem_of_getElem? (i := 36) rfl)) (hts (.initialized RX8) (by decide +kernel)) (by decide +kernel) ⟨Nat.le_of_ble_eq_true rfl, Nat.le_of_ble_eq_true rfl⟩, hts (.static yX8_hasMark) (by decide +kernel), trivial⟩ ⟨pz_blind, pz_of hP hK hD hN [] [] rfl (by decide) rfl⟩ rfl rfl hl.1 rfl (lv_room (Nat.le_of_ble_eq_true rfl)) dX4_init_5 ⟨Nat.le_of_ble_eq_true rfl, Nat.le_of_ble_eq_true rfl⟩) hS hP (fun v H locs w1 hP hS => ?_)
  obtain rfl : v = some (.int 1) := w1.trans (by decide)
  refine W.eq (g2 := F0 m 8 ls [.int 1, .ref r1, .ref h1]) rfl ?_
  refine lv_iload hx hb dX4_init_8 (lv_at hl 4 rfl) ?_
  refine lv_iconst (v := 4) hx hb dX4_init_10 (by decide) ?_
  refine clR (va_runSN (As := [.int 1, .int 4]) (rest := [.int 1, .ref r1, .ref h1]) ⟨hx, hb, hml, hown, hts⟩ (c8_hasMark l dC dI 1 4 _) ⟨va_cnB 2 hts gX4_init_X8_hasMark_n3 rfl rfl rfl (hN _ (List.mem_of_getElem? (i := 36) rfl)) (hts (.initialized RX8) (by decide +kernel)) (by decide +kernel) ⟨Nat.le_of_ble_eq_true rfl, Nat.le_of_ble_eq_true rfl⟩, hts (.static yX8_hasMark) (by decide +kernel), trivial⟩ ⟨pz_blind, pz_of hP hK hD hN [] [] rfl (by decide) rfl⟩ rfl rfl hl.1 rfl (lv_room (Nat.le_of_ble_eq_true rfl)) dX4_init_11 ⟨Nat.le_of_ble_eq_true rfl, Nat.le_of_ble_eq_true rfl⟩) hS hP (fun v H locs w2 hP hS => ?_)
  obtain rfl : v = some (.int 0) := w2.trans (by decide)
  refine W.eq (g2 := F0 m 14 ls [.int 0, .int 1, .ref r1, .ref h1]) rfl ?_
  refine clW (wr := []) [0] [] (va_runIN (As := [.ref r1, .int 1, .int 0]) (rest := []) ⟨hx, hb, hml, hown, hts⟩ (c3_initM10 l dC dI h1 r1 _) ⟨va_cnB 3 hts gX4_init_X3_init_n7 rfl rfl rfl (hN _ (List.mem_of_getElem? (i := 37) rfl)) (hts (.initialized RX3) (by decide +kernel)) (by decide +kernel) ⟨Nat.le_of_ble_eq_true rfl, Nat.le_of_ble_eq_true rfl⟩, rfl, hts (.instanceMethod yX3_init) (by decide +kernel)⟩ ⟨pz_blind, pz_of hP hK hD hN [0] [] rfl (by decide) rfl⟩ rfl rfl hl.1 rfl (lv_room (Nat.le_of_ble_eq_true rfl)) dX4_init_14 ⟨Nat.le_of_ble_eq_true rfl, Nat.le_of_ble_eq_true rfl⟩) hS hP hD hK hA rfl rfl (by decide) (by decide) (fun v w1 ty1 H locs w3 hP hD hK hS => ?_)
  obtain ⟨rfl, rfl, rfl⟩ := w3
  refine W.eq (g2 := F0 m 17 ls []) rfl ?_
  have hP : va_P (dC, dI) vwCl [(h1, .inr (3, [.ref r1, .int 1, .int 0, .null, .int 0, .int 0, .int 0, .int 0]))] H := hP
  have hD : va_D A [(h1, .inr (3, [.ref r1, .int 1, .int 0, .null, .int 0, .int 0, .int 0, .int 0]))] := hD
  have hK : va_K (dC, dI) vwCl [] s := hK
  refine W.cs (cells' := 0) (slots' := 0) rfl rfl ?_
  refine lv_aload_n hx hb dX4_init_17 rfl (lv_at hl 0 rfl) ?_
  refine lv_aload_n hx hb dX4_init_18 rfl (lv_at hl 2 rfl) ?_
  refine va_putF (D := (dC, dI)) (own := RX4) (ref := "ReflectModels$Method") (index := 13) (ci := 3) (v := .ref g1) (ty := .object "ReflectModels$Signature") (C := RX4) (T := TX4) (N := 8) hx hb hts inX4_init_4 tyX4 tyX4_ok nmX4 hown hK hP hD hS 0 rfl rfl 3 (by decide) (hts (.fieldLink RX4 13 "ReflectModels$Method" "signature" "LReflectModels$Signature;") (by decide +kernel)) (fun _ h9 => h9) rfl hin rfl (by decide +kernel) rfl rfl (Nat.le_of_ble_eq_true rfl) dX4_init_19 (fun H locs hP hD hS => ?_)
  have hP : va_P (dC, dI) vwCl [(h1, .inr (3, [.ref r1, .int 1, .int 0, .ref g1, .int 0, .int 0, .int 0, .int 0]))] H := hP
  have hD : va_D A [(h1, .inr (3, [.ref r1, .int 1, .int 0, .ref g1, .int 0, .int 0, .int 0, .int 0]))] := hD
  refine lv_aload_n hx hb dX4_init_22 rfl (lv_at hl 0 rfl) ?_
  refine lv_iload_n hx hb dX4_init_23 rfl (lv_at hl 3 rfl) ?_
  refine va_putF (D := (dC, dI)) (own := RX4) (ref := "ReflectModels$Method") (index := 19) (ci := 3) (v := .int a3) (ty := .int) (C := RX4) (T := TX4) (N := 8) hx hb hts inX4_init_4 tyX4 tyX4_ok nmX4 hown hK hP hD hS 0 rfl rfl 4 (by decide) (hts (.fieldLink RX4 19 "ReflectModels$Method" "gives" "I") (by decide +kernel)) (fun _ h9 => h9) rfl hin rfl (by decide +kernel) rfl rfl (Nat.le_of_ble_eq_true rfl) dX4_init_24 (fun H locs hP hD hS => ?_)
  have hP : va_P (dC, dI) vwCl [(h1, .inr (3, [.ref r1, .int 1, .int 0, .ref g1, .int a3, .int 0, .int 0, .int 0]))] H := hP
  have hD : va_D A [(h1, .inr (3, [.ref r1, .int 1, .int 0, .ref g1, .int a3, .int 0, .int 0, .int 0]))] := hD
  refine lv_aload_n hx hb dX4_init_27 rfl (lv_at hl 0 rfl) ?_
  refine lv_iload hx hb dX4_init_28 (lv_at hl 4 rfl) ?_
  refine lv_iconst (v := 2) hx hb dX4_init_30 (by decide) ?_
  refine clR (va_runSN (As := [.int 1, .int 2]) (rest := [.ref h1]) ⟨hx, hb, hml, hown, hts⟩ (c8_hasMark l dC dI 1 2 _) ⟨va_cnB 2 hts gX4_init_X8_hasMark_n3 rfl rfl rfl (hN _ (List.mem_of_getElem? (i := 36) rfl)) (hts (.initialized RX8) (by decide +kernel)) (by decide +kernel) ⟨Nat.le_of_ble_eq_true rfl, Nat.le_of_ble_eq_true rfl⟩, hts (.static yX8_hasMark) (by decide +kernel), trivial⟩ ⟨pz_blind, pz_of hP hK hD hN [] [] rfl (by decide) rfl⟩ rfl rfl hl.1 rfl (lv_room (Nat.le_of_ble_eq_true rfl)) dX4_init_31 ⟨Nat.le_of_ble_eq_true rfl, Nat.le_of_ble_eq_true rfl⟩) hS hP (fun v H locs w4 hP hS => ?_)
  obtain rfl : v = some (.int 0) := w4.trans (by decide)
  refine W.eq (g2 := F0 m 34 ls [.int 0, .ref h1]) rfl ?_
  refine va_putF (D := (dC, dI)) (own := RX4) (ref := "ReflectModels$Method") (index := 23) (ci := 3) (v := .int 0) (ty := .boolean) (C := RX4) (T := TX4) (N := 8) hx hb hts inX4_init_4 tyX4 tyX4_ok nmX4 hown hK hP hD hS 0 rfl rfl 5 (by decide) (hts (.fieldLink RX4 23 "ReflectModels$Method" "isAbstract" "Z") (by decide +kernel)) (fun _ h9 => h9) rfl hin rfl (by decide +kernel) rfl rfl (Nat.le_of_ble_eq_true rfl) dX4_init_34 (fun H locs hP hD hS => ?_)
  have hP : va_P (dC, dI) vwCl [(h1, .inr (3, [.ref r1, .int 1, .int 0, .ref g1, .int a3, .int 0, .int 0, .int 0]))] H := hP
  have hD : va_D A [(h1, .inr (3, [.ref r1, .int 1, .int 0, .ref g1, .int a3, .int 0, .int 0, .int 0]))] := hD
  refine lv_aload_n hx hb dX4_init_37 rfl (lv_at hl 0 rfl) ?_
  refine lv_iload hx hb dX4_init_38 (lv_at hl 5 rfl) ?_
  refine va_putF (D := (dC, dI)) (own := RX4) (ref := "ReflectModels$Method") (index := 27) (ci := 3) (v := .int a5) (ty := .int) (C := RX4) (T := TX4) (N := 8) hx hb hts inX4_init_4 tyX4 tyX4_ok nmX4 hown hK hP hD hS 0 rfl rfl 6 (by decide) (hts (.fieldLink RX4 27 "ReflectModels$Method" "body" "I") (by decide +kernel)) (fun _ h9 => h9) rfl hin rfl (by decide +kernel) rfl rfl (Nat.le_of_ble_eq_true rfl) dX4_init_40 (fun H locs hP hD hS => ?_)
  have hP : va_P (dC, dI) vwCl [(h1, .inr (3, [.ref r1, .int 1, .int 0, .ref g1, .int a3, .int 0, .int a5, .int 0]))] H := hP
  have hD : va_D A [(h1, .inr (3, [.ref r1, .int 1, .int 0, .ref g1, .int a3, .int 0, .int a5, .int 0]))] := hD
  refine lv_aload_n hx hb dX4_init_43 rfl (lv_at hl 0 rfl) ?_
  refine lv_iload hx hb dX4_init_44 (lv_at hl 6 rfl) ?_
  refine va_putF (D := (dC, dI)) (own := RX4) (ref := "ReflectModels$Method") (index := 30) (ci := 3) (v := .int a6) (ty := .int) (C := RX4) (T := TX4) (N := 8) hx hb hts inX4_init_4 tyX4 tyX4_ok nmX4 hown hK hP hD hS 0 rfl rfl 7 (by decide) (hts (.fieldLink RX4 30 "ReflectModels$Method" "b" "I") (by decide +kernel)) (fun _ h9 => h9) rfl hin rfl (by decide +kernel) rfl rfl (Nat.le_of_ble_eq_true rfl) dX4_init_46 (fun H locs hP hD hS => ?_)
  have hP : va_P (dC, dI) vwCl [(h1, .inr (3, [.ref r1, .int 1, .int 0, .ref g1, .int a3, .int 0, .int a5, .int a6]))] H := hP
  have hD : va_D A [(h1, .inr (3, [.ref r1, .int 1, .int 0, .ref g1, .int a3, .int 0, .int a5, .int a6]))] := hD
  have hP9 := hP.sub (ws' := [(h1, .inr (3, [.ref r1, .int 1, .int 0, .ref g1, .int a3, .int 0, .int a5, .int a6]))]) [0] rfl
  have hD9 := hD.sub (ws' := [(h1, .inr (3, [.ref r1, .int 1, .int 0, .ref g1, .int a3, .int 0, .int a5, .int a6]))]) [0] (by decide) rfl
  have hK9 := hK.sub (tys' := []) [] rfl
  exact W.vret hx hb hr (fun t ht hW => ⟨⟨none, rfl, _, _, ⟨rfl, rfl, rfl⟩, by rw [ht]; exact hP9, va_K.moved hW.alike hK9, hD9⟩, hS.F ht⟩) hS.2.2 dX4_init_49

set_option maxHeartbeats 4000000 in
set_option maxRecDepth 100000 in
theorem c4_init2 (l : Launch) (dC : Nat → ClassId) (dI : Nat → Nat → Nat) (h1 r1 g1 : Nat) (a3 a5 a6 : Int32) (sz : Nat)  : Met l yX4_init wsX4_init ({ frames := 2, cells := 0, slots := 0, locals := 35 }) (va_Pc [.ref h1, .ref r1, .ref g1, .int a3, .int 2, .int a5, .int a6] (pz (dC, dI) [] [(h1, .inr (3, [.null, .int 0, .int 0, .null, .int 0, .int 0, .int 0, .int 0]))] sz)) (qW (dC, dI) (fun v w1 ty1 => v = none ∧ w1 = [(h1, .inr (3, [.ref r1, .int 0, .int 0, .ref g1, .int a3, .int 1, .int a5, .int a6]))] ∧ ty1 = []) (va_A [(h1, .inr (3, [.null, .int 0, .int 0, .null, .int 0, .int 0, .int 0, .int 0]))] sz)) 0 0 (va_A [(h1, .inr (3, [.null, .int 0, .int 0, .null, .int 0, .int 0, .int 0, .int 0]))] sz) := by
  refine Met.ofW (cc := cX4_init) (maxL := 7) (ret := none) (by decide) rfl ?_
  intro p e s m args below meth c s₁ B hml hv
  obtain ⟨rfl, hsz, hP, hK, hD, hN⟩ := hv
  have hx := B.exec
  have hb := B.bytes
  have hr := B.returns
  have hts := atoms_spec (ws := wsX4_init) B.pre
  have hown : s.vm.findClass RX4 = some m.cls := findClass_of_methodNamed B.named
  have hlocks := B.notSynchronized
  have hin : meth.name = "<init>" := (name_of_methodNamed B.named B.method).1
  subst hsz
  have hD := hD.self (sz := s.heap.size)
  generalize hAe : va_A [(h1, .inr (3, [.null, .int 0, .int 0, .null, .int 0, .int 0, .int 0, .int 0]))] s.heap.size = A at hD ⊢
  have hA : ∀ q : Nat, s.heap.size ≤ q → A q := fun q h => by rw [← hAe]; exact Or.inr h
  have hS : va_S A s.heap s.heap [] := va_S.rf
  have hl := lv_entry ([.ref h1, .ref r1, .ref g1, .int a3, .int 2, .int a5, .int a6]) (n := 7) (Nat.le_of_ble_eq_true rfl)
  rw [lg_entry_eq]
  generalize (lg_sl ([.ref h1, .ref r1, .ref g1, .int a3, .int 2, .int a5, .int a6]) ++ List.replicate (7 - (lg_sl ([.ref h1, .ref r1, .ref g1, .int a3, .int 2, .int a5, .int a6])).length) Slot.unset).toArray = ls at hl ⊢
  have hl : lv_has ls 7 [(0, .ref h1), (1, .ref r1), (2, .ref g1), (3, .int a3), (4, .int 2), (5, .int a5), (6, .int a6)] := hl
  refine lv_aload_n hx hb dX4_init_0 rfl (lv_at hl 0 rfl) ?_
  refine lv_aload_n hx hb dX4_init_1 rfl (lv_at hl 1 rfl) ?_
  refine lv_iload hx hb dX4_init_2 (lv_at hl 4 rfl) ?_
  refine lv_iconst (v := 1) hx hb dX4_init_4 (by decide) ?_
  refine clR (va_runSN (As := [.int 2, .int 1]) (rest := [.ref r1, .ref h1]) ⟨hx, hb, hml, hown, hts⟩ (c8_hasMark l dC dI 2 1 _) ⟨va_cnB 2 hts gX4_init_X8_hasMark_n3 rfl rfl rfl (hN _ (List.mem_of_getElem? (i := 36) rfl)) (hts (.initialized RX8) (by decide +kernel)) (by decide +kernel) ⟨Nat.le_of_ble_eq_true rfl, Nat.le_of_ble_eq_true rfl⟩, hts (.static yX8_hasMark) (by decide +kernel), trivial⟩ ⟨pz_blind, pz_of hP hK hD hN [] [] rfl (by decide) rfl⟩ rfl rfl hl.1 rfl (lv_room (Nat.le_of_ble_eq_true rfl)) dX4_init_5 ⟨Nat.le_of_ble_eq_true rfl, Nat.le_of_ble_eq_true rfl⟩) hS hP (fun v H locs w1 hP hS => ?_)
  obtain rfl : v = some (.int 0) := w1.trans (by decide)
  refine W.eq (g2 := F0 m 8 ls [.int 0, .ref r1, .ref h1]) rfl ?_
  refine lv_iload hx hb dX4_init_8 (lv_at hl 4 rfl) ?_
  refine lv_iconst (v := 4) hx hb dX4_init_10 (by decide) ?_
  refine clR (va_runSN (As := [.int 2, .int 4]) (rest := [.int 0, .ref r1, .ref h1]) ⟨hx, hb, hml, hown, hts⟩ (c8_hasMark l dC dI 2 4 _) ⟨va_cnB 2 hts gX4_init_X8_hasMark_n3 rfl rfl rfl (hN _ (List.mem_of_getElem? (i := 36) rfl)) (hts (.initialized RX8) (by decide +kernel)) (by decide +kernel) ⟨Nat.le_of_ble_eq_true rfl, Nat.le_of_ble_eq_true rfl⟩, hts (.static yX8_hasMark) (by decide +kernel), trivial⟩ ⟨pz_blind, pz_of hP hK hD hN [] [] rfl (by decide) rfl⟩ rfl rfl hl.1 rfl (lv_room (Nat.le_of_ble_eq_true rfl)) dX4_init_11 ⟨Nat.le_of_ble_eq_true rfl, Nat.le_of_ble_eq_true rfl⟩) hS hP (fun v H locs w2 hP hS => ?_)
  obtain rfl : v = some (.int 0) := w2.trans (by decide)
  refine W.eq (g2 := F0 m 14 ls [.int 0, .int 0, .ref r1, .ref h1]) rfl ?_
  refine clW (wr := []) [0] [] (va_runIN (As := [.ref r1, .int 0, .int 0]) (rest := []) ⟨hx, hb, hml, hown, hts⟩ (c3_initM00 l dC dI h1 r1 _) ⟨va_cnB 3 hts gX4_init_X3_init_n7 rfl rfl rfl (hN _ (List.mem_of_getElem? (i := 37) rfl)) (hts (.initialized RX3) (by decide +kernel)) (by decide +kernel) ⟨Nat.le_of_ble_eq_true rfl, Nat.le_of_ble_eq_true rfl⟩, rfl, hts (.instanceMethod yX3_init) (by decide +kernel)⟩ ⟨pz_blind, pz_of hP hK hD hN [0] [] rfl (by decide) rfl⟩ rfl rfl hl.1 rfl (lv_room (Nat.le_of_ble_eq_true rfl)) dX4_init_14 ⟨Nat.le_of_ble_eq_true rfl, Nat.le_of_ble_eq_true rfl⟩) hS hP hD hK hA rfl rfl (by decide) (by decide) (fun v w1 ty1 H locs w3 hP hD hK hS => ?_)
  obtain ⟨rfl, rfl, rfl⟩ := w3
  refine W.eq (g2 := F0 m 17 ls []) rfl ?_
  have hP : va_P (dC, dI) vwCl [(h1, .inr (3, [.ref r1, .int 0, .int 0, .null, .int 0, .int 0, .int 0, .int 0]))] H := hP
  have hD : va_D A [(h1, .inr (3, [.ref r1, .int 0, .int 0, .null, .int 0, .int 0, .int 0, .int 0]))] := hD
  have hK : va_K (dC, dI) vwCl [] s := hK
  refine W.cs (cells' := 0) (slots' := 0) rfl rfl ?_
  refine lv_aload_n hx hb dX4_init_17 rfl (lv_at hl 0 rfl) ?_
  refine lv_aload_n hx hb dX4_init_18 rfl (lv_at hl 2 rfl) ?_
  refine va_putF (D := (dC, dI)) (own := RX4) (ref := "ReflectModels$Method") (index := 13) (ci := 3) (v := .ref g1) (ty := .object "ReflectModels$Signature") (C := RX4) (T := TX4) (N := 8) hx hb hts inX4_init_4 tyX4 tyX4_ok nmX4 hown hK hP hD hS 0 rfl rfl 3 (by decide) (hts (.fieldLink RX4 13 "ReflectModels$Method" "signature" "LReflectModels$Signature;") (by decide +kernel)) (fun _ h9 => h9) rfl hin rfl (by decide +kernel) rfl rfl (Nat.le_of_ble_eq_true rfl) dX4_init_19 (fun H locs hP hD hS => ?_)
  have hP : va_P (dC, dI) vwCl [(h1, .inr (3, [.ref r1, .int 0, .int 0, .ref g1, .int 0, .int 0, .int 0, .int 0]))] H := hP
  have hD : va_D A [(h1, .inr (3, [.ref r1, .int 0, .int 0, .ref g1, .int 0, .int 0, .int 0, .int 0]))] := hD
  refine lv_aload_n hx hb dX4_init_22 rfl (lv_at hl 0 rfl) ?_
  refine lv_iload_n hx hb dX4_init_23 rfl (lv_at hl 3 rfl) ?_
  refine va_putF (D := (dC, dI)) (own := RX4) (ref := "ReflectModels$Method") (index := 19) (ci := 3) (v := .int a3) (ty := .int) (C := RX4) (T := TX4) (N := 8) hx hb hts inX4_init_4 tyX4 tyX4_ok nmX4 hown hK hP hD hS 0 rfl rfl 4 (by decide) (hts (.fieldLink RX4 19 "ReflectModels$Method" "gives" "I") (by decide +kernel)) (fun _ h9 => h9) rfl hin rfl (by decide +kernel) rfl rfl (Nat.le_of_ble_eq_true rfl) dX4_init_24 (fun H locs hP hD hS => ?_)
  have hP : va_P (dC, dI) vwCl [(h1, .inr (3, [.ref r1, .int 0, .int 0, .ref g1, .int a3, .int 0, .int 0, .int 0]))] H := hP
  have hD : va_D A [(h1, .inr (3, [.ref r1, .int 0, .int 0, .ref g1, .int a3, .int 0, .int 0, .int 0]))] := hD
  refine lv_aload_n hx hb dX4_init_27 rfl (lv_at hl 0 rfl) ?_
  refine lv_iload hx hb dX4_init_28 (lv_at hl 4 rfl) ?_
  refine lv_iconst (v := 2) hx hb dX4_init_30 (by decide) ?_
  refine clR (va_runSN (As := [.int 2, .int 2]) (rest := [.ref h1]) ⟨hx, hb, hml, hown, hts⟩ (c8_hasMark l dC dI 2 2 _) ⟨va_cnB 2 hts gX4_init_X8_hasMark_n3 rfl rfl rfl (hN _ (List.mem_of_getElem? (i := 36) rfl)) (hts (.initialized RX8) (by decide +kernel)) (by decide +kernel) ⟨Nat.le_of_ble_eq_true rfl, Nat.le_of_ble_eq_true rfl⟩, hts (.static yX8_hasMark) (by decide +kernel), trivial⟩ ⟨pz_blind, pz_of hP hK hD hN [] [] rfl (by decide) rfl⟩ rfl rfl hl.1 rfl (lv_room (Nat.le_of_ble_eq_true rfl)) dX4_init_31 ⟨Nat.le_of_ble_eq_true rfl, Nat.le_of_ble_eq_true rfl⟩) hS hP (fun v H locs w4 hP hS => ?_)
  obtain rfl : v = some (.int 1) := w4.trans (by decide)
  refine W.eq (g2 := F0 m 34 ls [.int 1, .ref h1]) rfl ?_
  refine va_putF (D := (dC, dI)) (own := RX4) (ref := "ReflectModels$Method") (index := 23) (ci := 3) (v := .int 1) (ty := .boolean) (C := RX4) (T := TX4) (N := 8) hx hb hts inX4_init_4 tyX4 tyX4_ok nmX4 hown hK hP hD hS 0 rfl rfl 5 (by decide) (hts (.fieldLink RX4 23 "ReflectModels$Method" "isAbstract" "Z") (by decide +kernel)) (fun _ h9 => h9) rfl hin rfl (by decide +kernel) rfl rfl (Nat.le_of_ble_eq_true rfl) dX4_init_34 (fun H locs hP hD hS => ?_)
  have hP : va_P (dC, dI) vwCl [(h1, .inr (3, [.ref r1, .int 0, .int 0, .ref g1, .int a3, .int 1, .int 0, .int 0]))] H := hP
  have hD : va_D A [(h1, .inr (3, [.ref r1, .int 0, .int 0, .ref g1, .int a3, .int 1, .int 0, .int 0]))] := hD
  refine lv_aload_n hx hb dX4_init_37 rfl (lv_at hl 0 rfl) ?_
  refine lv_iload hx hb dX4_init_38 (lv_at hl 5 rfl) ?_
  refine va_putF (D := (dC, dI)) (own := RX4) (ref := "ReflectModels$Method") (index := 27) (ci := 3) (v := .int a5) (ty := .int) (C := RX4) (T := TX4) (N := 8) hx hb hts inX4_init_4 tyX4 tyX4_ok nmX4 hown hK hP hD hS 0 rfl rfl 6 (by decide) (hts (.fieldLink RX4 27 "ReflectModels$Method" "body" "I") (by decide +kernel)) (fun _ h9 => h9) rfl hin rfl (by decide +kernel) rfl rfl (Nat.le_of_ble_eq_true rfl) dX4_init_40 (fun H locs hP hD hS => ?_)
  have hP : va_P (dC, dI) vwCl [(h1, .inr (3, [.ref r1, .int 0, .int 0, .ref g1, .int a3, .int 1, .int a5, .int 0]))] H := hP
  have hD : va_D A [(h1, .inr (3, [.ref r1, .int 0, .int 0, .ref g1, .int a3, .int 1, .int a5, .int 0]))] := hD
  refine lv_aload_n hx hb dX4_init_43 rfl (lv_at hl 0 rfl) ?_
  refine lv_iload hx hb dX4_init_44 (lv_at hl 6 rfl) ?_
  refine va_putF (D := (dC, dI)) (own := RX4) (ref := "ReflectModels$Method") (index := 30) (ci := 3) (v := .int a6) (ty := .int) (C := RX4) (T := TX4) (N := 8) hx hb hts inX4_init_4 tyX4 tyX4_ok nmX4 hown hK hP hD hS 0 rfl rfl 7 (by decide) (hts (.fieldLink RX4 30 "ReflectModels$Method" "b" "I") (by decide +kernel)) (fun _ h9 => h9) rfl hin rfl (by decide +kernel) rfl rfl (Nat.le_of_ble_eq_true rfl) dX4_init_46 (fun H locs hP hD hS => ?_)
  have hP : va_P (dC, dI) vwCl [(h1, .inr (3, [.ref r1, .int 0, .int 0, .ref g1, .int a3, .int 1, .int a5, .int a6]))] H := hP
  have hD : va_D A [(h1, .inr (3, [.ref r1, .int 0, .int 0, .ref g1, .int a3, .int 1, .int a5, .int a6]))] := hD
  have hP9 := hP.sub (ws' := [(h1, .inr (3, [.ref r1, .int 0, .int 0, .ref g1, .int a3, .int 1, .int a5, .int a6]))]) [0] rfl
  have hD9 := hD.sub (ws' := [(h1, .inr (3, [.ref r1, .int 0, .int 0, .ref g1, .int a3, .int 1, .int a5, .int a6]))]) [0] (by decide) rfl
  have hK9 := hK.sub (tys' := []) [] rfl
  exact W.vret hx hb hr (fun t ht hW => ⟨⟨none, rfl, _, _, ⟨rfl, rfl, rfl⟩, by rw [ht]; exact hP9, va_K.moved hW.alike hK9, hD9⟩, hS.F ht⟩) hS.2.2 dX4_init_49

set_option maxHeartbeats 4000000 in
set_option maxRecDepth 100000 in
theorem c4_init4 (l : Launch) (dC : Nat → ClassId) (dI : Nat → Nat → Nat) (h1 r1 g1 : Nat) (a3 a5 a6 : Int32) (sz : Nat)  : Met l yX4_init wsX4_init ({ frames := 2, cells := 0, slots := 0, locals := 35 }) (va_Pc [.ref h1, .ref r1, .ref g1, .int a3, .int 4, .int a5, .int a6] (pz (dC, dI) [] [(h1, .inr (3, [.null, .int 0, .int 0, .null, .int 0, .int 0, .int 0, .int 0]))] sz)) (qW (dC, dI) (fun v w1 ty1 => v = none ∧ w1 = [(h1, .inr (3, [.ref r1, .int 0, .int 1, .ref g1, .int a3, .int 0, .int a5, .int a6]))] ∧ ty1 = []) (va_A [(h1, .inr (3, [.null, .int 0, .int 0, .null, .int 0, .int 0, .int 0, .int 0]))] sz)) 0 0 (va_A [(h1, .inr (3, [.null, .int 0, .int 0, .null, .int 0, .int 0, .int 0, .int 0]))] sz) := by
  refine Met.ofW (cc := cX4_init) (maxL := 7) (ret := none) (by decide) rfl ?_
  intro p e s m args below meth c s₁ B hml hv
  obtain ⟨rfl, hsz, hP, hK, hD, hN⟩ := hv
  have hx := B.exec
  have hb := B.bytes
  have hr := B.returns
  have hts := atoms_spec (ws := wsX4_init) B.pre
  have hown : s.vm.findClass RX4 = some m.cls := findClass_of_methodNamed B.named
  have hlocks := B.notSynchronized
  have hin : meth.name = "<init>" := (name_of_methodNamed B.named B.method).1
  subst hsz
  have hD := hD.self (sz := s.heap.size)
  generalize hAe : va_A [(h1, .inr (3, [.null, .int 0, .int 0, .null, .int 0, .int 0, .int 0, .int 0]))] s.heap.size = A at hD ⊢
  have hA : ∀ q : Nat, s.heap.size ≤ q → A q := fun q h => by rw [← hAe]; exact Or.inr h
  have hS : va_S A s.heap s.heap [] := va_S.rf
  have hl := lv_entry ([.ref h1, .ref r1, .ref g1, .int a3, .int 4, .int a5, .int a6]) (n := 7) (Nat.le_of_ble_eq_true rfl)
  rw [lg_entry_eq]
  generalize (lg_sl ([.ref h1, .ref r1, .ref g1, .int a3, .int 4, .int a5, .int a6]) ++ List.replicate (7 - (lg_sl ([.ref h1, .ref r1, .ref g1, .int a3, .int 4, .int a5, .int a6])).length) Slot.unset).toArray = ls at hl ⊢
  have hl : lv_has ls 7 [(0, .ref h1), (1, .ref r1), (2, .ref g1), (3, .int a3), (4, .int 4), (5, .int a5), (6, .int a6)] := hl
  refine lv_aload_n hx hb dX4_init_0 rfl (lv_at hl 0 rfl) ?_
  refine lv_aload_n hx hb dX4_init_1 rfl (lv_at hl 1 rfl) ?_
  refine lv_iload hx hb dX4_init_2 (lv_at hl 4 rfl) ?_
  refine lv_iconst (v := 1) hx hb dX4_init_4 (by decide) ?_
  refine clR (va_runSN (As := [.int 4, .int 1]) (rest := [.ref r1, .ref h1]) ⟨hx, hb, hml, hown, hts⟩ (c8_hasMark l dC dI 4 1 _) ⟨va_cnB 2 hts gX4_init_X8_hasMark_n3 rfl rfl rfl (hN _ (List.mem_of_getElem? (i := 36) rfl)) (hts (.initialized RX8) (by decide +kernel)) (by decide +kernel) ⟨Nat.le_of_ble_eq_true rfl, Nat.le_of_ble_eq_true rfl⟩, hts (.static yX8_hasMark) (by decide +kernel), trivial⟩ ⟨pz_blind, pz_of hP hK hD hN [] [] rfl (by decide) rfl⟩ rfl rfl hl.1 rfl (lv_room (Nat.le_of_ble_eq_true rfl)) dX4_init_5 ⟨Nat.le_of_ble_eq_true rfl, Nat.le_of_ble_eq_true rfl⟩) hS hP (fun v H locs w1 hP hS => ?_)
  obtain rfl : v = some (.int 0) := w1.trans (by decide)
  refine W.eq (g2 := F0 m 8 ls [.int 0, .ref r1, .ref h1]) rfl ?_
  refine lv_iload hx hb dX4_init_8 (lv_at hl 4 rfl) ?_
  refine lv_iconst (v := 4) hx hb dX4_init_10 (by decide) ?_
  refine clR (va_runSN (As := [.int 4, .int 4]) (rest := [.int 0, .ref r1, .ref h1]) ⟨hx, hb, hml, hown, hts⟩ (c8_hasMark l dC dI 4 4 _) ⟨va_cnB 2 hts gX4_init_X8_hasMark_n3 rfl rfl rfl (hN _ (List.mem_of_getElem? (i := 36) rfl)) (hts (.initialized RX8) (by decide +kernel)) (by decide +kernel) ⟨Nat.le_of_ble_eq_true rfl, Nat.le_of_ble_eq_true rfl⟩, hts (.static yX8_hasMark) (by decide +kernel), trivial⟩ ⟨pz_blind, pz_of hP hK hD hN [] [] rfl (by decide) rfl⟩ rfl rfl hl.1 rfl (lv_room (Nat.le_of_ble_eq_true rfl)) dX4_init_11 ⟨Nat.le_of_ble_eq_true rfl, Nat.le_of_ble_eq_true rfl⟩) hS hP (fun v H locs w2 hP hS => ?_)
  obtain rfl : v = some (.int 1) := w2.trans (by decide)
  refine W.eq (g2 := F0 m 14 ls [.int 1, .int 0, .ref r1, .ref h1]) rfl ?_
  refine clW (wr := []) [0] [] (va_runIN (As := [.ref r1, .int 0, .int 1]) (rest := []) ⟨hx, hb, hml, hown, hts⟩ (c3_initM01 l dC dI h1 r1 _) ⟨va_cnB 3 hts gX4_init_X3_init_n7 rfl rfl rfl (hN _ (List.mem_of_getElem? (i := 37) rfl)) (hts (.initialized RX3) (by decide +kernel)) (by decide +kernel) ⟨Nat.le_of_ble_eq_true rfl, Nat.le_of_ble_eq_true rfl⟩, rfl, hts (.instanceMethod yX3_init) (by decide +kernel)⟩ ⟨pz_blind, pz_of hP hK hD hN [0] [] rfl (by decide) rfl⟩ rfl rfl hl.1 rfl (lv_room (Nat.le_of_ble_eq_true rfl)) dX4_init_14 ⟨Nat.le_of_ble_eq_true rfl, Nat.le_of_ble_eq_true rfl⟩) hS hP hD hK hA rfl rfl (by decide) (by decide) (fun v w1 ty1 H locs w3 hP hD hK hS => ?_)
  obtain ⟨rfl, rfl, rfl⟩ := w3
  refine W.eq (g2 := F0 m 17 ls []) rfl ?_
  have hP : va_P (dC, dI) vwCl [(h1, .inr (3, [.ref r1, .int 0, .int 1, .null, .int 0, .int 0, .int 0, .int 0]))] H := hP
  have hD : va_D A [(h1, .inr (3, [.ref r1, .int 0, .int 1, .null, .int 0, .int 0, .int 0, .int 0]))] := hD
  have hK : va_K (dC, dI) vwCl [] s := hK
  refine W.cs (cells' := 0) (slots' := 0) rfl rfl ?_
  refine lv_aload_n hx hb dX4_init_17 rfl (lv_at hl 0 rfl) ?_
  refine lv_aload_n hx hb dX4_init_18 rfl (lv_at hl 2 rfl) ?_
  refine va_putF (D := (dC, dI)) (own := RX4) (ref := "ReflectModels$Method") (index := 13) (ci := 3) (v := .ref g1) (ty := .object "ReflectModels$Signature") (C := RX4) (T := TX4) (N := 8) hx hb hts inX4_init_4 tyX4 tyX4_ok nmX4 hown hK hP hD hS 0 rfl rfl 3 (by decide) (hts (.fieldLink RX4 13 "ReflectModels$Method" "signature" "LReflectModels$Signature;") (by decide +kernel)) (fun _ h9 => h9) rfl hin rfl (by decide +kernel) rfl rfl (Nat.le_of_ble_eq_true rfl) dX4_init_19 (fun H locs hP hD hS => ?_)
  have hP : va_P (dC, dI) vwCl [(h1, .inr (3, [.ref r1, .int 0, .int 1, .ref g1, .int 0, .int 0, .int 0, .int 0]))] H := hP
  have hD : va_D A [(h1, .inr (3, [.ref r1, .int 0, .int 1, .ref g1, .int 0, .int 0, .int 0, .int 0]))] := hD
  refine lv_aload_n hx hb dX4_init_22 rfl (lv_at hl 0 rfl) ?_
  refine lv_iload_n hx hb dX4_init_23 rfl (lv_at hl 3 rfl) ?_
  refine va_putF (D := (dC, dI)) (own := RX4) (ref := "ReflectModels$Method") (index := 19) (ci := 3) (v := .int a3) (ty := .int) (C := RX4) (T := TX4) (N := 8) hx hb hts inX4_init_4 tyX4 tyX4_ok nmX4 hown hK hP hD hS 0 rfl rfl 4 (by decide) (hts (.fieldLink RX4 19 "ReflectModels$Method" "gives" "I") (by decide +kernel)) (fun _ h9 => h9) rfl hin rfl (by decide +kernel) rfl rfl (Nat.le_of_ble_eq_true rfl) dX4_init_24 (fun H locs hP hD hS => ?_)
  have hP : va_P (dC, dI) vwCl [(h1, .inr (3, [.ref r1, .int 0, .int 1, .ref g1, .int a3, .int 0, .int 0, .int 0]))] H := hP
  have hD : va_D A [(h1, .inr (3, [.ref r1, .int 0, .int 1, .ref g1, .int a3, .int 0, .int 0, .int 0]))] := hD
  refine lv_aload_n hx hb dX4_init_27 rfl (lv_at hl 0 rfl) ?_
  refine lv_iload hx hb dX4_init_28 (lv_at hl 4 rfl) ?_
  refine lv_iconst (v := 2) hx hb dX4_init_30 (by decide) ?_
  refine clR (va_runSN (As := [.int 4, .int 2]) (rest := [.ref h1]) ⟨hx, hb, hml, hown, hts⟩ (c8_hasMark l dC dI 4 2 _) ⟨va_cnB 2 hts gX4_init_X8_hasMark_n3 rfl rfl rfl (hN _ (List.mem_of_getElem? (i := 36) rfl)) (hts (.initialized RX8) (by decide +kernel)) (by decide +kernel) ⟨Nat.le_of_ble_eq_true rfl, Nat.le_of_ble_eq_true rfl⟩, hts (.static yX8_hasMark) (by decide +kernel), trivial⟩ ⟨pz_blind, pz_of hP hK hD hN [] [] rfl (by decide) rfl⟩ rfl rfl hl.1 rfl (lv_room (Nat.le_of_ble_eq_true rfl)) dX4_init_31 ⟨Nat.le_of_ble_eq_true rfl, Nat.le_of_ble_eq_true rfl⟩) hS hP (fun v H locs w4 hP hS => ?_)
  obtain rfl : v = some (.int 0) := w4.trans (by decide)
  refine W.eq (g2 := F0 m 34 ls [.int 0, .ref h1]) rfl ?_
  refine va_putF (D := (dC, dI)) (own := RX4) (ref := "ReflectModels$Method") (index := 23) (ci := 3) (v := .int 0) (ty := .boolean) (C := RX4) (T := TX4) (N := 8) hx hb hts inX4_init_4 tyX4 tyX4_ok nmX4 hown hK hP hD hS 0 rfl rfl 5 (by decide) (hts (.fieldLink RX4 23 "ReflectModels$Method" "isAbstract" "Z") (by decide +kernel)) (fun _ h9 => h9) rfl hin rfl (by decide +kernel) rfl rfl (Nat.le_of_ble_eq_true rfl) dX4_init_34 (fun H locs hP hD hS => ?_)
  have hP : va_P (dC, dI) vwCl [(h1, .inr (3, [.ref r1, .int 0, .int 1, .ref g1, .int a3, .int 0, .int 0, .int 0]))] H := hP
  have hD : va_D A [(h1, .inr (3, [.ref r1, .int 0, .int 1, .ref g1, .int a3, .int 0, .int 0, .int 0]))] := hD
  refine lv_aload_n hx hb dX4_init_37 rfl (lv_at hl 0 rfl) ?_
  refine lv_iload hx hb dX4_init_38 (lv_at hl 5 rfl) ?_
  refine va_putF (D := (dC, dI)) (own := RX4) (ref := "ReflectModels$Method") (index := 27) (ci := 3) (v := .int a5) (ty := .int) (C := RX4) (T := TX4) (N := 8) hx hb hts inX4_init_4 tyX4 tyX4_ok nmX4 hown hK hP hD hS 0 rfl rfl 6 (by decide) (hts (.fieldLink RX4 27 "ReflectModels$Method" "body" "I") (by decide +kernel)) (fun _ h9 => h9) rfl hin rfl (by decide +kernel) rfl rfl (Nat.le_of_ble_eq_true rfl) dX4_init_40 (fun H locs hP hD hS => ?_)
  have hP : va_P (dC, dI) vwCl [(h1, .inr (3, [.ref r1, .int 0, .int 1, .ref g1, .int a3, .int 0, .int a5, .int 0]))] H := hP
  have hD : va_D A [(h1, .inr (3, [.ref r1, .int 0, .int 1, .ref g1, .int a3, .int 0, .int a5, .int 0]))] := hD
  refine lv_aload_n hx hb dX4_init_43 rfl (lv_at hl 0 rfl) ?_
  refine lv_iload hx hb dX4_init_44 (lv_at hl 6 rfl) ?_
  refine va_putF (D := (dC, dI)) (own := RX4) (ref := "ReflectModels$Method") (index := 30) (ci := 3) (v := .int a6) (ty := .int) (C := RX4) (T := TX4) (N := 8) hx hb hts inX4_init_4 tyX4 tyX4_ok nmX4 hown hK hP hD hS 0 rfl rfl 7 (by decide) (hts (.fieldLink RX4 30 "ReflectModels$Method" "b" "I") (by decide +kernel)) (fun _ h9 => h9) rfl hin rfl (by decide +kernel) rfl rfl (Nat.le_of_ble_eq_true rfl) dX4_init_46 (fun H locs hP hD hS => ?_)
  have hP : va_P (dC, dI) vwCl [(h1, .inr (3, [.ref r1, .int 0, .int 1, .ref g1, .int a3, .int 0, .int a5, .int a6]))] H := hP
  have hD : va_D A [(h1, .inr (3, [.ref r1, .int 0, .int 1, .ref g1, .int a3, .int 0, .int a5, .int a6]))] := hD
  have hP9 := hP.sub (ws' := [(h1, .inr (3, [.ref r1, .int 0, .int 1, .ref g1, .int a3, .int 0, .int a5, .int a6]))]) [0] rfl
  have hD9 := hD.sub (ws' := [(h1, .inr (3, [.ref r1, .int 0, .int 1, .ref g1, .int a3, .int 0, .int a5, .int a6]))]) [0] (by decide) rfl
  have hK9 := hK.sub (tys' := []) [] rfl
  exact W.vret hx hb hr (fun t ht hW => ⟨⟨none, rfl, _, _, ⟨rfl, rfl, rfl⟩, by rw [ht]; exact hP9, va_K.moved hW.alike hK9, hD9⟩, hS.F ht⟩) hS.2.2 dX4_init_49

set_option maxHeartbeats 4000000 in
set_option maxRecDepth 100000 in
theorem c4_init5 (l : Launch) (dC : Nat → ClassId) (dI : Nat → Nat → Nat) (h1 r1 g1 : Nat) (a3 a5 a6 : Int32) (sz : Nat)  : Met l yX4_init wsX4_init ({ frames := 2, cells := 0, slots := 0, locals := 35 }) (va_Pc [.ref h1, .ref r1, .ref g1, .int a3, .int 5, .int a5, .int a6] (pz (dC, dI) [] [(h1, .inr (3, [.null, .int 0, .int 0, .null, .int 0, .int 0, .int 0, .int 0]))] sz)) (qW (dC, dI) (fun v w1 ty1 => v = none ∧ w1 = [(h1, .inr (3, [.ref r1, .int 1, .int 1, .ref g1, .int a3, .int 0, .int a5, .int a6]))] ∧ ty1 = []) (va_A [(h1, .inr (3, [.null, .int 0, .int 0, .null, .int 0, .int 0, .int 0, .int 0]))] sz)) 0 0 (va_A [(h1, .inr (3, [.null, .int 0, .int 0, .null, .int 0, .int 0, .int 0, .int 0]))] sz) := by
  refine Met.ofW (cc := cX4_init) (maxL := 7) (ret := none) (by decide) rfl ?_
  intro p e s m args below meth c s₁ B hml hv
  obtain ⟨rfl, hsz, hP, hK, hD, hN⟩ := hv
  have hx := B.exec
  have hb := B.bytes
  have hr := B.returns
  have hts := atoms_spec (ws := wsX4_init) B.pre
  have hown : s.vm.findClass RX4 = some m.cls := findClass_of_methodNamed B.named
  have hlocks := B.notSynchronized
  have hin : meth.name = "<init>" := (name_of_methodNamed B.named B.method).1
  subst hsz
  have hD := hD.self (sz := s.heap.size)
  generalize hAe : va_A [(h1, .inr (3, [.null, .int 0, .int 0, .null, .int 0, .int 0, .int 0, .int 0]))] s.heap.size = A at hD ⊢
  have hA : ∀ q : Nat, s.heap.size ≤ q → A q := fun q h => by rw [← hAe]; exact Or.inr h
  have hS : va_S A s.heap s.heap [] := va_S.rf
  have hl := lv_entry ([.ref h1, .ref r1, .ref g1, .int a3, .int 5, .int a5, .int a6]) (n := 7) (Nat.le_of_ble_eq_true rfl)
  rw [lg_entry_eq]
  generalize (lg_sl ([.ref h1, .ref r1, .ref g1, .int a3, .int 5, .int a5, .int a6]) ++ List.replicate (7 - (lg_sl ([.ref h1, .ref r1, .ref g1, .int a3, .int 5, .int a5, .int a6])).length) Slot.unset).toArray = ls at hl ⊢
  have hl : lv_has ls 7 [(0, .ref h1), (1, .ref r1), (2, .ref g1), (3, .int a3), (4, .int 5), (5, .int a5), (6, .int a6)] := hl
  refine lv_aload_n hx hb dX4_init_0 rfl (lv_at hl 0 rfl) ?_
  refine lv_aload_n hx hb dX4_init_1 rfl (lv_at hl 1 rfl) ?_
  refine lv_iload hx hb dX4_init_2 (lv_at hl 4 rfl) ?_
  refine lv_iconst (v := 1) hx hb dX4_init_4 (by decide) ?_
  refine clR (va_runSN (As := [.int 5, .int 1]) (rest := [.ref r1, .ref h1]) ⟨hx, hb, hml, hown, hts⟩ (c8_hasMark l dC dI 5 1 _) ⟨va_cnB 2 hts gX4_init_X8_hasMark_n3 rfl rfl rfl (hN _ (List.mem_of_getElem? (i := 36) rfl)) (hts (.initialized RX8) (by decide +kernel)) (by decide +kernel) ⟨Nat.le_of_ble_eq_true rfl, Nat.le_of_ble_eq_true rfl⟩, hts (.static yX8_hasMark) (by decide +kernel), trivial⟩ ⟨pz_blind, pz_of hP hK hD hN [] [] rfl (by decide) rfl⟩ rfl rfl hl.1 rfl (lv_room (Nat.le_of_ble_eq_true rfl)) dX4_init_5 ⟨Nat.le_of_ble_eq_true rfl, Nat.le_of_ble_eq_true rfl⟩) hS hP (fun v H locs w1 hP hS => ?_)
  obtain rfl : v = some (.int 1) := w1.trans (by decide)
  refine W.eq (g2 := F0 m 8 ls [.int 1, .ref r1, .ref h1]) rfl ?_
  refine lv_iload hx hb dX4_init_8 (lv_at hl 4 rfl) ?_
  refine lv_iconst (v := 4) hx hb dX4_init_10 (by decide) ?_
  refine clR (va_runSN (As := [.int 5, .int 4]) (rest := [.int 1, .ref r1, .ref h1]) ⟨hx, hb, hml, hown, hts⟩ (c8_hasMark l dC dI 5 4 _) ⟨va_cnB 2 hts gX4_init_X8_hasMark_n3 rfl rfl rfl (hN _ (List.mem_of_getElem? (i := 36) rfl)) (hts (.initialized RX8) (by decide +kernel)) (by decide +kernel) ⟨Nat.le_of_ble_eq_true rfl, Nat.le_of_ble_eq_true rfl⟩, hts (.static yX8_hasMark) (by decide +kernel), trivial⟩ ⟨pz_blind, pz_of hP hK hD hN [] [] rfl (by decide) rfl⟩ rfl rfl hl.1 rfl (lv_room (Nat.le_of_ble_eq_true rfl)) dX4_init_11 ⟨Nat.le_of_ble_eq_true rfl, Nat.le_of_ble_eq_true rfl⟩) hS hP (fun v H locs w2 hP hS => ?_)
  obtain rfl : v = some (.int 1) := w2.trans (by decide)
  refine W.eq (g2 := F0 m 14 ls [.int 1, .int 1, .ref r1, .ref h1]) rfl ?_
  refine clW (wr := []) [0] [] (va_runIN (As := [.ref r1, .int 1, .int 1]) (rest := []) ⟨hx, hb, hml, hown, hts⟩ (c3_initM11 l dC dI h1 r1 _) ⟨va_cnB 3 hts gX4_init_X3_init_n7 rfl rfl rfl (hN _ (List.mem_of_getElem? (i := 37) rfl)) (hts (.initialized RX3) (by decide +kernel)) (by decide +kernel) ⟨Nat.le_of_ble_eq_true rfl, Nat.le_of_ble_eq_true rfl⟩, rfl, hts (.instanceMethod yX3_init) (by decide +kernel)⟩ ⟨pz_blind, pz_of hP hK hD hN [0] [] rfl (by decide) rfl⟩ rfl rfl hl.1 rfl (lv_room (Nat.le_of_ble_eq_true rfl)) dX4_init_14 ⟨Nat.le_of_ble_eq_true rfl, Nat.le_of_ble_eq_true rfl⟩) hS hP hD hK hA rfl rfl (by decide) (by decide) (fun v w1 ty1 H locs w3 hP hD hK hS => ?_)
  obtain ⟨rfl, rfl, rfl⟩ := w3
  refine W.eq (g2 := F0 m 17 ls []) rfl ?_
  have hP : va_P (dC, dI) vwCl [(h1, .inr (3, [.ref r1, .int 1, .int 1, .null, .int 0, .int 0, .int 0, .int 0]))] H := hP
  have hD : va_D A [(h1, .inr (3, [.ref r1, .int 1, .int 1, .null, .int 0, .int 0, .int 0, .int 0]))] := hD
  have hK : va_K (dC, dI) vwCl [] s := hK
  refine W.cs (cells' := 0) (slots' := 0) rfl rfl ?_
  refine lv_aload_n hx hb dX4_init_17 rfl (lv_at hl 0 rfl) ?_
  refine lv_aload_n hx hb dX4_init_18 rfl (lv_at hl 2 rfl) ?_
  refine va_putF (D := (dC, dI)) (own := RX4) (ref := "ReflectModels$Method") (index := 13) (ci := 3) (v := .ref g1) (ty := .object "ReflectModels$Signature") (C := RX4) (T := TX4) (N := 8) hx hb hts inX4_init_4 tyX4 tyX4_ok nmX4 hown hK hP hD hS 0 rfl rfl 3 (by decide) (hts (.fieldLink RX4 13 "ReflectModels$Method" "signature" "LReflectModels$Signature;") (by decide +kernel)) (fun _ h9 => h9) rfl hin rfl (by decide +kernel) rfl rfl (Nat.le_of_ble_eq_true rfl) dX4_init_19 (fun H locs hP hD hS => ?_)
  have hP : va_P (dC, dI) vwCl [(h1, .inr (3, [.ref r1, .int 1, .int 1, .ref g1, .int 0, .int 0, .int 0, .int 0]))] H := hP
  have hD : va_D A [(h1, .inr (3, [.ref r1, .int 1, .int 1, .ref g1, .int 0, .int 0, .int 0, .int 0]))] := hD
  refine lv_aload_n hx hb dX4_init_22 rfl (lv_at hl 0 rfl) ?_
  refine lv_iload_n hx hb dX4_init_23 rfl (lv_at hl 3 rfl) ?_
  refine va_putF (D := (dC, dI)) (own := RX4) (ref := "ReflectModels$Method") (index := 19) (ci := 3) (v := .int a3) (ty := .int) (C := RX4) (T := TX4) (N := 8) hx hb hts inX4_init_4 tyX4 tyX4_ok nmX4 hown hK hP hD hS 0 rfl rfl 4 (by decide) (hts (.fieldLink RX4 19 "ReflectModels$Method" "gives" "I") (by decide +kernel)) (fun _ h9 => h9) rfl hin rfl (by decide +kernel) rfl rfl (Nat.le_of_ble_eq_true rfl) dX4_init_24 (fun H locs hP hD hS => ?_)
  have hP : va_P (dC, dI) vwCl [(h1, .inr (3, [.ref r1, .int 1, .int 1, .ref g1, .int a3, .int 0, .int 0, .int 0]))] H := hP
  have hD : va_D A [(h1, .inr (3, [.ref r1, .int 1, .int 1, .ref g1, .int a3, .int 0, .int 0, .int 0]))] := hD
  refine lv_aload_n hx hb dX4_init_27 rfl (lv_at hl 0 rfl) ?_
  refine lv_iload hx hb dX4_init_28 (lv_at hl 4 rfl) ?_
  refine lv_iconst (v := 2) hx hb dX4_init_30 (by decide) ?_
  refine clR (va_runSN (As := [.int 5, .int 2]) (rest := [.ref h1]) ⟨hx, hb, hml, hown, hts⟩ (c8_hasMark l dC dI 5 2 _) ⟨va_cnB 2 hts gX4_init_X8_hasMark_n3 rfl rfl rfl (hN _ (List.mem_of_getElem? (i := 36) rfl)) (hts (.initialized RX8) (by decide +kernel)) (by decide +kernel) ⟨Nat.le_of_ble_eq_true rfl, Nat.le_of_ble_eq_true rfl⟩, hts (.static yX8_hasMark) (by decide +kernel), trivial⟩ ⟨pz_blind, pz_of hP hK hD hN [] [] rfl (by decide) rfl⟩ rfl rfl hl.1 rfl (lv_room (Nat.le_of_ble_eq_true rfl)) dX4_init_31 ⟨Nat.le_of_ble_eq_true rfl, Nat.le_of_ble_eq_true rfl⟩) hS hP (fun v H locs w4 hP hS => ?_)
  obtain rfl : v = some (.int 0) := w4.trans (by decide)
  refine W.eq (g2 := F0 m 34 ls [.int 0, .ref h1]) rfl ?_
  refine va_putF (D := (dC, dI)) (own := RX4) (ref := "ReflectModels$Method") (index := 23) (ci := 3) (v := .int 0) (ty := .boolean) (C := RX4) (T := TX4) (N := 8) hx hb hts inX4_init_4 tyX4 tyX4_ok nmX4 hown hK hP hD hS 0 rfl rfl 5 (by decide) (hts (.fieldLink RX4 23 "ReflectModels$Method" "isAbstract" "Z") (by decide +kernel)) (fun _ h9 => h9) rfl hin rfl (by decide +kernel) rfl rfl (Nat.le_of_ble_eq_true rfl) dX4_init_34 (fun H locs hP hD hS => ?_)
  have hP : va_P (dC, dI) vwCl [(h1, .inr (3, [.ref r1, .int 1, .int 1, .ref g1, .int a3, .int 0, .int 0, .int 0]))] H := hP
  have hD : va_D A [(h1, .inr (3, [.ref r1, .int 1, .int 1, .ref g1, .int a3, .int 0, .int 0, .int 0]))] := hD
  refine lv_aload_n hx hb dX4_init_37 rfl (lv_at hl 0 rfl) ?_
  refine lv_iload hx hb dX4_init_38 (lv_at hl 5 rfl) ?_
  refine va_putF (D := (dC, dI)) (own := RX4) (ref := "ReflectModels$Method") (index := 27) (ci := 3) (v := .int a5) (ty := .int) (C := RX4) (T := TX4) (N := 8) hx hb hts inX4_init_4 tyX4 tyX4_ok nmX4 hown hK hP hD hS 0 rfl rfl 6 (by decide) (hts (.fieldLink RX4 27 "ReflectModels$Method" "body" "I") (by decide +kernel)) (fun _ h9 => h9) rfl hin rfl (by decide +kernel) rfl rfl (Nat.le_of_ble_eq_true rfl) dX4_init_40 (fun H locs hP hD hS => ?_)
  have hP : va_P (dC, dI) vwCl [(h1, .inr (3, [.ref r1, .int 1, .int 1, .ref g1, .int a3, .int 0, .int a5, .int 0]))] H := hP
  have hD : va_D A [(h1, .inr (3, [.ref r1, .int 1, .int 1, .ref g1, .int a3, .int 0, .int a5, .int 0]))] := hD
  refine lv_aload_n hx hb dX4_init_43 rfl (lv_at hl 0 rfl) ?_
  refine lv_iload hx hb dX4_init_44 (lv_at hl 6 rfl) ?_
  refine va_putF (D := (dC, dI)) (own := RX4) (ref := "ReflectModels$Method") (index := 30) (ci := 3) (v := .int a6) (ty := .int) (C := RX4) (T := TX4) (N := 8) hx hb hts inX4_init_4 tyX4 tyX4_ok nmX4 hown hK hP hD hS 0 rfl rfl 7 (by decide) (hts (.fieldLink RX4 30 "ReflectModels$Method" "b" "I") (by decide +kernel)) (fun _ h9 => h9) rfl hin rfl (by decide +kernel) rfl rfl (Nat.le_of_ble_eq_true rfl) dX4_init_46 (fun H locs hP hD hS => ?_)
  have hP : va_P (dC, dI) vwCl [(h1, .inr (3, [.ref r1, .int 1, .int 1, .ref g1, .int a3, .int 0, .int a5, .int a6]))] H := hP
  have hD : va_D A [(h1, .inr (3, [.ref r1, .int 1, .int 1, .ref g1, .int a3, .int 0, .int a5, .int a6]))] := hD
  have hP9 := hP.sub (ws' := [(h1, .inr (3, [.ref r1, .int 1, .int 1, .ref g1, .int a3, .int 0, .int a5, .int a6]))]) [0] rfl
  have hD9 := hD.sub (ws' := [(h1, .inr (3, [.ref r1, .int 1, .int 1, .ref g1, .int a3, .int 0, .int a5, .int a6]))]) [0] (by decide) rfl
  have hK9 := hK.sub (tys' := []) [] rfl
  exact W.vret hx hb hr (fun t ht hW => ⟨⟨none, rfl, _, _, ⟨rfl, rfl, rfl⟩, by rw [ht]; exact hP9, va_K.moved hW.alike hK9, hD9⟩, hS.F ht⟩) hS.2.2 dX4_init_49

set_option maxHeartbeats 4000000 in
set_option maxRecDepth 100000 in
theorem c8_mayHaveMethod (l : Launch) (dC : Nat → ClassId) (dI : Nat → Nat → Nat) (h1 r1 : Nat) (s1 s2 : Int32) (g1 : Nat) (s4 s5 s6 s7 : Int32) (sz : Nat)  : Met l yX8_mayHaveMethod wsX8_mayHaveMethod ({ frames := 0, cells := 0, slots := 0, locals := 0 }) (va_Pc [.ref h1] (pz (dC, dI) [] [(h1, .inr (3, [.ref r1, .int s1, .int s2, .ref g1, .int s4, .int s5, .int s6, .int s7])), (r1, .inr (0, [.int 0, .null, .int 0, .null, .int 0, .int 0, .int 1, .int 1, .int 0, .int 0, .int 0, .int 0]))] sz)) (qR (fun v => (v = some (.int 1) ∧ (s5.toInt = 0)) ∨ (v = some (.int 0) ∧ (s5.toInt ≠ 0)))) 0 0 nA := by
  refine Met.ofW (cc := cX8_mayHaveMethod) (maxL := 2) (ret := (some .boolean)) (by decide) rfl ?_
  intro p e s m args below meth c s₁ B hml hv
  obtain ⟨rfl, hsz, hP, hK, hD, hN⟩ := hv
  have hx := B.exec
  have hb := B.bytes
  have hr := B.returns
  have hts := atoms_spec (ws := wsX8_mayHaveMethod) B.pre
  have hown : s.vm.findClass RX8 = some m.cls := findClass_of_methodNamed B.named
  have hlocks := B.notSynchronized
  subst hsz
  have hS : va_S nA s.heap s.heap [] := va_S.rf
  have hl := lv_entry ([.ref h1]) (n := 2) (Nat.le_of_ble_eq_true rfl)
  rw [lg_entry_eq]
  generalize (lg_sl ([.ref h1]) ++ List.replicate (2 - (lg_sl ([.ref h1])).length) Slot.unset).toArray = ls at hl ⊢
  have hl : lv_has ls 2 [(0, .ref h1)] := hl
  refine lv_aload_n hx hb dX8_mayHaveMethod_0 rfl (lv_at hl 0 rfl) ?_
  refine va_get (D := (dC, dI)) (own := RX8) (ref := "ReflectModels$Method") (index := 150) (ci := 3) (v := .ref r1) (C := RX4) (T := TX4) (N := 8) hx hb hts inX8_mayHaveMethod_4 hown hK hP 0 rfl rfl 0 (by decide) (hts (.fieldLink RX8 150 "ReflectModels$Method" "owner" "LReflectModels$ClassModel;") (by decide +kernel)) (fun x9 h9 => u_same (hts (.sameField "ReflectModels$Method" "ReflectModels$Member" "owner" "LReflectModels$ClassModel;") (by decide +kernel)) x9 h9) rfl dX8_mayHaveMethod_1 ?_
  refine va_getN (host := "ReflectModels") (D := (dC, dI)) (own := RX8) (ref := "ReflectModels$ClassModel") (index := 86) (ci := 0) (v := .int 0) (C := RX0) (T := TX0) (N := 12) hx hb hts inX8_mayHaveMethod_0 hown hK hP 1 rfl rfl 2 (by decide) (va_Nw.use rfl (hN _ (List.mem_of_getElem? (i := 12) rfl))) (fun _ h9 => h9) rfl dX8_mayHaveMethod_4 ?_
  refine lv_istore_n (lv' := [(1, .int 0), (0, .ref h1)]) hx hb dX8_mayHaveMethod_7 rfl hl (by decide) rfl (fun ls hl => ?_)
  refine lv_iload_n hx hb dX8_mayHaveMethod_8 rfl (lv_at hl 0 rfl) ?_
  refine lv_iconst (v := 2) hx hb dX8_mayHaveMethod_9 (by decide) ?_
  refine lv_icmp_ne (tgt := 33) hx hb dX8_mayHaveMethod_10 (by decide) (fun _ => ?_) (fun h => absurd h (by decide))
  refine lv_aload_n hx hb dX8_mayHaveMethod_33 rfl (lv_at hl 1 rfl) ?_
  refine va_getN (host := "ReflectModels") (D := (dC, dI)) (own := RX8) (ref := "ReflectModels$Method") (index := 296) (ci := 3) (v := .int s5) (C := RX4) (T := TX4) (N := 8) hx hb hts inX8_mayHaveMethod_4 hown hK hP 0 rfl rfl 5 (by decide) (va_Nw.use rfl (hN _ (List.mem_of_getElem? (i := 40) rfl))) (fun _ h9 => h9) rfl dX8_mayHaveMethod_34 ?_
  refine lv_if_eq (tgt := 45) hx hb dX8_mayHaveMethod_37 (by decide) (fun c1 => ?_) (fun c1 => ?_)
  · have ic1 : s5.toInt = 0 := ieq2 rfl (by decide) c1
    refine lv_iconst (v := 1) hx hb dX8_mayHaveMethod_45 (by decide) ?_
    refine lv_goto (tgt := 50) hx hb dX8_mayHaveMethod_46 (by decide) ?_
    exact W.zret (v := 1) (ty := .boolean) hx hb hr rfl (fun t ht hW => ⟨⟨(some (.int 1)), rfl, (by first | exact Or.inl ⟨rfl, (by first | omega | (have kq := kz; omega) | decide)⟩)⟩, hS.F ht⟩) hS.2.2 dX8_mayHaveMethod_50
  · have ic1 : s5.toInt ≠ 0 := ine2 rfl (by decide) c1
    refine lv_iload_n hx hb dX8_mayHaveMethod_40 rfl (lv_at hl 0 rfl) ?_
    refine lv_iconst (v := 1) hx hb dX8_mayHaveMethod_41 (by decide) ?_
    refine lv_icmp_ne (tgt := 49) hx hb dX8_mayHaveMethod_42 (by decide) (fun _ => ?_) (fun h => absurd h (by decide))
    refine lv_iconst (v := 0) hx hb dX8_mayHaveMethod_49 (by decide) ?_
    exact W.zret (v := 0) (ty := .boolean) hx hb hr rfl (fun t ht hW => ⟨⟨(some (.int 0)), rfl, (by first | exact Or.inr (⟨rfl, (by first | omega | (have kq := kz; omega) | decide)⟩))⟩, hS.F ht⟩) hS.2.2 dX8_mayHaveMethod_50

set_option maxHeartbeats 4000000 in
set_option maxRecDepth 100000 in
theorem c8_fieldToRead (l : Launch) (dC : Nat → ClassId) (dI : Nat → Nat → Nat) (h0 : Nat) (q : Nat → Nat) (a1 : Int32) (sz : Nat)  : Met l yX8_fieldToRead wsX8_fieldToRead ({ frames := 0, cells := 0, slots := 0, locals := 0 }) (va_Pc [.ref h0, .int a1] (pz (dC, dI) [] [(h0, .inr (7, [.ref (q 0), .int 1, .ref (q 1), .int 0, .int 0, .ref (q 2), .int 0, .ref (q 3), .int 0, .ref (q 4), .int 0, .int 0, .ref (q 5), .int 0, .int 0]))] sz)) (qR (fun v => (v = some (.null)))) 0 0 nA := by
  refine Met.ofW (cc := cX8_fieldToRead) (maxL := 4) (ret := (some (.object "ReflectModels$Field"))) (by decide) rfl ?_
  intro p e s m args below meth c s₁ B hml hv
  obtain ⟨rfl, hsz, hP, hK, hD, hN⟩ := hv
  have hx := B.exec
  have hb := B.bytes
  have hr := B.returns
  have hts := atoms_spec (ws := wsX8_fieldToRead) B.pre
  have hown : s.vm.findClass RX8 = some m.cls := findClass_of_methodNamed B.named
  have hlocks := B.notSynchronized
  subst hsz
  have hS : va_S nA s.heap s.heap [] := va_S.rf
  have hl := lv_entry ([.ref h0, .int a1]) (n := 4) (Nat.le_of_ble_eq_true rfl)
  rw [lg_entry_eq]
  generalize (lg_sl ([.ref h0, .int a1]) ++ List.replicate (4 - (lg_sl ([.ref h0, .int a1])).length) Slot.unset).toArray = ls at hl ⊢
  have hl : lv_has ls 4 [(0, .ref h0), (1, .int a1)] := hl
  refine lv_iload_n hx hb dX8_fieldToRead_0 rfl (lv_at hl 1 rfl) ?_
  refine lv_if_lt (tgt := 12) hx hb dX8_fieldToRead_1 (by decide) (fun c1 => ?_) (fun c1 => ?_)
  · have ic1 : a1.toInt < 0 := il2 rfl (by decide) c1
    refine lv_null hx hb dX8_fieldToRead_12 ?_
    exact W.aret (v := .null) hx hb hr (Or.inl ⟨_, rfl⟩) (Or.inl rfl) (fun t ht hW => ⟨⟨(some (.null)), rfl, (by first | exact rfl)⟩, hS.F ht⟩) hS.2.2 dX8_fieldToRead_13
  · have ic1 : 0 ≤ a1.toInt := inl2 rfl (by decide) c1
    refine lv_iload_n hx hb dX8_fieldToRead_4 rfl (lv_at hl 1 rfl) ?_
    refine lv_aload_n hx hb dX8_fieldToRead_5 rfl (lv_at hl 0 rfl) ?_
    refine va_get (D := (dC, dI)) (own := RX8) (ref := "ReflectModels") (index := 25) (ci := 7) (v := .int 0) (C := RX8) (T := TX8) (N := 15) hx hb hts inX8_fieldToRead_8 hown hK hP 0 rfl rfl 3 (by decide) (hts (.fieldLink RX8 25 "ReflectModels" "memberCount" "I") (by decide +kernel)) (fun _ h9 => h9) rfl dX8_fieldToRead_6 ?_
    refine lv_icmp_lt (tgt := 14) hx hb dX8_fieldToRead_9 (by decide) (fun c2 => ?_) (fun c2 => ?_)
    · have ic2 : a1.toInt < 0 := il2 rfl (by decide) c2
      exfalso; first | omega | (have kq := kz; omega)
    · have ic2 : 0 ≤ a1.toInt := inl2 rfl (by decide) c2
      refine lv_null hx hb dX8_fieldToRead_12 ?_
      exact W.aret (v := .null) hx hb hr (Or.inl ⟨_, rfl⟩) (Or.inl rfl) (fun t ht hW => ⟨⟨(some (.null)), rfl, (by first | exact rfl)⟩, hS.F ht⟩) hS.2.2 dX8_fieldToRead_13

set_option maxHeartbeats 4000000 in
set_option maxRecDepth 100000 in
theorem c8_bodySuits (l : Launch) (dC : Nat → ClassId) (dI : Nat → Nat → Nat) (h0 : Nat) (q : Nat → Nat) (h1 r1 : Nat) (s1 s2 : Int32) (g1 : Nat) (s4 s5 s6 s7 : Int32) (a1 a2 f1 f2 : Int32) (sz : Nat)  : Met l yX8_bodySuits wsX8_bodySuits ({ frames := 1, cells := 0, slots := 0, locals := 23 }) (va_Pc [.ref h0, .ref h1] (pz (dC, dI) [] [(h0, .inr (7, [.ref (q 0), .int 1, .ref (q 1), .int 0, .int 0, .ref (q 2), .int 0, .ref (q 3), .int 0, .ref (q 4), .int 0, .int 0, .ref (q 5), .int 0, .int 0])), (h1, .inr (3, [.ref r1, .int s1, .int s2, .ref g1, .int s4, .int s5, .int s6, .int s7])), (g1, .inr (4, [.int a1, .int a2, .int f1, .int f2]))] sz)) (qR (fun v => (v = some (.int 1) ∧ ((s6.toInt = 1 ∧ 1 < a2.toInt ∧ f1.toInt = -1 ∧ f2.toInt = -1) ∨ ((s6.toInt = 2 ∨ s6.toInt = 7) ∧ 0 < a2.toInt ∧ 0 ≤ f1.toInt ∧ s7.toInt = 0) ∨ (s6.toInt = 4 ∧ 0 < a2.toInt ∧ f1.toInt = -1) ∨ (s6.toInt = 6 ∧ s1.toInt = 0) ∨ s6.toInt = 5 ∨ s6.toInt < 1 ∨ 7 < s6.toInt)) ∨ (v = some (.int 0) ∧ ((s6.toInt = 1 ∧ (a2.toInt ≤ 1 ∨ f1.toInt ≠ -1 ∨ f2.toInt ≠ -1)) ∨ ((s6.toInt = 2 ∨ s6.toInt = 7) ∧ (a2.toInt ≤ 0 ∨ f1.toInt < 0 ∨ s7.toInt ≠ 0)) ∨ s6.toInt = 3 ∨ (s6.toInt = 4 ∧ (a2.toInt ≤ 0 ∨ f1.toInt ≠ -1)) ∨ (s6.toInt = 6 ∧ s1.toInt ≠ 0))))) 0 0 nA := by
  refine Met.ofW (cc := cX8_bodySuits) (maxL := 2) (ret := (some .boolean)) (by decide) rfl ?_
  intro p e s m args below meth c s₁ B hml hv
  obtain ⟨rfl, hsz, hP, hK, hD, hN⟩ := hv
  have hx := B.exec
  have hb := B.bytes
  have hr := B.returns
  have hts := atoms_spec (ws := wsX8_bodySuits) B.pre
  have hown : s.vm.findClass RX8 = some m.cls := findClass_of_methodNamed B.named
  have hlocks := B.notSynchronized
  subst hsz
  have hS : va_S nA s.heap s.heap [] := va_S.rf
  have hl := lv_entry ([.ref h0, .ref h1]) (n := 2) (Nat.le_of_ble_eq_true rfl)
  rw [lg_entry_eq]
  generalize (lg_sl ([.ref h0, .ref h1]) ++ List.replicate (2 - (lg_sl ([.ref h0, .ref h1])).length) Slot.unset).toArray = ls at hl ⊢
  have hl : lv_has ls 2 [(0, .ref h0), (1, .ref h1)] := hl
  refine lv_aload_n hx hb dX8_bodySuits_0 rfl (lv_at hl 1 rfl) ?_
  refine va_getN (host := "ReflectModels") (D := (dC, dI)) (own := RX8) (ref := "ReflectModels$Method") (index := 302) (ci := 3) (v := .int s6) (C := RX4) (T := TX4) (N := 8) hx hb hts inX8_bodySuits_4 hown hK hP 1 rfl rfl 6 (by decide) (va_Nw.use rfl (hN _ (List.mem_of_getElem? (i := 41) rfl))) (fun _ h9 => h9) rfl dX8_bodySuits_1 ?_
  by_cases h1 : s6.toInt < 1 ∨ 7 < s6.toInt
  · refine lv_tableOut (tgt := 161) hx hb dX8_bodySuits_4 h1 (by decide) ?_
    refine lv_iconst (v := 1) hx hb dX8_bodySuits_161 (by decide) ?_
    exact W.zret (v := 1) (ty := .boolean) hx hb hr rfl (fun t ht hW => ⟨⟨(some (.int 1)), rfl, (by first | exact Or.inl ⟨rfl, (by first | omega | (have kq := kz; omega) | decide)⟩)⟩, hS.F ht⟩) hS.2.2 dX8_bodySuits_162
  · have gh1 : s6 = 1 ∨ s6 = 2 ∨ s6 = 3 ∨ s6 = 4 ∨ s6 = 5 ∨ s6 = 6 ∨ s6 = 7 := tw_1_7 (by omega) (by omega)
    rcases gh1 with rfl | rfl | rfl | rfl | rfl | rfl | rfl
    · refine lv_tableIn (tgt := 48) (off := 44) hx hb dX8_bodySuits_4 (by decide) (by decide) (by decide) (by decide) ?_
      refine lv_aload_n hx hb dX8_bodySuits_48 rfl (lv_at hl 1 rfl) ?_
      refine va_getN (host := "ReflectModels") (D := (dC, dI)) (own := RX8) (ref := "ReflectModels$Method") (index := 305) (ci := 3) (v := .ref g1) (C := RX4) (T := TX4) (N := 8) hx hb hts inX8_bodySuits_4 hown hK hP 1 rfl rfl 3 (by decide) (va_Nw.use rfl (hN _ (List.mem_of_getElem? (i := 38) rfl))) (fun _ h9 => h9) rfl dX8_bodySuits_49 ?_
      refine clR (va_runVN (As := []) (rest := []) ⟨hx, hb, hml, hown, hts⟩ (c5_startsWithInt l dC dI g1 a1 a2 f1 f2 _) ⟨va_cnB 0 hts gX8_bodySuits_X5_startsWithInt_n309 rfl rfl rfl (hN _ (List.mem_of_getElem? (i := 43) rfl)) (hts (.initialized RX5) (by decide +kernel)) (by decide +kernel) ⟨Nat.le_of_ble_eq_true rfl, Nat.le_of_ble_eq_true rfl⟩, hts (.instanceMethod yX5_startsWithInt) (by decide +kernel), hts (.selects RX5 yX5_startsWithInt yX5_startsWithInt) (by decide +kernel)⟩ ⟨pz_blind, va_recv hK hP (ci := 4) (q0 := 2) rfl rfl, pz_of hP hK hD hN [2] [] rfl (by decide) rfl⟩ rfl rfl hl.1 rfl (lv_room (Nat.le_of_ble_eq_true rfl)) dX8_bodySuits_52 ⟨Nat.le_of_ble_eq_true rfl, Nat.le_of_ble_eq_true rfl⟩) hS hP (fun v H locs w4 hP hS => ?_)
      rcases w4 with ⟨rfl, u2⟩ | ⟨rfl, u3⟩
      · refine W.eq (g2 := F0 m 55 ls [.int 1]) rfl ?_
        refine lv_if_eq (tgt := 84) hx hb dX8_bodySuits_55 (by decide) (fun h => absurd h (by decide)) (fun _ => ?_)
        refine lv_aload_n hx hb dX8_bodySuits_58 rfl (lv_at hl 1 rfl) ?_
        refine va_getN (host := "ReflectModels") (D := (dC, dI)) (own := RX8) (ref := "ReflectModels$Method") (index := 305) (ci := 3) (v := .ref g1) (C := RX4) (T := TX4) (N := 8) hx hb hts inX8_bodySuits_4 hown hK hP 1 rfl rfl 3 (by decide) (va_Nw.use rfl (hN _ (List.mem_of_getElem? (i := 38) rfl))) (fun _ h9 => h9) rfl dX8_bodySuits_59 ?_
        refine va_getN (host := "ReflectModels") (D := (dC, dI)) (own := RX8) (ref := "ReflectModels$Signature") (index := 312) (ci := 4) (v := .int a2) (C := RX5) (T := TX5) (N := 4) hx hb hts inX8_bodySuits_5 hown hK hP 2 rfl rfl 1 (by decide) (va_Nw.use rfl (hN _ (List.mem_of_getElem? (i := 30) rfl))) (fun _ h9 => h9) rfl dX8_bodySuits_62 ?_
        refine lv_iconst (v := 1) hx hb dX8_bodySuits_65 (by decide) ?_
        refine lv_icmp_le (tgt := 84) hx hb dX8_bodySuits_66 (by decide) (fun c5 => ?_) (fun c5 => ?_)
        · have ic5 : a2.toInt ≤ 1 := ile2 rfl (by decide) c5
          refine lv_iconst (v := 0) hx hb dX8_bodySuits_84 (by decide) ?_
          exact W.zret (v := 0) (ty := .boolean) hx hb hr rfl (fun t ht hW => ⟨⟨(some (.int 0)), rfl, (by first | exact Or.inr (⟨rfl, (by first | omega | (have kq := kz; omega) | decide)⟩))⟩, hS.F ht⟩) hS.2.2 dX8_bodySuits_85
        · have ic5 : 1 < a2.toInt := inle2 rfl (by decide) c5
          refine lv_aload_n hx hb dX8_bodySuits_69 rfl (lv_at hl 1 rfl) ?_
          refine va_getN (host := "ReflectModels") (D := (dC, dI)) (own := RX8) (ref := "ReflectModels$Method") (index := 305) (ci := 3) (v := .ref g1) (C := RX4) (T := TX4) (N := 8) hx hb hts inX8_bodySuits_4 hown hK hP 1 rfl rfl 3 (by decide) (va_Nw.use rfl (hN _ (List.mem_of_getElem? (i := 38) rfl))) (fun _ h9 => h9) rfl dX8_bodySuits_70 ?_
          refine va_getN (host := "ReflectModels") (D := (dC, dI)) (own := RX8) (ref := "ReflectModels$Signature") (index := 290) (ci := 4) (v := .int f2) (C := RX5) (T := TX5) (N := 4) hx hb hts inX8_bodySuits_5 hown hK hP 2 rfl rfl 3 (by decide) (va_Nw.use rfl (hN _ (List.mem_of_getElem? (i := 32) rfl))) (fun _ h9 => h9) rfl dX8_bodySuits_73 ?_
          refine lv_iconst (v := (-1)) hx hb dX8_bodySuits_76 (by decide) ?_
          refine lv_icmp_ne (tgt := 84) hx hb dX8_bodySuits_77 (by decide) (fun c6 => ?_) (fun c6 => ?_)
          · have ic6 : f2.toInt ≠ (-1) := ine2 rfl (by decide) c6
            refine lv_iconst (v := 0) hx hb dX8_bodySuits_84 (by decide) ?_
            exact W.zret (v := 0) (ty := .boolean) hx hb hr rfl (fun t ht hW => ⟨⟨(some (.int 0)), rfl, (by first | exact Or.inr (⟨rfl, (by first | omega | (have kq := kz; omega) | decide)⟩))⟩, hS.F ht⟩) hS.2.2 dX8_bodySuits_85
          · have ic6 : f2.toInt = (-1) := ieq2 rfl (by decide) c6
            refine lv_iconst (v := 1) hx hb dX8_bodySuits_80 (by decide) ?_
            refine lv_goto (tgt := 85) hx hb dX8_bodySuits_81 (by decide) ?_
            exact W.zret (v := 1) (ty := .boolean) hx hb hr rfl (fun t ht hW => ⟨⟨(some (.int 1)), rfl, (by first | exact Or.inl ⟨rfl, (by first | omega | (have kq := kz; omega) | decide)⟩)⟩, hS.F ht⟩) hS.2.2 dX8_bodySuits_85
      · refine W.eq (g2 := F0 m 55 ls [.int 0]) rfl ?_
        refine lv_if_eq (tgt := 84) hx hb dX8_bodySuits_55 (by decide) (fun _ => ?_) (fun h => absurd (by decide) h)
        refine lv_iconst (v := 0) hx hb dX8_bodySuits_84 (by decide) ?_
        exact W.zret (v := 0) (ty := .boolean) hx hb hr rfl (fun t ht hW => ⟨⟨(some (.int 0)), rfl, (by first | exact Or.inr (⟨rfl, (by first | omega | (have kq := kz; omega) | decide)⟩))⟩, hS.F ht⟩) hS.2.2 dX8_bodySuits_85
    · refine lv_tableIn (tgt := 86) (off := 82) hx hb dX8_bodySuits_4 (by decide) (by decide) (by decide) (by decide) ?_
      refine lv_aload_n hx hb dX8_bodySuits_86 rfl (lv_at hl 1 rfl) ?_
      refine va_getN (host := "ReflectModels") (D := (dC, dI)) (own := RX8) (ref := "ReflectModels$Method") (index := 305) (ci := 3) (v := .ref g1) (C := RX4) (T := TX4) (N := 8) hx hb hts inX8_bodySuits_4 hown hK hP 1 rfl rfl 3 (by decide) (va_Nw.use rfl (hN _ (List.mem_of_getElem? (i := 38) rfl))) (fun _ h9 => h9) rfl dX8_bodySuits_87 ?_
      refine clR (va_runVN (As := []) (rest := []) ⟨hx, hb, hml, hown, hts⟩ (c5_startsWithClass l dC dI g1 a1 a2 f1 f2 _) ⟨va_cnB 0 hts gX8_bodySuits_X5_startsWithClass_n315 rfl rfl rfl (hN _ (List.mem_of_getElem? (i := 44) rfl)) (hts (.initialized RX5) (by decide +kernel)) (by decide +kernel) ⟨Nat.le_of_ble_eq_true rfl, Nat.le_of_ble_eq_true rfl⟩, hts (.instanceMethod yX5_startsWithClass) (by decide +kernel), hts (.selects RX5 yX5_startsWithClass yX5_startsWithClass) (by decide +kernel)⟩ ⟨pz_blind, va_recv hK hP (ci := 4) (q0 := 2) rfl rfl, pz_of hP hK hD hN [2] [] rfl (by decide) rfl⟩ rfl rfl hl.1 rfl (lv_room (Nat.le_of_ble_eq_true rfl)) dX8_bodySuits_90 ⟨Nat.le_of_ble_eq_true rfl, Nat.le_of_ble_eq_true rfl⟩) hS hP (fun v H locs w9 hP hS => ?_)
      rcases w9 with ⟨rfl, u7⟩ | ⟨rfl, u8⟩
      · refine W.eq (g2 := F0 m 93 ls [.int 1]) rfl ?_
        refine lv_if_eq (tgt := 111) hx hb dX8_bodySuits_93 (by decide) (fun h => absurd h (by decide)) (fun _ => ?_)
        refine lv_aload_n hx hb dX8_bodySuits_96 rfl (lv_at hl 0 rfl) ?_
        refine lv_aload_n hx hb dX8_bodySuits_97 rfl (lv_at hl 1 rfl) ?_
        refine va_getN (host := "ReflectModels") (D := (dC, dI)) (own := RX8) (ref := "ReflectModels$Method") (index := 318) (ci := 3) (v := .int s7) (C := RX4) (T := TX4) (N := 8) hx hb hts inX8_bodySuits_4 hown hK hP 1 rfl rfl 7 (by decide) (va_Nw.use rfl (hN _ (List.mem_of_getElem? (i := 42) rfl))) (fun _ h9 => h9) rfl dX8_bodySuits_98 ?_
        refine clR (va_runV (As := [.int s7]) (rest := []) ⟨hx, hb, hml, hown, hts⟩ (c8_isClass l dC dI h0 q s7 _) (cwV 1 hts gX8_bodySuits_X8_isClass rfl rfl rfl (by decide +kernel) ⟨Nat.le_of_ble_eq_true rfl, Nat.le_of_ble_eq_true rfl⟩) ⟨pz_blind, va_recv hK hP (ci := 7) (q0 := 0) rfl rfl, pz_of hP hK hD hN [0] [] rfl (by decide) rfl⟩ rfl rfl hl.1 rfl (lv_room (Nat.le_of_ble_eq_true rfl)) dX8_bodySuits_101 ⟨Nat.le_of_ble_eq_true rfl, Nat.le_of_ble_eq_true rfl⟩) hS hP (fun v H locs w11 hP hS => ?_)
        rcases w11 with ⟨rfl, rfl⟩ | ⟨rfl, u10⟩
        · refine W.eq (g2 := F0 m 104 ls [.int 1]) rfl ?_
          refine lv_if_eq (tgt := 111) hx hb dX8_bodySuits_104 (by decide) (fun h => absurd h (by decide)) (fun _ => ?_)
          refine lv_iconst (v := 1) hx hb dX8_bodySuits_107 (by decide) ?_
          refine lv_goto (tgt := 112) hx hb dX8_bodySuits_108 (by decide) ?_
          exact W.zret (v := 1) (ty := .boolean) hx hb hr rfl (fun t ht hW => ⟨⟨(some (.int 1)), rfl, (by first | exact Or.inl ⟨rfl, (by first | omega | (have kq := kz; omega) | decide)⟩)⟩, hS.F ht⟩) hS.2.2 dX8_bodySuits_112
        · refine W.eq (g2 := F0 m 104 ls [.int 0]) rfl ?_
          refine lv_if_eq (tgt := 111) hx hb dX8_bodySuits_104 (by decide) (fun _ => ?_) (fun h => absurd (by decide) h)
          refine lv_iconst (v := 0) hx hb dX8_bodySuits_111 (by decide) ?_
          exact W.zret (v := 0) (ty := .boolean) hx hb hr rfl (fun t ht hW => ⟨⟨(some (.int 0)), rfl, (by first | exact Or.inr (⟨rfl, (by first | omega | (have kq := kz; omega) | decide)⟩))⟩, hS.F ht⟩) hS.2.2 dX8_bodySuits_112
      · refine W.eq (g2 := F0 m 93 ls [.int 0]) rfl ?_
        refine lv_if_eq (tgt := 111) hx hb dX8_bodySuits_93 (by decide) (fun _ => ?_) (fun h => absurd (by decide) h)
        refine lv_iconst (v := 0) hx hb dX8_bodySuits_111 (by decide) ?_
        exact W.zret (v := 0) (ty := .boolean) hx hb hr rfl (fun t ht hW => ⟨⟨(some (.int 0)), rfl, (by first | exact Or.inr (⟨rfl, (by first | omega | (have kq := kz; omega) | decide)⟩))⟩, hS.F ht⟩) hS.2.2 dX8_bodySuits_112
    · refine lv_tableIn (tgt := 113) (off := 109) hx hb dX8_bodySuits_4 (by decide) (by decide) (by decide) (by decide) ?_
      refine lv_aload_n hx hb dX8_bodySuits_113 rfl (lv_at hl 1 rfl) ?_
      refine va_getN (host := "ReflectModels") (D := (dC, dI)) (own := RX8) (ref := "ReflectModels$Method") (index := 305) (ci := 3) (v := .ref g1) (C := RX4) (T := TX4) (N := 8) hx hb hts inX8_bodySuits_4 hown hK hP 1 rfl rfl 3 (by decide) (va_Nw.use rfl (hN _ (List.mem_of_getElem? (i := 38) rfl))) (fun _ h9 => h9) rfl dX8_bodySuits_114 ?_
      refine clR (va_runVN (As := []) (rest := []) ⟨hx, hb, hml, hown, hts⟩ (c5_startsWithClass l dC dI g1 a1 a2 f1 f2 _) ⟨va_cnB 0 hts gX8_bodySuits_X5_startsWithClass_n315 rfl rfl rfl (hN _ (List.mem_of_getElem? (i := 44) rfl)) (hts (.initialized RX5) (by decide +kernel)) (by decide +kernel) ⟨Nat.le_of_ble_eq_true rfl, Nat.le_of_ble_eq_true rfl⟩, hts (.instanceMethod yX5_startsWithClass) (by decide +kernel), hts (.selects RX5 yX5_startsWithClass yX5_startsWithClass) (by decide +kernel)⟩ ⟨pz_blind, va_recv hK hP (ci := 4) (q0 := 2) rfl rfl, pz_of hP hK hD hN [2] [] rfl (by decide) rfl⟩ rfl rfl hl.1 rfl (lv_room (Nat.le_of_ble_eq_true rfl)) dX8_bodySuits_117 ⟨Nat.le_of_ble_eq_true rfl, Nat.le_of_ble_eq_true rfl⟩) hS hP (fun v H locs w14 hP hS => ?_)
      rcases w14 with ⟨rfl, u12⟩ | ⟨rfl, u13⟩
      · refine W.eq (g2 := F0 m 120 ls [.int 1]) rfl ?_
        refine lv_if_eq (tgt := 138) hx hb dX8_bodySuits_120 (by decide) (fun h => absurd h (by decide)) (fun _ => ?_)
        refine lv_aload_n hx hb dX8_bodySuits_123 rfl (lv_at hl 0 rfl) ?_
        refine lv_aload_n hx hb dX8_bodySuits_124 rfl (lv_at hl 1 rfl) ?_
        refine va_getN (host := "ReflectModels") (D := (dC, dI)) (own := RX8) (ref := "ReflectModels$Method") (index := 318) (ci := 3) (v := .int s7) (C := RX4) (T := TX4) (N := 8) hx hb hts inX8_bodySuits_4 hown hK hP 1 rfl rfl 7 (by decide) (va_Nw.use rfl (hN _ (List.mem_of_getElem? (i := 42) rfl))) (fun _ h9 => h9) rfl dX8_bodySuits_125 ?_
        refine clR (va_runV (As := [.int s7]) (rest := []) ⟨hx, hb, hml, hown, hts⟩ (c8_fieldToRead l dC dI h0 q s7 _) (cwV 1 hts gX8_bodySuits_X8_fieldToRead rfl rfl rfl (by decide +kernel) ⟨Nat.le_of_ble_eq_true rfl, Nat.le_of_ble_eq_true rfl⟩) ⟨pz_blind, va_recv hK hP (ci := 7) (q0 := 0) rfl rfl, pz_of hP hK hD hN [0] [] rfl (by decide) rfl⟩ rfl rfl hl.1 rfl (lv_room (Nat.le_of_ble_eq_true rfl)) dX8_bodySuits_128 ⟨Nat.le_of_ble_eq_true rfl, Nat.le_of_ble_eq_true rfl⟩) hS hP (fun v H locs w15 hP hS => ?_)
        obtain rfl := w15
        refine W.eq (g2 := F0 m 131 ls [.null]) rfl ?_
        refine lv_ifnullN (tgt := 138) hx hb dX8_bodySuits_131 (by decide) ?_
        refine lv_iconst (v := 0) hx hb dX8_bodySuits_138 (by decide) ?_
        exact W.zret (v := 0) (ty := .boolean) hx hb hr rfl (fun t ht hW => ⟨⟨(some (.int 0)), rfl, (by first | exact Or.inr (⟨rfl, (by first | omega | (have kq := kz; omega) | decide)⟩))⟩, hS.F ht⟩) hS.2.2 dX8_bodySuits_139
      · refine W.eq (g2 := F0 m 120 ls [.int 0]) rfl ?_
        refine lv_if_eq (tgt := 138) hx hb dX8_bodySuits_120 (by decide) (fun _ => ?_) (fun h => absurd (by decide) h)
        refine lv_iconst (v := 0) hx hb dX8_bodySuits_138 (by decide) ?_
        exact W.zret (v := 0) (ty := .boolean) hx hb hr rfl (fun t ht hW => ⟨⟨(some (.int 0)), rfl, (by first | exact Or.inr (⟨rfl, (by first | omega | (have kq := kz; omega) | decide)⟩))⟩, hS.F ht⟩) hS.2.2 dX8_bodySuits_139
    · refine lv_tableIn (tgt := 140) (off := 136) hx hb dX8_bodySuits_4 (by decide) (by decide) (by decide) (by decide) ?_
      refine lv_aload_n hx hb dX8_bodySuits_140 rfl (lv_at hl 1 rfl) ?_
      refine va_getN (host := "ReflectModels") (D := (dC, dI)) (own := RX8) (ref := "ReflectModels$Method") (index := 305) (ci := 3) (v := .ref g1) (C := RX4) (T := TX4) (N := 8) hx hb hts inX8_bodySuits_4 hown hK hP 1 rfl rfl 3 (by decide) (va_Nw.use rfl (hN _ (List.mem_of_getElem? (i := 38) rfl))) (fun _ h9 => h9) rfl dX8_bodySuits_141 ?_
      refine clR (va_runVN (As := []) (rest := []) ⟨hx, hb, hml, hown, hts⟩ (c5_startsWithInt l dC dI g1 a1 a2 f1 f2 _) ⟨va_cnB 0 hts gX8_bodySuits_X5_startsWithInt_n309 rfl rfl rfl (hN _ (List.mem_of_getElem? (i := 43) rfl)) (hts (.initialized RX5) (by decide +kernel)) (by decide +kernel) ⟨Nat.le_of_ble_eq_true rfl, Nat.le_of_ble_eq_true rfl⟩, hts (.instanceMethod yX5_startsWithInt) (by decide +kernel), hts (.selects RX5 yX5_startsWithInt yX5_startsWithInt) (by decide +kernel)⟩ ⟨pz_blind, va_recv hK hP (ci := 4) (q0 := 2) rfl rfl, pz_of hP hK hD hN [2] [] rfl (by decide) rfl⟩ rfl rfl hl.1 rfl (lv_room (Nat.le_of_ble_eq_true rfl)) dX8_bodySuits_144 ⟨Nat.le_of_ble_eq_true rfl, Nat.le_of_ble_eq_true rfl⟩) hS hP (fun v H locs w18 hP hS => ?_)
      rcases w18 with ⟨rfl, u16⟩ | ⟨rfl, u17⟩
      · refine W.eq (g2 := F0 m 147 ls [.int 1]) rfl ?_
        exact W.zret (v := 1) (ty := .boolean) hx hb hr rfl (fun t ht hW => ⟨⟨(some (.int 1)), rfl, (by first | exact Or.inl ⟨rfl, (by first | omega | (have kq := kz; omega) | decide)⟩)⟩, hS.F ht⟩) hS.2.2 dX8_bodySuits_147
      · refine W.eq (g2 := F0 m 147 ls [.int 0]) rfl ?_
        exact W.zret (v := 0) (ty := .boolean) hx hb hr rfl (fun t ht hW => ⟨⟨(some (.int 0)), rfl, (by first | exact Or.inr (⟨rfl, (by first | omega | (have kq := kz; omega) | decide)⟩))⟩, hS.F ht⟩) hS.2.2 dX8_bodySuits_147
    · refine lv_tableIn (tgt := 161) (off := 157) hx hb dX8_bodySuits_4 (by decide) (by decide) (by decide) (by decide) ?_
      refine lv_iconst (v := 1) hx hb dX8_bodySuits_161 (by decide) ?_
      exact W.zret (v := 1) (ty := .boolean) hx hb hr rfl (fun t ht hW => ⟨⟨(some (.int 1)), rfl, (by first | exact Or.inl ⟨rfl, (by first | omega | (have kq := kz; omega) | decide)⟩)⟩, hS.F ht⟩) hS.2.2 dX8_bodySuits_162
    · refine lv_tableIn (tgt := 148) (off := 144) hx hb dX8_bodySuits_4 (by decide) (by decide) (by decide) (by decide) ?_
      refine lv_aload_n hx hb dX8_bodySuits_148 rfl (lv_at hl 1 rfl) ?_
      refine va_get (D := (dC, dI)) (own := RX8) (ref := "ReflectModels$Method") (index := 299) (ci := 3) (v := .int s1) (C := RX4) (T := TX4) (N := 8) hx hb hts inX8_bodySuits_4 hown hK hP 1 rfl rfl 1 (by decide) (hts (.fieldLink RX8 299 "ReflectModels$Method" "isStatic" "Z") (by decide +kernel)) (fun x9 h9 => u_same (hts (.sameField "ReflectModels$Method" "ReflectModels$Member" "isStatic" "Z") (by decide +kernel)) x9 h9) rfl dX8_bodySuits_149 ?_
      refine lv_if_ne (tgt := 159) hx hb dX8_bodySuits_152 (by decide) (fun c19 => ?_) (fun c19 => ?_)
      · have ic19 : s1.toInt ≠ 0 := ine2 rfl (by decide) c19
        refine lv_iconst (v := 0) hx hb dX8_bodySuits_159 (by decide) ?_
        exact W.zret (v := 0) (ty := .boolean) hx hb hr rfl (fun t ht hW => ⟨⟨(some (.int 0)), rfl, (by first | exact Or.inr (⟨rfl, (by first | omega | (have kq := kz; omega) | decide)⟩))⟩, hS.F ht⟩) hS.2.2 dX8_bodySuits_160
      · have ic19 : s1.toInt = 0 := ieq2 rfl (by decide) c19
        refine lv_iconst (v := 1) hx hb dX8_bodySuits_155 (by decide) ?_
        refine lv_goto (tgt := 160) hx hb dX8_bodySuits_156 (by decide) ?_
        exact W.zret (v := 1) (ty := .boolean) hx hb hr rfl (fun t ht hW => ⟨⟨(some (.int 1)), rfl, (by first | exact Or.inl ⟨rfl, (by first | omega | (have kq := kz; omega) | decide)⟩)⟩, hS.F ht⟩) hS.2.2 dX8_bodySuits_160
    · refine lv_tableIn (tgt := 86) (off := 82) hx hb dX8_bodySuits_4 (by decide) (by decide) (by decide) (by decide) ?_
      refine lv_aload_n hx hb dX8_bodySuits_86 rfl (lv_at hl 1 rfl) ?_
      refine va_getN (host := "ReflectModels") (D := (dC, dI)) (own := RX8) (ref := "ReflectModels$Method") (index := 305) (ci := 3) (v := .ref g1) (C := RX4) (T := TX4) (N := 8) hx hb hts inX8_bodySuits_4 hown hK hP 1 rfl rfl 3 (by decide) (va_Nw.use rfl (hN _ (List.mem_of_getElem? (i := 38) rfl))) (fun _ h9 => h9) rfl dX8_bodySuits_87 ?_
      refine clR (va_runVN (As := []) (rest := []) ⟨hx, hb, hml, hown, hts⟩ (c5_startsWithClass l dC dI g1 a1 a2 f1 f2 _) ⟨va_cnB 0 hts gX8_bodySuits_X5_startsWithClass_n315 rfl rfl rfl (hN _ (List.mem_of_getElem? (i := 44) rfl)) (hts (.initialized RX5) (by decide +kernel)) (by decide +kernel) ⟨Nat.le_of_ble_eq_true rfl, Nat.le_of_ble_eq_true rfl⟩, hts (.instanceMethod yX5_startsWithClass) (by decide +kernel), hts (.selects RX5 yX5_startsWithClass yX5_startsWithClass) (by decide +kernel)⟩ ⟨pz_blind, va_recv hK hP (ci := 4) (q0 := 2) rfl rfl, pz_of hP hK hD hN [2] [] rfl (by decide) rfl⟩ rfl rfl hl.1 rfl (lv_room (Nat.le_of_ble_eq_true rfl)) dX8_bodySuits_90 ⟨Nat.le_of_ble_eq_true rfl, Nat.le_of_ble_eq_true rfl⟩) hS hP (fun v H locs w22 hP hS => ?_)
      rcases w22 with ⟨rfl, u20⟩ | ⟨rfl, u21⟩
      · refine W.eq (g2 := F0 m 93 ls [.int 1]) rfl ?_
        refine lv_if_eq (tgt := 111) hx hb dX8_bodySuits_93 (by decide) (fun h => absurd h (by decide)) (fun _ => ?_)
        refine lv_aload_n hx hb dX8_bodySuits_96 rfl (lv_at hl 0 rfl) ?_
        refine lv_aload_n hx hb dX8_bodySuits_97 rfl (lv_at hl 1 rfl) ?_
        refine va_getN (host := "ReflectModels") (D := (dC, dI)) (own := RX8) (ref := "ReflectModels$Method") (index := 318) (ci := 3) (v := .int s7) (C := RX4) (T := TX4) (N := 8) hx hb hts inX8_bodySuits_4 hown hK hP 1 rfl rfl 7 (by decide) (va_Nw.use rfl (hN _ (List.mem_of_getElem? (i := 42) rfl))) (fun _ h9 => h9) rfl dX8_bodySuits_98 ?_
        refine clR (va_runV (As := [.int s7]) (rest := []) ⟨hx, hb, hml, hown, hts⟩ (c8_isClass l dC dI h0 q s7 _) (cwV 1 hts gX8_bodySuits_X8_isClass rfl rfl rfl (by decide +kernel) ⟨Nat.le_of_ble_eq_true rfl, Nat.le_of_ble_eq_true rfl⟩) ⟨pz_blind, va_recv hK hP (ci := 7) (q0 := 0) rfl rfl, pz_of hP hK hD hN [0] [] rfl (by decide) rfl⟩ rfl rfl hl.1 rfl (lv_room (Nat.le_of_ble_eq_true rfl)) dX8_bodySuits_101 ⟨Nat.le_of_ble_eq_true rfl, Nat.le_of_ble_eq_true rfl⟩) hS hP (fun v H locs w24 hP hS => ?_)
        rcases w24 with ⟨rfl, rfl⟩ | ⟨rfl, u23⟩
        · refine W.eq (g2 := F0 m 104 ls [.int 1]) rfl ?_
          refine lv_if_eq (tgt := 111) hx hb dX8_bodySuits_104 (by decide) (fun h => absurd h (by decide)) (fun _ => ?_)
          refine lv_iconst (v := 1) hx hb dX8_bodySuits_107 (by decide) ?_
          refine lv_goto (tgt := 112) hx hb dX8_bodySuits_108 (by decide) ?_
          exact W.zret (v := 1) (ty := .boolean) hx hb hr rfl (fun t ht hW => ⟨⟨(some (.int 1)), rfl, (by first | exact Or.inl ⟨rfl, (by first | omega | (have kq := kz; omega) | decide)⟩)⟩, hS.F ht⟩) hS.2.2 dX8_bodySuits_112
        · refine W.eq (g2 := F0 m 104 ls [.int 0]) rfl ?_
          refine lv_if_eq (tgt := 111) hx hb dX8_bodySuits_104 (by decide) (fun _ => ?_) (fun h => absurd (by decide) h)
          refine lv_iconst (v := 0) hx hb dX8_bodySuits_111 (by decide) ?_
          exact W.zret (v := 0) (ty := .boolean) hx hb hr rfl (fun t ht hW => ⟨⟨(some (.int 0)), rfl, (by first | exact Or.inr (⟨rfl, (by first | omega | (have kq := kz; omega) | decide)⟩))⟩, hS.F ht⟩) hS.2.2 dX8_bodySuits_112
      · refine W.eq (g2 := F0 m 93 ls [.int 0]) rfl ?_
        refine lv_if_eq (tgt := 111) hx hb dX8_bodySuits_93 (by decide) (fun _ => ?_) (fun h => absurd (by decide) h)
        refine lv_iconst (v := 0) hx hb dX8_bodySuits_111 (by decide) ?_
        exact W.zret (v := 0) (ty := .boolean) hx hb hr rfl (fun t ht hW => ⟨⟨(some (.int 0)), rfl, (by first | exact Or.inr (⟨rfl, (by first | omega | (have kq := kz; omega) | decide)⟩))⟩, hS.F ht⟩) hS.2.2 dX8_bodySuits_112

set_option maxHeartbeats 4000000 in
set_option maxRecDepth 100000 in
/-- method on a fresh object -/
theorem c8_method (l : Launch) (dC : Nat → ClassId) (dI : Nat → Nat → Nat) (h0 : Nat) (q : Nat → Nat) (cA : Nat → ClassId) (a1 a2 a3 a4 a5 a6 a7 a8 a9 : Int32) (sz : Nat)  : Met l yX8_method wsX8_method ({ frames := 3, cells := 2, slots := 12, locals := 61 }) (va_Pc [.ref h0, .int a1, .int a2, .int a3, .int a4, .int a5, .int a6, .int a7, .int a8, .int a9] (pz (dC, dI) [((cA 0), .object "ReflectModels$ClassModel"), ((cA 1), .object "ReflectModels$Member"), ((cA 2), .object "ReflectModels$Handle"), ((cA 3), .object "ReflectModels$Thing"), ((cA 4), .object "ReflectModels$Value")] [(h0, .inr (7, [.ref (q 0), .int 1, .ref (q 1), .int 0, .int 0, .ref (q 2), .int 0, .ref (q 3), .int 0, .ref (q 4), .int 0, .int 0, .ref (q 5), .int 0, .int 0])), ((q 0), .inl ((cA 0), 16, .inr (.inr (.inr (.inr (va_up (fun _ => none) 0 (some (q 6)))))))), ((q 1), .inl ((cA 1), 40, .inr (.inr (.inr (.inr (fun _ => none)))))), ((q 2), .inl ((cA 2), 60, .inr (.inr (.inr (.inr (fun _ => none)))))), ((q 3), .inl ((cA 3), 124, .inr (.inr (.inr (.inr (fun _ => none)))))), ((q 4), .inl ((cA 4), 3, .inr (.inr (.inr (.inr (va_up (va_up (va_up (fun _ => none) 0 (some (q 7))) 1 (some (q 8))) 2 (some (q 9)))))))), ((q 5), .inr (6, [.int 0, .long 0])), ((q 6), .inr (0, [.int 0, .null, .int 0, .null, .int 0, .int 0, .int 1, .int 1, .int 0, .int 0, .int 0, .int 0])), ((q 7), .inr (6, [.int 0, .long 0])), ((q 8), .inr (6, [.int 0, .long 0])), ((q 9), .inr (6, [.int 0, .long 0]))] sz)) (qW (dC, dI) (fun v w1 ty1 => v = some (.int (an_method a1.toInt a2.toInt a3.toInt a4.toInt a5.toInt a6.toInt a7.toInt a8.toInt a9.toInt)) ∧ w1 = [] ∧ ty1 = []) (va_A [(h0, .inr (7, [.ref (q 0), .int 1, .ref (q 1), .int 0, .int 0, .ref (q 2), .int 0, .ref (q 3), .int 0, .ref (q 4), .int 0, .int 0, .ref (q 5), .int 0, .int 0])), ((q 0), .inl ((cA 0), 16, .inr (.inr (.inr (.inr (va_up (fun _ => none) 0 (some (q 6)))))))), ((q 1), .inl ((cA 1), 40, .inr (.inr (.inr (.inr (fun _ => none)))))), ((q 2), .inl ((cA 2), 60, .inr (.inr (.inr (.inr (fun _ => none)))))), ((q 3), .inl ((cA 3), 124, .inr (.inr (.inr (.inr (fun _ => none)))))), ((q 4), .inl ((cA 4), 3, .inr (.inr (.inr (.inr (va_up (va_up (va_up (fun _ => none) 0 (some (q 7))) 1 (some (q 8))) 2 (some (q 9)))))))), ((q 5), .inr (6, [.int 0, .long 0])), ((q 6), .inr (0, [.int 0, .null, .int 0, .null, .int 0, .int 0, .int 1, .int 1, .int 0, .int 0, .int 0, .int 0])), ((q 7), .inr (6, [.int 0, .long 0])), ((q 8), .inr (6, [.int 0, .long 0])), ((q 9), .inr (6, [.int 0, .long 0]))] sz)) 2 12 (va_A [(h0, .inr (7, [.ref (q 0), .int 1, .ref (q 1), .int 0, .int 0, .ref (q 2), .int 0, .ref (q 3), .int 0, .ref (q 4), .int 0, .int 0, .ref (q 5), .int 0, .int 0])), ((q 0), .inl ((cA 0), 16, .inr (.inr (.inr (.inr (va_up (fun _ => none) 0 (some (q 6)))))))), ((q 1), .inl ((cA 1), 40, .inr (.inr (.inr (.inr (fun _ => none)))))), ((q 2), .inl ((cA 2), 60, .inr (.inr (.inr (.inr (fun _ => none)))))), ((q 3), .inl ((cA 3), 124, .inr (.inr (.inr (.inr (fun _ => none)))))), ((q 4), .inl ((cA 4), 3, .inr (.inr (.inr (.inr (va_up (va_up (va_up (fun _ => none) 0 (some (q 7))) 1 (some (q 8))) 2 (some (q 9)))))))), ((q 5), .inr (6, [.int 0, .long 0])), ((q 6), .inr (0, [.int 0, .null, .int 0, .null, .int 0, .int 0, .int 1, .int 1, .int 0, .int 0, .int 0, .int 0])), ((q 7), .inr (6, [.int 0, .long 0])), ((q 8), .inr (6, [.int 0, .long 0])), ((q 9), .inr (6, [.int 0, .long 0]))] sz) := by
  refine Met.ofW (cc := cX8_method) (maxL := 12) (ret := (some .int)) (by decide) rfl ?_
  intro p e s m args below meth c s₁ B hml hv
  obtain ⟨rfl, hsz, hP, hK, hD, hN⟩ := hv
  have hx := B.exec
  have hb := B.bytes
  have hr := B.returns
  have hts := atoms_spec (ws := wsX8_method) B.pre
  have hown : s.vm.findClass RX8 = some m.cls := findClass_of_methodNamed B.named
  have hlocks := B.notSynchronized
  subst hsz
  have hD := hD.self (sz := s.heap.size)
  generalize hAe : va_A [(h0, .inr (7, [.ref (q 0), .int 1, .ref (q 1), .int 0, .int 0, .ref (q 2), .int 0, .ref (q 3), .int 0, .ref (q 4), .int 0, .int 0, .ref (q 5), .int 0, .int 0])), ((q 0), .inl ((cA 0), 16, .inr (.inr (.inr (.inr (va_up (fun _ => none) 0 (some (q 6)))))))), ((q 1), .inl ((cA 1), 40, .inr (.inr (.inr (.inr (fun _ => none)))))), ((q 2), .inl ((cA 2), 60, .inr (.inr (.inr (.inr (fun _ => none)))))), ((q 3), .inl ((cA 3), 124, .inr (.inr (.inr (.inr (fun _ => none)))))), ((q 4), .inl ((cA 4), 3, .inr (.inr (.inr (.inr (va_up (va_up (va_up (fun _ => none) 0 (some (q 7))) 1 (some (q 8))) 2 (some (q 9)))))))), ((q 5), .inr (6, [.int 0, .long 0])), ((q 6), .inr (0, [.int 0, .null, .int 0, .null, .int 0, .int 0, .int 1, .int 1, .int 0, .int 0, .int 0, .int 0])), ((q 7), .inr (6, [.int 0, .long 0])), ((q 8), .inr (6, [.int 0, .long 0])), ((q 9), .inr (6, [.int 0, .long 0]))] s.heap.size = A at hD ⊢
  have hA : ∀ q : Nat, s.heap.size ≤ q → A q := fun q h => by rw [← hAe]; exact Or.inr h
  have hS : va_S A s.heap s.heap [] := va_S.rf
  have hl := lv_entry ([.ref h0, .int a1, .int a2, .int a3, .int a4, .int a5, .int a6, .int a7, .int a8, .int a9]) (n := 12) (Nat.le_of_ble_eq_true rfl)
  rw [lg_entry_eq]
  generalize (lg_sl ([.ref h0, .int a1, .int a2, .int a3, .int a4, .int a5, .int a6, .int a7, .int a8, .int a9]) ++ List.replicate (12 - (lg_sl ([.ref h0, .int a1, .int a2, .int a3, .int a4, .int a5, .int a6, .int a7, .int a8, .int a9])).length) Slot.unset).toArray = ls at hl ⊢
  have hl : lv_has ls 12 [(0, .ref h0), (1, .int a1), (2, .int a2), (3, .int a3), (4, .int a4), (5, .int a5), (6, .int a6), (7, .int a7), (8, .int a8), (9, .int a9)] := hl
  refine va_new (ci := 4) (fs := [.int 0, .int 0, .int 0, .int 0]) (C := RX5) (T := TX5) (N := 4) hx hb hts inX8_method_5 tyX5 tyX5_ok hown (hts (.classLink RX8 118 RX5) (by decide +kernel)) (hts (.instantiable RX5 4) (by decide +kernel)) (hts (.initialized RX5) (by decide +kernel)) hK hP hD hS hA rfl df_X5 (Nat.le_of_ble_eq_true rfl) (Nat.le_of_ble_eq_true rfl) dX8_method_0 (fun q1 H hP hD hS => ?_)
  have hP : va_P (dC, dI) vwCl [(h0, .inr (7, [.ref (q 0), .int 1, .ref (q 1), .int 0, .int 0, .ref (q 2), .int 0, .ref (q 3), .int 0, .ref (q 4), .int 0, .int 0, .ref (q 5), .int 0, .int 0])), ((q 0), .inl ((cA 0), 16, .inr (.inr (.inr (.inr (va_up (fun _ => none) 0 (some (q 6)))))))), ((q 1), .inl ((cA 1), 40, .inr (.inr (.inr (.inr (fun _ => none)))))), ((q 2), .inl ((cA 2), 60, .inr (.inr (.inr (.inr (fun _ => none)))))), ((q 3), .inl ((cA 3), 124, .inr (.inr (.inr (.inr (fun _ => none)))))), ((q 4), .inl ((cA 4), 3, .inr (.inr (.inr (.inr (va_up (va_up (va_up (fun _ => none) 0 (some (q 7))) 1 (some (q 8))) 2 (some (q 9)))))))), ((q 5), .inr (6, [.int 0, .long 0])), ((q 6), .inr (0, [.int 0, .null, .int 0, .null, .int 0, .int 0, .int 1, .int 1, .int 0, .int 0, .int 0, .int 0])), ((q 7), .inr (6, [.int 0, .long 0])), ((q 8), .inr (6, [.int 0, .long 0])), ((q 9), .inr (6, [.int 0, .long 0])), (q1, .inr (4, [.int 0, .int 0, .int 0, .int 0]))] H := hP
  have hD : va_D A [(h0, .inr (7, [.ref (q 0), .int 1, .ref (q 1), .int 0, .int 0, .ref (q 2), .int 0, .ref (q 3), .int 0, .ref (q 4), .int 0, .int 0, .ref (q 5), .int 0, .int 0])), ((q 0), .inl ((cA 0), 16, .inr (.inr (.inr (.inr (va_up (fun _ => none) 0 (some (q 6)))))))), ((q 1), .inl ((cA 1), 40, .inr (.inr (.inr (.inr (fun _ => none)))))), ((q 2), .inl ((cA 2), 60, .inr (.inr (.inr (.inr (fun _ => none)))))), ((q 3), .inl ((cA 3), 124, .inr (.inr (.inr (.inr (fun _ => none)))))), ((q 4), .inl ((cA 4), 3, .inr (.inr (.inr (.inr (va_up (va_up (va_up (fun _ => none) 0 (some (q 7))) 1 (some (q 8))) 2 (some (q 9)))))))), ((q 5), .inr (6, [.int 0, .long 0])), ((q 6), .inr (0, [.int 0, .null, .int 0, .null, .int 0, .int 0, .int 1, .int 1, .int 0, .int 0, .int 0, .int 0])), ((q 7), .inr (6, [.int 0, .long 0])), ((q 8), .inr (6, [.int 0, .long 0])), ((q 9), .inr (6, [.int 0, .long 0])), (q1, .inr (4, [.int 0, .int 0, .int 0, .int 0]))] := hD
  refine W.cs (cells' := 1) (slots' := 4) rfl rfl ?_
  refine lv_dup hx hb dX8_method_3 rfl ?_
  refine lv_iload_n hx hb dX8_method_4 rfl (lv_at hl 2 rfl) ?_
  refine lv_iload_n hx hb dX8_method_5 rfl (lv_at hl 3 rfl) ?_
  refine lv_iload hx hb dX8_method_6 (lv_at hl 4 rfl) ?_
  refine lv_iload hx hb dX8_method_8 (lv_at hl 5 rfl) ?_
  refine clW (wr := [(h0, .inr (7, [.ref (q 0), .int 1, .ref (q 1), .int 0, .int 0, .ref (q 2), .int 0, .ref (q 3), .int 0, .ref (q 4), .int 0, .int 0, .ref (q 5), .int 0, .int 0])), ((q 0), .inl ((cA 0), 16, .inr (.inr (.inr (.inr (va_up (fun _ => none) 0 (some (q 6)))))))), ((q 1), .inl ((cA 1), 40, .inr (.inr (.inr (.inr (fun _ => none)))))), ((q 2), .inl ((cA 2), 60, .inr (.inr (.inr (.inr (fun _ => none)))))), ((q 3), .inl ((cA 3), 124, .inr (.inr (.inr (.inr (fun _ => none)))))), ((q 4), .inl ((cA 4), 3, .inr (.inr (.inr (.inr (va_up (va_up (va_up (fun _ => none) 0 (some (q 7))) 1 (some (q 8))) 2 (some (q 9)))))))), ((q 5), .inr (6, [.int 0, .long 0])), ((q 6), .inr (0, [.int 0, .null, .int 0, .null, .int 0, .int 0, .int 1, .int 1, .int 0, .int 0, .int 0, .int 0])), ((q 7), .inr (6, [.int 0, .long 0])), ((q 8), .inr (6, [.int 0, .long 0])), ((q 9), .inr (6, [.int 0, .long 0]))]) [11] [0, 1, 2, 3, 4, 5, 6, 7, 8, 9, 10] (va_runIN (As := [.int a2, .int a3, .int a4, .int a5]) (rest := [.ref q1]) ⟨hx, hb, hml, hown, hts⟩ (c5_init l dC dI q1 a2 a3 a4 a5 _) ⟨va_cnB 4 hts gX8_method_X5_init_n120 rfl rfl rfl (hN _ (List.mem_of_getElem? (i := 29) rfl)) (hts (.initialized RX5) (by decide +kernel)) (by decide +kernel) ⟨Nat.le_of_ble_eq_true rfl, Nat.le_of_ble_eq_true rfl⟩, rfl, hts (.instanceMethod yX5_init) (by decide +kernel)⟩ ⟨pz_blind, pz_of hP hK hD hN [11] [] rfl (by decide) rfl⟩ rfl rfl hl.1 rfl (lv_room (Nat.le_of_ble_eq_true rfl)) dX8_method_10 ⟨Nat.le_of_ble_eq_true rfl, Nat.le_of_ble_eq_true rfl⟩) hS hP hD hK hA rfl rfl (by decide) (by decide) (fun v w1 ty1 H locs w6 hP hD hK hS => ?_)
  obtain ⟨rfl, f2, f3, ⟨u4, u5⟩, rfl, rfl⟩ := w6
  refine W.eq (g2 := F0 m 13 ls [.ref q1]) rfl ?_
  have hP : va_P (dC, dI) vwCl [(h0, .inr (7, [.ref (q 0), .int 1, .ref (q 1), .int 0, .int 0, .ref (q 2), .int 0, .ref (q 3), .int 0, .ref (q 4), .int 0, .int 0, .ref (q 5), .int 0, .int 0])), ((q 0), .inl ((cA 0), 16, .inr (.inr (.inr (.inr (va_up (fun _ => none) 0 (some (q 6)))))))), ((q 1), .inl ((cA 1), 40, .inr (.inr (.inr (.inr (fun _ => none)))))), ((q 2), .inl ((cA 2), 60, .inr (.inr (.inr (.inr (fun _ => none)))))), ((q 3), .inl ((cA 3), 124, .inr (.inr (.inr (.inr (fun _ => none)))))), ((q 4), .inl ((cA 4), 3, .inr (.inr (.inr (.inr (va_up (va_up (va_up (fun _ => none) 0 (some (q 7))) 1 (some (q 8))) 2 (some (q 9)))))))), ((q 5), .inr (6, [.int 0, .long 0])), ((q 6), .inr (0, [.int 0, .null, .int 0, .null, .int 0, .int 0, .int 1, .int 1, .int 0, .int 0, .int 0, .int 0])), ((q 7), .inr (6, [.int 0, .long 0])), ((q 8), .inr (6, [.int 0, .long 0])), ((q 9), .inr (6, [.int 0, .long 0])), (q1, .inr (4, [.int a2, .int a3, .int f2, .int f3]))] H := hP
  have hD : va_D A [(h0, .inr (7, [.ref (q 0), .int 1, .ref (q 1), .int 0, .int 0, .ref (q 2), .int 0, .ref (q 3), .int 0, .ref (q 4), .int 0, .int 0, .ref (q 5), .int 0, .int 0])), ((q 0), .inl ((cA 0), 16, .inr (.inr (.inr (.inr (va_up (fun _ => none) 0 (some (q 6)))))))), ((q 1), .inl ((cA 1), 40, .inr (.inr (.inr (.inr (fun _ => none)))))), ((q 2), .inl ((cA 2), 60, .inr (.inr (.inr (.inr (fun _ => none)))))), ((q 3), .inl ((cA 3), 124, .inr (.inr (.inr (.inr (fun _ => none)))))), ((q 4), .inl ((cA 4), 3, .inr (.inr (.inr (.inr (va_up (va_up (va_up (fun _ => none) 0 (some (q 7))) 1 (some (q 8))) 2 (some (q 9)))))))), ((q 5), .inr (6, [.int 0, .long 0])), ((q 6), .inr (0, [.int 0, .null, .int 0, .null, .int 0, .int 0, .int 1, .int 1, .int 0, .int 0, .int 0, .int 0])), ((q 7), .inr (6, [.int 0, .long 0])), ((q 8), .inr (6, [.int 0, .long 0])), ((q 9), .inr (6, [.int 0, .long 0])), (q1, .inr (4, [.int a2, .int a3, .int f2, .int f3]))] := hD
  have hK : va_K (dC, dI) vwCl [((cA 0), .object "ReflectModels$ClassModel"), ((cA 1), .object "ReflectModels$Member"), ((cA 2), .object "ReflectModels$Handle"), ((cA 3), .object "ReflectModels$Thing"), ((cA 4), .object "ReflectModels$Value")] s := hK
  refine W.cs (cells' := 1) (slots' := 4) rfl rfl ?_
  refine lv_astore (lv' := [(10, .ref q1), (0, .ref h0), (1, .int a1), (2, .int a2), (3, .int a3), (4, .int a4), (5, .int a5), (6, .int a6), (7, .int a7), (8, .int a8), (9, .int a9)]) hx hb dX8_method_13 hl (by decide) rfl (fun ls hl => ?_)
  refine lv_aload_n hx hb dX8_method_15 rfl (lv_at hl 1 rfl) ?_
  refine lv_iload_n hx hb dX8_method_16 rfl (lv_at hl 2 rfl) ?_
  refine clR (va_runV (As := [.int a1]) (rest := []) ⟨hx, hb, hml, hown, hts⟩ (c8_isClass l dC dI h0 q a1 _) (cwV 1 hts gX8_method_X8_isClass rfl rfl rfl (by decide +kernel) ⟨Nat.le_of_ble_eq_true rfl, Nat.le_of_ble_eq_true rfl⟩) ⟨pz_blind, va_recv hK hP (ci := 7) (q0 := 0) rfl rfl, pz_of hP hK hD hN [0] [] rfl (by decide) rfl⟩ rfl rfl hl.1 rfl (lv_room (Nat.le_of_ble_eq_true rfl)) dX8_method_17 ⟨Nat.le_of_ble_eq_true rfl, Nat.le_of_ble_eq_true rfl⟩) hS hP (fun v H locs w8 hP hS => ?_)
  rcases w8 with ⟨rfl, rfl⟩ | ⟨rfl, u7⟩
  · refine W.eq (g2 := F0 m 20 ls [.int 1]) rfl ?_
    refine lv_if_eq (tgt := 41) hx hb dX8_method_20 (by decide) (fun h => absurd h (by decide)) (fun _ => ?_)
    refine lv_aload_n hx hb dX8_method_23 rfl (lv_at hl 1 rfl) ?_
    refine lv_aload hx hb dX8_method_24 (lv_at hl 0 rfl) ?_
    refine clR (va_runV (As := [.ref q1]) (rest := []) ⟨hx, hb, hml, hown, hts⟩ (c8_hasMissingClass l dC dI h0 q q1 a2 a3 f2 f3 _) (cwV 1 hts gX8_method_X8_hasMissingClass rfl rfl rfl (by decide +kernel) ⟨Nat.le_of_ble_eq_true rfl, Nat.le_of_ble_eq_true rfl⟩) ⟨pz_blind, va_recv hK hP (ci := 7) (q0 := 0) rfl rfl, pz_of hP hK hD hN [0, 11] [] rfl (by decide) rfl⟩ rfl rfl hl.1 rfl (lv_room (Nat.le_of_ble_eq_true rfl)) dX8_method_26 ⟨Nat.le_of_ble_eq_true rfl, Nat.le_of_ble_eq_true rfl⟩) hS hP (fun v H locs w11 hP hS => ?_)
    rcases w11 with ⟨rfl, u9⟩ | ⟨rfl, u10⟩
    · refine W.eq (g2 := F0 m 29 ls [.int 1]) rfl ?_
      refine lv_if_ne (tgt := 41) hx hb dX8_method_29 (by decide) (fun _ => ?_) (fun h => absurd h (by decide))
      refine lv_bipush (v := (-2)) hx hb dX8_method_41 (by decide) ?_
      refine W.widen (k := 2) (n := 12) (by omega) (by omega) ?_
      have hP9 := hP.sub (ws' := []) [] rfl
      have hD9 := hD.sub (ws' := []) [] (by decide) rfl
      have hK9 := hK.sub (tys' := []) [] rfl
      exact W.zret (v := (-2)) (ty := .int) hx hb hr rfl (fun t ht hW => ⟨⟨(some (.int (-2))), rfl, _, _, ⟨congrArg (fun z => some (Value.int z)) (by unfold an_method; (repeat' split) <;> first | rfl | (exfalso; first | omega | (have kq := kz; omega))), rfl, rfl⟩, by rw [ht]; exact hP9, va_K.moved hW.alike hK9, hD9⟩, hS.F ht⟩) hS.2.2 dX8_method_43
    · refine W.eq (g2 := F0 m 29 ls [.int 0]) rfl ?_
      refine lv_if_ne (tgt := 41) hx hb dX8_method_29 (by decide) (fun h => absurd h (by decide)) (fun _ => ?_)
      refine lv_aload_n hx hb dX8_method_32 rfl (lv_at hl 1 rfl) ?_
      refine lv_iload hx hb dX8_method_33 (lv_at hl 7 rfl) ?_
      refine clR (va_runV (As := [.int a6]) (rest := []) ⟨hx, hb, hml, hown, hts⟩ (c8_isMissingClass l dC dI h0 q a6 _) (cwV 1 hts gX8_method_X8_isMissingClass rfl rfl rfl (by decide +kernel) ⟨Nat.le_of_ble_eq_true rfl, Nat.le_of_ble_eq_true rfl⟩) ⟨pz_blind, va_recv hK hP (ci := 7) (q0 := 0) rfl rfl, pz_of hP hK hD hN [0] [] rfl (by decide) rfl⟩ rfl rfl hl.1 rfl (lv_room (Nat.le_of_ble_eq_true rfl)) dX8_method_35 ⟨Nat.le_of_ble_eq_true rfl, Nat.le_of_ble_eq_true rfl⟩) hS hP (fun v H locs w14 hP hS => ?_)
      rcases w14 with ⟨rfl, u12⟩ | ⟨rfl, u13⟩
      · refine W.eq (g2 := F0 m 38 ls [.int 1]) rfl ?_
        refine lv_if_eq (tgt := 44) hx hb dX8_method_38 (by decide) (fun h => absurd h (by decide)) (fun _ => ?_)
        refine lv_bipush (v := (-2)) hx hb dX8_method_41 (by decide) ?_
        refine W.widen (k := 2) (n := 12) (by omega) (by omega) ?_
        have hP9 := hP.sub (ws' := []) [] rfl
        have hD9 := hD.sub (ws' := []) [] (by decide) rfl
        have hK9 := hK.sub (tys' := []) [] rfl
        exact W.zret (v := (-2)) (ty := .int) hx hb hr rfl (fun t ht hW => ⟨⟨(some (.int (-2))), rfl, _, _, ⟨congrArg (fun z => some (Value.int z)) (by unfold an_method; (repeat' split) <;> first | rfl | (exfalso; first | omega | (have kq := kz; omega))), rfl, rfl⟩, by rw [ht]; exact hP9, va_K.moved hW.alike hK9, hD9⟩, hS.F ht⟩) hS.2.2 dX8_method_43
      · refine W.eq (g2 := F0 m 38 ls [.int 0]) rfl ?_
        refine lv_if_eq (tgt := 44) hx hb dX8_method_38 (by decide) (fun _ => ?_) (fun h => absurd (by decide) h)
        refine lv_aload hx hb dX8_method_44 (lv_at hl 0 rfl) ?_
        refine clR (va_runVN (As := []) (rest := []) ⟨hx, hb, hml, hown, hts⟩ (c5_isOutside l dC dI q1 a2 a3 f2 f3 _) ⟨va_cnB 0 hts gX8_method_X5_isOutside_n127 rfl rfl rfl (hN _ (List.mem_of_getElem? (i := 33) rfl)) (hts (.initialized RX5) (by decide +kernel)) (by decide +kernel) ⟨Nat.le_of_ble_eq_true rfl, Nat.le_of_ble_eq_true rfl⟩, hts (.instanceMethod yX5_isOutside) (by decide +kernel), hts (.selects RX5 yX5_isOutside yX5_isOutside) (by decide +kernel)⟩ ⟨pz_blind, va_recv hK hP (ci := 4) (q0 := 11) rfl rfl, pz_of hP hK hD hN [11] [] rfl (by decide) rfl⟩ rfl rfl hl.1 rfl (lv_room (Nat.le_of_ble_eq_true rfl)) dX8_method_46 ⟨Nat.le_of_ble_eq_true rfl, Nat.le_of_ble_eq_true rfl⟩) hS hP (fun v H locs w17 hP hS => ?_)
        rcases w17 with ⟨rfl, u15⟩ | ⟨rfl, u16⟩
        · refine W.eq (g2 := F0 m 49 ls [.int 1]) rfl ?_
          refine lv_if_ne (tgt := 77) hx hb dX8_method_49 (by decide) (fun _ => ?_) (fun h => absurd h (by decide))
          refine lv_bipush (v := (-3)) hx hb dX8_method_77 (by decide) ?_
          refine W.widen (k := 2) (n := 12) (by omega) (by omega) ?_
          have hP9 := hP.sub (ws' := []) [] rfl
          have hD9 := hD.sub (ws' := []) [] (by decide) rfl
          have hK9 := hK.sub (tys' := []) [] rfl
          exact W.zret (v := (-3)) (ty := .int) hx hb hr rfl (fun t ht hW => ⟨⟨(some (.int (-3))), rfl, _, _, ⟨congrArg (fun z => some (Value.int z)) (by unfold an_method; (repeat' split) <;> first | rfl | (exfalso; first | omega | (have kq := kz; omega))), rfl, rfl⟩, by rw [ht]; exact hP9, va_K.moved hW.alike hK9, hD9⟩, hS.F ht⟩) hS.2.2 dX8_method_79
        · refine W.eq (g2 := F0 m 49 ls [.int 0]) rfl ?_
          refine lv_if_ne (tgt := 77) hx hb dX8_method_49 (by decide) (fun h => absurd h (by decide)) (fun _ => ?_)
          refine lv_iload hx hb dX8_method_52 (lv_at hl 7 rfl) ?_
          refine lv_bipush (v := (-3)) hx hb dX8_method_54 (by decide) ?_
          refine lv_icmp_lt (tgt := 77) hx hb dX8_method_56 (by decide) (fun c18 => ?_) (fun c18 => ?_)
          · have ic18 : a6.toInt < (-3) := il2 rfl (by decide) c18
            refine lv_bipush (v := (-3)) hx hb dX8_method_77 (by decide) ?_
            refine W.widen (k := 2) (n := 12) (by omega) (by omega) ?_
            have hP9 := hP.sub (ws' := []) [] rfl
            have hD9 := hD.sub (ws' := []) [] (by decide) rfl
            have hK9 := hK.sub (tys' := []) [] rfl
            exact W.zret (v := (-3)) (ty := .int) hx hb hr rfl (fun t ht hW => ⟨⟨(some (.int (-3))), rfl, _, _, ⟨congrArg (fun z => some (Value.int z)) (by unfold an_method; (repeat' split) <;> first | rfl | (exfalso; first | omega | (have kq := kz; omega))), rfl, rfl⟩, by rw [ht]; exact hP9, va_K.moved hW.alike hK9, hD9⟩, hS.F ht⟩) hS.2.2 dX8_method_79
          · have ic18 : (-3) ≤ a6.toInt := inl2 rfl (by decide) c18
            refine lv_iload hx hb dX8_method_59 (lv_at hl 8 rfl) ?_
            refine clR (va_runS (As := [.int a7]) (rest := []) ⟨hx, hb, hml, hown, hts⟩ (c8_areOutsideMarks l dC dI a7 _) (va_cwS 1 hts gX8_method_X8_areOutsideMarks rfl rfl rfl (by decide +kernel) ⟨Nat.le_of_ble_eq_true rfl, Nat.le_of_ble_eq_true rfl⟩) ⟨pz_blind, pz_of hP hK hD hN [] [] rfl (by decide) rfl⟩ rfl rfl hl.1 rfl (lv_room (Nat.le_of_ble_eq_true rfl)) dX8_method_61 ⟨Nat.le_of_ble_eq_true rfl, Nat.le_of_ble_eq_true rfl⟩) hS hP (fun v H locs w20 hP hS => ?_)
            rcases w20 with ⟨rfl, u19⟩ | ⟨rfl, rfl⟩ | ⟨rfl, rfl⟩ | ⟨rfl, rfl⟩ | ⟨rfl, rfl⟩ | ⟨rfl, rfl⟩
            · refine W.eq (g2 := F0 m 64 ls [.int 1]) rfl ?_
              refine lv_if_ne (tgt := 77) hx hb dX8_method_64 (by decide) (fun _ => ?_) (fun h => absurd h (by decide))
              refine lv_bipush (v := (-3)) hx hb dX8_method_77 (by decide) ?_
              refine W.widen (k := 2) (n := 12) (by omega) (by omega) ?_
              have hP9 := hP.sub (ws' := []) [] rfl
              have hD9 := hD.sub (ws' := []) [] (by decide) rfl
              have hK9 := hK.sub (tys' := []) [] rfl
              exact W.zret (v := (-3)) (ty := .int) hx hb hr rfl (fun t ht hW => ⟨⟨(some (.int (-3))), rfl, _, _, ⟨congrArg (fun z => some (Value.int z)) (by unfold an_method; (repeat' split) <;> first | rfl | (exfalso; first | omega | (have kq := kz; omega))), rfl, rfl⟩, by rw [ht]; exact hP9, va_K.moved hW.alike hK9, hD9⟩, hS.F ht⟩) hS.2.2 dX8_method_79
            · refine W.eq (g2 := F0 m 64 ls [.int 0]) rfl ?_
              refine lv_if_ne (tgt := 77) hx hb dX8_method_64 (by decide) (fun h => absurd h (by decide)) (fun _ => ?_)
              refine lv_iload hx hb dX8_method_67 (lv_at hl 9 rfl) ?_
              refine lv_iload hx hb dX8_method_69 (lv_at hl 10 rfl) ?_
              refine clR (va_runS (As := [.int a8, .int a9]) (rest := []) ⟨hx, hb, hml, hown, hts⟩ (c8_isOutsideBody l dC dI a8 a9 _) (va_cwS 2 hts gX8_method_X8_isOutsideBody rfl rfl rfl (by decide +kernel) ⟨Nat.le_of_ble_eq_true rfl, Nat.le_of_ble_eq_true rfl⟩) ⟨pz_blind, pz_of hP hK hD hN [] [] rfl (by decide) rfl⟩ rfl rfl hl.1 rfl (lv_room (Nat.le_of_ble_eq_true rfl)) dX8_method_71 ⟨Nat.le_of_ble_eq_true rfl, Nat.le_of_ble_eq_true rfl⟩) hS hP (fun v H locs w23 hP hS => ?_)
              rcases w23 with ⟨rfl, u21⟩ | ⟨rfl, u22⟩
              · refine W.eq (g2 := F0 m 74 ls [.int 1]) rfl ?_
                refine lv_if_eq (tgt := 80) hx hb dX8_method_74 (by decide) (fun h => absurd h (by decide)) (fun _ => ?_)
                refine lv_bipush (v := (-3)) hx hb dX8_method_77 (by decide) ?_
                refine W.widen (k := 2) (n := 12) (by omega) (by omega) ?_
                have hP9 := hP.sub (ws' := []) [] rfl
                have hD9 := hD.sub (ws' := []) [] (by decide) rfl
                have hK9 := hK.sub (tys' := []) [] rfl
                exact W.zret (v := (-3)) (ty := .int) hx hb hr rfl (fun t ht hW => ⟨⟨(some (.int (-3))), rfl, _, _, ⟨congrArg (fun z => some (Value.int z)) (by unfold an_method; (repeat' split) <;> first | rfl | (exfalso; first | omega | (have kq := kz; omega))), rfl, rfl⟩, by rw [ht]; exact hP9, va_K.moved hW.alike hK9, hD9⟩, hS.F ht⟩) hS.2.2 dX8_method_79
              · refine W.eq (g2 := F0 m 74 ls [.int 0]) rfl ?_
                refine lv_if_eq (tgt := 80) hx hb dX8_method_74 (by decide) (fun _ => ?_) (fun h => absurd (by decide) h)
                refine va_new (ci := 3) (fs := [.null, .int 0, .int 0, .null, .int 0, .int 0, .int 0, .int 0]) (C := RX4) (T := TX4) (N := 8) hx hb hts inX8_method_4 tyX4 tyX4_ok hown (hts (.classLink RX8 138 RX4) (by decide +kernel)) (hts (.instantiable RX4 8) (by decide +kernel)) (hts (.initialized RX4) (by decide +kernel)) hK hP hD hS hA rfl df_X4 (Nat.le_of_ble_eq_true rfl) (Nat.le_of_ble_eq_true rfl) dX8_method_80 (fun q24 H hP hD hS => ?_)
                have hP : va_P (dC, dI) vwCl [(h0, .inr (7, [.ref (q 0), .int 1, .ref (q 1), .int 0, .int 0, .ref (q 2), .int 0, .ref (q 3), .int 0, .ref (q 4), .int 0, .int 0, .ref (q 5), .int 0, .int 0])), ((q 0), .inl ((cA 0), 16, .inr (.inr (.inr (.inr (va_up (fun _ => none) 0 (some (q 6)))))))), ((q 1), .inl ((cA 1), 40, .inr (.inr (.inr (.inr (fun _ => none)))))), ((q 2), .inl ((cA 2), 60, .inr (.inr (.inr (.inr (fun _ => none)))))), ((q 3), .inl ((cA 3), 124, .inr (.inr (.inr (.inr (fun _ => none)))))), ((q 4), .inl ((cA 4), 3, .inr (.inr (.inr (.inr (va_up (va_up (va_up (fun _ => none) 0 (some (q 7))) 1 (some (q 8))) 2 (some (q 9)))))))), ((q 5), .inr (6, [.int 0, .long 0])), ((q 6), .inr (0, [.int 0, .null, .int 0, .null, .int 0, .int 0, .int 1, .int 1, .int 0, .int 0, .int 0, .int 0])), ((q 7), .inr (6, [.int 0, .long 0])), ((q 8), .inr (6, [.int 0, .long 0])), ((q 9), .inr (6, [.int 0, .long 0])), (q1, .inr (4, [.int a2, .int a3, .int f2, .int f3])), (q24, .inr (3, [.null, .int 0, .int 0, .null, .int 0, .int 0, .int 0, .int 0]))] H := hP
                have hD : va_D A [(h0, .inr (7, [.ref (q 0), .int 1, .ref (q 1), .int 0, .int 0, .ref (q 2), .int 0, .ref (q 3), .int 0, .ref (q 4), .int 0, .int 0, .ref (q 5), .int 0, .int 0])), ((q 0), .inl ((cA 0), 16, .inr (.inr (.inr (.inr (va_up (fun _ => none) 0 (some (q 6)))))))), ((q 1), .inl ((cA 1), 40, .inr (.inr (.inr (.inr (fun _ => none)))))), ((q 2), .inl ((cA 2), 60, .inr (.inr (.inr (.inr (fun _ => none)))))), ((q 3), .inl ((cA 3), 124, .inr (.inr (.inr (.inr (fun _ => none)))))), ((q 4), .inl ((cA 4), 3, .inr (.inr (.inr (.inr (va_up (va_up (va_up (fun _ => none) 0 (some (q 7))) 1 (some (q 8))) 2 (some (q 9)))))))), ((q 5), .inr (6, [.int 0, .long 0])), ((q 6), .inr (0, [.int 0, .null, .int 0, .null, .int 0, .int 0, .int 1, .int 1, .int 0, .int 0, .int 0, .int 0])), ((q 7), .inr (6, [.int 0, .long 0])), ((q 8), .inr (6, [.int 0, .long 0])), ((q 9), .inr (6, [.int 0, .long 0])), (q1, .inr (4, [.int a2, .int a3, .int f2, .int f3])), (q24, .inr (3, [.null, .int 0, .int 0, .null, .int 0, .int 0, .int 0, .int 0]))] := hD
                refine W.cs (cells' := 2) (slots' := 12) rfl rfl ?_
                refine lv_dup hx hb dX8_method_83 rfl ?_
                refine lv_aload_n hx hb dX8_method_84 rfl (lv_at hl 1 rfl) ?_
                refine va_get (D := (dC, dI)) (own := RX8) (ref := "ReflectModels") (index := 11) (ci := 7) (v := .ref (q 0)) (C := RX8) (T := TX8) (N := 15) hx hb hts inX8_method_8 hown hK hP 0 rfl rfl 0 (by decide) (hts (.fieldLink RX8 11 "ReflectModels" "classes" "[LReflectModels$ClassModel;") (by decide +kernel)) (fun _ h9 => h9) rfl dX8_method_85 ?_
                refine lv_iload_n hx hb dX8_method_88 rfl (lv_at hl 2 rfl) ?_
                refine va_aldq hx hb hK hP 1 0 rfl rfl (vp_in_iff.mpr ⟨by decide, by decide⟩) dX8_method_89 ?_
                refine W.eq (g2 := F0 m 90 ls [.ref (q 6), .ref q24, .ref q24]) rfl ?_
                refine lv_aload hx hb dX8_method_90 (lv_at hl 0 rfl) ?_
                refine lv_iload hx hb dX8_method_92 (lv_at hl 7 rfl) ?_
                refine lv_iload hx hb dX8_method_94 (lv_at hl 8 rfl) ?_
                refine lv_iload hx hb dX8_method_96 (lv_at hl 9 rfl) ?_
                refine lv_iload hx hb dX8_method_98 (lv_at hl 10 rfl) ?_
                refine clW (wr := [(h0, .inr (7, [.ref (q 0), .int 1, .ref (q 1), .int 0, .int 0, .ref (q 2), .int 0, .ref (q 3), .int 0, .ref (q 4), .int 0, .int 0, .ref (q 5), .int 0, .int 0])), ((q 0), .inl ((cA 0), 16, .inr (.inr (.inr (.inr (va_up (fun _ => none) 0 (some (q 6)))))))), ((q 1), .inl ((cA 1), 40, .inr (.inr (.inr (.inr (fun _ => none)))))), ((q 2), .inl ((cA 2), 60, .inr (.inr (.inr (.inr (fun _ => none)))))), ((q 3), .inl ((cA 3), 124, .inr (.inr (.inr (.inr (fun _ => none)))))), ((q 4), .inl ((cA 4), 3, .inr (.inr (.inr (.inr (va_up (va_up (va_up (fun _ => none) 0 (some (q 7))) 1 (some (q 8))) 2 (some (q 9)))))))), ((q 5), .inr (6, [.int 0, .long 0])), ((q 6), .inr (0, [.int 0, .null, .int 0, .null, .int 0, .int 0, .int 1, .int 1, .int 0, .int 0, .int 0, .int 0])), ((q 7), .inr (6, [.int 0, .long 0])), ((q 8), .inr (6, [.int 0, .long 0])), ((q 9), .inr (6, [.int 0, .long 0])), (q1, .inr (4, [.int a2, .int a3, .int f2, .int f3]))]) [12] [0, 1, 2, 3, 4, 5, 6, 7, 8, 9, 10, 11] (va_runIN (As := [.ref (q 6), .ref q1, .int a6, .int 0, .int a8, .int a9]) (rest := [.ref q24]) ⟨hx, hb, hml, hown, hts⟩ (c4_init0 l dC dI q24 (q 6) q1 a6 a8 a9 _) ⟨va_cnB 6 hts gX8_method_X4_init_n140 rfl rfl rfl (hN _ (List.mem_of_getElem? (i := 35) rfl)) (hts (.initialized RX4) (by decide +kernel)) (by decide +kernel) ⟨Nat.le_of_ble_eq_true rfl, Nat.le_of_ble_eq_true rfl⟩, rfl, hts (.instanceMethod yX4_init) (by decide +kernel)⟩ ⟨pz_blind, pz_of hP hK hD hN [12] [] rfl (by decide) rfl⟩ rfl rfl hl.1 rfl (lv_room (Nat.le_of_ble_eq_true rfl)) dX8_method_100 ⟨Nat.le_of_ble_eq_true rfl, Nat.le_of_ble_eq_true rfl⟩) hS hP hD hK hA rfl rfl (by decide) (by decide) (fun v w1 ty1 H locs w25 hP hD hK hS => ?_)
                obtain ⟨rfl, rfl, rfl⟩ := w25
                refine W.eq (g2 := F0 m 103 ls [.ref q24]) rfl ?_
                have hP : va_P (dC, dI) vwCl [(h0, .inr (7, [.ref (q 0), .int 1, .ref (q 1), .int 0, .int 0, .ref (q 2), .int 0, .ref (q 3), .int 0, .ref (q 4), .int 0, .int 0, .ref (q 5), .int 0, .int 0])), ((q 0), .inl ((cA 0), 16, .inr (.inr (.inr (.inr (va_up (fun _ => none) 0 (some (q 6)))))))), ((q 1), .inl ((cA 1), 40, .inr (.inr (.inr (.inr (fun _ => none)))))), ((q 2), .inl ((cA 2), 60, .inr (.inr (.inr (.inr (fun _ => none)))))), ((q 3), .inl ((cA 3), 124, .inr (.inr (.inr (.inr (fun _ => none)))))), ((q 4), .inl ((cA 4), 3, .inr (.inr (.inr (.inr (va_up (va_up (va_up (fun _ => none) 0 (some (q 7))) 1 (some (q 8))) 2 (some (q 9)))))))), ((q 5), .inr (6, [.int 0, .long 0])), ((q 6), .inr (0, [.int 0, .null, .int 0, .null, .int 0, .int 0, .int 1, .int 1, .int 0, .int 0, .int 0, .int 0])), ((q 7), .inr (6, [.int 0, .long 0])), ((q 8), .inr (6, [.int 0, .long 0])), ((q 9), .inr (6, [.int 0, .long 0])), (q1, .inr (4, [.int a2, .int a3, .int f2, .int f3])), (q24, .inr (3, [.ref (q 6), .int 0, .int 0, .ref q1, .int a6, .int 0, .int a8, .int a9]))] H := hP
                have hD : va_D A [(h0, .inr (7, [.ref (q 0), .int 1, .ref (q 1), .int 0, .int 0, .ref (q 2), .int 0, .ref (q 3), .int 0, .ref (q 4), .int 0, .int 0, .ref (q 5), .int 0, .int 0])), ((q 0), .inl ((cA 0), 16, .inr (.inr (.inr (.inr (va_up (fun _ => none) 0 (some (q 6)))))))), ((q 1), .inl ((cA 1), 40, .inr (.inr (.inr (.inr (fun _ => none)))))), ((q 2), .inl ((cA 2), 60, .inr (.inr (.inr (.inr (fun _ => none)))))), ((q 3), .inl ((cA 3), 124, .inr (.inr (.inr (.inr (fun _ => none)))))), ((q 4), .inl ((cA 4), 3, .inr (.inr (.inr (.inr (va_up (va_up (va_up (fun _ => none) 0 (some (q 7))) 1 (some (q 8))) 2 (some (q 9)))))))), ((q 5), .inr (6, [.int 0, .long 0])), ((q 6), .inr (0, [.int 0, .null, .int 0, .null, .int 0, .int 0, .int 1, .int 1, .int 0, .int 0, .int 0, .int 0])), ((q 7), .inr (6, [.int 0, .long 0])), ((q 8), .inr (6, [.int 0, .long 0])), ((q 9), .inr (6, [.int 0, .long 0])), (q1, .inr (4, [.int a2, .int a3, .int f2, .int f3])), (q24, .inr (3, [.ref (q 6), .int 0, .int 0, .ref q1, .int a6, .int 0, .int a8, .int a9]))] := hD
                have hK : va_K (dC, dI) vwCl [((cA 0), .object "ReflectModels$ClassModel"), ((cA 1), .object "ReflectModels$Member"), ((cA 2), .object "ReflectModels$Handle"), ((cA 3), .object "ReflectModels$Thing"), ((cA 4), .object "ReflectModels$Value")] s := hK
                refine W.cs (cells' := 2) (slots' := 12) rfl rfl ?_
                refine lv_astore (lv' := [(11, .ref q24), (10, .ref q1), (0, .ref h0), (1, .int 0), (2, .int a2), (3, .int a3), (4, .int a4), (5, .int a5), (6, .int a6), (7, .int 0), (8, .int a8), (9, .int a9)]) hx hb dX8_method_103 hl (by decide) rfl (fun ls hl => ?_)
                refine lv_aload_n hx hb dX8_method_105 rfl (lv_at hl 2 rfl) ?_
                refine va_get (D := (dC, dI)) (own := RX8) (ref := "ReflectModels") (index := 46) (ci := 7) (v := .int 0) (C := RX8) (T := TX8) (N := 15) hx hb hts inX8_method_8 hown hK hP 0 rfl rfl 8 (by decide) (hts (.fieldLink RX8 46 "ReflectModels" "thingCount" "I") (by decide +kernel)) (fun _ h9 => h9) rfl dX8_method_106 ?_
                refine lv_if_gt (tgt := 144) hx hb dX8_method_109 (by decide) (fun h => absurd h (by decide)) (fun _ => ?_)
                refine lv_aload hx hb dX8_method_112 (lv_at hl 0 rfl) ?_
                refine clR (va_runS (As := [.ref q24]) (rest := []) ⟨hx, hb, hml, hown, hts⟩ (c8_mayHaveMethod l dC dI q24 (q 6) 0 0 q1 a6 0 a8 a9 _) (va_cwS 1 hts gX8_method_X8_mayHaveMethod rfl rfl rfl (by decide +kernel) ⟨Nat.le_of_ble_eq_true rfl, Nat.le_of_ble_eq_true rfl⟩) ⟨pz_blind, pz_of hP hK hD hN [12, 7] [] rfl (by decide) rfl⟩ rfl rfl hl.1 rfl (lv_room (Nat.le_of_ble_eq_true rfl)) dX8_method_114 ⟨Nat.le_of_ble_eq_true rfl, Nat.le_of_ble_eq_true rfl⟩) hS hP (fun v H locs w28 hP hS => ?_)
                rcases w28 with ⟨rfl, u26⟩ | ⟨_, z1⟩
                · refine W.eq (g2 := F0 m 117 ls [.int 1]) rfl ?_
                  refine lv_if_eq (tgt := 144) hx hb dX8_method_117 (by decide) (fun h => absurd h (by decide)) (fun _ => ?_)
                  refine lv_aload_n hx hb dX8_method_120 rfl (lv_at hl 2 rfl) ?_
                  refine lv_aload hx hb dX8_method_121 (lv_at hl 0 rfl) ?_
                  refine clR (va_runV (As := [.ref q24]) (rest := []) ⟨hx, hb, hml, hown, hts⟩ (c8_bodySuits l dC dI h0 q q24 (q 6) 0 0 q1 a6 0 a8 a9 a2 a3 f2 f3 _) (cwV 1 hts gX8_method_X8_bodySuits rfl rfl rfl (by decide +kernel) ⟨Nat.le_of_ble_eq_true rfl, Nat.le_of_ble_eq_true rfl⟩) ⟨pz_blind, va_recv hK hP (ci := 7) (q0 := 0) rfl rfl, pz_of hP hK hD hN [0, 12, 11] [] rfl (by decide) rfl⟩ rfl rfl hl.1 rfl (lv_room (Nat.le_of_ble_eq_true rfl)) dX8_method_123 ⟨Nat.le_of_ble_eq_true rfl, Nat.le_of_ble_eq_true rfl⟩) hS hP (fun v H locs w31 hP hS => ?_)
                  rcases w31 with ⟨rfl, u29⟩ | ⟨rfl, u30⟩
                  · refine W.eq (g2 := F0 m 126 ls [.int 1]) rfl ?_
                    refine lv_if_eq (tgt := 144) hx hb dX8_method_126 (by decide) (fun h => absurd h (by decide)) (fun _ => ?_)
                    refine lv_aload_n hx hb dX8_method_129 rfl (lv_at hl 2 rfl) ?_
                    refine lv_aload hx hb dX8_method_130 (lv_at hl 0 rfl) ?_
                    refine va_get (D := (dC, dI)) (own := RX8) (ref := "ReflectModels$Method") (index := 150) (ci := 3) (v := .ref (q 6)) (C := RX4) (T := TX4) (N := 8) hx hb hts inX8_method_4 hown hK hP 12 rfl rfl 0 (by decide) (hts (.fieldLink RX8 150 "ReflectModels$Method" "owner" "LReflectModels$ClassModel;") (by decide +kernel)) (fun x9 h9 => u_same (hts (.sameField "ReflectModels$Method" "ReflectModels$Member" "owner" "LReflectModels$ClassModel;") (by decide +kernel)) x9 h9) rfl dX8_method_132 ?_
                    refine lv_aload hx hb dX8_method_135 (lv_at hl 1 rfl) ?_
                    refine clR (va_runV (As := [.ref (q 6), .ref q1]) (rest := []) ⟨hx, hb, hml, hown, hts⟩ (c8_ownMethod l dC dI h0 q (q 6) q1 _) (cwV 2 hts gX8_method_X8_ownMethod rfl rfl rfl (by decide +kernel) ⟨Nat.le_of_ble_eq_true rfl, Nat.le_of_ble_eq_true rfl⟩) ⟨pz_blind, va_recv hK hP (ci := 7) (q0 := 0) rfl rfl, pz_of hP hK hD hN [0] [] rfl (by decide) rfl⟩ rfl rfl hl.1 rfl (lv_room (Nat.le_of_ble_eq_true rfl)) dX8_method_137 ⟨Nat.le_of_ble_eq_true rfl, Nat.le_of_ble_eq_true rfl⟩) hS hP (fun v H locs w32 hP hS => ?_)
                    obtain rfl := w32
                    refine W.eq (g2 := F0 m 140 ls [.int (-1)]) rfl ?_
                    refine lv_iconst (v := (-1)) hx hb dX8_method_140 (by decide) ?_
                    refine lv_icmp_eq (tgt := 147) hx hb dX8_method_141 (by decide) (fun _ => ?_) (fun h => absurd (by decide) h)
                    refine lv_aload_n hx hb dX8_method_147 rfl (lv_at hl 2 rfl) ?_
                    refine va_get (D := (dC, dI)) (own := RX8) (ref := "ReflectModels") (index := 25) (ci := 7) (v := .int 0) (C := RX8) (T := TX8) (N := 15) hx hb hts inX8_method_8 hown hK hP 0 rfl rfl 3 (by decide) (hts (.fieldLink RX8 25 "ReflectModels" "memberCount" "I") (by decide +kernel)) (fun _ h9 => h9) rfl dX8_method_148 ?_
                    refine lv_bipush (v := 40) hx hb dX8_method_151 (by decide) ?_
                    refine lv_icmp_lt (tgt := 159) hx hb dX8_method_153 (by decide) (fun _ => ?_) (fun h => absurd (by decide) h)
                    refine lv_aload_n hx hb dX8_method_159 rfl (lv_at hl 2 rfl) ?_
                    refine lv_aload hx hb dX8_method_160 (lv_at hl 0 rfl) ?_
                    refine clW (wr := [((q 0), .inl ((cA 0), 16, .inr (.inr (.inr (.inr (va_up (fun _ => none) 0 (some (q 6)))))))), ((q 2), .inl ((cA 2), 60, .inr (.inr (.inr (.inr (fun _ => none)))))), ((q 3), .inl ((cA 3), 124, .inr (.inr (.inr (.inr (fun _ => none)))))), ((q 4), .inl ((cA 4), 3, .inr (.inr (.inr (.inr (va_up (va_up (va_up (fun _ => none) 0 (some (q 7))) 1 (some (q 8))) 2 (some (q 9)))))))), ((q 5), .inr (6, [.int 0, .long 0])), ((q 7), .inr (6, [.int 0, .long 0])), ((q 8), .inr (6, [.int 0, .long 0])), ((q 9), .inr (6, [.int 0, .long 0])), (q1, .inr (4, [.int a2, .int a3, .int f2, .int f3]))]) [0, 2, 12, 7] [1, 3, 4, 5, 6, 8, 9, 10, 11] (va_runV (As := [.ref q24]) (rest := []) ⟨hx, hb, hml, hown, hts⟩ (c8_addMemberM l dC dI h0 q cA q24 (q 6) 0 0 q1 a6 0 a8 a9 _) (cwV 1 hts gX8_method_X8_addMember rfl rfl rfl (by decide +kernel) ⟨Nat.le_of_ble_eq_true rfl, Nat.le_of_ble_eq_true rfl⟩) ⟨pz_blind, va_recv hK hP (ci := 7) (q0 := 0) rfl rfl, pz_of hP hK hD hN [0, 2, 12, 7] [1] rfl (by decide) rfl⟩ rfl rfl hl.1 rfl (lv_room (Nat.le_of_ble_eq_true rfl)) dX8_method_162 ⟨Nat.le_of_ble_eq_true rfl, Nat.le_of_ble_eq_true rfl⟩) hS hP hD hK hA rfl rfl (by decide) (by decide) (fun v w1 ty1 H locs w33 hP hD hK hS => ?_)
                    obtain ⟨rfl, rfl, rfl⟩ := w33
                    refine W.eq (g2 := F0 m 165 ls [.int 0]) rfl ?_
                    have hP : va_P (dC, dI) vwCl [((q 0), .inl ((cA 0), 16, .inr (.inr (.inr (.inr (va_up (fun _ => none) 0 (some (q 6)))))))), ((q 2), .inl ((cA 2), 60, .inr (.inr (.inr (.inr (fun _ => none)))))), ((q 3), .inl ((cA 3), 124, .inr (.inr (.inr (.inr (fun _ => none)))))), ((q 4), .inl ((cA 4), 3, .inr (.inr (.inr (.inr (va_up (va_up (va_up (fun _ => none) 0 (some (q 7))) 1 (some (q 8))) 2 (some (q 9)))))))), ((q 5), .inr (6, [.int 0, .long 0])), ((q 7), .inr (6, [.int 0, .long 0])), ((q 8), .inr (6, [.int 0, .long 0])), ((q 9), .inr (6, [.int 0, .long 0])), (q1, .inr (4, [.int a2, .int a3, .int f2, .int f3]))] H := hP
                    have hD : va_D A [((q 0), .inl ((cA 0), 16, .inr (.inr (.inr (.inr (va_up (fun _ => none) 0 (some (q 6)))))))), ((q 2), .inl ((cA 2), 60, .inr (.inr (.inr (.inr (fun _ => none)))))), ((q 3), .inl ((cA 3), 124, .inr (.inr (.inr (.inr (fun _ => none)))))), ((q 4), .inl ((cA 4), 3, .inr (.inr (.inr (.inr (va_up (va_up (va_up (fun _ => none) 0 (some (q 7))) 1 (some (q 8))) 2 (some (q 9)))))))), ((q 5), .inr (6, [.int 0, .long 0])), ((q 7), .inr (6, [.int 0, .long 0])), ((q 8), .inr (6, [.int 0, .long 0])), ((q 9), .inr (6, [.int 0, .long 0])), (q1, .inr (4, [.int a2, .int a3, .int f2, .int f3]))] := hD
                    have hK : va_K (dC, dI) vwCl [((cA 0), .object "ReflectModels$ClassModel"), ((cA 1), .object "ReflectModels$Member"), ((cA 2), .object "ReflectModels$Handle"), ((cA 3), .object "ReflectModels$Thing"), ((cA 4), .object "ReflectModels$Value")] s := hK
                    refine W.cs (cells' := 2) (slots' := 12) rfl rfl ?_
                    have hP9 := hP.sub (ws' := []) [] rfl
                    have hD9 := hD.sub (ws' := []) [] (by decide) rfl
                    have hK9 := hK.sub (tys' := []) [] rfl
                    exact W.zret (v := 0) (ty := .int) hx hb hr rfl (fun t ht hW => ⟨⟨(some (.int 0)), rfl, _, _, ⟨congrArg (fun z => some (Value.int z)) (by unfold an_method; (repeat' split) <;> first | rfl | (exfalso; first | omega | (have kq := kz; omega))), rfl, rfl⟩, by rw [ht]; exact hP9, va_K.moved hW.alike hK9, hD9⟩, hS.F ht⟩) hS.2.2 dX8_method_165
                  · refine W.eq (g2 := F0 m 126 ls [.int 0]) rfl ?_
                    refine lv_if_eq (tgt := 144) hx hb dX8_method_126 (by decide) (fun _ => ?_) (fun h => absurd (by decide) h)
                    refine lv_bipush (v := (-4)) hx hb dX8_method_144 (by decide) ?_
                    have hP9 := hP.sub (ws' := []) [] rfl
                    have hD9 := hD.sub (ws' := []) [] (by decide) rfl
                    have hK9 := hK.sub (tys' := []) [] rfl
                    exact W.zret (v := (-4)) (ty := .int) hx hb hr rfl (fun t ht hW => ⟨⟨(some (.int (-4))), rfl, _, _, ⟨congrArg (fun z => some (Value.int z)) (by unfold an_method; (repeat' split) <;> first | rfl | (exfalso; first | omega | (have kq := kz; omega))), rfl, rfl⟩, by rw [ht]; exact hP9, va_K.moved hW.alike hK9, hD9⟩, hS.F ht⟩) hS.2.2 dX8_method_146
                · first | exact absurd z1 (by decide)
            · refine W.eq (g2 := F0 m 64 ls [.int 0]) rfl ?_
              refine lv_if_ne (tgt := 77) hx hb dX8_method_64 (by decide) (fun h => absurd h (by decide)) (fun _ => ?_)
              refine lv_iload hx hb dX8_method_67 (lv_at hl 9 rfl) ?_
              refine lv_iload hx hb dX8_method_69 (lv_at hl 10 rfl) ?_
              refine clR (va_runS (As := [.int a8, .int a9]) (rest := []) ⟨hx, hb, hml, hown, hts⟩ (c8_isOutsideBody l dC dI a8 a9 _) (va_cwS 2 hts gX8_method_X8_isOutsideBody rfl rfl rfl (by decide +kernel) ⟨Nat.le_of_ble_eq_true rfl, Nat.le_of_ble_eq_true rfl⟩) ⟨pz_blind, pz_of hP hK hD hN [] [] rfl (by decide) rfl⟩ rfl rfl hl.1 rfl (lv_room (Nat.le_of_ble_eq_true rfl)) dX8_method_71 ⟨Nat.le_of_ble_eq_true rfl, Nat.le_of_ble_eq_true rfl⟩) hS hP (fun v H locs w36 hP hS => ?_)
              rcases w36 with ⟨rfl, u34⟩ | ⟨rfl, u35⟩
              · refine W.eq (g2 := F0 m 74 ls [.int 1]) rfl ?_
                refine lv_if_eq (tgt := 80) hx hb dX8_method_74 (by decide) (fun h => absurd h (by decide)) (fun _ => ?_)
                refine lv_bipush (v := (-3)) hx hb dX8_method_77 (by decide) ?_
                refine W.widen (k := 2) (n := 12) (by omega) (by omega) ?_
                have hP9 := hP.sub (ws' := []) [] rfl
                have hD9 := hD.sub (ws' := []) [] (by decide) rfl
                have hK9 := hK.sub (tys' := []) [] rfl
                exact W.zret (v := (-3)) (ty := .int) hx hb hr rfl (fun t ht hW => ⟨⟨(some (.int (-3))), rfl, _, _, ⟨congrArg (fun z => some (Value.int z)) (by unfold an_method; (repeat' split) <;> first | rfl | (exfalso; first | omega | (have kq := kz; omega))), rfl, rfl⟩, by rw [ht]; exact hP9, va_K.moved hW.alike hK9, hD9⟩, hS.F ht⟩) hS.2.2 dX8_method_79
              · refine W.eq (g2 := F0 m 74 ls [.int 0]) rfl ?_
                refine lv_if_eq (tgt := 80) hx hb dX8_method_74 (by decide) (fun _ => ?_) (fun h => absurd (by decide) h)
                refine va_new (ci := 3) (fs := [.null, .int 0, .int 0, .null, .int 0, .int 0, .int 0, .int 0]) (C := RX4) (T := TX4) (N := 8) hx hb hts inX8_method_4 tyX4 tyX4_ok hown (hts (.classLink RX8 138 RX4) (by decide +kernel)) (hts (.instantiable RX4 8) (by decide +kernel)) (hts (.initialized RX4) (by decide +kernel)) hK hP hD hS hA rfl df_X4 (Nat.le_of_ble_eq_true rfl) (Nat.le_of_ble_eq_true rfl) dX8_method_80 (fun q37 H hP hD hS => ?_)
                have hP : va_P (dC, dI) vwCl [(h0, .inr (7, [.ref (q 0), .int 1, .ref (q 1), .int 0, .int 0, .ref (q 2), .int 0, .ref (q 3), .int 0, .ref (q 4), .int 0, .int 0, .ref (q 5), .int 0, .int 0])), ((q 0), .inl ((cA 0), 16, .inr (.inr (.inr (.inr (va_up (fun _ => none) 0 (some (q 6)))))))), ((q 1), .inl ((cA 1), 40, .inr (.inr (.inr (.inr (fun _ => none)))))), ((q 2), .inl ((cA 2), 60, .inr (.inr (.inr (.inr (fun _ => none)))))), ((q 3), .inl ((cA 3), 124, .inr (.inr (.inr (.inr (fun _ => none)))))), ((q 4), .inl ((cA 4), 3, .inr (.inr (.inr (.inr (va_up (va_up (va_up (fun _ => none) 0 (some (q 7))) 1 (some (q 8))) 2 (some (q 9)))))))), ((q 5), .inr (6, [.int 0, .long 0])), ((q 6), .inr (0, [.int 0, .null, .int 0, .null, .int 0, .int 0, .int 1, .int 1, .int 0, .int 0, .int 0, .int 0])), ((q 7), .inr (6, [.int 0, .long 0])), ((q 8), .inr (6, [.int 0, .long 0])), ((q 9), .inr (6, [.int 0, .long 0])), (q1, .inr (4, [.int a2, .int a3, .int f2, .int f3])), (q37, .inr (3, [.null, .int 0, .int 0, .null, .int 0, .int 0, .int 0, .int 0]))] H := hP
                have hD : va_D A [(h0, .inr (7, [.ref (q 0), .int 1, .ref (q 1), .int 0, .int 0, .ref (q 2), .int 0, .ref (q 3), .int 0, .ref (q 4), .int 0, .int 0, .ref (q 5), .int 0, .int 0])), ((q 0), .inl ((cA 0), 16, .inr (.inr (.inr (.inr (va_up (fun _ => none) 0 (some (q 6)))))))), ((q 1), .inl ((cA 1), 40, .inr (.inr (.inr (.inr (fun _ => none)))))), ((q 2), .inl ((cA 2), 60, .inr (.inr (.inr (.inr (fun _ => none)))))), ((q 3), .inl ((cA 3), 124, .inr (.inr (.inr (.inr (fun _ => none)))))), ((q 4), .inl ((cA 4), 3, .inr (.inr (.inr (.inr (va_up (va_up (va_up (fun _ => none) 0 (some (q 7))) 1 (some (q 8))) 2 (some (q 9)))))))), ((q 5), .inr (6, [.int 0, .long 0])), ((q 6), .inr (0, [.int 0, .null, .int 0, .null, .int 0, .int 0, .int 1, .int 1, .int 0, .int 0, .int 0, .int 0])), ((q 7), .inr (6, [.int 0, .long 0])), ((q 8), .inr (6, [.int 0, .long 0])), ((q 9), .inr (6, [.int 0, .long 0])), (q1, .inr (4, [.int a2, .int a3, .int f2, .int f3])), (q37, .inr (3, [.null, .int 0, .int 0, .null, .int 0, .int 0, .int 0, .int 0]))] := hD
                refine W.cs (cells' := 2) (slots' := 12) rfl rfl ?_
                refine lv_dup hx hb dX8_method_83 rfl ?_
                refine lv_aload_n hx hb dX8_method_84 rfl (lv_at hl 1 rfl) ?_
                refine va_get (D := (dC, dI)) (own := RX8) (ref := "ReflectModels") (index := 11) (ci := 7) (v := .ref (q 0)) (C := RX8) (T := TX8) (N := 15) hx hb hts inX8_method_8 hown hK hP 0 rfl rfl 0 (by decide) (hts (.fieldLink RX8 11 "ReflectModels" "classes" "[LReflectModels$ClassModel;") (by decide +kernel)) (fun _ h9 => h9) rfl dX8_method_85 ?_
                refine lv_iload_n hx hb dX8_method_88 rfl (lv_at hl 2 rfl) ?_
                refine va_aldq hx hb hK hP 1 0 rfl rfl (vp_in_iff.mpr ⟨by decide, by decide⟩) dX8_method_89 ?_
                refine W.eq (g2 := F0 m 90 ls [.ref (q 6), .ref q37, .ref q37]) rfl ?_
                refine lv_aload hx hb dX8_method_90 (lv_at hl 0 rfl) ?_
                refine lv_iload hx hb dX8_method_92 (lv_at hl 7 rfl) ?_
                refine lv_iload hx hb dX8_method_94 (lv_at hl 8 rfl) ?_
                refine lv_iload hx hb dX8_method_96 (lv_at hl 9 rfl) ?_
                refine lv_iload hx hb dX8_method_98 (lv_at hl 10 rfl) ?_
                refine clW (wr := [(h0, .inr (7, [.ref (q 0), .int 1, .ref (q 1), .int 0, .int 0, .ref (q 2), .int 0, .ref (q 3), .int 0, .ref (q 4), .int 0, .int 0, .ref (q 5), .int 0, .int 0])), ((q 0), .inl ((cA 0), 16, .inr (.inr (.inr (.inr (va_up (fun _ => none) 0 (some (q 6)))))))), ((q 1), .inl ((cA 1), 40, .inr (.inr (.inr (.inr (fun _ => none)))))), ((q 2), .inl ((cA 2), 60, .inr (.inr (.inr (.inr (fun _ => none)))))), ((q 3), .inl ((cA 3), 124, .inr (.inr (.inr (.inr (fun _ => none)))))), ((q 4), .inl ((cA 4), 3, .inr (.inr (.inr (.inr (va_up (va_up (va_up (fun _ => none) 0 (some (q 7))) 1 (some (q 8))) 2 (some (q 9)))))))), ((q 5), .inr (6, [.int 0, .long 0])), ((q 6), .inr (0, [.int 0, .null, .int 0, .null, .int 0, .int 0, .int 1, .int 1, .int 0, .int 0, .int 0, .int 0])), ((q 7), .inr (6, [.int 0, .long 0])), ((q 8), .inr (6, [.int 0, .long 0])), ((q 9), .inr (6, [.int 0, .long 0])), (q1, .inr (4, [.int a2, .int a3, .int f2, .int f3]))]) [12] [0, 1, 2, 3, 4, 5, 6, 7, 8, 9, 10, 11] (va_runIN (As := [.ref (q 6), .ref q1, .int a6, .int 1, .int a8, .int a9]) (rest := [.ref q37]) ⟨hx, hb, hml, hown, hts⟩ (c4_init1 l dC dI q37 (q 6) q1 a6 a8 a9 _) ⟨va_cnB 6 hts gX8_method_X4_init_n140 rfl rfl rfl (hN _ (List.mem_of_getElem? (i := 35) rfl)) (hts (.initialized RX4) (by decide +kernel)) (by decide +kernel) ⟨Nat.le_of_ble_eq_true rfl, Nat.le_of_ble_eq_true rfl⟩, rfl, hts (.instanceMethod yX4_init) (by decide +kernel)⟩ ⟨pz_blind, pz_of hP hK hD hN [12] [] rfl (by decide) rfl⟩ rfl rfl hl.1 rfl (lv_room (Nat.le_of_ble_eq_true rfl)) dX8_method_100 ⟨Nat.le_of_ble_eq_true rfl, Nat.le_of_ble_eq_true rfl⟩) hS hP hD hK hA rfl rfl (by decide) (by decide) (fun v w1 ty1 H locs w38 hP hD hK hS => ?_)
                obtain ⟨rfl, rfl, rfl⟩ := w38
                refine W.eq (g2 := F0 m 103 ls [.ref q37]) rfl ?_
                have hP : va_P (dC, dI) vwCl [(h0, .inr (7, [.ref (q 0), .int 1, .ref (q 1), .int 0, .int 0, .ref (q 2), .int 0, .ref (q 3), .int 0, .ref (q 4), .int 0, .int 0, .ref (q 5), .int 0, .int 0])), ((q 0), .inl ((cA 0), 16, .inr (.inr (.inr (.inr (va_up (fun _ => none) 0 (some (q 6)))))))), ((q 1), .inl ((cA 1), 40, .inr (.inr (.inr (.inr (fun _ => none)))))), ((q 2), .inl ((cA 2), 60, .inr (.inr (.inr (.inr (fun _ => none)))))), ((q 3), .inl ((cA 3), 124, .inr (.inr (.inr (.inr (fun _ => none)))))), ((q 4), .inl ((cA 4), 3, .inr (.inr (.inr (.inr (va_up (va_up (va_up (fun _ => none) 0 (some (q 7))) 1 (some (q 8))) 2 (some (q 9)))))))), ((q 5), .inr (6, [.int 0, .long 0])), ((q 6), .inr (0, [.int 0, .null, .int 0, .null, .int 0, .int 0, .int 1, .int 1, .int 0, .int 0, .int 0, .int 0])), ((q 7), .inr (6, [.int 0, .long 0])), ((q 8), .inr (6, [.int 0, .long 0])), ((q 9), .inr (6, [.int 0, .long 0])), (q1, .inr (4, [.int a2, .int a3, .int f2, .int f3])), (q37, .inr (3, [.ref (q 6), .int 1, .int 0, .ref q1, .int a6, .int 0, .int a8, .int a9]))] H := hP
                have hD : va_D A [(h0, .inr (7, [.ref (q 0), .int 1, .ref (q 1), .int 0, .int 0, .ref (q 2), .int 0, .ref (q 3), .int 0, .ref (q 4), .int 0, .int 0, .ref (q 5), .int 0, .int 0])), ((q 0), .inl ((cA 0), 16, .inr (.inr (.inr (.inr (va_up (fun _ => none) 0 (some (q 6)))))))), ((q 1), .inl ((cA 1), 40, .inr (.inr (.inr (.inr (fun _ => none)))))), ((q 2), .inl ((cA 2), 60, .inr (.inr (.inr (.inr (fun _ => none)))))), ((q 3), .inl ((cA 3), 124, .inr (.inr (.inr (.inr (fun _ => none)))))), ((q 4), .inl ((cA 4), 3, .inr (.inr (.inr (.inr (va_up (va_up (va_up (fun _ => none) 0 (some (q 7))) 1 (some (q 8))) 2 (some (q 9)))))))), ((q 5), .inr (6, [.int 0, .long 0])), ((q 6), .inr (0, [.int 0, .null, .int 0, .null, .int 0, .int 0, .int 1, .int 1, .int 0, .int 0, .int 0, .int 0])), ((q 7), .inr (6, [.int 0, .long 0])), ((q 8), .inr (6, [.int 0, .long 0])), ((q 9), .inr (6, [.int 0, .long 0])), (q1, .inr (4, [.int a2, .int a3, .int f2, .int f3])), (q37, .inr (3, [.ref (q 6), .int 1, .int 0, .ref q1, .int a6, .int 0, .int a8, .int a9]))] := hD
                have hK : va_K (dC, dI) vwCl [((cA 0), .object "ReflectModels$ClassModel"), ((cA 1), .object "ReflectModels$Member"), ((cA 2), .object "ReflectModels$Handle"), ((cA 3), .object "ReflectModels$Thing"), ((cA 4), .object "ReflectModels$Value")] s := hK
                refine W.cs (cells' := 2) (slots' := 12) rfl rfl ?_
                refine lv_astore (lv' := [(11, .ref q37), (10, .ref q1), (0, .ref h0), (1, .int 0), (2, .int a2), (3, .int a3), (4, .int a4), (5, .int a5), (6, .int a6), (7, .int 1), (8, .int a8), (9, .int a9)]) hx hb dX8_method_103 hl (by decide) rfl (fun ls hl => ?_)
                refine lv_aload_n hx hb dX8_method_105 rfl (lv_at hl 2 rfl) ?_
                refine va_get (D := (dC, dI)) (own := RX8) (ref := "ReflectModels") (index := 46) (ci := 7) (v := .int 0) (C := RX8) (T := TX8) (N := 15) hx hb hts inX8_method_8 hown hK hP 0 rfl rfl 8 (by decide) (hts (.fieldLink RX8 46 "ReflectModels" "thingCount" "I") (by decide +kernel)) (fun _ h9 => h9) rfl dX8_method_106 ?_
                refine lv_if_gt (tgt := 144) hx hb dX8_method_109 (by decide) (fun h => absurd h (by decide)) (fun _ => ?_)
                refine lv_aload hx hb dX8_method_112 (lv_at hl 0 rfl) ?_
                refine clR (va_runS (As := [.ref q37]) (rest := []) ⟨hx, hb, hml, hown, hts⟩ (c8_mayHaveMethod l dC dI q37 (q 6) 1 0 q1 a6 0 a8 a9 _) (va_cwS 1 hts gX8_method_X8_mayHaveMethod rfl rfl rfl (by decide +kernel) ⟨Nat.le_of_ble_eq_true rfl, Nat.le_of_ble_eq_true rfl⟩) ⟨pz_blind, pz_of hP hK hD hN [12, 7] [] rfl (by decide) rfl⟩ rfl rfl hl.1 rfl (lv_room (Nat.le_of_ble_eq_true rfl)) dX8_method_114 ⟨Nat.le_of_ble_eq_true rfl, Nat.le_of_ble_eq_true rfl⟩) hS hP (fun v H locs w41 hP hS => ?_)
                rcases w41 with ⟨rfl, u39⟩ | ⟨_, z1⟩
                · refine W.eq (g2 := F0 m 117 ls [.int 1]) rfl ?_
                  refine lv_if_eq (tgt := 144) hx hb dX8_method_117 (by decide) (fun h => absurd h (by decide)) (fun _ => ?_)
                  refine lv_aload_n hx hb dX8_method_120 rfl (lv_at hl 2 rfl) ?_
                  refine lv_aload hx hb dX8_method_121 (lv_at hl 0 rfl) ?_
                  refine clR (va_runV (As := [.ref q37]) (rest := []) ⟨hx, hb, hml, hown, hts⟩ (c8_bodySuits l dC dI h0 q q37 (q 6) 1 0 q1 a6 0 a8 a9 a2 a3 f2 f3 _) (cwV 1 hts gX8_method_X8_bodySuits rfl rfl rfl (by decide +kernel) ⟨Nat.le_of_ble_eq_true rfl, Nat.le_of_ble_eq_true rfl⟩) ⟨pz_blind, va_recv hK hP (ci := 7) (q0 := 0) rfl rfl, pz_of hP hK hD hN [0, 12, 11] [] rfl (by decide) rfl⟩ rfl rfl hl.1 rfl (lv_room (Nat.le_of_ble_eq_true rfl)) dX8_method_123 ⟨Nat.le_of_ble_eq_true rfl, Nat.le_of_ble_eq_true rfl⟩) hS hP (fun v H locs w44 hP hS => ?_)
                  rcases w44 with ⟨rfl, u42⟩ | ⟨rfl, u43⟩
                  · refine W.eq (g2 := F0 m 126 ls [.int 1]) rfl ?_
                    refine lv_if_eq (tgt := 144) hx hb dX8_method_126 (by decide) (fun h => absurd h (by decide)) (fun _ => ?_)
                    refine lv_aload_n hx hb dX8_method_129 rfl (lv_at hl 2 rfl) ?_
                    refine lv_aload hx hb dX8_method_130 (lv_at hl 0 rfl) ?_
                    refine va_get (D := (dC, dI)) (own := RX8) (ref := "ReflectModels$Method") (index := 150) (ci := 3) (v := .ref (q 6)) (C := RX4) (T := TX4) (N := 8) hx hb hts inX8_method_4 hown hK hP 12 rfl rfl 0 (by decide) (hts (.fieldLink RX8 150 "ReflectModels$Method" "owner" "LReflectModels$ClassModel;") (by decide +kernel)) (fun x9 h9 => u_same (hts (.sameField "ReflectModels$Method" "ReflectModels$Member" "owner" "LReflectModels$ClassModel;") (by decide +kernel)) x9 h9) rfl dX8_method_132 ?_
                    refine lv_aload hx hb dX8_method_135 (lv_at hl 1 rfl) ?_
                    refine clR (va_runV (As := [.ref (q 6), .ref q1]) (rest := []) ⟨hx, hb, hml, hown, hts⟩ (c8_ownMethod l dC dI h0 q (q 6) q1 _) (cwV 2 hts gX8_method_X8_ownMethod rfl rfl rfl (by decide +kernel) ⟨Nat.le_of_ble_eq_true rfl, Nat.le_of_ble_eq_true rfl⟩) ⟨pz_blind, va_recv hK hP (ci := 7) (q0 := 0) rfl rfl, pz_of hP hK hD hN [0] [] rfl (by decide) rfl⟩ rfl rfl hl.1 rfl (lv_room (Nat.le_of_ble_eq_true rfl)) dX8_method_137 ⟨Nat.le_of_ble_eq_true rfl, Nat.le_of_ble_eq_true rfl⟩) hS hP (fun v H locs w45 hP hS => ?_)
                    obtain rfl := w45
                    refine W.eq (g2 := F0 m 140 ls [.int (-1)]) rfl ?_
                    refine lv_iconst (v := (-1)) hx hb dX8_method_140 (by decide) ?_
                    refine lv_icmp_eq (tgt := 147) hx hb dX8_method_141 (by decide) (fun _ => ?_) (fun h => absurd (by decide) h)
                    refine lv_aload_n hx hb dX8_method_147 rfl (lv_at hl 2 rfl) ?_
                    refine va_get (D := (dC, dI)) (own := RX8) (ref := "ReflectModels") (index := 25) (ci := 7) (v := .int 0) (C := RX8) (T := TX8) (N := 15) hx hb hts inX8_method_8 hown hK hP 0 rfl rfl 3 (by decide) (hts (.fieldLink RX8 25 "ReflectModels" "memberCount" "I") (by decide +kernel)) (fun _ h9 => h9) rfl dX8_method_148 ?_
                    refine lv_bipush (v := 40) hx hb dX8_method_151 (by decide) ?_
                    refine lv_icmp_lt (tgt := 159) hx hb dX8_method_153 (by decide) (fun _ => ?_) (fun h => absurd (by decide) h)
                    refine lv_aload_n hx hb dX8_method_159 rfl (lv_at hl 2 rfl) ?_
                    refine lv_aload hx hb dX8_method_160 (lv_at hl 0 rfl) ?_
                    refine clW (wr := [((q 0), .inl ((cA 0), 16, .inr (.inr (.inr (.inr (va_up (fun _ => none) 0 (some (q 6)))))))), ((q 2), .inl ((cA 2), 60, .inr (.inr (.inr (.inr (fun _ => none)))))), ((q 3), .inl ((cA 3), 124, .inr (.inr (.inr (.inr (fun _ => none)))))), ((q 4), .inl ((cA 4), 3, .inr (.inr (.inr (.inr (va_up (va_up (va_up (fun _ => none) 0 (some (q 7))) 1 (some (q 8))) 2 (some (q 9)))))))), ((q 5), .inr (6, [.int 0, .long 0])), ((q 7), .inr (6, [.int 0, .long 0])), ((q 8), .inr (6, [.int 0, .long 0])), ((q 9), .inr (6, [.int 0, .long 0])), (q1, .inr (4, [.int a2, .int a3, .int f2, .int f3]))]) [0, 2, 12, 7] [1, 3, 4, 5, 6, 8, 9, 10, 11] (va_runV (As := [.ref q37]) (rest := []) ⟨hx, hb, hml, hown, hts⟩ (c8_addMemberM l dC dI h0 q cA q37 (q 6) 1 0 q1 a6 0 a8 a9 _) (cwV 1 hts gX8_method_X8_addMember rfl rfl rfl (by decide +kernel) ⟨Nat.le_of_ble_eq_true rfl, Nat.le_of_ble_eq_true rfl⟩) ⟨pz_blind, va_recv hK hP (ci := 7) (q0 := 0) rfl rfl, pz_of hP hK hD hN [0, 2, 12, 7] [1] rfl (by decide) rfl⟩ rfl rfl hl.1 rfl (lv_room (Nat.le_of_ble_eq_true rfl)) dX8_method_162 ⟨Nat.le_of_ble_eq_true rfl, Nat.le_of_ble_eq_true rfl⟩) hS hP hD hK hA rfl rfl (by decide) (by decide) (fun v w1 ty1 H locs w46 hP hD hK hS => ?_)
                    obtain ⟨rfl, rfl, rfl⟩ := w46
                    refine W.eq (g2 := F0 m 165 ls [.int 0]) rfl ?_
                    have hP : va_P (dC, dI) vwCl [((q 0), .inl ((cA 0), 16, .inr (.inr (.inr (.inr (va_up (fun _ => none) 0 (some (q 6)))))))), ((q 2), .inl ((cA 2), 60, .inr (.inr (.inr (.inr (fun _ => none)))))), ((q 3), .inl ((cA 3), 124, .inr (.inr (.inr (.inr (fun _ => none)))))), ((q 4), .inl ((cA 4), 3, .inr (.inr (.inr (.inr (va_up (va_up (va_up (fun _ => none) 0 (some (q 7))) 1 (some (q 8))) 2 (some (q 9)))))))), ((q 5), .inr (6, [.int 0, .long 0])), ((q 7), .inr (6, [.int 0, .long 0])), ((q 8), .inr (6, [.int 0, .long 0])), ((q 9), .inr (6, [.int 0, .long 0])), (q1, .inr (4, [.int a2, .int a3, .int f2, .int f3]))] H := hP
                    have hD : va_D A [((q 0), .inl ((cA 0), 16, .inr (.inr (.inr (.inr (va_up (fun _ => none) 0 (some (q 6)))))))), ((q 2), .inl ((cA 2), 60, .inr (.inr (.inr (.inr (fun _ => none)))))), ((q 3), .inl ((cA 3), 124, .inr (.inr (.inr (.inr (fun _ => none)))))), ((q 4), .inl ((cA 4), 3, .inr (.inr (.inr (.inr (va_up (va_up (va_up (fun _ => none) 0 (some (q 7))) 1 (some (q 8))) 2 (some (q 9)))))))), ((q 5), .inr (6, [.int 0, .long 0])), ((q 7), .inr (6, [.int 0, .long 0])), ((q 8), .inr (6, [.int 0, .long 0])), ((q 9), .inr (6, [.int 0, .long 0])), (q1, .inr (4, [.int a2, .int a3, .int f2, .int f3]))] := hD
                    have hK : va_K (dC, dI) vwCl [((cA 0), .object "ReflectModels$ClassModel"), ((cA 1), .object "ReflectModels$Member"), ((cA 2), .object "ReflectModels$Handle"), ((cA 3), .object "ReflectModels$Thing"), ((cA 4), .object "ReflectModels$Value")] s := hK
                    refine W.cs (cells' := 2) (slots' := 12) rfl rfl ?_
                    have hP9 := hP.sub (ws' := []) [] rfl
                    have hD9 := hD.sub (ws' := []) [] (by decide) rfl
                    have hK9 := hK.sub (tys' := []) [] rfl
                    exact W.zret (v := 0) (ty := .int) hx hb hr rfl (fun t ht hW => ⟨⟨(some (.int 0)), rfl, _, _, ⟨congrArg (fun z => some (Value.int z)) (by unfold an_method; (repeat' split) <;> first | rfl | (exfalso; first | omega | (have kq := kz; omega))), rfl, rfl⟩, by rw [ht]; exact hP9, va_K.moved hW.alike hK9, hD9⟩, hS.F ht⟩) hS.2.2 dX8_method_165
                  · refine W.eq (g2 := F0 m 126 ls [.int 0]) rfl ?_
                    refine lv_if_eq (tgt := 144) hx hb dX8_method_126 (by decide) (fun _ => ?_) (fun h => absurd (by decide) h)
                    refine lv_bipush (v := (-4)) hx hb dX8_method_144 (by decide) ?_
                    have hP9 := hP.sub (ws' := []) [] rfl
                    have hD9 := hD.sub (ws' := []) [] (by decide) rfl
                    have hK9 := hK.sub (tys' := []) [] rfl
                    exact W.zret (v := (-4)) (ty := .int) hx hb hr rfl (fun t ht hW => ⟨⟨(some (.int (-4))), rfl, _, _, ⟨congrArg (fun z => some (Value.int z)) (by unfold an_method; (repeat' split) <;> first | rfl | (exfalso; first | omega | (have kq := kz; omega))), rfl, rfl⟩, by rw [ht]; exact hP9, va_K.moved hW.alike hK9, hD9⟩, hS.F ht⟩) hS.2.2 dX8_method_146
                · first | exact absurd z1 (by decide)
            · refine W.eq (g2 := F0 m 64 ls [.int 0]) rfl ?_
              refine lv_if_ne (tgt := 77) hx hb dX8_method_64 (by decide) (fun h => absurd h (by decide)) (fun _ => ?_)
              refine lv_iload hx hb dX8_method_67 (lv_at hl 9 rfl) ?_
              refine lv_iload hx hb dX8_method_69 (lv_at hl 10 rfl) ?_
              refine clR (va_runS (As := [.int a8, .int a9]) (rest := []) ⟨hx, hb, hml, hown, hts⟩ (c8_isOutsideBody l dC dI a8 a9 _) (va_cwS 2 hts gX8_method_X8_isOutsideBody rfl rfl rfl (by decide +kernel) ⟨Nat.le_of_ble_eq_true rfl, Nat.le_of_ble_eq_true rfl⟩) ⟨pz_blind, pz_of hP hK hD hN [] [] rfl (by decide) rfl⟩ rfl rfl hl.1 rfl (lv_room (Nat.le_of_ble_eq_true rfl)) dX8_method_71 ⟨Nat.le_of_ble_eq_true rfl, Nat.le_of_ble_eq_true rfl⟩) hS hP (fun v H locs w49 hP hS => ?_)
              rcases w49 with ⟨rfl, u47⟩ | ⟨rfl, u48⟩
              · refine W.eq (g2 := F0 m 74 ls [.int 1]) rfl ?_
                refine lv_if_eq (tgt := 80) hx hb dX8_method_74 (by decide) (fun h => absurd h (by decide)) (fun _ => ?_)
                refine lv_bipush (v := (-3)) hx hb dX8_method_77 (by decide) ?_
                refine W.widen (k := 2) (n := 12) (by omega) (by omega) ?_
                have hP9 := hP.sub (ws' := []) [] rfl
                have hD9 := hD.sub (ws' := []) [] (by decide) rfl
                have hK9 := hK.sub (tys' := []) [] rfl
                exact W.zret (v := (-3)) (ty := .int) hx hb hr rfl (fun t ht hW => ⟨⟨(some (.int (-3))), rfl, _, _, ⟨congrArg (fun z => some (Value.int z)) (by unfold an_method; (repeat' split) <;> first | rfl | (exfalso; first | omega | (have kq := kz; omega))), rfl, rfl⟩, by rw [ht]; exact hP9, va_K.moved hW.alike hK9, hD9⟩, hS.F ht⟩) hS.2.2 dX8_method_79
              · refine W.eq (g2 := F0 m 74 ls [.int 0]) rfl ?_
                refine lv_if_eq (tgt := 80) hx hb dX8_method_74 (by decide) (fun _ => ?_) (fun h => absurd (by decide) h)
                refine va_new (ci := 3) (fs := [.null, .int 0, .int 0, .null, .int 0, .int 0, .int 0, .int 0]) (C := RX4) (T := TX4) (N := 8) hx hb hts inX8_method_4 tyX4 tyX4_ok hown (hts (.classLink RX8 138 RX4) (by decide +kernel)) (hts (.instantiable RX4 8) (by decide +kernel)) (hts (.initialized RX4) (by decide +kernel)) hK hP hD hS hA rfl df_X4 (Nat.le_of_ble_eq_true rfl) (Nat.le_of_ble_eq_true rfl) dX8_method_80 (fun q50 H hP hD hS => ?_)
                have hP : va_P (dC, dI) vwCl [(h0, .inr (7, [.ref (q 0), .int 1, .ref (q 1), .int 0, .int 0, .ref (q 2), .int 0, .ref (q 3), .int 0, .ref (q 4), .int 0, .int 0, .ref (q 5), .int 0, .int 0])), ((q 0), .inl ((cA 0), 16, .inr (.inr (.inr (.inr (va_up (fun _ => none) 0 (some (q 6)))))))), ((q 1), .inl ((cA 1), 40, .inr (.inr (.inr (.inr (fun _ => none)))))), ((q 2), .inl ((cA 2), 60, .inr (.inr (.inr (.inr (fun _ => none)))))), ((q 3), .inl ((cA 3), 124, .inr (.inr (.inr (.inr (fun _ => none)))))), ((q 4), .inl ((cA 4), 3, .inr (.inr (.inr (.inr (va_up (va_up (va_up (fun _ => none) 0 (some (q 7))) 1 (some (q 8))) 2 (some (q 9)))))))), ((q 5), .inr (6, [.int 0, .long 0])), ((q 6), .inr (0, [.int 0, .null, .int 0, .null, .int 0, .int 0, .int 1, .int 1, .int 0, .int 0, .int 0, .int 0])), ((q 7), .inr (6, [.int 0, .long 0])), ((q 8), .inr (6, [.int 0, .long 0])), ((q 9), .inr (6, [.int 0, .long 0])), (q1, .inr (4, [.int a2, .int a3, .int f2, .int f3])), (q50, .inr (3, [.null, .int 0, .int 0, .null, .int 0, .int 0, .int 0, .int 0]))] H := hP
                have hD : va_D A [(h0, .inr (7, [.ref (q 0), .int 1, .ref (q 1), .int 0, .int 0, .ref (q 2), .int 0, .ref (q 3), .int 0, .ref (q 4), .int 0, .int 0, .ref (q 5), .int 0, .int 0])), ((q 0), .inl ((cA 0), 16, .inr (.inr (.inr (.inr (va_up (fun _ => none) 0 (some (q 6)))))))), ((q 1), .inl ((cA 1), 40, .inr (.inr (.inr (.inr (fun _ => none)))))), ((q 2), .inl ((cA 2), 60, .inr (.inr (.inr (.inr (fun _ => none)))))), ((q 3), .inl ((cA 3), 124, .inr (.inr (.inr (.inr (fun _ => none)))))), ((q 4), .inl ((cA 4), 3, .inr (.inr (.inr (.inr (va_up (va_up (va_up (fun _ => none) 0 (some (q 7))) 1 (some (q 8))) 2 (some (q 9)))))))), ((q 5), .inr (6, [.int 0, .long 0])), ((q 6), .inr (0, [.int 0, .null, .int 0, .null, .int 0, .int 0, .int 1, .int 1, .int 0, .int 0, .int 0, .int 0])), ((q 7), .inr (6, [.int 0, .long 0])), ((q 8), .inr (6, [.int 0, .long 0])), ((q 9), .inr (6, [.int 0, .long 0])), (q1, .inr (4, [.int a2, .int a3, .int f2, .int f3])), (q50, .inr (3, [.null, .int 0, .int 0, .null, .int 0, .int 0, .int 0, .int 0]))] := hD
                refine W.cs (cells' := 2) (slots' := 12) rfl rfl ?_
                refine lv_dup hx hb dX8_method_83 rfl ?_
                refine lv_aload_n hx hb dX8_method_84 rfl (lv_at hl 1 rfl) ?_
                refine va_get (D := (dC, dI)) (own := RX8) (ref := "ReflectModels") (index := 11) (ci := 7) (v := .ref (q 0)) (C := RX8) (T := TX8) (N := 15) hx hb hts inX8_method_8 hown hK hP 0 rfl rfl 0 (by decide) (hts (.fieldLink RX8 11 "ReflectModels" "classes" "[LReflectModels$ClassModel;") (by decide +kernel)) (fun _ h9 => h9) rfl dX8_method_85 ?_
                refine lv_iload_n hx hb dX8_method_88 rfl (lv_at hl 2 rfl) ?_
                refine va_aldq hx hb hK hP 1 0 rfl rfl (vp_in_iff.mpr ⟨by decide, by decide⟩) dX8_method_89 ?_
                refine W.eq (g2 := F0 m 90 ls [.ref (q 6), .ref q50, .ref q50]) rfl ?_
                refine lv_aload hx hb dX8_method_90 (lv_at hl 0 rfl) ?_
                refine lv_iload hx hb dX8_method_92 (lv_at hl 7 rfl) ?_
                refine lv_iload hx hb dX8_method_94 (lv_at hl 8 rfl) ?_
                refine lv_iload hx hb dX8_method_96 (lv_at hl 9 rfl) ?_
                refine lv_iload hx hb dX8_method_98 (lv_at hl 10 rfl) ?_
                refine clW (wr := [(h0, .inr (7, [.ref (q 0), .int 1, .ref (q 1), .int 0, .int 0, .ref (q 2), .int 0, .ref (q 3), .int 0, .ref (q 4), .int 0, .int 0, .ref (q 5), .int 0, .int 0])), ((q 0), .inl ((cA 0), 16, .inr (.inr (.inr (.inr (va_up (fun _ => none) 0 (some (q 6)))))))), ((q 1), .inl ((cA 1), 40, .inr (.inr (.inr (.inr (fun _ => none)))))), ((q 2), .inl ((cA 2), 60, .inr (.inr (.inr (.inr (fun _ => none)))))), ((q 3), .inl ((cA 3), 124, .inr (.inr (.inr (.inr (fun _ => none)))))), ((q 4), .inl ((cA 4), 3, .inr (.inr (.inr (.inr (va_up (va_up (va_up (fun _ => none) 0 (some (q 7))) 1 (some (q 8))) 2 (some (q 9)))))))), ((q 5), .inr (6, [.int 0, .long 0])), ((q 6), .inr (0, [.int 0, .null, .int 0, .null, .int 0, .int 0, .int 1, .int 1, .int 0, .int 0, .int 0, .int 0])), ((q 7), .inr (6, [.int 0, .long 0])), ((q 8), .inr (6, [.int 0, .long 0])), ((q 9), .inr (6, [.int 0, .long 0])), (q1, .inr (4, [.int a2, .int a3, .int f2, .int f3]))]) [12] [0, 1, 2, 3, 4, 5, 6, 7, 8, 9, 10, 11] (va_runIN (As := [.ref (q 6), .ref q1, .int a6, .int 2, .int a8, .int a9]) (rest := [.ref q50]) ⟨hx, hb, hml, hown, hts⟩ (c4_init2 l dC dI q50 (q 6) q1 a6 a8 a9 _) ⟨va_cnB 6 hts gX8_method_X4_init_n140 rfl rfl rfl (hN _ (List.mem_of_getElem? (i := 35) rfl)) (hts (.initialized RX4) (by decide +kernel)) (by decide +kernel) ⟨Nat.le_of_ble_eq_true rfl, Nat.le_of_ble_eq_true rfl⟩, rfl, hts (.instanceMethod yX4_init) (by decide +kernel)⟩ ⟨pz_blind, pz_of hP hK hD hN [12] [] rfl (by decide) rfl⟩ rfl rfl hl.1 rfl (lv_room (Nat.le_of_ble_eq_true rfl)) dX8_method_100 ⟨Nat.le_of_ble_eq_true rfl, Nat.le_of_ble_eq_true rfl⟩) hS hP hD hK hA rfl rfl (by decide) (by decide) (fun v w1 ty1 H locs w51 hP hD hK hS => ?_)
                obtain ⟨rfl, rfl, rfl⟩ := w51
                refine W.eq (g2 := F0 m 103 ls [.ref q50]) rfl ?_
                have hP : va_P (dC, dI) vwCl [(h0, .inr (7, [.ref (q 0), .int 1, .ref (q 1), .int 0, .int 0, .ref (q 2), .int 0, .ref (q 3), .int 0, .ref (q 4), .int 0, .int 0, .ref (q 5), .int 0, .int 0])), ((q 0), .inl ((cA 0), 16, .inr (.inr (.inr (.inr (va_up (fun _ => none) 0 (some (q 6)))))))), ((q 1), .inl ((cA 1), 40, .inr (.inr (.inr (.inr (fun _ => none)))))), ((q 2), .inl ((cA 2), 60, .inr (.inr (.inr (.inr (fun _ => none)))))), ((q 3), .inl ((cA 3), 124, .inr (.inr (.inr (.inr (fun _ => none)))))), ((q 4), .inl ((cA 4), 3, .inr (.inr (.inr (.inr (va_up (va_up (va_up (fun _ => none) 0 (some (q 7))) 1 (some (q 8))) 2 (some (q 9)))))))), ((q 5), .inr (6, [.int 0, .long 0])), ((q 6), .inr (0, [.int 0, .null, .int 0, .null, .int 0, .int 0, .int 1, .int 1, .int 0, .int 0, .int 0, .int 0])), ((q 7), .inr (6, [.int 0, .long 0])), ((q 8), .inr (6, [.int 0, .long 0])), ((q 9), .inr (6, [.int 0, .long 0])), (q1, .inr (4, [.int a2, .int a3, .int f2, .int f3])), (q50, .inr (3, [.ref (q 6), .int 0, .int 0, .ref q1, .int a6, .int 1, .int a8, .int a9]))] H := hP
                have hD : va_D A [(h0, .inr (7, [.ref (q 0), .int 1, .ref (q 1), .int 0, .int 0, .ref (q 2), .int 0, .ref (q 3), .int 0, .ref (q 4), .int 0, .int 0, .ref (q 5), .int 0, .int 0])), ((q 0), .inl ((cA 0), 16, .inr (.inr (.inr (.inr (va_up (fun _ => none) 0 (some (q 6)))))))), ((q 1), .inl ((cA 1), 40, .inr (.inr (.inr (.inr (fun _ => none)))))), ((q 2), .inl ((cA 2), 60, .inr (.inr (.inr (.inr (fun _ => none)))))), ((q 3), .inl ((cA 3), 124, .inr (.inr (.inr (.inr (fun _ => none)))))), ((q 4), .inl ((cA 4), 3, .inr (.inr (.inr (.inr (va_up (va_up (va_up (fun _ => none) 0 (some (q 7))) 1 (some (q 8))) 2 (some (q 9)))))))), ((q 5), .inr (6, [.int 0, .long 0])), ((q 6), .inr (0, [.int 0, .null, .int 0, .null, .int 0, .int 0, .int 1, .int 1, .int 0, .int 0, .int 0, .int 0])), ((q 7), .inr (6, [.int 0, .long 0])), ((q 8), .inr (6, [.int 0, .long 0])), ((q 9), .inr (6, [.int 0, .long 0])), (q1, .inr (4, [.int a2, .int a3, .int f2, .int f3])), (q50, .inr (3, [.ref (q 6), .int 0, .int 0, .ref q1, .int a6, .int 1, .int a8, .int a9]))] := hD
                have hK : va_K (dC, dI) vwCl [((cA 0), .object "ReflectModels$ClassModel"), ((cA 1), .object "ReflectModels$Member"), ((cA 2), .object "ReflectModels$Handle"), ((cA 3), .object "ReflectModels$Thing"), ((cA 4), .object "ReflectModels$Value")] s := hK
                refine W.cs (cells' := 2) (slots' := 12) rfl rfl ?_
                refine lv_astore (lv' := [(11, .ref q50), (10, .ref q1), (0, .ref h0), (1, .int 0), (2, .int a2), (3, .int a3), (4, .int a4), (5, .int a5), (6, .int a6), (7, .int 2), (8, .int a8), (9, .int a9)]) hx hb dX8_method_103 hl (by decide) rfl (fun ls hl => ?_)
                refine lv_aload_n hx hb dX8_method_105 rfl (lv_at hl 2 rfl) ?_
                refine va_get (D := (dC, dI)) (own := RX8) (ref := "ReflectModels") (index := 46) (ci := 7) (v := .int 0) (C := RX8) (T := TX8) (N := 15) hx hb hts inX8_method_8 hown hK hP 0 rfl rfl 8 (by decide) (hts (.fieldLink RX8 46 "ReflectModels" "thingCount" "I") (by decide +kernel)) (fun _ h9 => h9) rfl dX8_method_106 ?_
                refine lv_if_gt (tgt := 144) hx hb dX8_method_109 (by decide) (fun h => absurd h (by decide)) (fun _ => ?_)
                refine lv_aload hx hb dX8_method_112 (lv_at hl 0 rfl) ?_
                refine clR (va_runS (As := [.ref q50]) (rest := []) ⟨hx, hb, hml, hown, hts⟩ (c8_mayHaveMethod l dC dI q50 (q 6) 0 0 q1 a6 1 a8 a9 _) (va_cwS 1 hts gX8_method_X8_mayHaveMethod rfl rfl rfl (by decide +kernel) ⟨Nat.le_of_ble_eq_true rfl, Nat.le_of_ble_eq_true rfl⟩) ⟨pz_blind, pz_of hP hK hD hN [12, 7] [] rfl (by decide) rfl⟩ rfl rfl hl.1 rfl (lv_room (Nat.le_of_ble_eq_true rfl)) dX8_method_114 ⟨Nat.le_of_ble_eq_true rfl, Nat.le_of_ble_eq_true rfl⟩) hS hP (fun v H locs w54 hP hS => ?_)
                rcases w54 with ⟨_, z1⟩ | ⟨rfl, u53⟩
                · first | exact absurd z1 (by decide)
                · refine W.eq (g2 := F0 m 117 ls [.int 0]) rfl ?_
                  refine lv_if_eq (tgt := 144) hx hb dX8_method_117 (by decide) (fun _ => ?_) (fun h => absurd (by decide) h)
                  refine lv_bipush (v := (-4)) hx hb dX8_method_144 (by decide) ?_
                  have hP9 := hP.sub (ws' := []) [] rfl
                  have hD9 := hD.sub (ws' := []) [] (by decide) rfl
                  have hK9 := hK.sub (tys' := []) [] rfl
                  exact W.zret (v := (-4)) (ty := .int) hx hb hr rfl (fun t ht hW => ⟨⟨(some (.int (-4))), rfl, _, _, ⟨congrArg (fun z => some (Value.int z)) (by unfold an_method; (repeat' split) <;> first | rfl | (exfalso; first | omega | (have kq := kz; omega))), rfl, rfl⟩, by rw [ht]; exact hP9, va_K.moved hW.alike hK9, hD9⟩, hS.F ht⟩) hS.2.2 dX8_method_146
            · refine W.eq (g2 := F0 m 64 ls [.int 0]) rfl ?_
              refine lv_if_ne (tgt := 77) hx hb dX8_method_64 (by decide) (fun h => absurd h (by decide)) (fun _ => ?_)
              refine lv_iload hx hb dX8_method_67 (lv_at hl 9 rfl) ?_
              refine lv_iload hx hb dX8_method_69 (lv_at hl 10 rfl) ?_
              refine clR (va_runS (As := [.int a8, .int a9]) (rest := []) ⟨hx, hb, hml, hown, hts⟩ (c8_isOutsideBody l dC dI a8 a9 _) (va_cwS 2 hts gX8_method_X8_isOutsideBody rfl rfl rfl (by decide +kernel) ⟨Nat.le_of_ble_eq_true rfl, Nat.le_of_ble_eq_true rfl⟩) ⟨pz_blind, pz_of hP hK hD hN [] [] rfl (by decide) rfl⟩ rfl rfl hl.1 rfl (lv_room (Nat.le_of_ble_eq_true rfl)) dX8_method_71 ⟨Nat.le_of_ble_eq_true rfl, Nat.le_of_ble_eq_true rfl⟩) hS hP (fun v H locs w57 hP hS => ?_)
              rcases w57 with ⟨rfl, u55⟩ | ⟨rfl, u56⟩
              · refine W.eq (g2 := F0 m 74 ls [.int 1]) rfl ?_
                refine lv_if_eq (tgt := 80) hx hb dX8_method_74 (by decide) (fun h => absurd h (by decide)) (fun _ => ?_)
                refine lv_bipush (v := (-3)) hx hb dX8_method_77 (by decide) ?_
                refine W.widen (k := 2) (n := 12) (by omega) (by omega) ?_
                have hP9 := hP.sub (ws' := []) [] rfl
                have hD9 := hD.sub (ws' := []) [] (by decide) rfl
                have hK9 := hK.sub (tys' := []) [] rfl
                exact W.zret (v := (-3)) (ty := .int) hx hb hr rfl (fun t ht hW => ⟨⟨(some (.int (-3))), rfl, _, _, ⟨congrArg (fun z => some (Value.int z)) (by unfold an_method; (repeat' split) <;> first | rfl | (exfalso; first | omega | (have kq := kz; omega))), rfl, rfl⟩, by rw [ht]; exact hP9, va_K.moved hW.alike hK9, hD9⟩, hS.F ht⟩) hS.2.2 dX8_method_79
              · refine W.eq (g2 := F0 m 74 ls [.int 0]) rfl ?_
                refine lv_if_eq (tgt := 80) hx hb dX8_method_74 (by decide) (fun _ => ?_) (fun h => absurd (by decide) h)
                refine va_new (ci := 3) (fs := [.null, .int 0, .int 0, .null, .int 0, .int 0, .int 0, .int 0]) (C := RX4) (T := TX4) (N := 8) hx hb hts inX8_method_4 tyX4 tyX4_ok hown (hts (.classLink RX8 138 RX4) (by decide +kernel)) (hts (.instantiable RX4 8) (by decide +kernel)) (hts (.initialized RX4) (by decide +kernel)) hK hP hD hS hA rfl df_X4 (Nat.le_of_ble_eq_true rfl) (Nat.le_of_ble_eq_true rfl) dX8_method_80 (fun q58 H hP hD hS => ?_)
                have hP : va_P (dC, dI) vwCl [(h0, .inr (7, [.ref (q 0), .int 1, .ref (q 1), .int 0, .int 0, .ref (q 2), .int 0, .ref (q 3), .int 0, .ref (q 4), .int 0, .int 0, .ref (q 5), .int 0, .int 0])), ((q 0), .inl ((cA 0), 16, .inr (.inr (.inr (.inr (va_up (fun _ => none) 0 (some (q 6)))))))), ((q 1), .inl ((cA 1), 40, .inr (.inr (.inr (.inr (fun _ => none)))))), ((q 2), .inl ((cA 2), 60, .inr (.inr (.inr (.inr (fun _ => none)))))), ((q 3), .inl ((cA 3), 124, .inr (.inr (.inr (.inr (fun _ => none)))))), ((q 4), .inl ((cA 4), 3, .inr (.inr (.inr (.inr (va_up (va_up (va_up (fun _ => none) 0 (some (q 7))) 1 (some (q 8))) 2 (some (q 9)))))))), ((q 5), .inr (6, [.int 0, .long 0])), ((q 6), .inr (0, [.int 0, .null, .int 0, .null, .int 0, .int 0, .int 1, .int 1, .int 0, .int 0, .int 0, .int 0])), ((q 7), .inr (6, [.int 0, .long 0])), ((q 8), .inr (6, [.int 0, .long 0])), ((q 9), .inr (6, [.int 0, .long 0])), (q1, .inr (4, [.int a2, .int a3, .int f2, .int f3])), (q58, .inr (3, [.null, .int 0, .int 0, .null, .int 0, .int 0, .int 0, .int 0]))] H := hP
                have hD : va_D A [(h0, .inr (7, [.ref (q 0), .int 1, .ref (q 1), .int 0, .int 0, .ref (q 2), .int 0, .ref (q 3), .int 0, .ref (q 4), .int 0, .int 0, .ref (q 5), .int 0, .int 0])), ((q 0), .inl ((cA 0), 16, .inr (.inr (.inr (.inr (va_up (fun _ => none) 0 (some (q 6)))))))), ((q 1), .inl ((cA 1), 40, .inr (.inr (.inr (.inr (fun _ => none)))))), ((q 2), .inl ((cA 2), 60, .inr (.inr (.inr (.inr (fun _ => none)))))), ((q 3), .inl ((cA 3), 124, .inr (.inr (.inr (.inr (fun _ => none)))))), ((q 4), .inl ((cA 4), 3, .inr (.inr (.inr (.inr (va_up (va_up (va_up (fun _ => none) 0 (some (q 7))) 1 (some (q 8))) 2 (some (q 9)))))))), ((q 5), .inr (6, [.int 0, .long 0])), ((q 6), .inr (0, [.int 0, .null, .int 0, .null, .int 0, .int 0, .int 1, .int 1, .int 0, .int 0, .int 0, .int 0])), ((q 7), .inr (6, [.int 0, .long 0])), ((q 8), .inr (6, [.int 0, .long 0])), ((q 9), .inr (6, [.int 0, .long 0])), (q1, .inr (4, [.int a2, .int a3, .int f2, .int f3])), (q58, .inr (3, [.null, .int 0, .int 0, .null, .int 0, .int 0, .int 0, .int 0]))] := hD
                refine W.cs (cells' := 2) (slots' := 12) rfl rfl ?_
                refine lv_dup hx hb dX8_method_83 rfl ?_
                refine lv_aload_n hx hb dX8_method_84 rfl (lv_at hl 1 rfl) ?_
                refine va_get (D := (dC, dI)) (own := RX8) (ref := "ReflectModels") (index := 11) (ci := 7) (v := .ref (q 0)) (C := RX8) (T := TX8) (N := 15) hx hb hts inX8_method_8 hown hK hP 0 rfl rfl 0 (by decide) (hts (.fieldLink RX8 11 "ReflectModels" "classes" "[LReflectModels$ClassModel;") (by decide +kernel)) (fun _ h9 => h9) rfl dX8_method_85 ?_
                refine lv_iload_n hx hb dX8_method_88 rfl (lv_at hl 2 rfl) ?_
                refine va_aldq hx hb hK hP 1 0 rfl rfl (vp_in_iff.mpr ⟨by decide, by decide⟩) dX8_method_89 ?_
                refine W.eq (g2 := F0 m 90 ls [.ref (q 6), .ref q58, .ref q58]) rfl ?_
                refine lv_aload hx hb dX8_method_90 (lv_at hl 0 rfl) ?_
                refine lv_iload hx hb dX8_method_92 (lv_at hl 7 rfl) ?_
                refine lv_iload hx hb dX8_method_94 (lv_at hl 8 rfl) ?_
                refine lv_iload hx hb dX8_method_96 (lv_at hl 9 rfl) ?_
                refine lv_iload hx hb dX8_method_98 (lv_at hl 10 rfl) ?_
                refine clW (wr := [(h0, .inr (7, [.ref (q 0), .int 1, .ref (q 1), .int 0, .int 0, .ref (q 2), .int 0, .ref (q 3), .int 0, .ref (q 4), .int 0, .int 0, .ref (q 5), .int 0, .int 0])), ((q 0), .inl ((cA 0), 16, .inr (.inr (.inr (.inr (va_up (fun _ => none) 0 (some (q 6)))))))), ((q 1), .inl ((cA 1), 40, .inr (.inr (.inr (.inr (fun _ => none)))))), ((q 2), .inl ((cA 2), 60, .inr (.inr (.inr (.inr (fun _ => none)))))), ((q 3), .inl ((cA 3), 124, .inr (.inr (.inr (.inr (fun _ => none)))))), ((q 4), .inl ((cA 4), 3, .inr (.inr (.inr (.inr (va_up (va_up (va_up (fun _ => none) 0 (some (q 7))) 1 (some (q 8))) 2 (some (q 9)))))))), ((q 5), .inr (6, [.int 0, .long 0])), ((q 6), .inr (0, [.int 0, .null, .int 0, .null, .int 0, .int 0, .int 1, .int 1, .int 0, .int 0, .int 0, .int 0])), ((q 7), .inr (6, [.int 0, .long 0])), ((q 8), .inr (6, [.int 0, .long 0])), ((q 9), .inr (6, [.int 0, .long 0])), (q1, .inr (4, [.int a2, .int a3, .int f2, .int f3]))]) [12] [0, 1, 2, 3, 4, 5, 6, 7, 8, 9, 10, 11] (va_runIN (As := [.ref (q 6), .ref q1, .int a6, .int 4, .int a8, .int a9]) (rest := [.ref q58]) ⟨hx, hb, hml, hown, hts⟩ (c4_init4 l dC dI q58 (q 6) q1 a6 a8 a9 _) ⟨va_cnB 6 hts gX8_method_X4_init_n140 rfl rfl rfl (hN _ (List.mem_of_getElem? (i := 35) rfl)) (hts (.initialized RX4) (by decide +kernel)) (by decide +kernel) ⟨Nat.le_of_ble_eq_true rfl, Nat.le_of_ble_eq_true rfl⟩, rfl, hts (.instanceMethod yX4_init) (by decide +kernel)⟩ ⟨pz_blind, pz_of hP hK hD hN [12] [] rfl (by decide) rfl⟩ rfl rfl hl.1 rfl (lv_room (Nat.le_of_ble_eq_true rfl)) dX8_method_100 ⟨Nat.le_of_ble_eq_true rfl, Nat.le_of_ble_eq_true rfl⟩) hS hP hD hK hA rfl rfl (by decide) (by decide) (fun v w1 ty1 H locs w59 hP hD hK hS => ?_)
                obtain ⟨rfl, rfl, rfl⟩ := w59
                refine W.eq (g2 := F0 m 103 ls [.ref q58]) rfl ?_
                have hP : va_P (dC, dI) vwCl [(h0, .inr (7, [.ref (q 0), .int 1, .ref (q 1), .int 0, .int 0, .ref (q 2), .int 0, .ref (q 3), .int 0, .ref (q 4), .int 0, .int 0, .ref (q 5), .int 0, .int 0])), ((q 0), .inl ((cA 0), 16, .inr (.inr (.inr (.inr (va_up (fun _ => none) 0 (some (q 6)))))))), ((q 1), .inl ((cA 1), 40, .inr (.inr (.inr (.inr (fun _ => none)))))), ((q 2), .inl ((cA 2), 60, .inr (.inr (.inr (.inr (fun _ => none)))))), ((q 3), .inl ((cA 3), 124, .inr (.inr (.inr (.inr (fun _ => none)))))), ((q 4), .inl ((cA 4), 3, .inr (.inr (.inr (.inr (va_up (va_up (va_up (fun _ => none) 0 (some (q 7))) 1 (some (q 8))) 2 (some (q 9)))))))), ((q 5), .inr (6, [.int 0, .long 0])), ((q 6), .inr (0, [.int 0, .null, .int 0, .null, .int 0, .int 0, .int 1, .int 1, .int 0, .int 0, .int 0, .int 0])), ((q 7), .inr (6, [.int 0, .long 0])), ((q 8), .inr (6, [.int 0, .long 0])), ((q 9), .inr (6, [.int 0, .long 0])), (q1, .inr (4, [.int a2, .int a3, .int f2, .int f3])), (q58, .inr (3, [.ref (q 6), .int 0, .int 1, .ref q1, .int a6, .int 0, .int a8, .int a9]))] H := hP
                have hD : va_D A [(h0, .inr (7, [.ref (q 0), .int 1, .ref (q 1), .int 0, .int 0, .ref (q 2), .int 0, .ref (q 3), .int 0, .ref (q 4), .int 0, .int 0, .ref (q 5), .int 0, .int 0])), ((q 0), .inl ((cA 0), 16, .inr (.inr (.inr (.inr (va_up (fun _ => none) 0 (some (q 6)))))))), ((q 1), .inl ((cA 1), 40, .inr (.inr (.inr (.inr (fun _ => none)))))), ((q 2), .inl ((cA 2), 60, .inr (.inr (.inr (.inr (fun _ => none)))))), ((q 3), .inl ((cA 3), 124, .inr (.inr (.inr (.inr (fun _ => none)))))), ((q 4), .inl ((cA 4), 3, .inr (.inr (.inr (.inr (va_up (va_up (va_up (fun _ => none) 0 (some (q 7))) 1 (some (q 8))) 2 (some (q 9)))))))), ((q 5), .inr (6, [.int 0, .long 0])), ((q 6), .inr (0, [.int 0, .null, .int 0, .null, .int 0, .int 0, .int 1, .int 1, .int 0, .int 0, .int 0, .int 0])), ((q 7), .inr (6, [.int 0, .long 0])), ((q 8), .inr (6, [.int 0, .long 0])), ((q 9), .inr (6, [.int 0, .long 0])), (q1, .inr (4, [.int a2, .int a3, .int f2, .int f3])), (q58, .inr (3, [.ref (q 6), .int 0, .int 1, .ref q1, .int a6, .int 0, .int a8, .int a9]))] := hD
                have hK : va_K (dC, dI) vwCl [((cA 0), .object "ReflectModels$ClassModel"), ((cA 1), .object "ReflectModels$Member"), ((cA 2), .object "ReflectModels$Handle"), ((cA 3), .object "ReflectModels$Thing"), ((cA 4), .object "ReflectModels$Value")] s := hK
                refine W.cs (cells' := 2) (slots' := 12) rfl rfl ?_
                refine lv_astore (lv' := [(11, .ref q58), (10, .ref q1), (0, .ref h0), (1, .int 0), (2, .int a2), (3, .int a3), (4, .int a4), (5, .int a5), (6, .int a6), (7, .int 4), (8, .int a8), (9, .int a9)]) hx hb dX8_method_103 hl (by decide) rfl (fun ls hl => ?_)
                refine lv_aload_n hx hb dX8_method_105 rfl (lv_at hl 2 rfl) ?_
                refine va_get (D := (dC, dI)) (own := RX8) (ref := "ReflectModels") (index := 46) (ci := 7) (v := .int 0) (C := RX8) (T := TX8) (N := 15) hx hb hts inX8_method_8 hown hK hP 0 rfl rfl 8 (by decide) (hts (.fieldLink RX8 46 "ReflectModels" "thingCount" "I") (by decide +kernel)) (fun _ h9 => h9) rfl dX8_method_106 ?_
                refine lv_if_gt (tgt := 144) hx hb dX8_method_109 (by decide) (fun h => absurd h (by decide)) (fun _ => ?_)
                refine lv_aload hx hb dX8_method_112 (lv_at hl 0 rfl) ?_
                refine clR (va_runS (As := [.ref q58]) (rest := []) ⟨hx, hb, hml, hown, hts⟩ (c8_mayHaveMethod l dC dI q58 (q 6) 0 1 q1 a6 0 a8 a9 _) (va_cwS 1 hts gX8_method_X8_mayHaveMethod rfl rfl rfl (by decide +kernel) ⟨Nat.le_of_ble_eq_true rfl, Nat.le_of_ble_eq_true rfl⟩) ⟨pz_blind, pz_of hP hK hD hN [12, 7] [] rfl (by decide) rfl⟩ rfl rfl hl.1 rfl (lv_room (Nat.le_of_ble_eq_true rfl)) dX8_method_114 ⟨Nat.le_of_ble_eq_true rfl, Nat.le_of_ble_eq_true rfl⟩) hS hP (fun v H locs w62 hP hS => ?_)
                rcases w62 with ⟨rfl, u60⟩ | ⟨_, z1⟩
                · refine W.eq (g2 := F0 m 117 ls [.int 1]) rfl ?_
                  refine lv_if_eq (tgt := 144) hx hb dX8_method_117 (by decide) (fun h => absurd h (by decide)) (fun _ => ?_)
                  refine lv_aload_n hx hb dX8_method_120 rfl (lv_at hl 2 rfl) ?_
                  refine lv_aload hx hb dX8_method_121 (lv_at hl 0 rfl) ?_
                  refine clR (va_runV (As := [.ref q58]) (rest := []) ⟨hx, hb, hml, hown, hts⟩ (c8_bodySuits l dC dI h0 q q58 (q 6) 0 1 q1 a6 0 a8 a9 a2 a3 f2 f3 _) (cwV 1 hts gX8_method_X8_bodySuits rfl rfl rfl (by decide +kernel) ⟨Nat.le_of_ble_eq_true rfl, Nat.le_of_ble_eq_true rfl⟩) ⟨pz_blind, va_recv hK hP (ci := 7) (q0 := 0) rfl rfl, pz_of hP hK hD hN [0, 12, 11] [] rfl (by decide) rfl⟩ rfl rfl hl.1 rfl (lv_room (Nat.le_of_ble_eq_true rfl)) dX8_method_123 ⟨Nat.le_of_ble_eq_true rfl, Nat.le_of_ble_eq_true rfl⟩) hS hP (fun v H locs w65 hP hS => ?_)
                  rcases w65 with ⟨rfl, u63⟩ | ⟨rfl, u64⟩
                  · refine W.eq (g2 := F0 m 126 ls [.int 1]) rfl ?_
                    refine lv_if_eq (tgt := 144) hx hb dX8_method_126 (by decide) (fun h => absurd h (by decide)) (fun _ => ?_)
                    refine lv_aload_n hx hb dX8_method_129 rfl (lv_at hl 2 rfl) ?_
                    refine lv_aload hx hb dX8_method_130 (lv_at hl 0 rfl) ?_
                    refine va_get (D := (dC, dI)) (own := RX8) (ref := "ReflectModels$Method") (index := 150) (ci := 3) (v := .ref (q 6)) (C := RX4) (T := TX4) (N := 8) hx hb hts inX8_method_4 hown hK hP 12 rfl rfl 0 (by decide) (hts (.fieldLink RX8 150 "ReflectModels$Method" "owner" "LReflectModels$ClassModel;") (by decide +kernel)) (fun x9 h9 => u_same (hts (.sameField "ReflectModels$Method" "ReflectModels$Member" "owner" "LReflectModels$ClassModel;") (by decide +kernel)) x9 h9) rfl dX8_method_132 ?_
                    refine lv_aload hx hb dX8_method_135 (lv_at hl 1 rfl) ?_
                    refine clR (va_runV (As := [.ref (q 6), .ref q1]) (rest := []) ⟨hx, hb, hml, hown, hts⟩ (c8_ownMethod l dC dI h0 q (q 6) q1 _) (cwV 2 hts gX8_method_X8_ownMethod rfl rfl rfl (by decide +kernel) ⟨Nat.le_of_ble_eq_true rfl, Nat.le_of_ble_eq_true rfl⟩) ⟨pz_blind, va_recv hK hP (ci := 7) (q0 := 0) rfl rfl, pz_of hP hK hD hN [0] [] rfl (by decide) rfl⟩ rfl rfl hl.1 rfl (lv_room (Nat.le_of_ble_eq_true rfl)) dX8_method_137 ⟨Nat.le_of_ble_eq_true rfl, Nat.le_of_ble_eq_true rfl⟩) hS hP (fun v H locs w66 hP hS => ?_)
                    obtain rfl := w66
                    refine W.eq (g2 := F0 m 140 ls [.int (-1)]) rfl ?_
                    refine lv_iconst (v := (-1)) hx hb dX8_method_140 (by decide) ?_
                    refine lv_icmp_eq (tgt := 147) hx hb dX8_method_141 (by decide) (fun _ => ?_) (fun h => absurd (by decide) h)
                    refine lv_aload_n hx hb dX8_method_147 rfl (lv_at hl 2 rfl) ?_
                    refine va_get (D := (dC, dI)) (own := RX8) (ref := "ReflectModels") (index := 25) (ci := 7) (v := .int 0) (C := RX8) (T := TX8) (N := 15) hx hb hts inX8_method_8 hown hK hP 0 rfl rfl 3 (by decide) (hts (.fieldLink RX8 25 "ReflectModels" "memberCount" "I") (by decide +kernel)) (fun _ h9 => h9) rfl dX8_method_148 ?_
                    refine lv_bipush (v := 40) hx hb dX8_method_151 (by decide) ?_
                    refine lv_icmp_lt (tgt := 159) hx hb dX8_method_153 (by decide) (fun _ => ?_) (fun h => absurd (by decide) h)
                    refine lv_aload_n hx hb dX8_method_159 rfl (lv_at hl 2 rfl) ?_
                    refine lv_aload hx hb dX8_method_160 (lv_at hl 0 rfl) ?_
                    refine clW (wr := [((q 0), .inl ((cA 0), 16, .inr (.inr (.inr (.inr (va_up (fun _ => none) 0 (some (q 6)))))))), ((q 2), .inl ((cA 2), 60, .inr (.inr (.inr (.inr (fun _ => none)))))), ((q 3), .inl ((cA 3), 124, .inr (.inr (.inr (.inr (fun _ => none)))))), ((q 4), .inl ((cA 4), 3, .inr (.inr (.inr (.inr (va_up (va_up (va_up (fun _ => none) 0 (some (q 7))) 1 (some (q 8))) 2 (some (q 9)))))))), ((q 5), .inr (6, [.int 0, .long 0])), ((q 7), .inr (6, [.int 0, .long 0])), ((q 8), .inr (6, [.int 0, .long 0])), ((q 9), .inr (6, [.int 0, .long 0])), (q1, .inr (4, [.int a2, .int a3, .int f2, .int f3]))]) [0, 2, 12, 7] [1, 3, 4, 5, 6, 8, 9, 10, 11] (va_runV (As := [.ref q58]) (rest := []) ⟨hx, hb, hml, hown, hts⟩ (c8_addMemberM l dC dI h0 q cA q58 (q 6) 0 1 q1 a6 0 a8 a9 _) (cwV 1 hts gX8_method_X8_addMember rfl rfl rfl (by decide +kernel) ⟨Nat.le_of_ble_eq_true rfl, Nat.le_of_ble_eq_true rfl⟩) ⟨pz_blind, va_recv hK hP (ci := 7) (q0 := 0) rfl rfl, pz_of hP hK hD hN [0, 2, 12, 7] [1] rfl (by decide) rfl⟩ rfl rfl hl.1 rfl (lv_room (Nat.le_of_ble_eq_true rfl)) dX8_method_162 ⟨Nat.le_of_ble_eq_true rfl, Nat.le_of_ble_eq_true rfl⟩) hS hP hD hK hA rfl rfl (by decide) (by decide) (fun v w1 ty1 H locs w67 hP hD hK hS => ?_)
                    obtain ⟨rfl, rfl, rfl⟩ := w67
                    refine W.eq (g2 := F0 m 165 ls [.int 0]) rfl ?_
                    have hP : va_P (dC, dI) vwCl [((q 0), .inl ((cA 0), 16, .inr (.inr (.inr (.inr (va_up (fun _ => none) 0 (some (q 6)))))))), ((q 2), .inl ((cA 2), 60, .inr (.inr (.inr (.inr (fun _ => none)))))), ((q 3), .inl ((cA 3), 124, .inr (.inr (.inr (.inr (fun _ => none)))))), ((q 4), .inl ((cA 4), 3, .inr (.inr (.inr (.inr (va_up (va_up (va_up (fun _ => none) 0 (some (q 7))) 1 (some (q 8))) 2 (some (q 9)))))))), ((q 5), .inr (6, [.int 0, .long 0])), ((q 7), .inr (6, [.int 0, .long 0])), ((q 8), .inr (6, [.int 0, .long 0])), ((q 9), .inr (6, [.int 0, .long 0])), (q1, .inr (4, [.int a2, .int a3, .int f2, .int f3]))] H := hP
                    have hD : va_D A [((q 0), .inl ((cA 0), 16, .inr (.inr (.inr (.inr (va_up (fun _ => none) 0 (some (q 6)))))))), ((q 2), .inl ((cA 2), 60, .inr (.inr (.inr (.inr (fun _ => none)))))), ((q 3), .inl ((cA 3), 124, .inr (.inr (.inr (.inr (fun _ => none)))))), ((q 4), .inl ((cA 4), 3, .inr (.inr (.inr (.inr (va_up (va_up (va_up (fun _ => none) 0 (some (q 7))) 1 (some (q 8))) 2 (some (q 9)))))))), ((q 5), .inr (6, [.int 0, .long 0])), ((q 7), .inr (6, [.int 0, .long 0])), ((q 8), .inr (6, [.int 0, .long 0])), ((q 9), .inr (6, [.int 0, .long 0])), (q1, .inr (4, [.int a2, .int a3, .int f2, .int f3]))] := hD
                    have hK : va_K (dC, dI) vwCl [((cA 0), .object "ReflectModels$ClassModel"), ((cA 1), .object "ReflectModels$Member"), ((cA 2), .object "ReflectModels$Handle"), ((cA 3), .object "ReflectModels$Thing"), ((cA 4), .object "ReflectModels$Value")] s := hK
                    refine W.cs (cells' := 2) (slots' := 12) rfl rfl ?_
                    have hP9 := hP.sub (ws' := []) [] rfl
                    have hD9 := hD.sub (ws' := []) [] (by decide) rfl
                    have hK9 := hK.sub (tys' := []) [] rfl
                    exact W.zret (v := 0) (ty := .int) hx hb hr rfl (fun t ht hW => ⟨⟨(some (.int 0)), rfl, _, _, ⟨congrArg (fun z => some (Value.int z)) (by unfold an_method; (repeat' split) <;> first | rfl | (exfalso; first | omega | (have kq := kz; omega))), rfl, rfl⟩, by rw [ht]; exact hP9, va_K.moved hW.alike hK9, hD9⟩, hS.F ht⟩) hS.2.2 dX8_method_165
                  · refine W.eq (g2 := F0 m 126 ls [.int 0]) rfl ?_
                    refine lv_if_eq (tgt := 144) hx hb dX8_method_126 (by decide) (fun _ => ?_) (fun h => absurd (by decide) h)
                    refine lv_bipush (v := (-4)) hx hb dX8_method_144 (by decide) ?_
                    have hP9 := hP.sub (ws' := []) [] rfl
                    have hD9 := hD.sub (ws' := []) [] (by decide) rfl
                    have hK9 := hK.sub (tys' := []) [] rfl
                    exact W.zret (v := (-4)) (ty := .int) hx hb hr rfl (fun t ht hW => ⟨⟨(some (.int (-4))), rfl, _, _, ⟨congrArg (fun z => some (Value.int z)) (by unfold an_method; (repeat' split) <;> first | rfl | (exfalso; first | omega | (have kq := kz; omega))), rfl, rfl⟩, by rw [ht]; exact hP9, va_K.moved hW.alike hK9, hD9⟩, hS.F ht⟩) hS.2.2 dX8_method_146
                · first | exact absurd z1 (by decide)
            · refine W.eq (g2 := F0 m 64 ls [.int 0]) rfl ?_
              refine lv_if_ne (tgt := 77) hx hb dX8_method_64 (by decide) (fun h => absurd h (by decide)) (fun _ => ?_)
              refine lv_iload hx hb dX8_method_67 (lv_at hl 9 rfl) ?_
              refine lv_iload hx hb dX8_method_69 (lv_at hl 10 rfl) ?_
              refine clR (va_runS (As := [.int a8, .int a9]) (rest := []) ⟨hx, hb, hml, hown, hts⟩ (c8_isOutsideBody l dC dI a8 a9 _) (va_cwS 2 hts gX8_method_X8_isOutsideBody rfl rfl rfl (by decide +kernel) ⟨Nat.le_of_ble_eq_true rfl, Nat.le_of_ble_eq_true rfl⟩) ⟨pz_blind, pz_of hP hK hD hN [] [] rfl (by decide) rfl⟩ rfl rfl hl.1 rfl (lv_room (Nat.le_of_ble_eq_true rfl)) dX8_method_71 ⟨Nat.le_of_ble_eq_true rfl, Nat.le_of_ble_eq_true rfl⟩) hS hP (fun v H locs w70 hP hS => ?_)
              rcases w70 with ⟨rfl, u68⟩ | ⟨rfl, u69⟩
              · refine W.eq (g2 := F0 m 74 ls [.int 1]) rfl ?_
                refine lv_if_eq (tgt := 80) hx hb dX8_method_74 (by decide) (fun h => absurd h (by decide)) (fun _ => ?_)
                refine lv_bipush (v := (-3)) hx hb dX8_method_77 (by decide) ?_
                refine W.widen (k := 2) (n := 12) (by omega) (by omega) ?_
                have hP9 := hP.sub (ws' := []) [] rfl
                have hD9 := hD.sub (ws' := []) [] (by decide) rfl
                have hK9 := hK.sub (tys' := []) [] rfl
                exact W.zret (v := (-3)) (ty := .int) hx hb hr rfl (fun t ht hW => ⟨⟨(some (.int (-3))), rfl, _, _, ⟨congrArg (fun z => some (Value.int z)) (by unfold an_method; (repeat' split) <;> first | rfl | (exfalso; first | omega | (have kq := kz; omega))), rfl, rfl⟩, by rw [ht]; exact hP9, va_K.moved hW.alike hK9, hD9⟩, hS.F ht⟩) hS.2.2 dX8_method_79
              · refine W.eq (g2 := F0 m 74 ls [.int 0]) rfl ?_
                refine lv_if_eq (tgt := 80) hx hb dX8_method_74 (by decide) (fun _ => ?_) (fun h => absurd (by decide) h)
                refine va_new (ci := 3) (fs := [.null, .int 0, .int 0, .null, .int 0, .int 0, .int 0, .int 0]) (C := RX4) (T := TX4) (N := 8) hx hb hts inX8_method_4 tyX4 tyX4_ok hown (hts (.classLink RX8 138 RX4) (by decide +kernel)) (hts (.instantiable RX4 8) (by decide +kernel)) (hts (.initialized RX4) (by decide +kernel)) hK hP hD hS hA rfl df_X4 (Nat.le_of_ble_eq_true rfl) (Nat.le_of_ble_eq_true rfl) dX8_method_80 (fun q71 H hP hD hS => ?_)
                have hP : va_P (dC, dI) vwCl [(h0, .inr (7, [.ref (q 0), .int 1, .ref (q 1), .int 0, .int 0, .ref (q 2), .int 0, .ref (q 3), .int 0, .ref (q 4), .int 0, .int 0, .ref (q 5), .int 0, .int 0])), ((q 0), .inl ((cA 0), 16, .inr (.inr (.inr (.inr (va_up (fun _ => none) 0 (some (q 6)))))))), ((q 1), .inl ((cA 1), 40, .inr (.inr (.inr (.inr (fun _ => none)))))), ((q 2), .inl ((cA 2), 60, .inr (.inr (.inr (.inr (fun _ => none)))))), ((q 3), .inl ((cA 3), 124, .inr (.inr (.inr (.inr (fun _ => none)))))), ((q 4), .inl ((cA 4), 3, .inr (.inr (.inr (.inr (va_up (va_up (va_up (fun _ => none) 0 (some (q 7))) 1 (some (q 8))) 2 (some (q 9)))))))), ((q 5), .inr (6, [.int 0, .long 0])), ((q 6), .inr (0, [.int 0, .null, .int 0, .null, .int 0, .int 0, .int 1, .int 1, .int 0, .int 0, .int 0, .int 0])), ((q 7), .inr (6, [.int 0, .long 0])), ((q 8), .inr (6, [.int 0, .long 0])), ((q 9), .inr (6, [.int 0, .long 0])), (q1, .inr (4, [.int a2, .int a3, .int f2, .int f3])), (q71, .inr (3, [.null, .int 0, .int 0, .null, .int 0, .int 0, .int 0, .int 0]))] H := hP
                have hD : va_D A [(h0, .inr (7, [.ref (q 0), .int 1, .ref (q 1), .int 0, .int 0, .ref (q 2), .int 0, .ref (q 3), .int 0, .ref (q 4), .int 0, .int 0, .ref (q 5), .int 0, .int 0])), ((q 0), .inl ((cA 0), 16, .inr (.inr (.inr (.inr (va_up (fun _ => none) 0 (some (q 6)))))))), ((q 1), .inl ((cA 1), 40, .inr (.inr (.inr (.inr (fun _ => none)))))), ((q 2), .inl ((cA 2), 60, .inr (.inr (.inr (.inr (fun _ => none)))))), ((q 3), .inl ((cA 3), 124, .inr (.inr (.inr (.inr (fun _ => none)))))), ((q 4), .inl ((cA 4), 3, .inr (.inr (.inr (.inr (va_up (va_up (va_up (fun _ => none) 0 (some (q 7))) 1 (some (q 8))) 2 (some (q 9)))))))), ((q 5), .inr (6, [.int 0, .long 0])), ((q 6), .inr (0, [.int 0, .null, .int 0, .null, .int 0, .int 0, .int 1, .int 1, .int 0, .int 0, .int 0, .int 0])), ((q 7), .inr (6, [.int 0, .long 0])), ((q 8), .inr (6, [.int 0, .long 0])), ((q 9), .inr (6, [.int 0, .long 0])), (q1, .inr (4, [.int a2, .int a3, .int f2, .int f3])), (q71, .inr (3, [.null, .int 0, .int 0, .null, .int 0, .int 0, .int 0, .int 0]))] := hD
                refine W.cs (cells' := 2) (slots' := 12) rfl rfl ?_
                refine lv_dup hx hb dX8_method_83 rfl ?_
                refine lv_aload_n hx hb dX8_method_84 rfl (lv_at hl 1 rfl) ?_
                refine va_get (D := (dC, dI)) (own := RX8) (ref := "ReflectModels") (index := 11) (ci := 7) (v := .ref (q 0)) (C := RX8) (T := TX8) (N := 15) hx hb hts inX8_method_8 hown hK hP 0 rfl rfl 0 (by decide) (hts (.fieldLink RX8 11 "ReflectModels" "classes" "[LReflectModels$ClassModel;") (by decide +kernel)) (fun _ h9 => h9) rfl dX8_method_85 ?_
                refine lv_iload_n hx hb dX8_method_88 rfl (lv_at hl 2 rfl) ?_
                refine va_aldq hx hb hK hP 1 0 rfl rfl (vp_in_iff.mpr ⟨by decide, by decide⟩) dX8_method_89 ?_
                refine W.eq (g2 := F0 m 90 ls [.ref (q 6), .ref q71, .ref q71]) rfl ?_
                refine lv_aload hx hb dX8_method_90 (lv_at hl 0 rfl) ?_
                refine lv_iload hx hb dX8_method_92 (lv_at hl 7 rfl) ?_
                refine lv_iload hx hb dX8_method_94 (lv_at hl 8 rfl) ?_
                refine lv_iload hx hb dX8_method_96 (lv_at hl 9 rfl) ?_
                refine lv_iload hx hb dX8_method_98 (lv_at hl 10 rfl) ?_
                refine clW (wr := [(h0, .inr (7, [.ref (q 0), .int 1, .ref (q 1), .int 0, .int 0, .ref (q 2), .int 0, .ref (q 3), .int 0, .ref (q 4), .int 0, .int 0, .ref (q 5), .int 0, .int 0])), ((q 0), .inl ((cA 0), 16, .inr (.inr (.inr (.inr (va_up (fun _ => none) 0 (some (q 6)))))))), ((q 1), .inl ((cA 1), 40, .inr (.inr (.inr (.inr (fun _ => none)))))), ((q 2), .inl ((cA 2), 60, .inr (.inr (.inr (.inr (fun _ => none)))))), ((q 3), .inl ((cA 3), 124, .inr (.inr (.inr (.inr (fun _ => none)))))), ((q 4), .inl ((cA 4), 3, .inr (.inr (.inr (.inr (va_up (va_up (va_up (fun _ => none) 0 (some (q 7))) 1 (some (q 8))) 2 (some (q 9)))))))), ((q 5), .inr (6, [.int 0, .long 0])), ((q 6), .inr (0, [.int 0, .null, .int 0, .null, .int 0, .int 0, .int 1, .int 1, .int 0, .int 0, .int 0, .int 0])), ((q 7), .inr (6, [.int 0, .long 0])), ((q 8), .inr (6, [.int 0, .long 0])), ((q 9), .inr (6, [.int 0, .long 0])), (q1, .inr (4, [.int a2, .int a3, .int f2, .int f3]))]) [12] [0, 1, 2, 3, 4, 5, 6, 7, 8, 9, 10, 11] (va_runIN (As := [.ref (q 6), .ref q1, .int a6, .int 5, .int a8, .int a9]) (rest := [.ref q71]) ⟨hx, hb, hml, hown, hts⟩ (c4_init5 l dC dI q71 (q 6) q1 a6 a8 a9 _) ⟨va_cnB 6 hts gX8_method_X4_init_n140 rfl rfl rfl (hN _ (List.mem_of_getElem? (i := 35) rfl)) (hts (.initialized RX4) (by decide +kernel)) (by decide +kernel) ⟨Nat.le_of_ble_eq_true rfl, Nat.le_of_ble_eq_true rfl⟩, rfl, hts (.instanceMethod yX4_init) (by decide +kernel)⟩ ⟨pz_blind, pz_of hP hK hD hN [12] [] rfl (by decide) rfl⟩ rfl rfl hl.1 rfl (lv_room (Nat.le_of_ble_eq_true rfl)) dX8_method_100 ⟨Nat.le_of_ble_eq_true rfl, Nat.le_of_ble_eq_true rfl⟩) hS hP hD hK hA rfl rfl (by decide) (by decide) (fun v w1 ty1 H locs w72 hP hD hK hS => ?_)
                obtain ⟨rfl, rfl, rfl⟩ := w72
                refine W.eq (g2 := F0 m 103 ls [.ref q71]) rfl ?_
                have hP : va_P (dC, dI) vwCl [(h0, .inr (7, [.ref (q 0), .int 1, .ref (q 1), .int 0, .int 0, .ref (q 2), .int 0, .ref (q 3), .int 0, .ref (q 4), .int 0, .int 0, .ref (q 5), .int 0, .int 0])), ((q 0), .inl ((cA 0), 16, .inr (.inr (.inr (.inr (va_up (fun _ => none) 0 (some (q 6)))))))), ((q 1), .inl ((cA 1), 40, .inr (.inr (.inr (.inr (fun _ => none)))))), ((q 2), .inl ((cA 2), 60, .inr (.inr (.inr (.inr (fun _ => none)))))), ((q 3), .inl ((cA 3), 124, .inr (.inr (.inr (.inr (fun _ => none)))))), ((q 4), .inl ((cA 4), 3, .inr (.inr (.inr (.inr (va_up (va_up (va_up (fun _ => none) 0 (some (q 7))) 1 (some (q 8))) 2 (some (q 9)))))))), ((q 5), .inr (6, [.int 0, .long 0])), ((q 6), .inr (0, [.int 0, .null, .int 0, .null, .int 0, .int 0, .int 1, .int 1, .int 0, .int 0, .int 0, .int 0])), ((q 7), .inr (6, [.int 0, .long 0])), ((q 8), .inr (6, [.int 0, .long 0])), ((q 9), .inr (6, [.int 0, .long 0])), (q1, .inr (4, [.int a2, .int a3, .int f2, .int f3])), (q71, .inr (3, [.ref (q 6), .int 1, .int 1, .ref q1, .int a6, .int 0, .int a8, .int a9]))] H := hP
                have hD : va_D A [(h0, .inr (7, [.ref (q 0), .int 1, .ref (q 1), .int 0, .int 0, .ref (q 2), .int 0, .ref (q 3), .int 0, .ref (q 4), .int 0, .int 0, .ref (q 5), .int 0, .int 0])), ((q 0), .inl ((cA 0), 16, .inr (.inr (.inr (.inr (va_up (fun _ => none) 0 (some (q 6)))))))), ((q 1), .inl ((cA 1), 40, .inr (.inr (.inr (.inr (fun _ => none)))))), ((q 2), .inl ((cA 2), 60, .inr (.inr (.inr (.inr (fun _ => none)))))), ((q 3), .inl ((cA 3), 124, .inr (.inr (.inr (.inr (fun _ => none)))))), ((q 4), .inl ((cA 4), 3, .inr (.inr (.inr (.inr (va_up (va_up (va_up (fun _ => none) 0 (some (q 7))) 1 (some (q 8))) 2 (some (q 9)))))))), ((q 5), .inr (6, [.int 0, .long 0])), ((q 6), .inr (0, [.int 0, .null, .int 0, .null, .int 0, .int 0, .int 1, .int 1, .int 0, .int 0, .int 0, .int 0])), ((q 7), .inr (6, [.int 0, .long 0])), ((q 8), .inr (6, [.int 0, .long 0])), ((q 9), .inr (6, [.int 0, .long 0])), (q1, .inr (4, [.int a2, .int a3, .int f2, .int f3])), (q71, .inr (3, [.ref (q 6), .int 1, .int 1, .ref q1, .int a6, .int 0, .int a8, .int a9]))] := hD
                have hK : va_K (dC, dI) vwCl [((cA 0), .object "ReflectModels$ClassModel"), ((cA 1), .object "ReflectModels$Member"), ((cA 2), .object "ReflectModels$Handle"), ((cA 3), .object "ReflectModels$Thing"), ((cA 4), .object "ReflectModels$Value")] s := hK
                refine W.cs (cells' := 2) (slots' := 12) rfl rfl ?_
                refine lv_astore (lv' := [(11, .ref q71), (10, .ref q1), (0, .ref h0), (1, .int 0), (2, .int a2), (3, .int a3), (4, .int a4), (5, .int a5), (6, .int a6), (7, .int 5), (8, .int a8), (9, .int a9)]) hx hb dX8_method_103 hl (by decide) rfl (fun ls hl => ?_)
                refine lv_aload_n hx hb dX8_method_105 rfl (lv_at hl 2 rfl) ?_
                refine va_get (D := (dC, dI)) (own := RX8) (ref := "ReflectModels") (index := 46) (ci := 7) (v := .int 0) (C := RX8) (T := TX8) (N := 15) hx hb hts inX8_method_8 hown hK hP 0 rfl rfl 8 (by decide) (hts (.fieldLink RX8 46 "ReflectModels" "thingCount" "I") (by decide +kernel)) (fun _ h9 => h9) rfl dX8_method_106 ?_
                refine lv_if_gt (tgt := 144) hx hb dX8_method_109 (by decide) (fun h => absurd h (by decide)) (fun _ => ?_)
                refine lv_aload hx hb dX8_method_112 (lv_at hl 0 rfl) ?_
                refine clR (va_runS (As := [.ref q71]) (rest := []) ⟨hx, hb, hml, hown, hts⟩ (c8_mayHaveMethod l dC dI q71 (q 6) 1 1 q1 a6 0 a8 a9 _) (va_cwS 1 hts gX8_method_X8_mayHaveMethod rfl rfl rfl (by decide +kernel) ⟨Nat.le_of_ble_eq_true rfl, Nat.le_of_ble_eq_true rfl⟩) ⟨pz_blind, pz_of hP hK hD hN [12, 7] [] rfl (by decide) rfl⟩ rfl rfl hl.1 rfl (lv_room (Nat.le_of_ble_eq_true rfl)) dX8_method_114 ⟨Nat.le_of_ble_eq_true rfl, Nat.le_of_ble_eq_true rfl⟩) hS hP (fun v H locs w75 hP hS => ?_)
                rcases w75 with ⟨rfl, u73⟩ | ⟨_, z1⟩
                · refine W.eq (g2 := F0 m 117 ls [.int 1]) rfl ?_
                  refine lv_if_eq (tgt := 144) hx hb dX8_method_117 (by decide) (fun h => absurd h (by decide)) (fun _ => ?_)
                  refine lv_aload_n hx hb dX8_method_120 rfl (lv_at hl 2 rfl) ?_
                  refine lv_aload hx hb dX8_method_121 (lv_at hl 0 rfl) ?_
                  refine clR (va_runV (As := [.ref q71]) (rest := []) ⟨hx, hb, hml, hown, hts⟩ (c8_bodySuits l dC dI h0 q q71 (q 6) 1 1 q1 a6 0 a8 a9 a2 a3 f2 f3 _) (cwV 1 hts gX8_method_X8_bodySuits rfl rfl rfl (by decide +kernel) ⟨Nat.le_of_ble_eq_true rfl, Nat.le_of_ble_eq_true rfl⟩) ⟨pz_blind, va_recv hK hP (ci := 7) (q0 := 0) rfl rfl, pz_of hP hK hD hN [0, 12, 11] [] rfl (by decide) rfl⟩ rfl rfl hl.1 rfl (lv_room (Nat.le_of_ble_eq_true rfl)) dX8_method_123 ⟨Nat.le_of_ble_eq_true rfl, Nat.le_of_ble_eq_true rfl⟩) hS hP (fun v H locs w78 hP hS => ?_)
                  rcases w78 with ⟨rfl, u76⟩ | ⟨rfl, u77⟩
                  · refine W.eq (g2 := F0 m 126 ls [.int 1]) rfl ?_
                    refine lv_if_eq (tgt := 144) hx hb dX8_method_126 (by decide) (fun h => absurd h (by decide)) (fun _ => ?_)
                    refine lv_aload_n hx hb dX8_method_129 rfl (lv_at hl 2 rfl) ?_
                    refine lv_aload hx hb dX8_method_130 (lv_at hl 0 rfl) ?_
                    refine va_get (D := (dC, dI)) (own := RX8) (ref := "ReflectModels$Method") (index := 150) (ci := 3) (v := .ref (q 6)) (C := RX4) (T := TX4) (N := 8) hx hb hts inX8_method_4 hown hK hP 12 rfl rfl 0 (by decide) (hts (.fieldLink RX8 150 "ReflectModels$Method" "owner" "LReflectModels$ClassModel;") (by decide +kernel)) (fun x9 h9 => u_same (hts (.sameField "ReflectModels$Method" "ReflectModels$Member" "owner" "LReflectModels$ClassModel;") (by decide +kernel)) x9 h9) rfl dX8_method_132 ?_
                    refine lv_aload hx hb dX8_method_135 (lv_at hl 1 rfl) ?_
                    refine clR (va_runV (As := [.ref (q 6), .ref q1]) (rest := []) ⟨hx, hb, hml, hown, hts⟩ (c8_ownMethod l dC dI h0 q (q 6) q1 _) (cwV 2 hts gX8_method_X8_ownMethod rfl rfl rfl (by decide +kernel) ⟨Nat.le_of_ble_eq_true rfl, Nat.le_of_ble_eq_true rfl⟩) ⟨pz_blind, va_recv hK hP (ci := 7) (q0 := 0) rfl rfl, pz_of hP hK hD hN [0] [] rfl (by decide) rfl⟩ rfl rfl hl.1 rfl (lv_room (Nat.le_of_ble_eq_true rfl)) dX8_method_137 ⟨Nat.le_of_ble_eq_true rfl, Nat.le_of_ble_eq_true rfl⟩) hS hP (fun v H locs w79 hP hS => ?_)
                    obtain rfl := w79
                    refine W.eq (g2 := F0 m 140 ls [.int (-1)]) rfl ?_
                    refine lv_iconst (v := (-1)) hx hb dX8_method_140 (by decide) ?_
                    refine lv_icmp_eq (tgt := 147) hx hb dX8_method_141 (by decide) (fun _ => ?_) (fun h => absurd (by decide) h)
                    refine lv_aload_n hx hb dX8_method_147 rfl (lv_at hl 2 rfl) ?_
                    refine va_get (D := (dC, dI)) (own := RX8) (ref := "ReflectModels") (index := 25) (ci := 7) (v := .int 0) (C := RX8) (T := TX8) (N := 15) hx hb hts inX8_method_8 hown hK hP 0 rfl rfl 3 (by decide) (hts (.fieldLink RX8 25 "ReflectModels" "memberCount" "I") (by decide +kernel)) (fun _ h9 => h9) rfl dX8_method_148 ?_
                    refine lv_bipush (v := 40) hx hb dX8_method_151 (by decide) ?_
                    refine lv_icmp_lt (tgt := 159) hx hb dX8_method_153 (by decide) (fun _ => ?_) (fun h => absurd (by decide) h)
                    refine lv_aload_n hx hb dX8_method_159 rfl (lv_at hl 2 rfl) ?_
                    refine lv_aload hx hb dX8_method_160 (lv_at hl 0 rfl) ?_
                    refine clW (wr := [((q 0), .inl ((cA 0), 16, .inr (.inr (.inr (.inr (va_up (fun _ => none) 0 (some (q 6)))))))), ((q 2), .inl ((cA 2), 60, .inr (.inr (.inr (.inr (fun _ => none)))))), ((q 3), .inl ((cA 3), 124, .inr (.inr (.inr (.inr (fun _ => none)))))), ((q 4), .inl ((cA 4), 3, .inr (.inr (.inr (.inr (va_up (va_up (va_up (fun _ => none) 0 (some (q 7))) 1 (some (q 8))) 2 (some (q 9)))))))), ((q 5), .inr (6, [.int 0, .long 0])), ((q 7), .inr (6, [.int 0, .long 0])), ((q 8), .inr (6, [.int 0, .long 0])), ((q 9), .inr (6, [.int 0, .long 0])), (q1, .inr (4, [.int a2, .int a3, .int f2, .int f3]))]) [0, 2, 12, 7] [1, 3, 4, 5, 6, 8, 9, 10, 11] (va_runV (As := [.ref q71]) (rest := []) ⟨hx, hb, hml, hown, hts⟩ (c8_addMemberM l dC dI h0 q cA q71 (q 6) 1 1 q1 a6 0 a8 a9 _) (cwV 1 hts gX8_method_X8_addMember rfl rfl rfl (by decide +kernel) ⟨Nat.le_of_ble_eq_true rfl, Nat.le_of_ble_eq_true rfl⟩) ⟨pz_blind, va_recv hK hP (ci := 7) (q0 := 0) rfl rfl, pz_of hP hK hD hN [0, 2, 12, 7] [1] rfl (by decide) rfl⟩ rfl rfl hl.1 rfl (lv_room (Nat.le_of_ble_eq_true rfl)) dX8_method_162 ⟨Nat.le_of_ble_eq_true rfl, Nat.le_of_ble_eq_true rfl⟩) hS hP hD hK hA rfl rfl (by decide) (by decide) (fun v w1 ty1 H locs w80 hP hD hK hS => ?_)
                    obtain ⟨rfl, rfl, rfl⟩ := w80
                    refine W.eq (g2 := F0 m 165 ls [.int 0]) rfl ?_
                    have hP : va_P (dC, dI) vwCl [((q 0), .inl ((cA 0), 16, .inr (.inr (.inr (.inr (va_up (fun _ => none) 0 (some (q 6)))))))), ((q 2), .inl ((cA 2), 60, .inr (.inr (.inr (.inr (fun _ => none)))))), ((q 3), .inl ((cA 3), 124, .inr (.inr (.inr (.inr (fun _ => none)))))), ((q 4), .inl ((cA 4), 3, .inr (.inr (.inr (.inr (va_up (va_up (va_up (fun _ => none) 0 (some (q 7))) 1 (some (q 8))) 2 (some (q 9)))))))), ((q 5), .inr (6, [.int 0, .long 0])), ((q 7), .inr (6, [.int 0, .long 0])), ((q 8), .inr (6, [.int 0, .long 0])), ((q 9), .inr (6, [.int 0, .long 0])), (q1, .inr (4, [.int a2, .int a3, .int f2, .int f3]))] H := hP
                    have hD : va_D A [((q 0), .inl ((cA 0), 16, .inr (.inr (.inr (.inr (va_up (fun _ => none) 0 (some (q 6)))))))), ((q 2), .inl ((cA 2), 60, .inr (.inr (.inr (.inr (fun _ => none)))))), ((q 3), .inl ((cA 3), 124, .inr (.inr (.inr (.inr (fun _ => none)))))), ((q 4), .inl ((cA 4), 3, .inr (.inr (.inr (.inr (va_up (va_up (va_up (fun _ => none) 0 (some (q 7))) 1 (some (q 8))) 2 (some (q 9)))))))), ((q 5), .inr (6, [.int 0, .long 0])), ((q 7), .inr (6, [.int 0, .long 0])), ((q 8), .inr (6, [.int 0, .long 0])), ((q 9), .inr (6, [.int 0, .long 0])), (q1, .inr (4, [.int a2, .int a3, .int f2, .int f3]))] := hD
                    have hK : va_K (dC, dI) vwCl [((cA 0), .object "ReflectModels$ClassModel"), ((cA 1), .object "ReflectModels$Member"), ((cA 2), .object "ReflectModels$Handle"), ((cA 3), .object "ReflectModels$Thing"), ((cA 4), .object "ReflectModels$Value")] s := hK
                    refine W.cs (cells' := 2) (slots' := 12) rfl rfl ?_
                    have hP9 := hP.sub (ws' := []) [] rfl
                    have hD9 := hD.sub (ws' := []) [] (by decide) rfl
                    have hK9 := hK.sub (tys' := []) [] rfl
                    exact W.zret (v := 0) (ty := .int) hx hb hr rfl (fun t ht hW => ⟨⟨(some (.int 0)), rfl, _, _, ⟨congrArg (fun z => some (Value.int z)) (by unfold an_method; (repeat' split) <;> first | rfl | (exfalso; first | omega | (have kq := kz; omega))), rfl, rfl⟩, by rw [ht]; exact hP9, va_K.moved hW.alike hK9, hD9⟩, hS.F ht⟩) hS.2.2 dX8_method_165
                  · refine W.eq (g2 := F0 m 126 ls [.int 0]) rfl ?_
                    refine lv_if_eq (tgt := 144) hx hb dX8_method_126 (by decide) (fun _ => ?_) (fun h => absurd (by decide) h)
                    refine lv_bipush (v := (-4)) hx hb dX8_method_144 (by decide) ?_
                    have hP9 := hP.sub (ws' := []) [] rfl
                    have hD9 := hD.sub (ws' := []) [] (by decide) rfl
                    have hK9 := hK.sub (tys' := []) [] rfl
                    exact W.zret (v := (-4)) (ty := .int) hx hb hr rfl (fun t ht hW => ⟨⟨(some (.int (-4))), rfl, _, _, ⟨congrArg (fun z => some (Value.int z)) (by unfold an_method; (repeat' split) <;> first | rfl | (exfalso; first | omega | (have kq := kz; omega))), rfl, rfl⟩, by rw [ht]; exact hP9, va_K.moved hW.alike hK9, hD9⟩, hS.F ht⟩) hS.2.2 dX8_method_146
                · first | exact absurd z1 (by decide)
  · refine W.eq (g2 := F0 m 20 ls [.int 0]) rfl ?_
    refine lv_if_eq (tgt := 41) hx hb dX8_method_20 (by decide) (fun _ => ?_) (fun h => absurd (by decide) h)
    refine lv_bipush (v := (-2)) hx hb dX8_method_41 (by decide) ?_
    refine W.widen (k := 2) (n := 12) (by omega) (by omega) ?_
    have hP9 := hP.sub (ws' := []) [] rfl
    have hD9 := hD.sub (ws' := []) [] (by decide) rfl
    have hK9 := hK.sub (tys' := []) [] rfl
    exact W.zret (v := (-2)) (ty := .int) hx hb hr rfl (fun t ht hW => ⟨⟨(some (.int (-2))), rfl, _, _, ⟨congrArg (fun z => some (Value.int z)) (by unfold an_method; (repeat' split) <;> first | rfl | (exfalso; first | omega | (have kq := kz; omega))), rfl, rfl⟩, by rw [ht]; exact hP9, va_K.moved hW.alike hK9, hD9⟩, hS.F ht⟩) hS.2.2 dX8_method_43
