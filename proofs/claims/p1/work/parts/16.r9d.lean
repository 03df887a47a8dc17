def mU (c k x y g : Int) : Prop := c ≠ 0 ∨ (0 < k ∧ 1 ≤ x) ∨ (1 < k ∧ 1 ≤ y) ∨ 1 ≤ g
def mO1 (n k x y g : Int) : Prop := n < 0 ∨ 19 < n ∨ k < 0 ∨ 2 < k ∨ (0 < k ∧ x < -2) ∨ (1 < k ∧ y < -2) ∨ g < -3
def mO2 (m : Int) : Prop := m < 0 ∨ 7 < m ∨ m = 3 ∨ m = 6 ∨ m = 7
def mO3 (b v : Int) : Prop := b < 0 ∨ 7 < b ∨ (b = 5 ∧ (v < 0 ∨ 99 < v))
def mS (k x y m b v : Int) : Prop := m = 2 ∨ (b = 1 ∧ (k ≤ 1 ∨ x ≠ -1 ∨ y ≠ -1)) ∨ ((b = 2 ∨ b = 7) ∧ (k ≤ 0 ∨ x < 0 ∨ v ≠ 0)) ∨ b = 3 ∨ (b = 4 ∧ (k ≤ 0 ∨ x ≠ -1)) ∨ (b = 6 ∧ (m = 1 ∨ m = 5))
theorem an_mO {n k x y g m b v : Int} : (n < 0 ∨ 19 < n ∨ k < 0 ∨ 2 < k ∨ (0 < k ∧ x < -2) ∨ (1 < k ∧ y < -2) ∨ g < -3 ∨ m < 0 ∨ 7 < m ∨ m = 3 ∨ m = 6 ∨ m = 7 ∨ b < 0 ∨ 7 < b ∨ (b = 5 ∧ (v < 0 ∨ 99 < v))) ↔ (mO1 n k x y g ∨ mO2 m ∨ mO3 b v) := by
  unfold mO1 mO2 mO3
  simp only [or_assoc]
theorem an_m2 {c n k x y g m b v : Int} (h : mU c k x y g) : (-2 : Int32) = an_method c n k x y g m b v := (if_pos h).symm
theorem an_m3 {c n k x y g m b v : Int} (hU : ¬ mU c k x y g) (h : mO1 n k x y g ∨ mO2 m ∨ mO3 b v) : (-3 : Int32) = an_method c n k x y g m b v := ((if_neg hU).trans (if_pos (an_mO.mpr h))).symm
theorem an_m3a {c n k x y g m b v : Int} (hU : ¬ mU c k x y g) (h : mO1 n k x y g) : (-3 : Int32) = an_method c n k x y g m b v := an_m3 hU (Or.inl h)
theorem an_m3b {c n k x y g m b v : Int} (hU : ¬ mU c k x y g) (h : mO2 m) : (-3 : Int32) = an_method c n k x y g m b v := an_m3 hU (Or.inr (Or.inl h))
theorem an_m3c {c n k x y g m b v : Int} (hU : ¬ mU c k x y g) (h : mO3 b v) : (-3 : Int32) = an_method c n k x y g m b v := an_m3 hU (Or.inr (Or.inr h))
theorem an_m4 {c n k x y g m b v : Int} (hU : ¬ mU c k x y g) (h1 : ¬ mO1 n k x y g) (h2 : ¬ mO2 m) (h3 : ¬ mO3 b v) (h : mS k x y m b v) : (-4 : Int32) = an_method c n k x y g m b v := ((if_neg hU).trans ((if_neg (fun q => (an_mO.mp q).elim h1 (fun q => q.elim h2 h3))).trans (if_pos h))).symm
theorem an_m0 {c n k x y g m b v : Int} (hU : ¬ mU c k x y g) (h1 : ¬ mO1 n k x y g) (h2 : ¬ mO2 m) (h3 : ¬ mO3 b v) (h : ¬ mS k x y m b v) : (0 : Int32) = an_method c n k x y g m b v := ((if_neg hU).trans ((if_neg (fun q => (an_mO.mp q).elim h1 (fun q => q.elim h2 h3))).trans (if_neg h))).symm
set_option maxHeartbeats 4000000 in
set_option maxRecDepth 100000 in
theorem c9_bodyMay0 (l : Launch) (dC : Nat → ClassId) (dI : Nat → Nat → Nat) (h0 : Nat) (q : Nat → Nat) (a1 a2 a3 a5 a6 : Int32) (sz : Nat)  : Met l yX9_bodyMay wsX9_bodyMay ({ frames := 2, cells := 0, slots := 0, locals := 46 }) (va_Pc [.ref h0, .int a1, .int a2, .int a3, .int 0, .int a5, .int a6] (pz (dC, dI) [] [(h0, .inr (8, [.int 0, .int 1, .ref (q 0), .ref (q 1), .ref (q 2), .ref (q 3), .ref (q 4), .ref (q 5), .ref (q 6), .ref (q 7), .int 0, .ref (q 8), .ref (q 9), .ref (q 10), .ref (q 11), .ref (q 12), .ref (q 13), .ref (q 14), .ref (q 15), .ref (q 16), .ref (q 17), .ref (q 18), .ref (q 19), .int 0, .int 0, .ref (q 20), .ref (q 21), .int 0, .ref (q 22), .ref (q 23), .ref (q 24), .ref (q 25), .ref (q 26), .ref (q 27), .int 0, .ref (q 28), .ref (q 29), .int 0, .long 0, .int 0, .int 0, .ref (q 30)]))] sz)) (qR (fun v => (v = some (.int 1) ∧ ((a5.toInt = 1 ∧ a1.toInt = 2 ∧ a2.toInt = -1 ∧ a3.toInt = -1) ∨ ((a5.toInt = 2 ∨ a5.toInt = 7) ∧ 0 < a1.toInt ∧ 0 ≤ a2.toInt ∧ a6.toInt = 0) ∨ (a5.toInt = 4 ∧ 0 < a1.toInt ∧ a2.toInt = -1) ∨ a5.toInt = 6 ∨ a5.toInt = 5 ∨ a5.toInt < 1 ∨ 7 < a5.toInt)) ∨ (v = some (.int 0) ∧ ((a5.toInt = 1 ∧ (a1.toInt ≠ 2 ∨ a2.toInt ≠ -1 ∨ a3.toInt ≠ -1)) ∨ ((a5.toInt = 2 ∨ a5.toInt = 7) ∧ (a1.toInt ≤ 0 ∨ a2.toInt < 0 ∨ a6.toInt ≠ 0)) ∨ a5.toInt = 3 ∨ (a5.toInt = 4 ∧ (a1.toInt ≤ 0 ∨ a2.toInt ≠ -1)))))) 0 0 nA := by
  refine Met.ofW (cc := cX9_bodyMay) (maxL := 7) (ret := (some .boolean)) (by decide) rfl ?_
  intro p e s m args below meth c s₁ B hml hv
  obtain ⟨rfl, hsz, hP, hK, hD, hN⟩ := hv
  have hx := B.exec
  have hb := B.bytes
  have hr := B.returns
  have hts := atoms_spec (ws := wsX9_bodyMay) B.pre
  have hown : s.vm.findClass RX9 = some m.cls := findClass_of_methodNamed B.named
  have hlocks := B.notSynchronized
  subst hsz
  have hS : va_S nA s.heap s.heap [] := va_S.rf
  have hl := lv_entry ([.ref h0, .int a1, .int a2, .int a3, .int 0, .int a5, .int a6]) (n := 7) (Nat.le_of_ble_eq_true rfl)
  rw [lg_entry_eq]
  generalize (lg_sl ([.ref h0, .int a1, .int a2, .int a3, .int 0, .int a5, .int a6]) ++ List.replicate (7 - (lg_sl ([.ref h0, .int a1, .int a2, .int a3, .int 0, .int a5, .int a6])).length) Slot.unset).toArray = ls at hl ⊢
  have hl : lv_has ls 7 [(0, .ref h0), (1, .int a1), (2, .int a2), (3, .int a3), (4, .int 0), (5, .int a5), (6, .int a6)] := hl
  refine lv_iload hx hb dX9_bodyMay_0 (lv_at hl 5 rfl) ?_
  by_cases h1 : a5.toInt < 1 ∨ 7 < a5.toInt
  · refine lv_tableOut (tgt := 167) hx hb dX9_bodyMay_2 h1 (by decide) ?_
    refine lv_iconst (v := 1) hx hb dX9_bodyMay_167 (by decide) ?_
    exact W.zret (v := 1) (ty := .boolean) hx hb hr rfl (fun t ht hW => ⟨⟨(some (.int 1)), rfl, (by first | exact Or.inl ⟨rfl, (by first | omega | (have kq := kz; omega) | decide)⟩)⟩, hS.F ht⟩) hS.2.2 dX9_bodyMay_168
  · have gh1 : a5 = 1 ∨ a5 = 2 ∨ a5 = 3 ∨ a5 = 4 ∨ a5 = 5 ∨ a5 = 6 ∨ a5 = 7 := tw_1_7 (by omega) (by omega)
    rcases gh1 with rfl | rfl | rfl | rfl | rfl | rfl | rfl
    · refine lv_tableIn (tgt := 44) (off := 42) hx hb dX9_bodyMay_2 (by decide) (by decide) (by decide) (by decide) ?_
      refine lv_iload_n hx hb dX9_bodyMay_44 rfl (lv_at hl 1 rfl) ?_
      refine lv_iconst (v := 2) hx hb dX9_bodyMay_45 (by decide) ?_
      refine lv_icmp_ne (tgt := 63) hx hb dX9_bodyMay_46 (by decide) (fun c2 => ?_) (fun c2 => ?_)
      · have ic2 : a1.toInt ≠ 2 := ine2 rfl (by decide) c2
        refine lv_iconst (v := 0) hx hb dX9_bodyMay_63 (by decide) ?_
        exact W.zret (v := 0) (ty := .boolean) hx hb hr rfl (fun t ht hW => ⟨⟨(some (.int 0)), rfl, (by first | exact Or.inr (⟨rfl, (by first | omega | (have kq := kz; omega) | decide)⟩))⟩, hS.F ht⟩) hS.2.2 dX9_bodyMay_64
      · have ic2 : a1.toInt = 2 := ieq2 rfl (by decide) c2
        refine lv_iload_n hx hb dX9_bodyMay_49 rfl (lv_at hl 2 rfl) ?_
        refine lv_iconst (v := (-1)) hx hb dX9_bodyMay_50 (by decide) ?_
        refine lv_icmp_ne (tgt := 63) hx hb dX9_bodyMay_51 (by decide) (fun c3 => ?_) (fun c3 => ?_)
        · have ic3 : a2.toInt ≠ (-1) := ine2 rfl (by decide) c3
          refine lv_iconst (v := 0) hx hb dX9_bodyMay_63 (by decide) ?_
          exact W.zret (v := 0) (ty := .boolean) hx hb hr rfl (fun t ht hW => ⟨⟨(some (.int 0)), rfl, (by first | exact Or.inr (⟨rfl, (by first | omega | (have kq := kz; omega) | decide)⟩))⟩, hS.F ht⟩) hS.2.2 dX9_bodyMay_64
        · have ic3 : a2.toInt = (-1) := ieq2 rfl (by decide) c3
          refine lv_iload_n hx hb dX9_bodyMay_54 rfl (lv_at hl 3 rfl) ?_
          refine lv_iconst (v := (-1)) hx hb dX9_bodyMay_55 (by decide) ?_
          refine lv_icmp_ne (tgt := 63) hx hb dX9_bodyMay_56 (by decide) (fun c4 => ?_) (fun c4 => ?_)
          · have ic4 : a3.toInt ≠ (-1) := ine2 rfl (by decide) c4
            refine lv_iconst (v := 0) hx hb dX9_bodyMay_63 (by decide) ?_
            exact W.zret (v := 0) (ty := .boolean) hx hb hr rfl (fun t ht hW => ⟨⟨(some (.int 0)), rfl, (by first | exact Or.inr (⟨rfl, (by first | omega | (have kq := kz; omega) | decide)⟩))⟩, hS.F ht⟩) hS.2.2 dX9_bodyMay_64
          · have ic4 : a3.toInt = (-1) := ieq2 rfl (by decide) c4
            refine lv_iconst (v := 1) hx hb dX9_bodyMay_59 (by decide) ?_
            refine lv_goto (tgt := 64) hx hb dX9_bodyMay_60 (by decide) ?_
            exact W.zret (v := 1) (ty := .boolean) hx hb hr rfl (fun t ht hW => ⟨⟨(some (.int 1)), rfl, (by first | exact Or.inl ⟨rfl, (by first | omega | (have kq := kz; omega) | decide)⟩)⟩, hS.F ht⟩) hS.2.2 dX9_bodyMay_64
    · refine lv_tableIn (tgt := 65) (off := 63) hx hb dX9_bodyMay_2 (by decide) (by decide) (by decide) (by decide) ?_
      refine lv_iload_n hx hb dX9_bodyMay_65 rfl (lv_at hl 1 rfl) ?_
      refine lv_if_le (tgt := 86) hx hb dX9_bodyMay_66 (by decide) (fun c5 => ?_) (fun c5 => ?_)
      · have ic5 : a1.toInt ≤ 0 := ile2 rfl (by decide) c5
        refine lv_iconst (v := 0) hx hb dX9_bodyMay_86 (by decide) ?_
        exact W.zret (v := 0) (ty := .boolean) hx hb hr rfl (fun t ht hW => ⟨⟨(some (.int 0)), rfl, (by first | exact Or.inr (⟨rfl, (by first | omega | (have kq := kz; omega) | decide)⟩))⟩, hS.F ht⟩) hS.2.2 dX9_bodyMay_87
      · have ic5 : 0 < a1.toInt := inle2 rfl (by decide) c5
        refine lv_iload_n hx hb dX9_bodyMay_69 rfl (lv_at hl 2 rfl) ?_
        refine lv_if_lt (tgt := 86) hx hb dX9_bodyMay_70 (by decide) (fun c6 => ?_) (fun c6 => ?_)
        · have ic6 : a2.toInt < 0 := il2 rfl (by decide) c6
          refine lv_iconst (v := 0) hx hb dX9_bodyMay_86 (by decide) ?_
          exact W.zret (v := 0) (ty := .boolean) hx hb hr rfl (fun t ht hW => ⟨⟨(some (.int 0)), rfl, (by first | exact Or.inr (⟨rfl, (by first | omega | (have kq := kz; omega) | decide)⟩))⟩, hS.F ht⟩) hS.2.2 dX9_bodyMay_87
        · have ic6 : 0 ≤ a2.toInt := inl2 rfl (by decide) c6
          refine lv_aload_n hx hb dX9_bodyMay_73 rfl (lv_at hl 0 rfl) ?_
          refine lv_iload hx hb dX9_bodyMay_74 (lv_at hl 6 rfl) ?_
          refine clR (va_runV (As := [.int a6]) (rest := []) ⟨hx, hb, hml, hown, hts⟩ (c9_isClass l dC dI h0 q a6 _) (cwV 1 hts gX9_bodyMay_X9_isClass rfl rfl rfl (by decide +kernel) ⟨Nat.le_of_ble_eq_true rfl, Nat.le_of_ble_eq_true rfl⟩) ⟨pz_blind, va_recv hK hP (ci := 8) (q0 := 0) rfl rfl, pz_of hP hK hD hN [0] [] rfl (by decide) rfl⟩ rfl rfl hl.1 rfl (lv_room (Nat.le_of_ble_eq_true rfl)) dX9_bodyMay_76 ⟨Nat.le_of_ble_eq_true rfl, Nat.le_of_ble_eq_true rfl⟩) hS hP (fun v H locs w8 hP hS => ?_)
          rcases w8 with ⟨rfl, rfl⟩ | ⟨rfl, u7⟩
          · refine W.eq (g2 := F0 m 79 ls [.int 1]) rfl ?_
            refine lv_if_eq (tgt := 86) hx hb dX9_bodyMay_79 (by decide) (fun h => absurd h (by decide)) (fun _ => ?_)
            refine lv_iconst (v := 1) hx hb dX9_bodyMay_82 (by decide) ?_
            refine lv_goto (tgt := 87) hx hb dX9_bodyMay_83 (by decide) ?_
            exact W.zret (v := 1) (ty := .boolean) hx hb hr rfl (fun t ht hW => ⟨⟨(some (.int 1)), rfl, (by first | exact Or.inl ⟨rfl, (by first | omega | (have kq := kz; omega) | decide)⟩)⟩, hS.F ht⟩) hS.2.2 dX9_bodyMay_87
          · refine W.eq (g2 := F0 m 79 ls [.int 0]) rfl ?_
            refine lv_if_eq (tgt := 86) hx hb dX9_bodyMay_79 (by decide) (fun _ => ?_) (fun h => absurd (by decide) h)
            refine lv_iconst (v := 0) hx hb dX9_bodyMay_86 (by decide) ?_
            exact W.zret (v := 0) (ty := .boolean) hx hb hr rfl (fun t ht hW => ⟨⟨(some (.int 0)), rfl, (by first | exact Or.inr (⟨rfl, (by first | omega | (have kq := kz; omega) | decide)⟩))⟩, hS.F ht⟩) hS.2.2 dX9_bodyMay_87
    · refine lv_tableIn (tgt := 88) (off := 86) hx hb dX9_bodyMay_2 (by decide) (by decide) (by decide) (by decide) ?_
      refine lv_iload_n hx hb dX9_bodyMay_88 rfl (lv_at hl 1 rfl) ?_
      refine lv_if_le (tgt := 137) hx hb dX9_bodyMay_89 (by decide) (fun c9 => ?_) (fun c9 => ?_)
      · have ic9 : a1.toInt ≤ 0 := ile2 rfl (by decide) c9
        refine lv_iconst (v := 0) hx hb dX9_bodyMay_137 (by decide) ?_
        exact W.zret (v := 0) (ty := .boolean) hx hb hr rfl (fun t ht hW => ⟨⟨(some (.int 0)), rfl, (by first | exact Or.inr (⟨rfl, (by first | omega | (have kq := kz; omega) | decide)⟩))⟩, hS.F ht⟩) hS.2.2 dX9_bodyMay_138
      · have ic9 : 0 < a1.toInt := inle2 rfl (by decide) c9
        refine lv_iload_n hx hb dX9_bodyMay_92 rfl (lv_at hl 2 rfl) ?_
        refine lv_if_lt (tgt := 137) hx hb dX9_bodyMay_93 (by decide) (fun c10 => ?_) (fun c10 => ?_)
        · have ic10 : a2.toInt < 0 := il2 rfl (by decide) c10
          refine lv_iconst (v := 0) hx hb dX9_bodyMay_137 (by decide) ?_
          exact W.zret (v := 0) (ty := .boolean) hx hb hr rfl (fun t ht hW => ⟨⟨(some (.int 0)), rfl, (by first | exact Or.inr (⟨rfl, (by first | omega | (have kq := kz; omega) | decide)⟩))⟩, hS.F ht⟩) hS.2.2 dX9_bodyMay_138
        · have ic10 : 0 ≤ a2.toInt := inl2 rfl (by decide) c10
          refine lv_iload hx hb dX9_bodyMay_96 (lv_at hl 6 rfl) ?_
          refine lv_i2l (v := a6.toInt64) hx hb dX9_bodyMay_98 rfl ?_
          refine lv_lconst (v := 0) hx hb dX9_bodyMay_99 (by decide) ?_
          refine lv_aload_n hx hb dX9_bodyMay_100 rfl (lv_at hl 0 rfl) ?_
          refine va_get (D := (dC, dI)) (own := RX9) (ref := "ReflectModelsModel") (index := 128) (ci := 8) (v := .int 0) (C := RX9) (T := TX9) (N := 42) hx hb hts inX9_bodyMay_9 hown hK hP 0 rfl rfl 10 (by decide) (hts (.fieldLink RX9 128 "ReflectModelsModel" "members" "I") (by decide +kernel)) (fun _ h9 => h9) rfl dX9_bodyMay_101 ?_
          refine lv_iconst (v := 1) hx hb dX9_bodyMay_104 (by decide) ?_
          refine lv_isub hx hb dX9_bodyMay_105 ?_
          refine lv_topi (fun y11 ey11 => ?_)
          obtain rfl : y11 = (-1) := ey11.trans (by decide)
          refine lv_i2l (v := (-1)) hx hb dX9_bodyMay_106 (by decide) ?_
          refine clR (va_runS (As := [.long a6.toInt64, .long 0, .long (-1)]) (rest := []) ⟨hx, hb, hml, hown, hts⟩ (c9_in l dC dI a6.toInt64 0 (-1) a6.toInt 0 (-1) _ (i2L _) (by decide) (by decide)) (va_cwS 3 hts gX9_bodyMay_X9_in rfl rfl rfl (by decide +kernel) ⟨Nat.le_of_ble_eq_true rfl, Nat.le_of_ble_eq_true rfl⟩) ⟨pz_blind, pz_of hP hK hD hN [] [] rfl (by decide) rfl⟩ rfl rfl hl.1 rfl (lv_room (Nat.le_of_ble_eq_true rfl)) dX9_bodyMay_107 ⟨Nat.le_of_ble_eq_true rfl, Nat.le_of_ble_eq_true rfl⟩) hS hP (fun v H locs w14 hP hS => ?_)
          rcases w14 with ⟨rfl, u12⟩ | ⟨rfl, u13⟩
          · refine W.eq (g2 := F0 m 110 ls [.int 1]) rfl ?_
            exfalso; first | omega | (have kq := kz; omega)
          · refine W.eq (g2 := F0 m 110 ls [.int 0]) rfl ?_
            refine lv_if_eq (tgt := 137) hx hb dX9_bodyMay_110 (by decide) (fun _ => ?_) (fun h => absurd (by decide) h)
            refine lv_iconst (v := 0) hx hb dX9_bodyMay_137 (by decide) ?_
            exact W.zret (v := 0) (ty := .boolean) hx hb hr rfl (fun t ht hW => ⟨⟨(some (.int 0)), rfl, (by first | exact Or.inr (⟨rfl, (by first | omega | (have kq := kz; omega) | decide)⟩))⟩, hS.F ht⟩) hS.2.2 dX9_bodyMay_138
    · refine lv_tableIn (tgt := 139) (off := 137) hx hb dX9_bodyMay_2 (by decide) (by decide) (by decide) (by decide) ?_
      refine lv_iload_n hx hb dX9_bodyMay_139 rfl (lv_at hl 1 rfl) ?_
      refine lv_if_le (tgt := 152) hx hb dX9_bodyMay_140 (by decide) (fun c15 => ?_) (fun c15 => ?_)
      · have ic15 : a1.toInt ≤ 0 := ile2 rfl (by decide) c15
        refine lv_iconst (v := 0) hx hb dX9_bodyMay_152 (by decide) ?_
        exact W.zret (v := 0) (ty := .boolean) hx hb hr rfl (fun t ht hW => ⟨⟨(some (.int 0)), rfl, (by first | exact Or.inr (⟨rfl, (by first | omega | (have kq := kz; omega) | decide)⟩))⟩, hS.F ht⟩) hS.2.2 dX9_bodyMay_153
      · have ic15 : 0 < a1.toInt := inle2 rfl (by decide) c15
        refine lv_iload_n hx hb dX9_bodyMay_143 rfl (lv_at hl 2 rfl) ?_
        refine lv_iconst (v := (-1)) hx hb dX9_bodyMay_144 (by decide) ?_
        refine lv_icmp_ne (tgt := 152) hx hb dX9_bodyMay_145 (by decide) (fun c16 => ?_) (fun c16 => ?_)
        · have ic16 : a2.toInt ≠ (-1) := ine2 rfl (by decide) c16
          refine lv_iconst (v := 0) hx hb dX9_bodyMay_152 (by decide) ?_
          exact W.zret (v := 0) (ty := .boolean) hx hb hr rfl (fun t ht hW => ⟨⟨(some (.int 0)), rfl, (by first | exact Or.inr (⟨rfl, (by first | omega | (have kq := kz; omega) | decide)⟩))⟩, hS.F ht⟩) hS.2.2 dX9_bodyMay_153
        · have ic16 : a2.toInt = (-1) := ieq2 rfl (by decide) c16
          refine lv_iconst (v := 1) hx hb dX9_bodyMay_148 (by decide) ?_
          refine lv_goto (tgt := 153) hx hb dX9_bodyMay_149 (by decide) ?_
          exact W.zret (v := 1) (ty := .boolean) hx hb hr rfl (fun t ht hW => ⟨⟨(some (.int 1)), rfl, (by first | exact Or.inl ⟨rfl, (by first | omega | (have kq := kz; omega) | decide)⟩)⟩, hS.F ht⟩) hS.2.2 dX9_bodyMay_153
    · refine lv_tableIn (tgt := 167) (off := 165) hx hb dX9_bodyMay_2 (by decide) (by decide) (by decide) (by decide) ?_
      refine lv_iconst (v := 1) hx hb dX9_bodyMay_167 (by decide) ?_
      exact W.zret (v := 1) (ty := .boolean) hx hb hr rfl (fun t ht hW => ⟨⟨(some (.int 1)), rfl, (by first | exact Or.inl ⟨rfl, (by first | omega | (have kq := kz; omega) | decide)⟩)⟩, hS.F ht⟩) hS.2.2 dX9_bodyMay_168
    · refine lv_tableIn (tgt := 154) (off := 152) hx hb dX9_bodyMay_2 (by decide) (by decide) (by decide) (by decide) ?_
      refine lv_iload hx hb dX9_bodyMay_154 (lv_at hl 4 rfl) ?_
      refine lv_iconst (v := 1) hx hb dX9_bodyMay_156 (by decide) ?_
      refine lv_iand hx hb dX9_bodyMay_157 ?_
      refine lv_topi (fun y17 ey17 => ?_)
      obtain rfl : y17 = 0 := ey17.trans (by decide)
      refine lv_if_ne (tgt := 165) hx hb dX9_bodyMay_158 (by decide) (fun h => absurd h (by decide)) (fun _ => ?_)
      refine lv_iconst (v := 1) hx hb dX9_bodyMay_161 (by decide) ?_
      refine lv_goto (tgt := 166) hx hb dX9_bodyMay_162 (by decide) ?_
      exact W.zret (v := 1) (ty := .boolean) hx hb hr rfl (fun t ht hW => ⟨⟨(some (.int 1)), rfl, (by first | exact Or.inl ⟨rfl, (by first | omega | (have kq := kz; omega) | decide)⟩)⟩, hS.F ht⟩) hS.2.2 dX9_bodyMay_166
    · refine lv_tableIn (tgt := 65) (off := 63) hx hb dX9_bodyMay_2 (by decide) (by decide) (by decide) (by decide) ?_
      refine lv_iload_n hx hb dX9_bodyMay_65 rfl (lv_at hl 1 rfl) ?_
      refine lv_if_le (tgt := 86) hx hb dX9_bodyMay_66 (by decide) (fun c18 => ?_) (fun c18 => ?_)
      · have ic18 : a1.toInt ≤ 0 := ile2 rfl (by decide) c18
        refine lv_iconst (v := 0) hx hb dX9_bodyMay_86 (by decide) ?_
        exact W.zret (v := 0) (ty := .boolean) hx hb hr rfl (fun t ht hW => ⟨⟨(some (.int 0)), rfl, (by first | exact Or.inr (⟨rfl, (by first | omega | (have kq := kz; omega) | decide)⟩))⟩, hS.F ht⟩) hS.2.2 dX9_bodyMay_87
      · have ic18 : 0 < a1.toInt := inle2 rfl (by decide) c18
        refine lv_iload_n hx hb dX9_bodyMay_69 rfl (lv_at hl 2 rfl) ?_
        refine lv_if_lt (tgt := 86) hx hb dX9_bodyMay_70 (by decide) (fun c19 => ?_) (fun c19 => ?_)
        · have ic19 : a2.toInt < 0 := il2 rfl (by decide) c19
          refine lv_iconst (v := 0) hx hb dX9_bodyMay_86 (by decide) ?_
          exact W.zret (v := 0) (ty := .boolean) hx hb hr rfl (fun t ht hW => ⟨⟨(some (.int 0)), rfl, (by first | exact Or.inr (⟨rfl, (by first | omega | (have kq := kz; omega) | decide)⟩))⟩, hS.F ht⟩) hS.2.2 dX9_bodyMay_87
        · have ic19 : 0 ≤ a2.toInt := inl2 rfl (by decide) c19
          refine lv_aload_n hx hb dX9_bodyMay_73 rfl (lv_at hl 0 rfl) ?_
          refine lv_iload hx hb dX9_bodyMay_74 (lv_at hl 6 rfl) ?_
          refine clR (va_runV (As := [.int a6]) (rest := []) ⟨hx, hb, hml, hown, hts⟩ (c9_isClass l dC dI h0 q a6 _) (cwV 1 hts gX9_bodyMay_X9_isClass rfl rfl rfl (by decide +kernel) ⟨Nat.le_of_ble_eq_true rfl, Nat.le_of_ble_eq_true rfl⟩) ⟨pz_blind, va_recv hK hP (ci := 8) (q0 := 0) rfl rfl, pz_of hP hK hD hN [0] [] rfl (by decide) rfl⟩ rfl rfl hl.1 rfl (lv_room (Nat.le_of_ble_eq_true rfl)) dX9_bodyMay_76 ⟨Nat.le_of_ble_eq_true rfl, Nat.le_of_ble_eq_true rfl⟩) hS hP (fun v H locs w21 hP hS => ?_)
          rcases w21 with ⟨rfl, rfl⟩ | ⟨rfl, u20⟩
          · refine W.eq (g2 := F0 m 79 ls [.int 1]) rfl ?_
            refine lv_if_eq (tgt := 86) hx hb dX9_bodyMay_79 (by decide) (fun h => absurd h (by decide)) (fun _ => ?_)
            refine lv_iconst (v := 1) hx hb dX9_bodyMay_82 (by decide) ?_
            refine lv_goto (tgt := 87) hx hb dX9_bodyMay_83 (by decide) ?_
            exact W.zret (v := 1) (ty := .boolean) hx hb hr rfl (fun t ht hW => ⟨⟨(some (.int 1)), rfl, (by first | exact Or.inl ⟨rfl, (by first | omega | (have kq := kz; omega) | decide)⟩)⟩, hS.F ht⟩) hS.2.2 dX9_bodyMay_87
          · refine W.eq (g2 := F0 m 79 ls [.int 0]) rfl ?_
            refine lv_if_eq (tgt := 86) hx hb dX9_bodyMay_79 (by decide) (fun _ => ?_) (fun h => absurd (by decide) h)
            refine lv_iconst (v := 0) hx hb dX9_bodyMay_86 (by decide) ?_
            exact W.zret (v := 0) (ty := .boolean) hx hb hr rfl (fun t ht hW => ⟨⟨(some (.int 0)), rfl, (by first | exact Or.inr (⟨rfl, (by first | omega | (have kq := kz; omega) | decide)⟩))⟩, hS.F ht⟩) hS.2.2 dX9_bodyMay_87

set_option maxHeartbeats 4000000 in
set_option maxRecDepth 100000 in
theorem c9_bodyMay1 (l : Launch) (dC : Nat → ClassId) (dI : Nat → Nat → Nat) (h0 : Nat) (q : Nat → Nat) (a1 a2 a3 a5 a6 : Int32) (sz : Nat)  : Met l yX9_bodyMay wsX9_bodyMay ({ frames := 2, cells := 0, slots := 0, locals := 46 }) (va_Pc [.ref h0, .int a1, .int a2, .int a3, .int 1, .int a5, .int a6] (pz (dC, dI) [] [(h0, .inr (8, [.int 0, .int 1, .ref (q 0), .ref (q 1), .ref (q 2), .ref (q 3), .ref (q 4), .ref (q 5), .ref (q 6), .ref (q 7), .int 0, .ref (q 8), .ref (q 9), .ref (q 10), .ref (q 11), .ref (q 12), .ref (q 13), .ref (q 14), .ref (q 15), .ref (q 16), .ref (q 17), .ref (q 18), .ref (q 19), .int 0, .int 0, .ref (q 20), .ref (q 21), .int 0, .ref (q 22), .ref (q 23), .ref (q 24), .ref (q 25), .ref (q 26), .ref (q 27), .int 0, .ref (q 28), .ref (q 29), .int 0, .long 0, .int 0, .int 0, .ref (q 30)]))] sz)) (qR (fun v => (v = some (.int 1) ∧ ((a5.toInt = 1 ∧ a1.toInt = 2 ∧ a2.toInt = -1 ∧ a3.toInt = -1) ∨ ((a5.toInt = 2 ∨ a5.toInt = 7) ∧ 0 < a1.toInt ∧ 0 ≤ a2.toInt ∧ a6.toInt = 0) ∨ (a5.toInt = 4 ∧ 0 < a1.toInt ∧ a2.toInt = -1) ∨ a5.toInt = 5 ∨ a5.toInt < 1 ∨ 7 < a5.toInt)) ∨ (v = some (.int 0) ∧ ((a5.toInt = 1 ∧ (a1.toInt ≠ 2 ∨ a2.toInt ≠ -1 ∨ a3.toInt ≠ -1)) ∨ ((a5.toInt = 2 ∨ a5.toInt = 7) ∧ (a1.toInt ≤ 0 ∨ a2.toInt < 0 ∨ a6.toInt ≠ 0)) ∨ a5.toInt = 3 ∨ (a5.toInt = 4 ∧ (a1.toInt ≤ 0 ∨ a2.toInt ≠ -1)) ∨ a5.toInt = 6)))) 0 0 nA := by
  refine Met.ofW (cc := cX9_bodyMay) (maxL := 7) (ret := (some .boolean)) (by decide) rfl ?_
  intro p e s m args below meth c s₁ B hml hv
  obtain ⟨rfl, hsz, hP, hK, hD, hN⟩ := hv
  have hx := B.exec
  have hb := B.bytes
  have hr := B.returns
  have hts := atoms_spec (ws := wsX9_bodyMay) B.pre
  have hown : s.vm.findClass RX9 = some m.cls := findClass_of_methodNamed B.named
  have hlocks := B.notSynchronized
  subst hsz
  have hS : va_S nA s.heap s.heap [] := va_S.rf
  have hl := lv_entry ([.ref h0, .int a1, .int a2, .int a3, .int 1, .int a5, .int a6]) (n := 7) (Nat.le_of_ble_eq_true rfl)
  rw [lg_entry_eq]
  generalize (lg_sl ([.ref h0, .int a1, .int a2, .int a3, .int 1, .int a5, .int a6]) ++ List.replicate (7 - (lg_sl ([.ref h0, .int a1, .int a2, .int a3, .int 1, .int a5, .int a6])).length) Slot.unset).toArray = ls at hl ⊢
  have hl : lv_has ls 7 [(0, .ref h0), (1, .int a1), (2, .int a2), (3, .int a3), (4, .int 1), (5, .int a5), (6, .int a6)] := hl
  refine lv_iload hx hb dX9_bodyMay_0 (lv_at hl 5 rfl) ?_
  by_cases h1 : a5.toInt < 1 ∨ 7 < a5.toInt
  · refine lv_tableOut (tgt := 167) hx hb dX9_bodyMay_2 h1 (by decide) ?_
    refine lv_iconst (v := 1) hx hb dX9_bodyMay_167 (by decide) ?_
    exact W.zret (v := 1) (ty := .boolean) hx hb hr rfl (fun t ht hW => ⟨⟨(some (.int 1)), rfl, (by first | exact Or.inl ⟨rfl, (by first | omega | (have kq := kz; omega) | decide)⟩)⟩, hS.F ht⟩) hS.2.2 dX9_bodyMay_168
  · have gh1 : a5 = 1 ∨ a5 = 2 ∨ a5 = 3 ∨ a5 = 4 ∨ a5 = 5 ∨ a5 = 6 ∨ a5 = 7 := tw_1_7 (by omega) (by omega)
    rcases gh1 with rfl | rfl | rfl | rfl | rfl | rfl | rfl
    · refine lv_tableIn (tgt := 44) (off := 42) hx hb dX9_bodyMay_2 (by decide) (by decide) (by decide) (by decide) ?_
      refine lv_iload_n hx hb dX9_bodyMay_44 rfl (lv_at hl 1 rfl) ?_
      refine lv_iconst (v := 2) hx hb dX9_bodyMay_45 (by decide) ?_
      refine lv_icmp_ne (tgt := 63) hx hb dX9_bodyMay_46 (by decide) (fun c2 => ?_) (fun c2 => ?_)
      · have ic2 : a1.toInt ≠ 2 := ine2 rfl (by decide) c2
        refine lv_iconst (v := 0) hx hb dX9_bodyMay_63 (by decide) ?_
        exact W.zret (v := 0) (ty := .boolean) hx hb hr rfl (fun t ht hW => ⟨⟨(some (.int 0)), rfl, (by first | exact Or.inr (⟨rfl, (by first | omega | (have kq := kz; omega) | decide)⟩))⟩, hS.F ht⟩) hS.2.2 dX9_bodyMay_64
      · have ic2 : a1.toInt = 2 := ieq2 rfl (by decide) c2
        refine lv_iload_n hx hb dX9_bodyMay_49 rfl (lv_at hl 2 rfl) ?_
        refine lv_iconst (v := (-1)) hx hb dX9_bodyMay_50 (by decide) ?_
        refine lv_icmp_ne (tgt := 63) hx hb dX9_bodyMay_51 (by decide) (fun c3 => ?_) (fun c3 => ?_)
        · have ic3 : a2.toInt ≠ (-1) := ine2 rfl (by decide) c3
          refine lv_iconst (v := 0) hx hb dX9_bodyMay_63 (by decide) ?_
          exact W.zret (v := 0) (ty := .boolean) hx hb hr rfl (fun t ht hW => ⟨⟨(some (.int 0)), rfl, (by first | exact Or.inr (⟨rfl, (by first | omega | (have kq := kz; omega) | decide)⟩))⟩, hS.F ht⟩) hS.2.2 dX9_bodyMay_64
        · have ic3 : a2.toInt = (-1) := ieq2 rfl (by decide) c3
          refine lv_iload_n hx hb dX9_bodyMay_54 rfl (lv_at hl 3 rfl) ?_
          refine lv_iconst (v := (-1)) hx hb dX9_bodyMay_55 (by decide) ?_
          refine lv_icmp_ne (tgt := 63) hx hb dX9_bodyMay_56 (by decide) (fun c4 => ?_) (fun c4 => ?_)
          · have ic4 : a3.toInt ≠ (-1) := ine2 rfl (by decide) c4
            refine lv_iconst (v := 0) hx hb dX9_bodyMay_63 (by decide) ?_
            exact W.zret (v := 0) (ty := .boolean) hx hb hr rfl (fun t ht hW => ⟨⟨(some (.int 0)), rfl, (by first | exact Or.inr (⟨rfl, (by first | omega | (have kq := kz; omega) | decide)⟩))⟩, hS.F ht⟩) hS.2.2 dX9_bodyMay_64
          · have ic4 : a3.toInt = (-1) := ieq2 rfl (by decide) c4
            refine lv_iconst (v := 1) hx hb dX9_bodyMay_59 (by decide) ?_
            refine lv_goto (tgt := 64) hx hb dX9_bodyMay_60 (by decide) ?_
            exact W.zret (v := 1) (ty := .boolean) hx hb hr rfl (fun t ht hW => ⟨⟨(some (.int 1)), rfl, (by first | exact Or.inl ⟨rfl, (by first | omega | (have kq := kz; omega) | decide)⟩)⟩, hS.F ht⟩) hS.2.2 dX9_bodyMay_64
    · refine lv_tableIn (tgt := 65) (off := 63) hx hb dX9_bodyMay_2 (by decide) (by decide) (by decide) (by decide) ?_
      refine lv_iload_n hx hb dX9_bodyMay_65 rfl (lv_at hl 1 rfl) ?_
      refine lv_if_le (tgt := 86) hx hb dX9_bodyMay_66 (by decide) (fun c5 => ?_) (fun c5 => ?_)
      · have ic5 : a1.toInt ≤ 0 := ile2 rfl (by decide) c5
        refine lv_iconst (v := 0) hx hb dX9_bodyMay_86 (by decide) ?_
        exact W.zret (v := 0) (ty := .boolean) hx hb hr rfl (fun t ht hW => ⟨⟨(some (.int 0)), rfl, (by first | exact Or.inr (⟨rfl, (by first | omega | (have kq := kz; omega) | decide)⟩))⟩, hS.F ht⟩) hS.2.2 dX9_bodyMay_87
      · have ic5 : 0 < a1.toInt := inle2 rfl (by decide) c5
        refine lv_iload_n hx hb dX9_bodyMay_69 rfl (lv_at hl 2 rfl) ?_
        refine lv_if_lt (tgt := 86) hx hb dX9_bodyMay_70 (by decide) (fun c6 => ?_) (fun c6 => ?_)
        · have ic6 : a2.toInt < 0 := il2 rfl (by decide) c6
          refine lv_iconst (v := 0) hx hb dX9_bodyMay_86 (by decide) ?_
          exact W.zret (v := 0) (ty := .boolean) hx hb hr rfl (fun t ht hW => ⟨⟨(some (.int 0)), rfl, (by first | exact Or.inr (⟨rfl, (by first | omega | (have kq := kz; omega) | decide)⟩))⟩, hS.F ht⟩) hS.2.2 dX9_bodyMay_87
        · have ic6 : 0 ≤ a2.toInt := inl2 rfl (by decide) c6
          refine lv_aload_n hx hb dX9_bodyMay_73 rfl (lv_at hl 0 rfl) ?_
          refine lv_iload hx hb dX9_bodyMay_74 (lv_at hl 6 rfl) ?_
          refine clR (va_runV (As := [.int a6]) (rest := []) ⟨hx, hb, hml, hown, hts⟩ (c9_isClass l dC dI h0 q a6 _) (cwV 1 hts gX9_bodyMay_X9_isClass rfl rfl rfl (by decide +kernel) ⟨Nat.le_of_ble_eq_true rfl, Nat.le_of_ble_eq_true rfl⟩) ⟨pz_blind, va_recv hK hP (ci := 8) (q0 := 0) rfl rfl, pz_of hP hK hD hN [0] [] rfl (by decide) rfl⟩ rfl rfl hl.1 rfl (lv_room (Nat.le_of_ble_eq_true rfl)) dX9_bodyMay_76 ⟨Nat.le_of_ble_eq_true rfl, Nat.le_of_ble_eq_true rfl⟩) hS hP (fun v H locs w8 hP hS => ?_)
          rcases w8 with ⟨rfl, rfl⟩ | ⟨rfl, u7⟩
          · refine W.eq (g2 := F0 m 79 ls [.int 1]) rfl ?_
            refine lv_if_eq (tgt := 86) hx hb dX9_bodyMay_79 (by decide) (fun h => absurd h (by decide)) (fun _ => ?_)
            refine lv_iconst (v := 1) hx hb dX9_bodyMay_82 (by decide) ?_
            refine lv_goto (tgt := 87) hx hb dX9_bodyMay_83 (by decide) ?_
            exact W.zret (v := 1) (ty := .boolean) hx hb hr rfl (fun t ht hW => ⟨⟨(some (.int 1)), rfl, (by first | exact Or.inl ⟨rfl, (by first | omega | (have kq := kz; omega) | decide)⟩)⟩, hS.F ht⟩) hS.2.2 dX9_bodyMay_87
          · refine W.eq (g2 := F0 m 79 ls [.int 0]) rfl ?_
            refine lv_if_eq (tgt := 86) hx hb dX9_bodyMay_79 (by decide) (fun _ => ?_) (fun h => absurd (by decide) h)
            refine lv_iconst (v := 0) hx hb dX9_bodyMay_86 (by decide) ?_
            exact W.zret (v := 0) (ty := .boolean) hx hb hr rfl (fun t ht hW => ⟨⟨(some (.int 0)), rfl, (by first | exact Or.inr (⟨rfl, (by first | omega | (have kq := kz; omega) | decide)⟩))⟩, hS.F ht⟩) hS.2.2 dX9_bodyMay_87
    · refine lv_tableIn (tgt := 88) (off := 86) hx hb dX9_bodyMay_2 (by decide) (by decide) (by decide) (by decide) ?_
      refine lv_iload_n hx hb dX9_bodyMay_88 rfl (lv_at hl 1 rfl) ?_
      refine lv_if_le (tgt := 137) hx hb dX9_bodyMay_89 (by decide) (fun c9 => ?_) (fun c9 => ?_)
      · have ic9 : a1.toInt ≤ 0 := ile2 rfl (by decide) c9
        refine lv_iconst (v := 0) hx hb dX9_bodyMay_137 (by decide) ?_
        exact W.zret (v := 0) (ty := .boolean) hx hb hr rfl (fun t ht hW => ⟨⟨(some (.int 0)), rfl, (by first | exact Or.inr (⟨rfl, (by first | omega | (have kq := kz; omega) | decide)⟩))⟩, hS.F ht⟩) hS.2.2 dX9_bodyMay_138
      · have ic9 : 0 < a1.toInt := inle2 rfl (by decide) c9
        refine lv_iload_n hx hb dX9_bodyMay_92 rfl (lv_at hl 2 rfl) ?_
        refine lv_if_lt (tgt := 137) hx hb dX9_bodyMay_93 (by decide) (fun c10 => ?_) (fun c10 => ?_)
        · have ic10 : a2.toInt < 0 := il2 rfl (by decide) c10
          refine lv_iconst (v := 0) hx hb dX9_bodyMay_137 (by decide) ?_
          exact W.zret (v := 0) (ty := .boolean) hx hb hr rfl (fun t ht hW => ⟨⟨(some (.int 0)), rfl, (by first | exact Or.inr (⟨rfl, (by first | omega | (have kq := kz; omega) | decide)⟩))⟩, hS.F ht⟩) hS.2.2 dX9_bodyMay_138
        · have ic10 : 0 ≤ a2.toInt := inl2 rfl (by decide) c10
          refine lv_iload hx hb dX9_bodyMay_96 (lv_at hl 6 rfl) ?_
          refine lv_i2l (v := a6.toInt64) hx hb dX9_bodyMay_98 rfl ?_
          refine lv_lconst (v := 0) hx hb dX9_bodyMay_99 (by decide) ?_
          refine lv_aload_n hx hb dX9_bodyMay_100 rfl (lv_at hl 0 rfl) ?_
          refine va_get (D := (dC, dI)) (own := RX9) (ref := "ReflectModelsModel") (index := 128) (ci := 8) (v := .int 0) (C := RX9) (T := TX9) (N := 42) hx hb hts inX9_bodyMay_9 hown hK hP 0 rfl rfl 10 (by decide) (hts (.fieldLink RX9 128 "ReflectModelsModel" "members" "I") (by decide +kernel)) (fun _ h9 => h9) rfl dX9_bodyMay_101 ?_
          refine lv_iconst (v := 1) hx hb dX9_bodyMay_104 (by decide) ?_
          refine lv_isub hx hb dX9_bodyMay_105 ?_
          refine lv_topi (fun y11 ey11 => ?_)
          obtain rfl : y11 = (-1) := ey11.trans (by decide)
          refine lv_i2l (v := (-1)) hx hb dX9_bodyMay_106 (by decide) ?_
          refine clR (va_runS (As := [.long a6.toInt64, .long 0, .long (-1)]) (rest := []) ⟨hx, hb, hml, hown, hts⟩ (c9_in l dC dI a6.toInt64 0 (-1) a6.toInt 0 (-1) _ (i2L _) (by decide) (by decide)) (va_cwS 3 hts gX9_bodyMay_X9_in rfl rfl rfl (by decide +kernel) ⟨Nat.le_of_ble_eq_true rfl, Nat.le_of_ble_eq_true rfl⟩) ⟨pz_blind, pz_of hP hK hD hN [] [] rfl (by decide) rfl⟩ rfl rfl hl.1 rfl (lv_room (Nat.le_of_ble_eq_true rfl)) dX9_bodyMay_107 ⟨Nat.le_of_ble_eq_true rfl, Nat.le_of_ble_eq_true rfl⟩) hS hP (fun v H locs w14 hP hS => ?_)
          rcases w14 with ⟨rfl, u12⟩ | ⟨rfl, u13⟩
          · refine W.eq (g2 := F0 m 110 ls [.int 1]) rfl ?_
            exfalso; first | omega | (have kq := kz; omega)
          · refine W.eq (g2 := F0 m 110 ls [.int 0]) rfl ?_
            refine lv_if_eq (tgt := 137) hx hb dX9_bodyMay_110 (by decide) (fun _ => ?_) (fun h => absurd (by decide) h)
            refine lv_iconst (v := 0) hx hb dX9_bodyMay_137 (by decide) ?_
            exact W.zret (v := 0) (ty := .boolean) hx hb hr rfl (fun t ht hW => ⟨⟨(some (.int 0)), rfl, (by first | exact Or.inr (⟨rfl, (by first | omega | (have kq := kz; omega) | decide)⟩))⟩, hS.F ht⟩) hS.2.2 dX9_bodyMay_138
    · refine lv_tableIn (tgt := 139) (off := 137) hx hb dX9_bodyMay_2 (by decide) (by decide) (by decide) (by decide) ?_
      refine lv_iload_n hx hb dX9_bodyMay_139 rfl (lv_at hl 1 rfl) ?_
      refine lv_if_le (tgt := 152) hx hb dX9_bodyMay_140 (by decide) (fun c15 => ?_) (fun c15 => ?_)
      · have ic15 : a1.toInt ≤ 0 := ile2 rfl (by decide) c15
        refine lv_iconst (v := 0) hx hb dX9_bodyMay_152 (by decide) ?_
        exact W.zret (v := 0) (ty := .boolean) hx hb hr rfl (fun t ht hW => ⟨⟨(some (.int 0)), rfl, (by first | exact Or.inr (⟨rfl, (by first | omega | (have kq := kz; omega) | decide)⟩))⟩, hS.F ht⟩) hS.2.2 dX9_bodyMay_153
      · have ic15 : 0 < a1.toInt := inle2 rfl (by decide) c15
        refine lv_iload_n hx hb dX9_bodyMay_143 rfl (lv_at hl 2 rfl) ?_
        refine lv_iconst (v := (-1)) hx hb dX9_bodyMay_144 (by decide) ?_
        refine lv_icmp_ne (tgt := 152) hx hb dX9_bodyMay_145 (by decide) (fun c16 => ?_) (fun c16 => ?_)
        · have ic16 : a2.toInt ≠ (-1) := ine2 rfl (by decide) c16
          refine lv_iconst (v := 0) hx hb dX9_bodyMay_152 (by decide) ?_
          exact W.zret (v := 0) (ty := .boolean) hx hb hr rfl (fun t ht hW => ⟨⟨(some (.int 0)), rfl, (by first | exact Or.inr (⟨rfl, (by first | omega | (have kq := kz; omega) | decide)⟩))⟩, hS.F ht⟩) hS.2.2 dX9_bodyMay_153
        · have ic16 : a2.toInt = (-1) := ieq2 rfl (by decide) c16
          refine lv_iconst (v := 1) hx hb dX9_bodyMay_148 (by decide) ?_
          refine lv_goto (tgt := 153) hx hb dX9_bodyMay_149 (by decide) ?_
          exact W.zret (v := 1) (ty := .boolean) hx hb hr rfl (fun t ht hW => ⟨⟨(some (.int 1)), rfl, (by first | exact Or.inl ⟨rfl, (by first | omega | (have kq := kz; omega) | decide)⟩)⟩, hS.F ht⟩) hS.2.2 dX9_bodyMay_153
    · refine lv_tableIn (tgt := 167) (off := 165) hx hb dX9_bodyMay_2 (by decide) (by decide) (by decide) (by decide) ?_
      refine lv_iconst (v := 1) hx hb dX9_bodyMay_167 (by decide) ?_
      exact W.zret (v := 1) (ty := .boolean) hx hb hr rfl (fun t ht hW => ⟨⟨(some (.int 1)), rfl, (by first | exact Or.inl ⟨rfl, (by first | omega | (have kq := kz; omega) | decide)⟩)⟩, hS.F ht⟩) hS.2.2 dX9_bodyMay_168
    · refine lv_tableIn (tgt := 154) (off := 152) hx hb dX9_bodyMay_2 (by decide) (by decide) (by decide) (by decide) ?_
      refine lv_iload hx hb dX9_bodyMay_154 (lv_at hl 4 rfl) ?_
      refine lv_iconst (v := 1) hx hb dX9_bodyMay_156 (by decide) ?_
      refine lv_iand hx hb dX9_bodyMay_157 ?_
      refine lv_topi (fun y17 ey17 => ?_)
      obtain rfl : y17 = 1 := ey17.trans (by decide)
      refine lv_if_ne (tgt := 165) hx hb dX9_bodyMay_158 (by decide) (fun _ => ?_) (fun h => absurd h (by decide))
      refine lv_iconst (v := 0) hx hb dX9_bodyMay_165 (by decide) ?_
      exact W.zret (v := 0) (ty := .boolean) hx hb hr rfl (fun t ht hW => ⟨⟨(some (.int 0)), rfl, (by first | exact Or.inr (⟨rfl, (by first | omega | (have kq := kz; omega) | decide)⟩))⟩, hS.F ht⟩) hS.2.2 dX9_bodyMay_166
    · refine lv_tableIn (tgt := 65) (off := 63) hx hb dX9_bodyMay_2 (by decide) (by decide) (by decide) (by decide) ?_
      refine lv_iload_n hx hb dX9_bodyMay_65 rfl (lv_at hl 1 rfl) ?_
      refine lv_if_le (tgt := 86) hx hb dX9_bodyMay_66 (by decide) (fun c18 => ?_) (fun c18 => ?_)
      · have ic18 : a1.toInt ≤ 0 := ile2 rfl (by decide) c18
        refine lv_iconst (v := 0) hx hb dX9_bodyMay_86 (by decide) ?_
        exact W.zret (v := 0) (ty := .boolean) hx hb hr rfl (fun t ht hW => ⟨⟨(some (.int 0)), rfl, (by first | exact Or.inr (⟨rfl, (by first | omega | (have kq := kz; omega) | decide)⟩))⟩, hS.F ht⟩) hS.2.2 dX9_bodyMay_87
      · have ic18 : 0 < a1.toInt := inle2 rfl (by decide) c18
        refine lv_iload_n hx hb dX9_bodyMay_69 rfl (lv_at hl 2 rfl) ?_
        refine lv_if_lt (tgt := 86) hx hb dX9_bodyMay_70 (by decide) (fun c19 => ?_) (fun c19 => ?_)
        · have ic19 : a2.toInt < 0 := il2 rfl (by decide) c19
          refine lv_iconst (v := 0) hx hb dX9_bodyMay_86 (by decide) ?_
          exact W.zret (v := 0) (ty := .boolean) hx hb hr rfl (fun t ht hW => ⟨⟨(some (.int 0)), rfl, (by first | exact Or.inr (⟨rfl, (by first | omega | (have kq := kz; omega) | decide)⟩))⟩, hS.F ht⟩) hS.2.2 dX9_bodyMay_87
        · have ic19 : 0 ≤ a2.toInt := inl2 rfl (by decide) c19
          refine lv_aload_n hx hb dX9_bodyMay_73 rfl (lv_at hl 0 rfl) ?_
          refine lv_iload hx hb dX9_bodyMay_74 (lv_at hl 6 rfl) ?_
          refine clR (va_runV (As := [.int a6]) (rest := []) ⟨hx, hb, hml, hown, hts⟩ (c9_isClass l dC dI h0 q a6 _) (cwV 1 hts gX9_bodyMay_X9_isClass rfl rfl rfl (by decide +kernel) ⟨Nat.le_of_ble_eq_true rfl, Nat.le_of_ble_eq_true rfl⟩) ⟨pz_blind, va_recv hK hP (ci := 8) (q0 := 0) rfl rfl, pz_of hP hK hD hN [0] [] rfl (by decide) rfl⟩ rfl rfl hl.1 rfl (lv_room (Nat.le_of_ble_eq_true rfl)) dX9_bodyMay_76 ⟨Nat.le_of_ble_eq_true rfl, Nat.le_of_ble_eq_true rfl⟩) hS hP (fun v H locs w21 hP hS => ?_)
          rcases w21 with ⟨rfl, rfl⟩ | ⟨rfl, u20⟩
          · refine W.eq (g2 := F0 m 79 ls [.int 1]) rfl ?_
            refine lv_if_eq (tgt := 86) hx hb dX9_bodyMay_79 (by decide) (fun h => absurd h (by decide)) (fun _ => ?_)
            refine lv_iconst (v := 1) hx hb dX9_bodyMay_82 (by decide) ?_
            refine lv_goto (tgt := 87) hx hb dX9_bodyMay_83 (by decide) ?_
            exact W.zret (v := 1) (ty := .boolean) hx hb hr rfl (fun t ht hW => ⟨⟨(some (.int 1)), rfl, (by first | exact Or.inl ⟨rfl, (by first | omega | (have kq := kz; omega) | decide)⟩)⟩, hS.F ht⟩) hS.2.2 dX9_bodyMay_87
          · refine W.eq (g2 := F0 m 79 ls [.int 0]) rfl ?_
            refine lv_if_eq (tgt := 86) hx hb dX9_bodyMay_79 (by decide) (fun _ => ?_) (fun h => absurd (by decide) h)
            refine lv_iconst (v := 0) hx hb dX9_bodyMay_86 (by decide) ?_
            exact W.zret (v := 0) (ty := .boolean) hx hb hr rfl (fun t ht hW => ⟨⟨(some (.int 0)), rfl, (by first | exact Or.inr (⟨rfl, (by first | omega | (have kq := kz; omega) | decide)⟩))⟩, hS.F ht⟩) hS.2.2 dX9_bodyMay_87

set_option maxHeartbeats 4000000 in
set_option maxRecDepth 100000 in
theorem c9_bodyMay4 (l : Launch) (dC : Nat → ClassId) (dI : Nat → Nat → Nat) (h0 : Nat) (q : Nat → Nat) (a1 a2 a3 a5 a6 : Int32) (sz : Nat)  : Met l yX9_bodyMay wsX9_bodyMay ({ frames := 2, cells := 0, slots := 0, locals := 46 }) (va_Pc [.ref h0, .int a1, .int a2, .int a3, .int 4, .int a5, .int a6] (pz (dC, dI) [] [(h0, .inr (8, [.int 0, .int 1, .ref (q 0), .ref (q 1), .ref (q 2), .ref (q 3), .ref (q 4), .ref (q 5), .ref (q 6), .ref (q 7), .int 0, .ref (q 8), .ref (q 9), .ref (q 10), .ref (q 11), .ref (q 12), .ref (q 13), .ref (q 14), .ref (q 15), .ref (q 16), .ref (q 17), .ref (q 18), .ref (q 19), .int 0, .int 0, .ref (q 20), .ref (q 21), .int 0, .ref (q 22), .ref (q 23), .ref (q 24), .ref (q 25), .ref (q 26), .ref (q 27), .int 0, .ref (q 28), .ref (q 29), .int 0, .long 0, .int 0, .int 0, .ref (q 30)]))] sz)) (qR (fun v => (v = some (.int 1) ∧ ((a5.toInt = 1 ∧ a1.toInt = 2 ∧ a2.toInt = -1 ∧ a3.toInt = -1) ∨ ((a5.toInt = 2 ∨ a5.toInt = 7) ∧ 0 < a1.toInt ∧ 0 ≤ a2.toInt ∧ a6.toInt = 0) ∨ (a5.toInt = 4 ∧ 0 < a1.toInt ∧ a2.toInt = -1) ∨ a5.toInt = 6 ∨ a5.toInt = 5 ∨ a5.toInt < 1 ∨ 7 < a5.toInt)) ∨ (v = some (.int 0) ∧ ((a5.toInt = 1 ∧ (a1.toInt ≠ 2 ∨ a2.toInt ≠ -1 ∨ a3.toInt ≠ -1)) ∨ ((a5.toInt = 2 ∨ a5.toInt = 7) ∧ (a1.toInt ≤ 0 ∨ a2.toInt < 0 ∨ a6.toInt ≠ 0)) ∨ a5.toInt = 3 ∨ (a5.toInt = 4 ∧ (a1.toInt ≤ 0 ∨ a2.toInt ≠ -1)))))) 0 0 nA := by
  refine Met.ofW (cc := cX9_bodyMay) (maxL := 7) (ret := (some .boolean)) (by decide) rfl ?_
  intro p e s m args below meth c s₁ B hml hv
  obtain ⟨rfl, hsz, hP, hK, hD, hN⟩ := hv
  have hx := B.exec
  have hb := B.bytes
  have hr := B.returns
  have hts := atoms_spec (ws := wsX9_bodyMay) B.pre
  have hown : s.vm.findClass RX9 = some m.cls := findClass_of_methodNamed B.named
  have hlocks := B.notSynchronized
  subst hsz
  have hS : va_S nA s.heap s.heap [] := va_S.rf
  have hl := lv_entry ([.ref h0, .int a1, .int a2, .int a3, .int 4, .int a5, .int a6]) (n := 7) (Nat.le_of_ble_eq_true rfl)
  rw [lg_entry_eq]
  generalize (lg_sl ([.ref h0, .int a1, .int a2, .int a3, .int 4, .int a5, .int a6]) ++ List.replicate (7 - (lg_sl ([.ref h0, .int a1, .int a2, .int a3, .int 4, .int a5, .int a6])).length) Slot.unset).toArray = ls at hl ⊢
  have hl : lv_has ls 7 [(0, .ref h0), (1, .int a1), (2, .int a2), (3, .int a3), (4, .int 4), (5, .int a5), (6, .int a6)] := hl
  refine lv_iload hx hb dX9_bodyMay_0 (lv_at hl 5 rfl) ?_
  by_cases h1 : a5.toInt < 1 ∨ 7 < a5.toInt
  · refine lv_tableOut (tgt := 167) hx hb dX9_bodyMay_2 h1 (by decide) ?_
    refine lv_iconst (v := 1) hx hb dX9_bodyMay_167 (by decide) ?_
    exact W.zret (v := 1) (ty := .boolean) hx hb hr rfl (fun t ht hW => ⟨⟨(some (.int 1)), rfl, (by first | exact Or.inl ⟨rfl, (by first | omega | (have kq := kz; omega) | decide)⟩)⟩, hS.F ht⟩) hS.2.2 dX9_bodyMay_168
  · have gh1 : a5 = 1 ∨ a5 = 2 ∨ a5 = 3 ∨ a5 = 4 ∨ a5 = 5 ∨ a5 = 6 ∨ a5 = 7 := tw_1_7 (by omega) (by omega)
    rcases gh1 with rfl | rfl | rfl | rfl | rfl | rfl | rfl
    · refine lv_tableIn (tgt := 44) (off := 42) hx hb dX9_bodyMay_2 (by decide) (by decide) (by decide) (by decide) ?_
      refine lv_iload_n hx hb dX9_bodyMay_44 rfl (lv_at hl 1 rfl) ?_
      refine lv_iconst (v := 2) hx hb dX9_bodyMay_45 (by decide) ?_
      refine lv_icmp_ne (tgt := 63) hx hb dX9_bodyMay_46 (by decide) (fun c2 => ?_) (fun c2 => ?_)
      · have ic2 : a1.toInt ≠ 2 := ine2 rfl (by decide) c2
        refine lv_iconst (v := 0) hx hb dX9_bodyMay_63 (by decide) ?_
        exact W.zret (v := 0) (ty := .boolean) hx hb hr rfl (fun t ht hW => ⟨⟨(some (.int 0)), rfl, (by first | exact Or.inr (⟨rfl, (by first | omega | (have kq := kz; omega) | decide)⟩))⟩, hS.F ht⟩) hS.2.2 dX9_bodyMay_64
      · have ic2 : a1.toInt = 2 := ieq2 rfl (by decide) c2
        refine lv_iload_n hx hb dX9_bodyMay_49 rfl (lv_at hl 2 rfl) ?_
        refine lv_iconst (v := (-1)) hx hb dX9_bodyMay_50 (by decide) ?_
        refine lv_icmp_ne (tgt := 63) hx hb dX9_bodyMay_51 (by decide) (fun c3 => ?_) (fun c3 => ?_)
        · have ic3 : a2.toInt ≠ (-1) := ine2 rfl (by decide) c3
          refine lv_iconst (v := 0) hx hb dX9_bodyMay_63 (by decide) ?_
          exact W.zret (v := 0) (ty := .boolean) hx hb hr rfl (fun t ht hW => ⟨⟨(some (.int 0)), rfl, (by first | exact Or.inr (⟨rfl, (by first | omega | (have kq := kz; omega) | decide)⟩))⟩, hS.F ht⟩) hS.2.2 dX9_bodyMay_64
        · have ic3 : a2.toInt = (-1) := ieq2 rfl (by decide) c3
          refine lv_iload_n hx hb dX9_bodyMay_54 rfl (lv_at hl 3 rfl) ?_
          refine lv_iconst (v := (-1)) hx hb dX9_bodyMay_55 (by decide) ?_
          refine lv_icmp_ne (tgt := 63) hx hb dX9_bodyMay_56 (by decide) (fun c4 => ?_) (fun c4 => ?_)
          · have ic4 : a3.toInt ≠ (-1) := ine2 rfl (by decide) c4
            refine lv_iconst (v := 0) hx hb dX9_bodyMay_63 (by decide) ?_
            exact W.zret (v := 0) (ty := .boolean) hx hb hr rfl (fun t ht hW => ⟨⟨(some (.int 0)), rfl, (by first | exact Or.inr (⟨rfl, (by first | omega | (have kq := kz; omega) | decide)⟩))⟩, hS.F ht⟩) hS.2.2 dX9_bodyMay_64
          · have ic4 : a3.toInt = (-1) := ieq2 rfl (by decide) c4
            refine lv_iconst (v := 1) hx hb dX9_bodyMay_59 (by decide) ?_
            refine lv_goto (tgt := 64) hx hb dX9_bodyMay_60 (by decide) ?_
            exact W.zret (v := 1) (ty := .boolean) hx hb hr rfl (fun t ht hW => ⟨⟨(some (.int 1)), rfl, (by first | exact Or.inl ⟨rfl, (by first | omega | (have kq := kz; omega) | decide)⟩)⟩, hS.F ht⟩) hS.2.2 dX9_bodyMay_64
    · refine lv_tableIn (tgt := 65) (off := 63) hx hb dX9_bodyMay_2 (by decide) (by decide) (by decide) (by decide) ?_
      refine lv_iload_n hx hb dX9_bodyMay_65 rfl (lv_at hl 1 rfl) ?_
      refine lv_if_le (tgt := 86) hx hb dX9_bodyMay_66 (by decide) (fun c5 => ?_) (fun c5 => ?_)
      · have ic5 : a1.toInt ≤ 0 := ile2 rfl (by decide) c5
        refine lv_iconst (v := 0) hx hb dX9_bodyMay_86 (by decide) ?_
        exact W.zret (v := 0) (ty := .boolean) hx hb hr rfl (fun t ht hW => ⟨⟨(some (.int 0)), rfl, (by first | exact Or.inr (⟨rfl, (by first | omega | (have kq := kz; omega) | decide)⟩))⟩, hS.F ht⟩) hS.2.2 dX9_bodyMay_87
      · have ic5 : 0 < a1.toInt := inle2 rfl (by decide) c5
        refine lv_iload_n hx hb dX9_bodyMay_69 rfl (lv_at hl 2 rfl) ?_
        refine lv_if_lt (tgt := 86) hx hb dX9_bodyMay_70 (by decide) (fun c6 => ?_) (fun c6 => ?_)
        · have ic6 : a2.toInt < 0 := il2 rfl (by decide) c6
          refine lv_iconst (v := 0) hx hb dX9_bodyMay_86 (by decide) ?_
          exact W.zret (v := 0) (ty := .boolean) hx hb hr rfl (fun t ht hW => ⟨⟨(some (.int 0)), rfl, (by first | exact Or.inr (⟨rfl, (by first | omega | (have kq := kz; omega) | decide)⟩))⟩, hS.F ht⟩) hS.2.2 dX9_bodyMay_87
        · have ic6 : 0 ≤ a2.toInt := inl2 rfl (by decide) c6
          refine lv_aload_n hx hb dX9_bodyMay_73 rfl (lv_at hl 0 rfl) ?_
          refine lv_iload hx hb dX9_bodyMay_74 (lv_at hl 6 rfl) ?_
          refine clR (va_runV (As := [.int a6]) (rest := []) ⟨hx, hb, hml, hown, hts⟩ (c9_isClass l dC dI h0 q a6 _) (cwV 1 hts gX9_bodyMay_X9_isClass rfl rfl rfl (by decide +kernel) ⟨Nat.le_of_ble_eq_true rfl, Nat.le_of_ble_eq_true rfl⟩) ⟨pz_blind, va_recv hK hP (ci := 8) (q0 := 0) rfl rfl, pz_of hP hK hD hN [0] [] rfl (by decide) rfl⟩ rfl rfl hl.1 rfl (lv_room (Nat.le_of_ble_eq_true rfl)) dX9_bodyMay_76 ⟨Nat.le_of_ble_eq_true rfl, Nat.le_of_ble_eq_true rfl⟩) hS hP (fun v H locs w8 hP hS => ?_)
          rcases w8 with ⟨rfl, rfl⟩ | ⟨rfl, u7⟩
          · refine W.eq (g2 := F0 m 79 ls [.int 1]) rfl ?_
            refine lv_if_eq (tgt := 86) hx hb dX9_bodyMay_79 (by decide) (fun h => absurd h (by decide)) (fun _ => ?_)
            refine lv_iconst (v := 1) hx hb dX9_bodyMay_82 (by decide) ?_
            refine lv_goto (tgt := 87) hx hb dX9_bodyMay_83 (by decide) ?_
            exact W.zret (v := 1) (ty := .boolean) hx hb hr rfl (fun t ht hW => ⟨⟨(some (.int 1)), rfl, (by first | exact Or.inl ⟨rfl, (by first | omega | (have kq := kz; omega) | decide)⟩)⟩, hS.F ht⟩) hS.2.2 dX9_bodyMay_87
          · refine W.eq (g2 := F0 m 79 ls [.int 0]) rfl ?_
            refine lv_if_eq (tgt := 86) hx hb dX9_bodyMay_79 (by decide) (fun _ => ?_) (fun h => absurd (by decide) h)
            refine lv_iconst (v := 0) hx hb dX9_bodyMay_86 (by decide) ?_
            exact W.zret (v := 0) (ty := .boolean) hx hb hr rfl (fun t ht hW => ⟨⟨(some (.int 0)), rfl, (by first | exact Or.inr (⟨rfl, (by first | omega | (have kq := kz; omega) | decide)⟩))⟩, hS.F ht⟩) hS.2.2 dX9_bodyMay_87
    · refine lv_tableIn (tgt := 88) (off := 86) hx hb dX9_bodyMay_2 (by decide) (by decide) (by decide) (by decide) ?_
      refine lv_iload_n hx hb dX9_bodyMay_88 rfl (lv_at hl 1 rfl) ?_
      refine lv_if_le (tgt := 137) hx hb dX9_bodyMay_89 (by decide) (fun c9 => ?_) (fun c9 => ?_)
      · have ic9 : a1.toInt ≤ 0 := ile2 rfl (by decide) c9
        refine lv_iconst (v := 0) hx hb dX9_bodyMay_137 (by decide) ?_
        exact W.zret (v := 0) (ty := .boolean) hx hb hr rfl (fun t ht hW => ⟨⟨(some (.int 0)), rfl, (by first | exact Or.inr (⟨rfl, (by first | omega | (have kq := kz; omega) | decide)⟩))⟩, hS.F ht⟩) hS.2.2 dX9_bodyMay_138
      · have ic9 : 0 < a1.toInt := inle2 rfl (by decide) c9
        refine lv_iload_n hx hb dX9_bodyMay_92 rfl (lv_at hl 2 rfl) ?_
        refine lv_if_lt (tgt := 137) hx hb dX9_bodyMay_93 (by decide) (fun c10 => ?_) (fun c10 => ?_)
        · have ic10 : a2.toInt < 0 := il2 rfl (by decide) c10
          refine lv_iconst (v := 0) hx hb dX9_bodyMay_137 (by decide) ?_
          exact W.zret (v := 0) (ty := .boolean) hx hb hr rfl (fun t ht hW => ⟨⟨(some (.int 0)), rfl, (by first | exact Or.inr (⟨rfl, (by first | omega | (have kq := kz; omega) | decide)⟩))⟩, hS.F ht⟩) hS.2.2 dX9_bodyMay_138
        · have ic10 : 0 ≤ a2.toInt := inl2 rfl (by decide) c10
          refine lv_iload hx hb dX9_bodyMay_96 (lv_at hl 6 rfl) ?_
          refine lv_i2l (v := a6.toInt64) hx hb dX9_bodyMay_98 rfl ?_
          refine lv_lconst (v := 0) hx hb dX9_bodyMay_99 (by decide) ?_
          refine lv_aload_n hx hb dX9_bodyMay_100 rfl (lv_at hl 0 rfl) ?_
          refine va_get (D := (dC, dI)) (own := RX9) (ref := "ReflectModelsModel") (index := 128) (ci := 8) (v := .int 0) (C := RX9) (T := TX9) (N := 42) hx hb hts inX9_bodyMay_9 hown hK hP 0 rfl rfl 10 (by decide) (hts (.fieldLink RX9 128 "ReflectModelsModel" "members" "I") (by decide +kernel)) (fun _ h9 => h9) rfl dX9_bodyMay_101 ?_
          refine lv_iconst (v := 1) hx hb dX9_bodyMay_104 (by decide) ?_
          refine lv_isub hx hb dX9_bodyMay_105 ?_
          refine lv_topi (fun y11 ey11 => ?_)
          obtain rfl : y11 = (-1) := ey11.trans (by decide)
          refine lv_i2l (v := (-1)) hx hb dX9_bodyMay_106 (by decide) ?_
          refine clR (va_runS (As := [.long a6.toInt64, .long 0, .long (-1)]) (rest := []) ⟨hx, hb, hml, hown, hts⟩ (c9_in l dC dI a6.toInt64 0 (-1) a6.toInt 0 (-1) _ (i2L _) (by decide) (by decide)) (va_cwS 3 hts gX9_bodyMay_X9_in rfl rfl rfl (by decide +kernel) ⟨Nat.le_of_ble_eq_true rfl, Nat.le_of_ble_eq_true rfl⟩) ⟨pz_blind, pz_of hP hK hD hN [] [] rfl (by decide) rfl⟩ rfl rfl hl.1 rfl (lv_room (Nat.le_of_ble_eq_true rfl)) dX9_bodyMay_107 ⟨Nat.le_of_ble_eq_true rfl, Nat.le_of_ble_eq_true rfl⟩) hS hP (fun v H locs w14 hP hS => ?_)
          rcases w14 with ⟨rfl, u12⟩ | ⟨rfl, u13⟩
          · refine W.eq (g2 := F0 m 110 ls [.int 1]) rfl ?_
            exfalso; first | omega | (have kq := kz; omega)
          · refine W.eq (g2 := F0 m 110 ls [.int 0]) rfl ?_
            refine lv_if_eq (tgt := 137) hx hb dX9_bodyMay_110 (by decide) (fun _ => ?_) (fun h => absurd (by decide) h)
            refine lv_iconst (v := 0) hx hb dX9_bodyMay_137 (by decide) ?_
            exact W.zret (v := 0) (ty := .boolean) hx hb hr rfl (fun t ht hW => ⟨⟨(some (.int 0)), rfl, (by first | exact Or.inr (⟨rfl, (by first | omega | (have kq := kz; omega) | decide)⟩))⟩, hS.F ht⟩) hS.2.2 dX9_bodyMay_138
    · refine lv_tableIn (tgt := 139) (off := 137) hx hb dX9_bodyMay_2 (by decide) (by decide) (by decide) (by decide) ?_
      refine lv_iload_n hx hb dX9_bodyMay_139 rfl (lv_at hl 1 rfl) ?_
      refine lv_if_le (tgt := 152) hx hb dX9_bodyMay_140 (by decide) (fun c15 => ?_) (fun c15 => ?_)
      · have ic15 : a1.toInt ≤ 0 := ile2 rfl (by decide) c15
        refine lv_iconst (v := 0) hx hb dX9_bodyMay_152 (by decide) ?_
        exact W.zret (v := 0) (ty := .boolean) hx hb hr rfl (fun t ht hW => ⟨⟨(some (.int 0)), rfl, (by first | exact Or.inr (⟨rfl, (by first | omega | (have kq := kz; omega) | decide)⟩))⟩, hS.F ht⟩) hS.2.2 dX9_bodyMay_153
      · have ic15 : 0 < a1.toInt := inle2 rfl (by decide) c15
        refine lv_iload_n hx hb dX9_bodyMay_143 rfl (lv_at hl 2 rfl) ?_
        refine lv_iconst (v := (-1)) hx hb dX9_bodyMay_144 (by decide) ?_
        refine lv_icmp_ne (tgt := 152) hx hb dX9_bodyMay_145 (by decide) (fun c16 => ?_) (fun c16 => ?_)
        · have ic16 : a2.toInt ≠ (-1) := ine2 rfl (by decide) c16
          refine lv_iconst (v := 0) hx hb dX9_bodyMay_152 (by decide) ?_
          exact W.zret (v := 0) (ty := .boolean) hx hb hr rfl (fun t ht hW => ⟨⟨(some (.int 0)), rfl, (by first | exact Or.inr (⟨rfl, (by first | omega | (have kq := kz; omega) | decide)⟩))⟩, hS.F ht⟩) hS.2.2 dX9_bodyMay_153
        · have ic16 : a2.toInt = (-1) := ieq2 rfl (by decide) c16
          refine lv_iconst (v := 1) hx hb dX9_bodyMay_148 (by decide) ?_
          refine lv_goto (tgt := 153) hx hb dX9_bodyMay_149 (by decide) ?_
          exact W.zret (v := 1) (ty := .boolean) hx hb hr rfl (fun t ht hW => ⟨⟨(some (.int 1)), rfl, (by first | exact Or.inl ⟨rfl, (by first | omega | (have kq := kz; omega) | decide)⟩)⟩, hS.F ht⟩) hS.2.2 dX9_bodyMay_153
    · refine lv_tableIn (tgt := 167) (off := 165) hx hb dX9_bodyMay_2 (by decide) (by decide) (by decide) (by decide) ?_
      refine lv_iconst (v := 1) hx hb dX9_bodyMay_167 (by decide) ?_
      exact W.zret (v := 1) (ty := .boolean) hx hb hr rfl (fun t ht hW => ⟨⟨(some (.int 1)), rfl, (by first | exact Or.inl ⟨rfl, (by first | omega | (have kq := kz; omega) | decide)⟩)⟩, hS.F ht⟩) hS.2.2 dX9_bodyMay_168
    · refine lv_tableIn (tgt := 154) (off := 152) hx hb dX9_bodyMay_2 (by decide) (by decide) (by decide) (by decide) ?_
      refine lv_iload hx hb dX9_bodyMay_154 (lv_at hl 4 rfl) ?_
      refine lv_iconst (v := 1) hx hb dX9_bodyMay_156 (by decide) ?_
      refine lv_iand hx hb dX9_bodyMay_157 ?_
      refine lv_topi (fun y17 ey17 => ?_)
      obtain rfl : y17 = 0 := ey17.trans (by decide)
      refine lv_if_ne (tgt := 165) hx hb dX9_bodyMay_158 (by decide) (fun h => absurd h (by decide)) (fun _ => ?_)
      refine lv_iconst (v := 1) hx hb dX9_bodyMay_161 (by decide) ?_
      refine lv_goto (tgt := 166) hx hb dX9_bodyMay_162 (by decide) ?_
      exact W.zret (v := 1) (ty := .boolean) hx hb hr rfl (fun t ht hW => ⟨⟨(some (.int 1)), rfl, (by first | exact Or.inl ⟨rfl, (by first | omega | (have kq := kz; omega) | decide)⟩)⟩, hS.F ht⟩) hS.2.2 dX9_bodyMay_166
    · refine lv_tableIn (tgt := 65) (off := 63) hx hb dX9_bodyMay_2 (by decide) (by decide) (by decide) (by decide) ?_
      refine lv_iload_n hx hb dX9_bodyMay_65 rfl (lv_at hl 1 rfl) ?_
      refine lv_if_le (tgt := 86) hx hb dX9_bodyMay_66 (by decide) (fun c18 => ?_) (fun c18 => ?_)
      · have ic18 : a1.toInt ≤ 0 := ile2 rfl (by decide) c18
        refine lv_iconst (v := 0) hx hb dX9_bodyMay_86 (by decide) ?_
        exact W.zret (v := 0) (ty := .boolean) hx hb hr rfl (fun t ht hW => ⟨⟨(some (.int 0)), rfl, (by first | exact Or.inr (⟨rfl, (by first | omega | (have kq := kz; omega) | decide)⟩))⟩, hS.F ht⟩) hS.2.2 dX9_bodyMay_87
      · have ic18 : 0 < a1.toInt := inle2 rfl (by decide) c18
        refine lv_iload_n hx hb dX9_bodyMay_69 rfl (lv_at hl 2 rfl) ?_
        refine lv_if_lt (tgt := 86) hx hb dX9_bodyMay_70 (by decide) (fun c19 => ?_) (fun c19 => ?_)
        · have ic19 : a2.toInt < 0 := il2 rfl (by decide) c19
          refine lv_iconst (v := 0) hx hb dX9_bodyMay_86 (by decide) ?_
          exact W.zret (v := 0) (ty := .boolean) hx hb hr rfl (fun t ht hW => ⟨⟨(some (.int 0)), rfl, (by first | exact Or.inr (⟨rfl, (by first | omega | (have kq := kz; omega) | decide)⟩))⟩, hS.F ht⟩) hS.2.2 dX9_bodyMay_87
        · have ic19 : 0 ≤ a2.toInt := inl2 rfl (by decide) c19
          refine lv_aload_n hx hb dX9_bodyMay_73 rfl (lv_at hl 0 rfl) ?_
          refine lv_iload hx hb dX9_bodyMay_74 (lv_at hl 6 rfl) ?_
          refine clR (va_runV (As := [.int a6]) (rest := []) ⟨hx, hb, hml, hown, hts⟩ (c9_isClass l dC dI h0 q a6 _) (cwV 1 hts gX9_bodyMay_X9_isClass rfl rfl rfl (by decide +kernel) ⟨Nat.le_of_ble_eq_true rfl, Nat.le_of_ble_eq_true rfl⟩) ⟨pz_blind, va_recv hK hP (ci := 8) (q0 := 0) rfl rfl, pz_of hP hK hD hN [0] [] rfl (by decide) rfl⟩ rfl rfl hl.1 rfl (lv_room (Nat.le_of_ble_eq_true rfl)) dX9_bodyMay_76 ⟨Nat.le_of_ble_eq_true rfl, Nat.le_of_ble_eq_true rfl⟩) hS hP (fun v H locs w21 hP hS => ?_)
          rcases w21 with ⟨rfl, rfl⟩ | ⟨rfl, u20⟩
          · refine W.eq (g2 := F0 m 79 ls [.int 1]) rfl ?_
            refine lv_if_eq (tgt := 86) hx hb dX9_bodyMay_79 (by decide) (fun h => absurd h (by decide)) (fun _ => ?_)
            refine lv_iconst (v := 1) hx hb dX9_bodyMay_82 (by decide) ?_
            refine lv_goto (tgt := 87) hx hb dX9_bodyMay_83 (by decide) ?_
            exact W.zret (v := 1) (ty := .boolean) hx hb hr rfl (fun t ht hW => ⟨⟨(some (.int 1)), rfl, (by first | exact Or.inl ⟨rfl, (by first | omega | (have kq := kz; omega) | decide)⟩)⟩, hS.F ht⟩) hS.2.2 dX9_bodyMay_87
          · refine W.eq (g2 := F0 m 79 ls [.int 0]) rfl ?_
            refine lv_if_eq (tgt := 86) hx hb dX9_bodyMay_79 (by decide) (fun _ => ?_) (fun h => absurd (by decide) h)
            refine lv_iconst (v := 0) hx hb dX9_bodyMay_86 (by decide) ?_
            exact W.zret (v := 0) (ty := .boolean) hx hb hr rfl (fun t ht hW => ⟨⟨(some (.int 0)), rfl, (by first | exact Or.inr (⟨rfl, (by first | omega | (have kq := kz; omega) | decide)⟩))⟩, hS.F ht⟩) hS.2.2 dX9_bodyMay_87

set_option maxHeartbeats 4000000 in
set_option maxRecDepth 100000 in
theorem c9_bodyMay5 (l : Launch) (dC : Nat → ClassId) (dI : Nat → Nat → Nat) (h0 : Nat) (q : Nat → Nat) (a1 a2 a3 a5 a6 : Int32) (sz : Nat)  : Met l yX9_bodyMay wsX9_bodyMay ({ frames := 2, cells := 0, slots := 0, locals := 46 }) (va_Pc [.ref h0, .int a1, .int a2, .int a3, .int 5, .int a5, .int a6] (pz (dC, dI) [] [(h0, .inr (8, [.int 0, .int 1, .ref (q 0), .ref (q 1), .ref (q 2), .ref (q 3), .ref (q 4), .ref (q 5), .ref (q 6), .ref (q 7), .int 0, .ref (q 8), .ref (q 9), .ref (q 10), .ref (q 11), .ref (q 12), .ref (q 13), .ref (q 14), .ref (q 15), .ref (q 16), .ref (q 17), .ref (q 18), .ref (q 19), .int 0, .int 0, .ref (q 20), .ref (q 21), .int 0, .ref (q 22), .ref (q 23), .ref (q 24), .ref (q 25), .ref (q 26), .ref (q 27), .int 0, .ref (q 28), .ref (q 29), .int 0, .long 0, .int 0, .int 0, .ref (q 30)]))] sz)) (qR (fun v => (v = some (.int 1) ∧ ((a5.toInt = 1 ∧ a1.toInt = 2 ∧ a2.toInt = -1 ∧ a3.toInt = -1) ∨ ((a5.toInt = 2 ∨ a5.toInt = 7) ∧ 0 < a1.toInt ∧ 0 ≤ a2.toInt ∧ a6.toInt = 0) ∨ (a5.toInt = 4 ∧ 0 < a1.toInt ∧ a2.toInt = -1) ∨ a5.toInt = 5 ∨ a5.toInt < 1 ∨ 7 < a5.toInt)) ∨ (v = some (.int 0) ∧ ((a5.toInt = 1 ∧ (a1.toInt ≠ 2 ∨ a2.toInt ≠ -1 ∨ a3.toInt ≠ -1)) ∨ ((a5.toInt = 2 ∨ a5.toInt = 7) ∧ (a1.toInt ≤ 0 ∨ a2.toInt < 0 ∨ a6.toInt ≠ 0)) ∨ a5.toInt = 3 ∨ (a5.toInt = 4 ∧ (a1.toInt ≤ 0 ∨ a2.toInt ≠ -1)) ∨ a5.toInt = 6)))) 0 0 nA := by
  refine Met.ofW (cc := cX9_bodyMay) (maxL := 7) (ret := (some .boolean)) (by decide) rfl ?_
  intro p e s m args below meth c s₁ B hml hv
  obtain ⟨rfl, hsz, hP, hK, hD, hN⟩ := hv
  have hx := B.exec
  have hb := B.bytes
  have hr := B.returns
  have hts := atoms_spec (ws := wsX9_bodyMay) B.pre
  have hown : s.vm.findClass RX9 = some m.cls := findClass_of_methodNamed B.named
  have hlocks := B.notSynchronized
  subst hsz
  have hS : va_S nA s.heap s.heap [] := va_S.rf
  have hl := lv_entry ([.ref h0, .int a1, .int a2, .int a3, .int 5, .int a5, .int a6]) (n := 7) (Nat.le_of_ble_eq_true rfl)
  rw [lg_entry_eq]
  generalize (lg_sl ([.ref h0, .int a1, .int a2, .int a3, .int 5, .int a5, .int a6]) ++ List.replicate (7 - (lg_sl ([.ref h0, .int a1, .int a2, .int a3, .int 5, .int a5, .int a6])).length) Slot.unset).toArray = ls at hl ⊢
  have hl : lv_has ls 7 [(0, .ref h0), (1, .int a1), (2, .int a2), (3, .int a3), (4, .int 5), (5, .int a5), (6, .int a6)] := hl
  refine lv_iload hx hb dX9_bodyMay_0 (lv_at hl 5 rfl) ?_
  by_cases h1 : a5.toInt < 1 ∨ 7 < a5.toInt
  · refine lv_tableOut (tgt := 167) hx hb dX9_bodyMay_2 h1 (by decide) ?_
    refine lv_iconst (v := 1) hx hb dX9_bodyMay_167 (by decide) ?_
    exact W.zret (v := 1) (ty := .boolean) hx hb hr rfl (fun t ht hW => ⟨⟨(some (.int 1)), rfl, (by first | exact Or.inl ⟨rfl, (by first | omega | (have kq := kz; omega) | decide)⟩)⟩, hS.F ht⟩) hS.2.2 dX9_bodyMay_168
  · have gh1 : a5 = 1 ∨ a5 = 2 ∨ a5 = 3 ∨ a5 = 4 ∨ a5 = 5 ∨ a5 = 6 ∨ a5 = 7 := tw_1_7 (by omega) (by omega)
    rcases gh1 with rfl | rfl | rfl | rfl | rfl | rfl | rfl
    · refine lv_tableIn (tgt := 44) (off := 42) hx hb dX9_bodyMay_2 (by decide) (by decide) (by decide) (by decide) ?_
      refine lv_iload_n hx hb dX9_bodyMay_44 rfl (lv_at hl 1 rfl) ?_
      refine lv_iconst (v := 2) hx hb dX9_bodyMay_45 (by decide) ?_
      refine lv_icmp_ne (tgt := 63) hx hb dX9_bodyMay_46 (by decide) (fun c2 => ?_) (fun c2 => ?_)
      · have ic2 : a1.toInt ≠ 2 := ine2 rfl (by decide) c2
        refine lv_iconst (v := 0) hx hb dX9_bodyMay_63 (by decide) ?_
        exact W.zret (v := 0) (ty := .boolean) hx hb hr rfl (fun t ht hW => ⟨⟨(some (.int 0)), rfl, (by first | exact Or.inr (⟨rfl, (by first | omega | (have kq := kz; omega) | decide)⟩))⟩, hS.F ht⟩) hS.2.2 dX9_bodyMay_64
      · have ic2 : a1.toInt = 2 := ieq2 rfl (by decide) c2
        refine lv_iload_n hx hb dX9_bodyMay_49 rfl (lv_at hl 2 rfl) ?_
        refine lv_iconst (v := (-1)) hx hb dX9_bodyMay_50 (by decide) ?_
        refine lv_icmp_ne (tgt := 63) hx hb dX9_bodyMay_51 (by decide) (fun c3 => ?_) (fun c3 => ?_)
        · have ic3 : a2.toInt ≠ (-1) := ine2 rfl (by decide) c3
          refine lv_iconst (v := 0) hx hb dX9_bodyMay_63 (by decide) ?_
          exact W.zret (v := 0) (ty := .boolean) hx hb hr rfl (fun t ht hW => ⟨⟨(some (.int 0)), rfl, (by first | exact Or.inr (⟨rfl, (by first | omega | (have kq := kz; omega) | decide)⟩))⟩, hS.F ht⟩) hS.2.2 dX9_bodyMay_64
        · have ic3 : a2.toInt = (-1) := ieq2 rfl (by decide) c3
          refine lv_iload_n hx hb dX9_bodyMay_54 rfl (lv_at hl 3 rfl) ?_
          refine lv_iconst (v := (-1)) hx hb dX9_bodyMay_55 (by decide) ?_
          refine lv_icmp_ne (tgt := 63) hx hb dX9_bodyMay_56 (by decide) (fun c4 => ?_) (fun c4 => ?_)
          · have ic4 : a3.toInt ≠ (-1) := ine2 rfl (by decide) c4
            refine lv_iconst (v := 0) hx hb dX9_bodyMay_63 (by decide) ?_
            exact W.zret (v := 0) (ty := .boolean) hx hb hr rfl (fun t ht hW => ⟨⟨(some (.int 0)), rfl, (by first | exact Or.inr (⟨rfl, (by first | omega | (have kq := kz; omega) | decide)⟩))⟩, hS.F ht⟩) hS.2.2 dX9_bodyMay_64
          · have ic4 : a3.toInt = (-1) := ieq2 rfl (by decide) c4
            refine lv_iconst (v := 1) hx hb dX9_bodyMay_59 (by decide) ?_
            refine lv_goto (tgt := 64) hx hb dX9_bodyMay_60 (by decide) ?_
            exact W.zret (v := 1) (ty := .boolean) hx hb hr rfl (fun t ht hW => ⟨⟨(some (.int 1)), rfl, (by first | exact Or.inl ⟨rfl, (by first | omega | (have kq := kz; omega) | decide)⟩)⟩, hS.F ht⟩) hS.2.2 dX9_bodyMay_64
    · refine lv_tableIn (tgt := 65) (off := 63) hx hb dX9_bodyMay_2 (by decide) (by decide) (by decide) (by decide) ?_
      refine lv_iload_n hx hb dX9_bodyMay_65 rfl (lv_at hl 1 rfl) ?_
      refine lv_if_le (tgt := 86) hx hb dX9_bodyMay_66 (by decide) (fun c5 => ?_) (fun c5 => ?_)
      · have ic5 : a1.toInt ≤ 0 := ile2 rfl (by decide) c5
        refine lv_iconst (v := 0) hx hb dX9_bodyMay_86 (by decide) ?_
        exact W.zret (v := 0) (ty := .boolean) hx hb hr rfl (fun t ht hW => ⟨⟨(some (.int 0)), rfl, (by first | exact Or.inr (⟨rfl, (by first | omega | (have kq := kz; omega) | decide)⟩))⟩, hS.F ht⟩) hS.2.2 dX9_bodyMay_87
      · have ic5 : 0 < a1.toInt := inle2 rfl (by decide) c5
        refine lv_iload_n hx hb dX9_bodyMay_69 rfl (lv_at hl 2 rfl) ?_
        refine lv_if_lt (tgt := 86) hx hb dX9_bodyMay_70 (by decide) (fun c6 => ?_) (fun c6 => ?_)
        · have ic6 : a2.toInt < 0 := il2 rfl (by decide) c6
          refine lv_iconst (v := 0) hx hb dX9_bodyMay_86 (by decide) ?_
          exact W.zret (v := 0) (ty := .boolean) hx hb hr rfl (fun t ht hW => ⟨⟨(some (.int 0)), rfl, (by first | exact Or.inr (⟨rfl, (by first | omega | (have kq := kz; omega) | decide)⟩))⟩, hS.F ht⟩) hS.2.2 dX9_bodyMay_87
        · have ic6 : 0 ≤ a2.toInt := inl2 rfl (by decide) c6
          refine lv_aload_n hx hb dX9_bodyMay_73 rfl (lv_at hl 0 rfl) ?_
          refine lv_iload hx hb dX9_bodyMay_74 (lv_at hl 6 rfl) ?_
          refine clR (va_runV (As := [.int a6]) (rest := []) ⟨hx, hb, hml, hown, hts⟩ (c9_isClass l dC dI h0 q a6 _) (cwV 1 hts gX9_bodyMay_X9_isClass rfl rfl rfl (by decide +kernel) ⟨Nat.le_of_ble_eq_true rfl, Nat.le_of_ble_eq_true rfl⟩) ⟨pz_blind, va_recv hK hP (ci := 8) (q0 := 0) rfl rfl, pz_of hP hK hD hN [0] [] rfl (by decide) rfl⟩ rfl rfl hl.1 rfl (lv_room (Nat.le_of_ble_eq_true rfl)) dX9_bodyMay_76 ⟨Nat.le_of_ble_eq_true rfl, Nat.le_of_ble_eq_true rfl⟩) hS hP (fun v H locs w8 hP hS => ?_)
          rcases w8 with ⟨rfl, rfl⟩ | ⟨rfl, u7⟩
          · refine W.eq (g2 := F0 m 79 ls [.int 1]) rfl ?_
            refine lv_if_eq (tgt := 86) hx hb dX9_bodyMay_79 (by decide) (fun h => absurd h (by decide)) (fun _ => ?_)
            refine lv_iconst (v := 1) hx hb dX9_bodyMay_82 (by decide) ?_
            refine lv_goto (tgt := 87) hx hb dX9_bodyMay_83 (by decide) ?_
            exact W.zret (v := 1) (ty := .boolean) hx hb hr rfl (fun t ht hW => ⟨⟨(some (.int 1)), rfl, (by first | exact Or.inl ⟨rfl, (by first | omega | (have kq := kz; omega) | decide)⟩)⟩, hS.F ht⟩) hS.2.2 dX9_bodyMay_87
          · refine W.eq (g2 := F0 m 79 ls [.int 0]) rfl ?_
            refine lv_if_eq (tgt := 86) hx hb dX9_bodyMay_79 (by decide) (fun _ => ?_) (fun h => absurd (by decide) h)
            refine lv_iconst (v := 0) hx hb dX9_bodyMay_86 (by decide) ?_
            exact W.zret (v := 0) (ty := .boolean) hx hb hr rfl (fun t ht hW => ⟨⟨(some (.int 0)), rfl, (by first | exact Or.inr (⟨rfl, (by first | omega | (have kq := kz; omega) | decide)⟩))⟩, hS.F ht⟩) hS.2.2 dX9_bodyMay_87
    · refine lv_tableIn (tgt := 88) (off := 86) hx hb dX9_bodyMay_2 (by decide) (by decide) (by decide) (by decide) ?_
      refine lv_iload_n hx hb dX9_bodyMay_88 rfl (lv_at hl 1 rfl) ?_
      refine lv_if_le (tgt := 137) hx hb dX9_bodyMay_89 (by decide) (fun c9 => ?_) (fun c9 => ?_)
      · have ic9 : a1.toInt ≤ 0 := ile2 rfl (by decide) c9
        refine lv_iconst (v := 0) hx hb dX9_bodyMay_137 (by decide) ?_
        exact W.zret (v := 0) (ty := .boolean) hx hb hr rfl (fun t ht hW => ⟨⟨(some (.int 0)), rfl, (by first | exact Or.inr (⟨rfl, (by first | omega | (have kq := kz; omega) | decide)⟩))⟩, hS.F ht⟩) hS.2.2 dX9_bodyMay_138
      · have ic9 : 0 < a1.toInt := inle2 rfl (by decide) c9
        refine lv_iload_n hx hb dX9_bodyMay_92 rfl (lv_at hl 2 rfl) ?_
        refine lv_if_lt (tgt := 137) hx hb dX9_bodyMay_93 (by decide) (fun c10 => ?_) (fun c10 => ?_)
        · have ic10 : a2.toInt < 0 := il2 rfl (by decide) c10
          refine lv_iconst (v := 0) hx hb dX9_bodyMay_137 (by decide) ?_
          exact W.zret (v := 0) (ty := .boolean) hx hb hr rfl (fun t ht hW => ⟨⟨(some (.int 0)), rfl, (by first | exact Or.inr (⟨rfl, (by first | omega | (have kq := kz; omega) | decide)⟩))⟩, hS.F ht⟩) hS.2.2 dX9_bodyMay_138
        · have ic10 : 0 ≤ a2.toInt := inl2 rfl (by decide) c10
          refine lv_iload hx hb dX9_bodyMay_96 (lv_at hl 6 rfl) ?_
          refine lv_i2l (v := a6.toInt64) hx hb dX9_bodyMay_98 rfl ?_
          refine lv_lconst (v := 0) hx hb dX9_bodyMay_99 (by decide) ?_
          refine lv_aload_n hx hb dX9_bodyMay_100 rfl (lv_at hl 0 rfl) ?_
          refine va_get (D := (dC, dI)) (own := RX9) (ref := "ReflectModelsModel") (index := 128) (ci := 8) (v := .int 0) (C := RX9) (T := TX9) (N := 42) hx hb hts inX9_bodyMay_9 hown hK hP 0 rfl rfl 10 (by decide) (hts (.fieldLink RX9 128 "ReflectModelsModel" "members" "I") (by decide +kernel)) (fun _ h9 => h9) rfl dX9_bodyMay_101 ?_
          refine lv_iconst (v := 1) hx hb dX9_bodyMay_104 (by decide) ?_
          refine lv_isub hx hb dX9_bodyMay_105 ?_
          refine lv_topi (fun y11 ey11 => ?_)
          obtain rfl : y11 = (-1) := ey11.trans (by decide)
          refine lv_i2l (v := (-1)) hx hb dX9_bodyMay_106 (by decide) ?_
          refine clR (va_runS (As := [.long a6.toInt64, .long 0, .long (-1)]) (rest := []) ⟨hx, hb, hml, hown, hts⟩ (c9_in l dC dI a6.toInt64 0 (-1) a6.toInt 0 (-1) _ (i2L _) (by decide) (by decide)) (va_cwS 3 hts gX9_bodyMay_X9_in rfl rfl rfl (by decide +kernel) ⟨Nat.le_of_ble_eq_true rfl, Nat.le_of_ble_eq_true rfl⟩) ⟨pz_blind, pz_of hP hK hD hN [] [] rfl (by decide) rfl⟩ rfl rfl hl.1 rfl (lv_room (Nat.le_of_ble_eq_true rfl)) dX9_bodyMay_107 ⟨Nat.le_of_ble_eq_true rfl, Nat.le_of_ble_eq_true rfl⟩) hS hP (fun v H locs w14 hP hS => ?_)
          rcases w14 with ⟨rfl, u12⟩ | ⟨rfl, u13⟩
          · refine W.eq (g2 := F0 m 110 ls [.int 1]) rfl ?_
            exfalso; first | omega | (have kq := kz; omega)
          · refine W.eq (g2 := F0 m 110 ls [.int 0]) rfl ?_
            refine lv_if_eq (tgt := 137) hx hb dX9_bodyMay_110 (by decide) (fun _ => ?_) (fun h => absurd (by decide) h)
            refine lv_iconst (v := 0) hx hb dX9_bodyMay_137 (by decide) ?_
            exact W.zret (v := 0) (ty := .boolean) hx hb hr rfl (fun t ht hW => ⟨⟨(some (.int 0)), rfl, (by first | exact Or.inr (⟨rfl, (by first | omega | (have kq := kz; omega) | decide)⟩))⟩, hS.F ht⟩) hS.2.2 dX9_bodyMay_138
    · refine lv_tableIn (tgt := 139) (off := 137) hx hb dX9_bodyMay_2 (by decide) (by decide) (by decide) (by decide) ?_
      refine lv_iload_n hx hb dX9_bodyMay_139 rfl (lv_at hl 1 rfl) ?_
      refine lv_if_le (tgt := 152) hx hb dX9_bodyMay_140 (by decide) (fun c15 => ?_) (fun c15 => ?_)
      · have ic15 : a1.toInt ≤ 0 := ile2 rfl (by decide) c15
        refine lv_iconst (v := 0) hx hb dX9_bodyMay_152 (by decide) ?_
        exact W.zret (v := 0) (ty := .boolean) hx hb hr rfl (fun t ht hW => ⟨⟨(some (.int 0)), rfl, (by first | exact Or.inr (⟨rfl, (by first | omega | (have kq := kz; omega) | decide)⟩))⟩, hS.F ht⟩) hS.2.2 dX9_bodyMay_153
      · have ic15 : 0 < a1.toInt := inle2 rfl (by decide) c15
        refine lv_iload_n hx hb dX9_bodyMay_143 rfl (lv_at hl 2 rfl) ?_
        refine lv_iconst (v := (-1)) hx hb dX9_bodyMay_144 (by decide) ?_
        refine lv_icmp_ne (tgt := 152) hx hb dX9_bodyMay_145 (by decide) (fun c16 => ?_) (fun c16 => ?_)
        · have ic16 : a2.toInt ≠ (-1) := ine2 rfl (by decide) c16
          refine lv_iconst (v := 0) hx hb dX9_bodyMay_152 (by decide) ?_
          exact W.zret (v := 0) (ty := .boolean) hx hb hr rfl (fun t ht hW => ⟨⟨(some (.int 0)), rfl, (by first | exact Or.inr (⟨rfl, (by first | omega | (have kq := kz; omega) | decide)⟩))⟩, hS.F ht⟩) hS.2.2 dX9_bodyMay_153
        · have ic16 : a2.toInt = (-1) := ieq2 rfl (by decide) c16
          refine lv_iconst (v := 1) hx hb dX9_bodyMay_148 (by decide) ?_
          refine lv_goto (tgt := 153) hx hb dX9_bodyMay_149 (by decide) ?_
          exact W.zret (v := 1) (ty := .boolean) hx hb hr rfl (fun t ht hW => ⟨⟨(some (.int 1)), rfl, (by first | exact Or.inl ⟨rfl, (by first | omega | (have kq := kz; omega) | decide)⟩)⟩, hS.F ht⟩) hS.2.2 dX9_bodyMay_153
    · refine lv_tableIn (tgt := 167) (off := 165) hx hb dX9_bodyMay_2 (by decide) (by decide) (by decide) (by decide) ?_
      refine lv_iconst (v := 1) hx hb dX9_bodyMay_167 (by decide) ?_
      exact W.zret (v := 1) (ty := .boolean) hx hb hr rfl (fun t ht hW => ⟨⟨(some (.int 1)), rfl, (by first | exact Or.inl ⟨rfl, (by first | omega | (have kq := kz; omega) | decide)⟩)⟩, hS.F ht⟩) hS.2.2 dX9_bodyMay_168
    · refine lv_tableIn (tgt := 154) (off := 152) hx hb dX9_bodyMay_2 (by decide) (by decide) (by decide) (by decide) ?_
      refine lv_iload hx hb dX9_bodyMay_154 (lv_at hl 4 rfl) ?_
      refine lv_iconst (v := 1) hx hb dX9_bodyMay_156 (by decide) ?_
      refine lv_iand hx hb dX9_bodyMay_157 ?_
      refine lv_topi (fun y17 ey17 => ?_)
      obtain rfl : y17 = 1 := ey17.trans (by decide)
      refine lv_if_ne (tgt := 165) hx hb dX9_bodyMay_158 (by decide) (fun _ => ?_) (fun h => absurd h (by decide))
      refine lv_iconst (v := 0) hx hb dX9_bodyMay_165 (by decide) ?_
      exact W.zret (v := 0) (ty := .boolean) hx hb hr rfl (fun t ht hW => ⟨⟨(some (.int 0)), rfl, (by first | exact Or.inr (⟨rfl, (by first | omega | (have kq := kz; omega) | decide)⟩))⟩, hS.F ht⟩) hS.2.2 dX9_bodyMay_166
    · refine lv_tableIn (tgt := 65) (off := 63) hx hb dX9_bodyMay_2 (by decide) (by decide) (by decide) (by decide) ?_
      refine lv_iload_n hx hb dX9_bodyMay_65 rfl (lv_at hl 1 rfl) ?_
      refine lv_if_le (tgt := 86) hx hb dX9_bodyMay_66 (by decide) (fun c18 => ?_) (fun c18 => ?_)
      · have ic18 : a1.toInt ≤ 0 := ile2 rfl (by decide) c18
        refine lv_iconst (v := 0) hx hb dX9_bodyMay_86 (by decide) ?_
        exact W.zret (v := 0) (ty := .boolean) hx hb hr rfl (fun t ht hW => ⟨⟨(some (.int 0)), rfl, (by first | exact Or.inr (⟨rfl, (by first | omega | (have kq := kz; omega) | decide)⟩))⟩, hS.F ht⟩) hS.2.2 dX9_bodyMay_87
      · have ic18 : 0 < a1.toInt := inle2 rfl (by decide) c18
        refine lv_iload_n hx hb dX9_bodyMay_69 rfl (lv_at hl 2 rfl) ?_
        refine lv_if_lt (tgt := 86) hx hb dX9_bodyMay_70 (by decide) (fun c19 => ?_) (fun c19 => ?_)
        · have ic19 : a2.toInt < 0 := il2 rfl (by decide) c19
          refine lv_iconst (v := 0) hx hb dX9_bodyMay_86 (by decide) ?_
          exact W.zret (v := 0) (ty := .boolean) hx hb hr rfl (fun t ht hW => ⟨⟨(some (.int 0)), rfl, (by first | exact Or.inr (⟨rfl, (by first | omega | (have kq := kz; omega) | decide)⟩))⟩, hS.F ht⟩) hS.2.2 dX9_bodyMay_87
        · have ic19 : 0 ≤ a2.toInt := inl2 rfl (by decide) c19
          refine lv_aload_n hx hb dX9_bodyMay_73 rfl (lv_at hl 0 rfl) ?_
          refine lv_iload hx hb dX9_bodyMay_74 (lv_at hl 6 rfl) ?_
          refine clR (va_runV (As := [.int a6]) (rest := []) ⟨hx, hb, hml, hown, hts⟩ (c9_isClass l dC dI h0 q a6 _) (cwV 1 hts gX9_bodyMay_X9_isClass rfl rfl rfl (by decide +kernel) ⟨Nat.le_of_ble_eq_true rfl, Nat.le_of_ble_eq_true rfl⟩) ⟨pz_blind, va_recv hK hP (ci := 8) (q0 := 0) rfl rfl, pz_of hP hK hD hN [0] [] rfl (by decide) rfl⟩ rfl rfl hl.1 rfl (lv_room (Nat.le_of_ble_eq_true rfl)) dX9_bodyMay_76 ⟨Nat.le_of_ble_eq_true rfl, Nat.le_of_ble_eq_true rfl⟩) hS hP (fun v H locs w21 hP hS => ?_)
          rcases w21 with ⟨rfl, rfl⟩ | ⟨rfl, u20⟩
          · refine W.eq (g2 := F0 m 79 ls [.int 1]) rfl ?_
            refine lv_if_eq (tgt := 86) hx hb dX9_bodyMay_79 (by decide) (fun h => absurd h (by decide)) (fun _ => ?_)
            refine lv_iconst (v := 1) hx hb dX9_bodyMay_82 (by decide) ?_
            refine lv_goto (tgt := 87) hx hb dX9_bodyMay_83 (by decide) ?_
            exact W.zret (v := 1) (ty := .boolean) hx hb hr rfl (fun t ht hW => ⟨⟨(some (.int 1)), rfl, (by first | exact Or.inl ⟨rfl, (by first | omega | (have kq := kz; omega) | decide)⟩)⟩, hS.F ht⟩) hS.2.2 dX9_bodyMay_87
          · refine W.eq (g2 := F0 m 79 ls [.int 0]) rfl ?_
            refine lv_if_eq (tgt := 86) hx hb dX9_bodyMay_79 (by decide) (fun _ => ?_) (fun h => absurd (by decide) h)
            refine lv_iconst (v := 0) hx hb dX9_bodyMay_86 (by decide) ?_
            exact W.zret (v := 0) (ty := .boolean) hx hb hr rfl (fun t ht hW => ⟨⟨(some (.int 0)), rfl, (by first | exact Or.inr (⟨rfl, (by first | omega | (have kq := kz; omega) | decide)⟩))⟩, hS.F ht⟩) hS.2.2 dX9_bodyMay_87

set_option maxHeartbeats 40000000 in
set_option maxRecDepth 100000 in
/-- method of the reference on a fresh object -/
theorem c9_method (l : Launch) (dC : Nat → ClassId) (dI : Nat → Nat → Nat) (h0 : Nat) (q : Nat → Nat) (cA : Nat → ClassId) (a1 a2 a3 a4 a5 a6 a7 a8 a9 : Int32) (sz : Nat)  : Met l yX9_method wsX9_method ({ frames := 3, cells := 0, slots := 0, locals := 72 }) (va_Pc [.ref h0, .int a1, .int a2, .int a3, .int a4, .int a5, .int a6, .int a7, .int a8, .int a9] (pz (dC, dI) [((cA 0), .int), ((cA 1), .int), ((cA 2), .int), ((cA 3), .boolean), ((cA 4), .boolean), ((cA 5), .int), ((cA 6), .int), ((cA 7), .int), ((cA 8), .int), ((cA 9), .boolean), ((cA 10), .int), ((cA 11), .int), ((cA 12), .int), ((cA 13), .int), ((cA 14), .boolean), ((cA 15), .boolean), ((cA 16), .boolean), ((cA 17), .boolean), ((cA 18), .int), ((cA 19), .int), ((cA 20), .int), ((cA 21), .boolean), ((cA 22), .int), ((cA 23), .int), ((cA 24), .int), ((cA 25), .int), ((cA 26), .int), ((cA 27), .long), ((cA 28), .int), ((cA 29), .long), ((cA 30), .int)] [(h0, .inr (8, [.int 0, .int 1, .ref (q 0), .ref (q 1), .ref (q 2), .ref (q 3), .ref (q 4), .ref (q 5), .ref (q 6), .ref (q 7), .int 0, .ref (q 8), .ref (q 9), .ref (q 10), .ref (q 11), .ref (q 12), .ref (q 13), .ref (q 14), .ref (q 15), .ref (q 16), .ref (q 17), .ref (q 18), .ref (q 19), .int 0, .int 0, .ref (q 20), .ref (q 21), .int 0, .ref (q 22), .ref (q 23), .ref (q 24), .ref (q 25), .ref (q 26), .ref (q 27), .int 0, .ref (q 28), .ref (q 29), .int 0, .long 0, .int 0, .int 0, .ref (q 30)])), ((q 0), .inl ((cA 0), 16, .inl (upd (fun _ => 0) 0 (-1)))), ((q 1), .inl ((cA 1), 16, .inl (fun _ => 0))), ((q 2), .inl ((cA 2), 16, .inl (upd (fun _ => 0) 0 (-1)))), ((q 3), .inl ((cA 3), 16, .inl (fun _ => 0))), ((q 4), .inl ((cA 4), 16, .inl (fun _ => 0))), ((q 5), .inl ((cA 5), 16, .inl (fun _ => 0))), ((q 6), .inl ((cA 6), 16, .inl (fun _ => 0))), ((q 7), .inl ((cA 7), 16, .inl (fun _ => 0))), ((q 8), .inl ((cA 8), 40, .inl (fun _ => 0))), ((q 9), .inl ((cA 9), 40, .inl (fun _ => 0))), ((q 10), .inl ((cA 10), 40, .inl (fun _ => 0))), ((q 11), .inl ((cA 11), 40, .inl (fun _ => 0))), ((q 12), .inl ((cA 12), 40, .inl (fun _ => 0))), ((q 13), .inl ((cA 13), 80, .inl (fun _ => 0))), ((q 14), .inl ((cA 14), 40, .inl (fun _ => 0))), ((q 15), .inl ((cA 15), 40, .inl (fun _ => 0))), ((q 16), .inl ((cA 16), 40, .inl (fun _ => 0))), ((q 17), .inl ((cA 17), 40, .inl (fun _ => 0))), ((q 18), .inl ((cA 18), 40, .inl (fun _ => 0))), ((q 19), .inl ((cA 19), 40, .inl (fun _ => 0))), ((q 20), .inl ((cA 20), 60, .inl (fun _ => 0))), ((q 21), .inl ((cA 21), 60, .inl (fun _ => 0))), ((q 22), .inl ((cA 22), 130, .inl (fun _ => 0))), ((q 23), .inl ((cA 23), 130, .inl (fun _ => 0))), ((q 24), .inl ((cA 24), 130, .inl (fun _ => 0))), ((q 25), .inl ((cA 25), 130, .inl (fun _ => 0))), ((q 26), .inl ((cA 26), 5240, .inl (fun _ => 0))), ((q 27), .inl ((cA 27), 5240, .inr (.inl (fun _ => 0)))), ((q 28), .inl ((cA 28), 3, .inl (fun _ => 0))), ((q 29), .inl ((cA 29), 3, .inr (.inl (fun _ => 0)))), ((q 30), .inl ((cA 30), 16, .inl (fun _ => 0)))] sz)) (qW (dC, dI) (fun v w1 ty1 => v = some (.int (an_method a1.toInt a2.toInt a3.toInt a4.toInt a5.toInt a6.toInt a7.toInt a8.toInt a9.toInt)) ∧ w1 = [] ∧ ty1 = []) (va_A [(h0, .inr (8, [.int 0, .int 1, .ref (q 0), .ref (q 1), .ref (q 2), .ref (q 3), .ref (q 4), .ref (q 5), .ref (q 6), .ref (q 7), .int 0, .ref (q 8), .ref (q 9), .ref (q 10), .ref (q 11), .ref (q 12), .ref (q 13), .ref (q 14), .ref (q 15), .ref (q 16), .ref (q 17), .ref (q 18), .ref (q 19), .int 0, .int 0, .ref (q 20), .ref (q 21), .int 0, .ref (q 22), .ref (q 23), .ref (q 24), .ref (q 25), .ref (q 26), .ref (q 27), .int 0, .ref (q 28), .ref (q 29), .int 0, .long 0, .int 0, .int 0, .ref (q 30)])), ((q 0), .inl ((cA 0), 16, .inl (upd (fun _ => 0) 0 (-1)))), ((q 1), .inl ((cA 1), 16, .inl (fun _ => 0))), ((q 2), .inl ((cA 2), 16, .inl (upd (fun _ => 0) 0 (-1)))), ((q 3), .inl ((cA 3), 16, .inl (fun _ => 0))), ((q 4), .inl ((cA 4), 16, .inl (fun _ => 0))), ((q 5), .inl ((cA 5), 16, .inl (fun _ => 0))), ((q 6), .inl ((cA 6), 16, .inl (fun _ => 0))), ((q 7), .inl ((cA 7), 16, .inl (fun _ => 0))), ((q 8), .inl ((cA 8), 40, .inl (fun _ => 0))), ((q 9), .inl ((cA 9), 40, .inl (fun _ => 0))), ((q 10), .inl ((cA 10), 40, .inl (fun _ => 0))), ((q 11), .inl ((cA 11), 40, .inl (fun _ => 0))), ((q 12), .inl ((cA 12), 40, .inl (fun _ => 0))), ((q 13), .inl ((cA 13), 80, .inl (fun _ => 0))), ((q 14), .inl ((cA 14), 40, .inl (fun _ => 0))), ((q 15), .inl ((cA 15), 40, .inl (fun _ => 0))), ((q 16), .inl ((cA 16), 40, .inl (fun _ => 0))), ((q 17), .inl ((cA 17), 40, .inl (fun _ => 0))), ((q 18), .inl ((cA 18), 40, .inl (fun _ => 0))), ((q 19), .inl ((cA 19), 40, .inl (fun _ => 0))), ((q 20), .inl ((cA 20), 60, .inl (fun _ => 0))), ((q 21), .inl ((cA 21), 60, .inl (fun _ => 0))), ((q 22), .inl ((cA 22), 130, .inl (fun _ => 0))), ((q 23), .inl ((cA 23), 130, .inl (fun _ => 0))), ((q 24), .inl ((cA 24), 130, .inl (fun _ => 0))), ((q 25), .inl ((cA 25), 130, .inl (fun _ => 0))), ((q 26), .inl ((cA 26), 5240, .inl (fun _ => 0))), ((q 27), .inl ((cA 27), 5240, .inr (.inl (fun _ => 0)))), ((q 28), .inl ((cA 28), 3, .inl (fun _ => 0))), ((q 29), .inl ((cA 29), 3, .inr (.inl (fun _ => 0)))), ((q 30), .inl ((cA 30), 16, .inl (fun _ => 0)))] sz)) 0 0 (va_A [(h0, .inr (8, [.int 0, .int 1, .ref (q 0), .ref (q 1), .ref (q 2), .ref (q 3), .ref (q 4), .ref (q 5), .ref (q 6), .ref (q 7), .int 0, .ref (q 8), .ref (q 9), .ref (q 10), .ref (q 11), .ref (q 12), .ref (q 13), .ref (q 14), .ref (q 15), .ref (q 16), .ref (q 17), .ref (q 18), .ref (q 19), .int 0, .int 0, .ref (q 20), .ref (q 21), .int 0, .ref (q 22), .ref (q 23), .ref (q 24), .ref (q 25), .ref (q 26), .ref (q 27), .int 0, .ref (q 28), .ref (q 29), .int 0, .long 0, .int 0, .int 0, .ref (q 30)])), ((q 0), .inl ((cA 0), 16, .inl (upd (fun _ => 0) 0 (-1)))), ((q 1), .inl ((cA 1), 16, .inl (fun _ => 0))), ((q 2), .inl ((cA 2), 16, .inl (upd (fun _ => 0) 0 (-1)))), ((q 3), .inl ((cA 3), 16, .inl (fun _ => 0))), ((q 4), .inl ((cA 4), 16, .inl (fun _ => 0))), ((q 5), .inl ((cA 5), 16, .inl (fun _ => 0))), ((q 6), .inl ((cA 6), 16, .inl (fun _ => 0))), ((q 7), .inl ((cA 7), 16, .inl (fun _ => 0))), ((q 8), .inl ((cA 8), 40, .inl (fun _ => 0))), ((q 9), .inl ((cA 9), 40, .inl (fun _ => 0))), ((q 10), .inl ((cA 10), 40, .inl (fun _ => 0))), ((q 11), .inl ((cA 11), 40, .inl (fun _ => 0))), ((q 12), .inl ((cA 12), 40, .inl (fun _ => 0))), ((q 13), .inl ((cA 13), 80, .inl (fun _ => 0))), ((q 14), .inl ((cA 14), 40, .inl (fun _ => 0))), ((q 15), .inl ((cA 15), 40, .inl (fun _ => 0))), ((q 16), .inl ((cA 16), 40, .inl (fun _ => 0))), ((q 17), .inl ((cA 17), 40, .inl (fun _ => 0))), ((q 18), .inl ((cA 18), 40, .inl (fun _ => 0))), ((q 19), .inl ((cA 19), 40, .inl (fun _ => 0))), ((q 20), .inl ((cA 20), 60, .inl (fun _ => 0))), ((q 21), .inl ((cA 21), 60, .inl (fun _ => 0))), ((q 22), .inl ((cA 22), 130, .inl (fun _ => 0))), ((q 23), .inl ((cA 23), 130, .inl (fun _ => 0))), ((q 24), .inl ((cA 24), 130, .inl (fun _ => 0))), ((q 25), .inl ((cA 25), 130, .inl (fun _ => 0))), ((q 26), .inl ((cA 26), 5240, .inl (fun _ => 0))), ((q 27), .inl ((cA 27), 5240, .inr (.inl (fun _ => 0)))), ((q 28), .inl ((cA 28), 3, .inl (fun _ => 0))), ((q 29), .inl ((cA 29), 3, .inr (.inl (fun _ => 0)))), ((q 30), .inl ((cA 30), 16, .inl (fun _ => 0)))] sz) := by
  refine Met.ofW (cc := cX9_method) (maxL := 14) (ret := (some .int)) (by decide) rfl ?_
  intro p e s m args below meth c s₁ B hml hv
  obtain ⟨rfl, hsz, hP, hK, hD, hN⟩ := hv
  have hx := B.exec
  have hb := B.bytes
  have hr := B.returns
  have hts := atoms_spec (ws := wsX9_method) B.pre
  have hown : s.vm.findClass RX9 = some m.cls := findClass_of_methodNamed B.named
  have hlocks := B.notSynchronized
  subst hsz
  have hD := hD.self (sz := s.heap.size)
  generalize hAe : va_A [(h0, .inr (8, [.int 0, .int 1, .ref (q 0), .ref (q 1), .ref (q 2), .ref (q 3), .ref (q 4), .ref (q 5), .ref (q 6), .ref (q 7), .int 0, .ref (q 8), .ref (q 9), .ref (q 10), .ref (q 11), .ref (q 12), .ref (q 13), .ref (q 14), .ref (q 15), .ref (q 16), .ref (q 17), .ref (q 18), .ref (q 19), .int 0, .int 0, .ref (q 20), .ref (q 21), .int 0, .ref (q 22), .ref (q 23), .ref (q 24), .ref (q 25), .ref (q 26), .ref (q 27), .int 0, .ref (q 28), .ref (q 29), .int 0, .long 0, .int 0, .int 0, .ref (q 30)])), ((q 0), .inl ((cA 0), 16, .inl (upd (fun _ => 0) 0 (-1)))), ((q 1), .inl ((cA 1), 16, .inl (fun _ => 0))), ((q 2), .inl ((cA 2), 16, .inl (upd (fun _ => 0) 0 (-1)))), ((q 3), .inl ((cA 3), 16, .inl (fun _ => 0))), ((q 4), .inl ((cA 4), 16, .inl (fun _ => 0))), ((q 5), .inl ((cA 5), 16, .inl (fun _ => 0))), ((q 6), .inl ((cA 6), 16, .inl (fun _ => 0))), ((q 7), .inl ((cA 7), 16, .inl (fun _ => 0))), ((q 8), .inl ((cA 8), 40, .inl (fun _ => 0))), ((q 9), .inl ((cA 9), 40, .inl (fun _ => 0))), ((q 10), .inl ((cA 10), 40, .inl (fun _ => 0))), ((q 11), .inl ((cA 11), 40, .inl (fun _ => 0))), ((q 12), .inl ((cA 12), 40, .inl (fun _ => 0))), ((q 13), .inl ((cA 13), 80, .inl (fun _ => 0))), ((q 14), .inl ((cA 14), 40, .inl (fun _ => 0))), ((q 15), .inl ((cA 15), 40, .inl (fun _ => 0))), ((q 16), .inl ((cA 16), 40, .inl (fun _ => 0))), ((q 17), .inl ((cA 17), 40, .inl (fun _ => 0))), ((q 18), .inl ((cA 18), 40, .inl (fun _ => 0))), ((q 19), .inl ((cA 19), 40, .inl (fun _ => 0))), ((q 20), .inl ((cA 20), 60, .inl (fun _ => 0))), ((q 21), .inl ((cA 21), 60, .inl (fun _ => 0))), ((q 22), .inl ((cA 22), 130, .inl (fun _ => 0))), ((q 23), .inl ((cA 23), 130, .inl (fun _ => 0))), ((q 24), .inl ((cA 24), 130, .inl (fun _ => 0))), ((q 25), .inl ((cA 25), 130, .inl (fun _ => 0))), ((q 26), .inl ((cA 26), 5240, .inl (fun _ => 0))), ((q 27), .inl ((cA 27), 5240, .inr (.inl (fun _ => 0)))), ((q 28), .inl ((cA 28), 3, .inl (fun _ => 0))), ((q 29), .inl ((cA 29), 3, .inr (.inl (fun _ => 0)))), ((q 30), .inl ((cA 30), 16, .inl (fun _ => 0)))] s.heap.size = A at hD ⊢
  have hA : ∀ q : Nat, s.heap.size ≤ q → A q := fun q h => by rw [← hAe]; exact Or.inr h
  have hS : va_S A s.heap s.heap [] := va_S.rf
  have hl := lv_entry ([.ref h0, .int a1, .int a2, .int a3, .int a4, .int a5, .int a6, .int a7, .int a8, .int a9]) (n := 14) (Nat.le_of_ble_eq_true rfl)
  rw [lg_entry_eq]
  generalize (lg_sl ([.ref h0, .int a1, .int a2, .int a3, .int a4, .int a5, .int a6, .int a7, .int a8, .int a9]) ++ List.replicate (14 - (lg_sl ([.ref h0, .int a1, .int a2, .int a3, .int a4, .int a5, .int a6, .int a7, .int a8, .int a9])).length) Slot.unset).toArray = ls at hl ⊢
  have hl : lv_has ls 14 [(0, .ref h0), (1, .int a1), (2, .int a2), (3, .int a3), (4, .int a4), (5, .int a5), (6, .int a6), (7, .int a7), (8, .int a8), (9, .int a9)] := hl
  have tl363 : ∀ (H : Heap) (locs : List Loc) (ls : Array Slot), va_P (dC, dI) vwCl [(h0, .inr (8, [.int 0, .int 1, .ref (q 0), .ref (q 1), .ref (q 2), .ref (q 3), .ref (q 4), .ref (q 5), .ref (q 6), .ref (q 7), .int 0, .ref (q 8), .ref (q 9), .ref (q 10), .ref (q 11), .ref (q 12), .ref (q 13), .ref (q 14), .ref (q 15), .ref (q 16), .ref (q 17), .ref (q 18), .ref (q 19), .int 0, .int 0, .ref (q 20), .ref (q 21), .int 0, .ref (q 22), .ref (q 23), .ref (q 24), .ref (q 25), .ref (q 26), .ref (q 27), .int 0, .ref (q 28), .ref (q 29), .int 0, .long 0, .int 0, .int 0, .ref (q 30)])), ((q 0), .inl ((cA 0), 16, .inl (upd (fun _ => 0) 0 (-1)))), ((q 1), .inl ((cA 1), 16, .inl (fun _ => 0))), ((q 2), .inl ((cA 2), 16, .inl (upd (fun _ => 0) 0 (-1)))), ((q 3), .inl ((cA 3), 16, .inl (fun _ => 0))), ((q 4), .inl ((cA 4), 16, .inl (fun _ => 0))), ((q 5), .inl ((cA 5), 16, .inl (fun _ => 0))), ((q 6), .inl ((cA 6), 16, .inl (fun _ => 0))), ((q 7), .inl ((cA 7), 16, .inl (fun _ => 0))), ((q 8), .inl ((cA 8), 40, .inl (fun _ => 0))), ((q 9), .inl ((cA 9), 40, .inl (fun _ => 0))), ((q 10), .inl ((cA 10), 40, .inl (fun _ => 0))), ((q 11), .inl ((cA 11), 40, .inl (fun _ => 0))), ((q 12), .inl ((cA 12), 40, .inl (fun _ => 0))), ((q 13), .inl ((cA 13), 80, .inl (fun _ => 0))), ((q 14), .inl ((cA 14), 40, .inl (fun _ => 0))), ((q 15), .inl ((cA 15), 40, .inl (fun _ => 0))), ((q 16), .inl ((cA 16), 40, .inl (fun _ => 0))), ((q 17), .inl ((cA 17), 40, .inl (fun _ => 0))), ((q 18), .inl ((cA 18), 40, .inl (fun _ => 0))), ((q 19), .inl ((cA 19), 40, .inl (fun _ => 0))), ((q 20), .inl ((cA 20), 60, .inl (fun _ => 0))), ((q 21), .inl ((cA 21), 60, .inl (fun _ => 0))), ((q 22), .inl ((cA 22), 130, .inl (fun _ => 0))), ((q 23), .inl ((cA 23), 130, .inl (fun _ => 0))), ((q 24), .inl ((cA 24), 130, .inl (fun _ => 0))), ((q 25), .inl ((cA 25), 130, .inl (fun _ => 0))), ((q 26), .inl ((cA 26), 5240, .inl (fun _ => 0))), ((q 27), .inl ((cA 27), 5240, .inr (.inl (fun _ => 0)))), ((q 28), .inl ((cA 28), 3, .inl (fun _ => 0))), ((q 29), .inl ((cA 29), 3, .inr (.inl (fun _ => 0)))), ((q 30), .inl ((cA 30), 16, .inl (fun _ => 0)))] H → va_D A [(h0, .inr (8, [.int 0, .int 1, .ref (q 0), .ref (q 1), .ref (q 2), .ref (q 3), .ref (q 4), .ref (q 5), .ref (q 6), .ref (q 7), .int 0, .ref (q 8), .ref (q 9), .ref (q 10), .ref (q 11), .ref (q 12), .ref (q 13), .ref (q 14), .ref (q 15), .ref (q 16), .ref (q 17), .ref (q 18), .ref (q 19), .int 0, .int 0, .ref (q 20), .ref (q 21), .int 0, .ref (q 22), .ref (q 23), .ref (q 24), .ref (q 25), .ref (q 26), .ref (q 27), .int 0, .ref (q 28), .ref (q 29), .int 0, .long 0, .int 0, .int 0, .ref (q 30)])), ((q 0), .inl ((cA 0), 16, .inl (upd (fun _ => 0) 0 (-1)))), ((q 1), .inl ((cA 1), 16, .inl (fun _ => 0))), ((q 2), .inl ((cA 2), 16, .inl (upd (fun _ => 0) 0 (-1)))), ((q 3), .inl ((cA 3), 16, .inl (fun _ => 0))), ((q 4), .inl ((cA 4), 16, .inl (fun _ => 0))), ((q 5), .inl ((cA 5), 16, .inl (fun _ => 0))), ((q 6), .inl ((cA 6), 16, .inl (fun _ => 0))), ((q 7), .inl ((cA 7), 16, .inl (fun _ => 0))), ((q 8), .inl ((cA 8), 40, .inl (fun _ => 0))), ((q 9), .inl ((cA 9), 40, .inl (fun _ => 0))), ((q 10), .inl ((cA 10), 40, .inl (fun _ => 0))), ((q 11), .inl ((cA 11), 40, .inl (fun _ => 0))), ((q 12), .inl ((cA 12), 40, .inl (fun _ => 0))), ((q 13), .inl ((cA 13), 80, .inl (fun _ => 0))), ((q 14), .inl ((cA 14), 40, .inl (fun _ => 0))), ((q 15), .inl ((cA 15), 40, .inl (fun _ => 0))), ((q 16), .inl ((cA 16), 40, .inl (fun _ => 0))), ((q 17), .inl ((cA 17), 40, .inl (fun _ => 0))), ((q 18), .inl ((cA 18), 40, .inl (fun _ => 0))), ((q 19), .inl ((cA 19), 40, .inl (fun _ => 0))), ((q 20), .inl ((cA 20), 60, .inl (fun _ => 0))), ((q 21), .inl ((cA 21), 60, .inl (fun _ => 0))), ((q 22), .inl ((cA 22), 130, .inl (fun _ => 0))), ((q 23), .inl ((cA 23), 130, .inl (fun _ => 0))), ((q 24), .inl ((cA 24), 130, .inl (fun _ => 0))), ((q 25), .inl ((cA 25), 130, .inl (fun _ => 0))), ((q 26), .inl ((cA 26), 5240, .inl (fun _ => 0))), ((q 27), .inl ((cA 27), 5240, .inr (.inl (fun _ => 0)))), ((q 28), .inl ((cA 28), 3, .inl (fun _ => 0))), ((q 29), .inl ((cA 29), 3, .inr (.inl (fun _ => 0)))), ((q 30), .inl ((cA 30), 16, .inl (fun _ => 0)))] → va_S A s.heap H locs → lv_has ls 14 [(0, .ref h0), (1, .int a1), (2, .int a2), (3, .int a3), (4, .int a4), (5, .int a5), (6, .int a6), (7, .int a7), (8, .int a8), (9, .int a9), (11, .int 0)] → (0 : Int32) = an_method a1.toInt a2.toInt a3.toInt a4.toInt a5.toInt a6.toInt a7.toInt a8.toInt a9.toInt → W p l e (headSpec wsX9_method ({ frames := 3, cells := 0, slots := 0, locals := 72 })).room s m ([.ref h0, .int a1, .int a2, .int a3, .int a4, .int a5, .int a6, .int a7, .int a8, .int a9].toArray) below meth c H locs 0 0 (MQ below (qW (dC, dI) (fun v w1 ty1 => v = some (.int (an_method a1.toInt a2.toInt a3.toInt a4.toInt a5.toInt a6.toInt a7.toInt a8.toInt a9.toInt)) ∧ w1 = [] ∧ ty1 = []) A) ([.ref h0, .int a1, .int a2, .int a3, .int a4, .int a5, .int a6, .int a7, .int a8, .int a9].toArray) s 0 0 A) (F0 m 363 ls []) := by
    intro H locs ls hP hD hS hl hz
    refine lv_aload_n hx hb dX9_method_363 rfl (lv_at hl 0 rfl) ?_
    refine va_get (D := (dC, dI)) (own := RX9) (ref := "ReflectModelsModel") (index := 128) (ci := 8) (v := .int 0) (C := RX9) (T := TX9) (N := 42) hx hb hts inX9_method_9 hown hK hP 0 rfl rfl 10 (by decide) (hts (.fieldLink RX9 128 "ReflectModelsModel" "members" "I") (by decide +kernel)) (fun _ h9 => h9) rfl dX9_method_364 ?_
    refine lv_istore (lv' := [(13, .int 0), (0, .ref h0), (1, .int a1), (2, .int a2), (3, .int a3), (4, .int a4), (5, .int a5), (6, .int a6), (7, .int a7), (8, .int a8), (9, .int a9), (11, .int 0)]) hx hb dX9_method_367 hl (by decide) rfl (fun ls hl => ?_)
    refine lv_aload_n hx hb dX9_method_369 rfl (lv_at hl 1 rfl) ?_
    refine lv_dup hx hb dX9_method_370 rfl ?_
    refine va_get (D := (dC, dI)) (own := RX9) (ref := "ReflectModelsModel") (index := 128) (ci := 8) (v := .int 0) (C := RX9) (T := TX9) (N := 42) hx hb hts inX9_method_9 hown hK hP 0 rfl rfl 10 (by decide) (hts (.fieldLink RX9 128 "ReflectModelsModel" "members" "I") (by decide +kernel)) (fun _ h9 => h9) rfl dX9_method_371 ?_
    refine lv_iconst (v := 1) hx hb dX9_method_374 (by decide) ?_
    refine lv_iadd hx hb dX9_method_375 ?_
    refine lv_topi (fun y21 ey21 => ?_)
    obtain rfl : y21 = 1 := ey21.trans (by decide)
    refine va_put (D := (dC, dI)) (own := RX9) (ref := "ReflectModelsModel") (index := 128) (ci := 8) (v := .int 1) (ty := .int) (C := RX9) (T := TX9) (N := 42) hx hb hts inX9_method_9 tyX9 tyX9_ok nmX9 hown hK hP hD hS 0 rfl rfl 10 (by decide) (hts (.fieldLink RX9 128 "ReflectModelsModel" "members" "I") (by decide +kernel)) (fun _ h9 => h9) rfl (by decide +kernel) rfl rfl (Nat.le_of_ble_eq_true rfl) dX9_method_376 (fun H locs hP hD hS => ?_)
    have hP : va_P (dC, dI) vwCl [(h0, .inr (8, [.int 0, .int 1, .ref (q 0), .ref (q 1), .ref (q 2), .ref (q 3), .ref (q 4), .ref (q 5), .ref (q 6), .ref (q 7), .int 1, .ref (q 8), .ref (q 9), .ref (q 10), .ref (q 11), .ref (q 12), .ref (q 13), .ref (q 14), .ref (q 15), .ref (q 16), .ref (q 17), .ref (q 18), .ref (q 19), .int 0, .int 0, .ref (q 20), .ref (q 21), .int 0, .ref (q 22), .ref (q 23), .ref (q 24), .ref (q 25), .ref (q 26), .ref (q 27), .int 0, .ref (q 28), .ref (q 29), .int 0, .long 0, .int 0, .int 0, .ref (q 30)])), ((q 0), .inl ((cA 0), 16, .inl (upd (fun _ => 0) 0 (-1)))), ((q 1), .inl ((cA 1), 16, .inl (fun _ => 0))), ((q 2), .inl ((cA 2), 16, .inl (upd (fun _ => 0) 0 (-1)))), ((q 3), .inl ((cA 3), 16, .inl (fun _ => 0))), ((q 4), .inl ((cA 4), 16, .inl (fun _ => 0))), ((q 5), .inl ((cA 5), 16, .inl (fun _ => 0))), ((q 6), .inl ((cA 6), 16, .inl (fun _ => 0))), ((q 7), .inl ((cA 7), 16, .inl (fun _ => 0))), ((q 8), .inl ((cA 8), 40, .inl (fun _ => 0))), ((q 9), .inl ((cA 9), 40, .inl (fun _ => 0))), ((q 10), .inl ((cA 10), 40, .inl (fun _ => 0))), ((q 11), .inl ((cA 11), 40, .inl (fun _ => 0))), ((q 12), .inl ((cA 12), 40, .inl (fun _ => 0))), ((q 13), .inl ((cA 13), 80, .inl (fun _ => 0))), ((q 14), .inl ((cA 14), 40, .inl (fun _ => 0))), ((q 15), .inl ((cA 15), 40, .inl (fun _ => 0))), ((q 16), .inl ((cA 16), 40, .inl (fun _ => 0))), ((q 17), .inl ((cA 17), 40, .inl (fun _ => 0))), ((q 18), .inl ((cA 18), 40, .inl (fun _ => 0))), ((q 19), .inl ((cA 19), 40, .inl (fun _ => 0))), ((q 20), .inl ((cA 20), 60, .inl (fun _ => 0))), ((q 21), .inl ((cA 21), 60, .inl (fun _ => 0))), ((q 22), .inl ((cA 22), 130, .inl (fun _ => 0))), ((q 23), .inl ((cA 23), 130, .inl (fun _ => 0))), ((q 24), .inl ((cA 24), 130, .inl (fun _ => 0))), ((q 25), .inl ((cA 25), 130, .inl (fun _ => 0))), ((q 26), .inl ((cA 26), 5240, .inl (fun _ => 0))), ((q 27), .inl ((cA 27), 5240, .inr (.inl (fun _ => 0)))), ((q 28), .inl ((cA 28), 3, .inl (fun _ => 0))), ((q 29), .inl ((cA 29), 3, .inr (.inl (fun _ => 0)))), ((q 30), .inl ((cA 30), 16, .inl (fun _ => 0)))] H := hP
    have hD : va_D A [(h0, .inr (8, [.int 0, .int 1, .ref (q 0), .ref (q 1), .ref (q 2), .ref (q 3), .ref (q 4), .ref (q 5), .ref (q 6), .ref (q 7), .int 1, .ref (q 8), .ref (q 9), .ref (q 10), .ref (q 11), .ref (q 12), .ref (q 13), .ref (q 14), .ref (q 15), .ref (q 16), .ref (q 17), .ref (q 18), .ref (q 19), .int 0, .int 0, .ref (q 20), .ref (q 21), .int 0, .ref (q 22), .ref (q 23), .ref (q 24), .ref (q 25), .ref (q 26), .ref (q 27), .int 0, .ref (q 28), .ref (q 29), .int 0, .long 0, .int 0, .int 0, .ref (q 30)])), ((q 0), .inl ((cA 0), 16, .inl (upd (fun _ => 0) 0 (-1)))), ((q 1), .inl ((cA 1), 16, .inl (fun _ => 0))), ((q 2), .inl ((cA 2), 16, .inl (upd (fun _ => 0) 0 (-1)))), ((q 3), .inl ((cA 3), 16, .inl (fun _ => 0))), ((q 4), .inl ((cA 4), 16, .inl (fun _ => 0))), ((q 5), .inl ((cA 5), 16, .inl (fun _ => 0))), ((q 6), .inl ((cA 6), 16, .inl (fun _ => 0))), ((q 7), .inl ((cA 7), 16, .inl (fun _ => 0))), ((q 8), .inl ((cA 8), 40, .inl (fun _ => 0))), ((q 9), .inl ((cA 9), 40, .inl (fun _ => 0))), ((q 10), .inl ((cA 10), 40, .inl (fun _ => 0))), ((q 11), .inl ((cA 11), 40, .inl (fun _ => 0))), ((q 12), .inl ((cA 12), 40, .inl (fun _ => 0))), ((q 13), .inl ((cA 13), 80, .inl (fun _ => 0))), ((q 14), .inl ((cA 14), 40, .inl (fun _ => 0))), ((q 15), .inl ((cA 15), 40, .inl (fun _ => 0))), ((q 16), .inl ((cA 16), 40, .inl (fun _ => 0))), ((q 17), .inl ((cA 17), 40, .inl (fun _ => 0))), ((q 18), .inl ((cA 18), 40, .inl (fun _ => 0))), ((q 19), .inl ((cA 19), 40, .inl (fun _ => 0))), ((q 20), .inl ((cA 20), 60, .inl (fun _ => 0))), ((q 21), .inl ((cA 21), 60, .inl (fun _ => 0))), ((q 22), .inl ((cA 22), 130, .inl (fun _ => 0))), ((q 23), .inl ((cA 23), 130, .inl (fun _ => 0))), ((q 24), .inl ((cA 24), 130, .inl (fun _ => 0))), ((q 25), .inl ((cA 25), 130, .inl (fun _ => 0))), ((q 26), .inl ((cA 26), 5240, .inl (fun _ => 0))), ((q 27), .inl ((cA 27), 5240, .inr (.inl (fun _ => 0)))), ((q 28), .inl ((cA 28), 3, .inl (fun _ => 0))), ((q 29), .inl ((cA 29), 3, .inr (.inl (fun _ => 0)))), ((q 30), .inl ((cA 30), 16, .inl (fun _ => 0)))] := hD
    refine lv_aload_n hx hb dX9_method_379 rfl (lv_at hl 1 rfl) ?_
    refine va_get (D := (dC, dI)) (own := RX9) (ref := "ReflectModelsModel") (index := 42) (ci := 8) (v := .ref (q 8)) (C := RX9) (T := TX9) (N := 42) hx hb hts inX9_method_9 hown hK hP 0 rfl rfl 11 (by decide) (hts (.fieldLink RX9 42 "ReflectModelsModel" "memberOf" "[I") (by decide +kernel)) (fun _ h9 => h9) rfl dX9_method_380 ?_
    refine lv_iload hx hb dX9_method_383 (lv_at hl 0 rfl) ?_
    refine lv_iload_n hx hb dX9_method_385 rfl (lv_at hl 2 rfl) ?_
    refine va_iast hx hb hK hP hD hS 9 8 rfl rfl (vp_in_iff.mpr ⟨by decide, by decide⟩) dX9_method_386 (fun H locs hP hD hS => ?_)
    have hP : va_P (dC, dI) vwCl [(h0, .inr (8, [.int 0, .int 1, .ref (q 0), .ref (q 1), .ref (q 2), .ref (q 3), .ref (q 4), .ref (q 5), .ref (q 6), .ref (q 7), .int 1, .ref (q 8), .ref (q 9), .ref (q 10), .ref (q 11), .ref (q 12), .ref (q 13), .ref (q 14), .ref (q 15), .ref (q 16), .ref (q 17), .ref (q 18), .ref (q 19), .int 0, .int 0, .ref (q 20), .ref (q 21), .int 0, .ref (q 22), .ref (q 23), .ref (q 24), .ref (q 25), .ref (q 26), .ref (q 27), .int 0, .ref (q 28), .ref (q 29), .int 0, .long 0, .int 0, .int 0, .ref (q 30)])), ((q 0), .inl ((cA 0), 16, .inl (upd (fun _ => 0) 0 (-1)))), ((q 1), .inl ((cA 1), 16, .inl (fun _ => 0))), ((q 2), .inl ((cA 2), 16, .inl (upd (fun _ => 0) 0 (-1)))), ((q 3), .inl ((cA 3), 16, .inl (fun _ => 0))), ((q 4), .inl ((cA 4), 16, .inl (fun _ => 0))), ((q 5), .inl ((cA 5), 16, .inl (fun _ => 0))), ((q 6), .inl ((cA 6), 16, .inl (fun _ => 0))), ((q 7), .inl ((cA 7), 16, .inl (fun _ => 0))), ((q 8), .inl ((cA 8), 40, .inl (upd (fun _ => 0) 0 a1))), ((q 9), .inl ((cA 9), 40, .inl (fun _ => 0))), ((q 10), .inl ((cA 10), 40, .inl (fun _ => 0))), ((q 11), .inl ((cA 11), 40, .inl (fun _ => 0))), ((q 12), .inl ((cA 12), 40, .inl (fun _ => 0))), ((q 13), .inl ((cA 13), 80, .inl (fun _ => 0))), ((q 14), .inl ((cA 14), 40, .inl (fun _ => 0))), ((q 15), .inl ((cA 15), 40, .inl (fun _ => 0))), ((q 16), .inl ((cA 16), 40, .inl (fun _ => 0))), ((q 17), .inl ((cA 17), 40, .inl (fun _ => 0))), ((q 18), .inl ((cA 18), 40, .inl (fun _ => 0))), ((q 19), .inl ((cA 19), 40, .inl (fun _ => 0))), ((q 20), .inl ((cA 20), 60, .inl (fun _ => 0))), ((q 21), .inl ((cA 21), 60, .inl (fun _ => 0))), ((q 22), .inl ((cA 22), 130, .inl (fun _ => 0))), ((q 23), .inl ((cA 23), 130, .inl (fun _ => 0))), ((q 24), .inl ((cA 24), 130, .inl (fun _ => 0))), ((q 25), .inl ((cA 25), 130, .inl (fun _ => 0))), ((q 26), .inl ((cA 26), 5240, .inl (fun _ => 0))), ((q 27), .inl ((cA 27), 5240, .inr (.inl (fun _ => 0)))), ((q 28), .inl ((cA 28), 3, .inl (fun _ => 0))), ((q 29), .inl ((cA 29), 3, .inr (.inl (fun _ => 0)))), ((q 30), .inl ((cA 30), 16, .inl (fun _ => 0)))] H := hP
    have hD : va_D A [(h0, .inr (8, [.int 0, .int 1, .ref (q 0), .ref (q 1), .ref (q 2), .ref (q 3), .ref (q 4), .ref (q 5), .ref (q 6), .ref (q 7), .int 1, .ref (q 8), .ref (q 9), .ref (q 10), .ref (q 11), .ref (q 12), .ref (q 13), .ref (q 14), .ref (q 15), .ref (q 16), .ref (q 17), .ref (q 18), .ref (q 19), .int 0, .int 0, .ref (q 20), .ref (q 21), .int 0, .ref (q 22), .ref (q 23), .ref (q 24), .ref (q 25), .ref (q 26), .ref (q 27), .int 0, .ref (q 28), .ref (q 29), .int 0, .long 0, .int 0, .int 0, .ref (q 30)])), ((q 0), .inl ((cA 0), 16, .inl (upd (fun _ => 0) 0 (-1)))), ((q 1), .inl ((cA 1), 16, .inl (fun _ => 0))), ((q 2), .inl ((cA 2), 16, .inl (upd (fun _ => 0) 0 (-1)))), ((q 3), .inl ((cA 3), 16, .inl (fun _ => 0))), ((q 4), .inl ((cA 4), 16, .inl (fun _ => 0))), ((q 5), .inl ((cA 5), 16, .inl (fun _ => 0))), ((q 6), .inl ((cA 6), 16, .inl (fun _ => 0))), ((q 7), .inl ((cA 7), 16, .inl (fun _ => 0))), ((q 8), .inl ((cA 8), 40, .inl (upd (fun _ => 0) 0 a1))), ((q 9), .inl ((cA 9), 40, .inl (fun _ => 0))), ((q 10), .inl ((cA 10), 40, .inl (fun _ => 0))), ((q 11), .inl ((cA 11), 40, .inl (fun _ => 0))), ((q 12), .inl ((cA 12), 40, .inl (fun _ => 0))), ((q 13), .inl ((cA 13), 80, .inl (fun _ => 0))), ((q 14), .inl ((cA 14), 40, .inl (fun _ => 0))), ((q 15), .inl ((cA 15), 40, .inl (fun _ => 0))), ((q 16), .inl ((cA 16), 40, .inl (fun _ => 0))), ((q 17), .inl ((cA 17), 40, .inl (fun _ => 0))), ((q 18), .inl ((cA 18), 40, .inl (fun _ => 0))), ((q 19), .inl ((cA 19), 40, .inl (fun _ => 0))), ((q 20), .inl ((cA 20), 60, .inl (fun _ => 0))), ((q 21), .inl ((cA 21), 60, .inl (fun _ => 0))), ((q 22), .inl ((cA 22), 130, .inl (fun _ => 0))), ((q 23), .inl ((cA 23), 130, .inl (fun _ => 0))), ((q 24), .inl ((cA 24), 130, .inl (fun _ => 0))), ((q 25), .inl ((cA 25), 130, .inl (fun _ => 0))), ((q 26), .inl ((cA 26), 5240, .inl (fun _ => 0))), ((q 27), .inl ((cA 27), 5240, .inr (.inl (fun _ => 0)))), ((q 28), .inl ((cA 28), 3, .inl (fun _ => 0))), ((q 29), .inl ((cA 29), 3, .inr (.inl (fun _ => 0)))), ((q 30), .inl ((cA 30), 16, .inl (fun _ => 0)))] := hD
    refine lv_aload_n hx hb dX9_method_387 rfl (lv_at hl 1 rfl) ?_
    refine va_get (D := (dC, dI)) (own := RX9) (ref := "ReflectModelsModel") (index := 45) (ci := 8) (v := .ref (q 9)) (C := RX9) (T := TX9) (N := 42) hx hb hts inX9_method_9 hown hK hP 0 rfl rfl 12 (by decide) (hts (.fieldLink RX9 45 "ReflectModelsModel" "isField" "[Z") (by decide +kernel)) (fun _ h9 => h9) rfl dX9_method_388 ?_
    refine lv_iload hx hb dX9_method_391 (lv_at hl 0 rfl) ?_
    refine lv_iconst (v := 0) hx hb dX9_method_393 (by decide) ?_
    refine va_zast hx hb hK hP hD hS 10 9 rfl rfl (vp_in_iff.mpr ⟨by decide, by decide⟩) dX9_method_394 (fun H locs hP hD hS => ?_)
    have hP : va_P (dC, dI) vwCl [(h0, .inr (8, [.int 0, .int 1, .ref (q 0), .ref (q 1), .ref (q 2), .ref (q 3), .ref (q 4), .ref (q 5), .ref (q 6), .ref (q 7), .int 1, .ref (q 8), .ref (q 9), .ref (q 10), .ref (q 11), .ref (q 12), .ref (q 13), .ref (q 14), .ref (q 15), .ref (q 16), .ref (q 17), .ref (q 18), .ref (q 19), .int 0, .int 0, .ref (q 20), .ref (q 21), .int 0, .ref (q 22), .ref (q 23), .ref (q 24), .ref (q 25), .ref (q 26), .ref (q 27), .int 0, .ref (q 28), .ref (q 29), .int 0, .long 0, .int 0, .int 0, .ref (q 30)])), ((q 0), .inl ((cA 0), 16, .inl (upd (fun _ => 0) 0 (-1)))), ((q 1), .inl ((cA 1), 16, .inl (fun _ => 0))), ((q 2), .inl ((cA 2), 16, .inl (upd (fun _ => 0) 0 (-1)))), ((q 3), .inl ((cA 3), 16, .inl (fun _ => 0))), ((q 4), .inl ((cA 4), 16, .inl (fun _ => 0))), ((q 5), .inl ((cA 5), 16, .inl (fun _ => 0))), ((q 6), .inl ((cA 6), 16, .inl (fun _ => 0))), ((q 7), .inl ((cA 7), 16, .inl (fun _ => 0))), ((q 8), .inl ((cA 8), 40, .inl (upd (fun _ => 0) 0 a1))), ((q 9), .inl ((cA 9), 40, .inl (upd (fun _ => 0) 0 0))), ((q 10), .inl ((cA 10), 40, .inl (fun _ => 0))), ((q 11), .inl ((cA 11), 40, .inl (fun _ => 0))), ((q 12), .inl ((cA 12), 40, .inl (fun _ => 0))), ((q 13), .inl ((cA 13), 80, .inl (fun _ => 0))), ((q 14), .inl ((cA 14), 40, .inl (fun _ => 0))), ((q 15), .inl ((cA 15), 40, .inl (fun _ => 0))), ((q 16), .inl ((cA 16), 40, .inl (fun _ => 0))), ((q 17), .inl ((cA 17), 40, .inl (fun _ => 0))), ((q 18), .inl ((cA 18), 40, .inl (fun _ => 0))), ((q 19), .inl ((cA 19), 40, .inl (fun _ => 0))), ((q 20), .inl ((cA 20), 60, .inl (fun _ => 0))), ((q 21), .inl ((cA 21), 60, .inl (fun _ => 0))), ((q 22), .inl ((cA 22), 130, .inl (fun _ => 0))), ((q 23), .inl ((cA 23), 130, .inl (fun _ => 0))), ((q 24), .inl ((cA 24), 130, .inl (fun _ => 0))), ((q 25), .inl ((cA 25), 130, .inl (fun _ => 0))), ((q 26), .inl ((cA 26), 5240, .inl (fun _ => 0))), ((q 27), .inl ((cA 27), 5240, .inr (.inl (fun _ => 0)))), ((q 28), .inl ((cA 28), 3, .inl (fun _ => 0))), ((q 29), .inl ((cA 29), 3, .inr (.inl (fun _ => 0)))), ((q 30), .inl ((cA 30), 16, .inl (fun _ => 0)))] H := hP
    have hD : va_D A [(h0, .inr (8, [.int 0, .int 1, .ref (q 0), .ref (q 1), .ref (q 2), .ref (q 3), .ref (q 4), .ref (q 5), .ref (q 6), .ref (q 7), .int 1, .ref (q 8), .ref (q 9), .ref (q 10), .ref (q 11), .ref (q 12), .ref (q 13), .ref (q 14), .ref (q 15), .ref (q 16), .ref (q 17), .ref (q 18), .ref (q 19), .int 0, .int 0, .ref (q 20), .ref (q 21), .int 0, .ref (q 22), .ref (q 23), .ref (q 24), .ref (q 25), .ref (q 26), .ref (q 27), .int 0, .ref (q 28), .ref (q 29), .int 0, .long 0, .int 0, .int 0, .ref (q 30)])), ((q 0), .inl ((cA 0), 16, .inl (upd (fun _ => 0) 0 (-1)))), ((q 1), .inl ((cA 1), 16, .inl (fun _ => 0))), ((q 2), .inl ((cA 2), 16, .inl (upd (fun _ => 0) 0 (-1)))), ((q 3), .inl ((cA 3), 16, .inl (fun _ => 0))), ((q 4), .inl ((cA 4), 16, .inl (fun _ => 0))), ((q 5), .inl ((cA 5), 16, .inl (fun _ => 0))), ((q 6), .inl ((cA 6), 16, .inl (fun _ => 0))), ((q 7), .inl ((cA 7), 16, .inl (fun _ => 0))), ((q 8), .inl ((cA 8), 40, .inl (upd (fun _ => 0) 0 a1))), ((q 9), .inl ((cA 9), 40, .inl (upd (fun _ => 0) 0 0))), ((q 10), .inl ((cA 10), 40, .inl (fun _ => 0))), ((q 11), .inl ((cA 11), 40, .inl (fun _ => 0))), ((q 12), .inl ((cA 12), 40, .inl (fun _ => 0))), ((q 13), .inl ((cA 13), 80, .inl (fun _ => 0))), ((q 14), .inl ((cA 14), 40, .inl (fun _ => 0))), ((q 15), .inl ((cA 15), 40, .inl (fun _ => 0))), ((q 16), .inl ((cA 16), 40, .inl (fun _ => 0))), ((q 17), .inl ((cA 17), 40, .inl (fun _ => 0))), ((q 18), .inl ((cA 18), 40, .inl (fun _ => 0))), ((q 19), .inl ((cA 19), 40, .inl (fun _ => 0))), ((q 20), .inl ((cA 20), 60, .inl (fun _ => 0))), ((q 21), .inl ((cA 21), 60, .inl (fun _ => 0))), ((q 22), .inl ((cA 22), 130, .inl (fun _ => 0))), ((q 23), .inl ((cA 23), 130, .inl (fun _ => 0))), ((q 24), .inl ((cA 24), 130, .inl (fun _ => 0))), ((q 25), .inl ((cA 25), 130, .inl (fun _ => 0))), ((q 26), .inl ((cA 26), 5240, .inl (fun _ => 0))), ((q 27), .inl ((cA 27), 5240, .inr (.inl (fun _ => 0)))), ((q 28), .inl ((cA 28), 3, .inl (fun _ => 0))), ((q 29), .inl ((cA 29), 3, .inr (.inl (fun _ => 0)))), ((q 30), .inl ((cA 30), 16, .inl (fun _ => 0)))] := hD
    refine lv_aload_n hx hb dX9_method_395 rfl (lv_at hl 1 rfl) ?_
    refine va_get (D := (dC, dI)) (own := RX9) (ref := "ReflectModelsModel") (index := 48) (ci := 8) (v := .ref (q 10)) (C := RX9) (T := TX9) (N := 42) hx hb hts inX9_method_9 hown hK hP 0 rfl rfl 13 (by decide) (hts (.fieldLink RX9 48 "ReflectModelsModel" "name" "[I") (by decide +kernel)) (fun _ h9 => h9) rfl dX9_method_396 ?_
    refine lv_iload hx hb dX9_method_399 (lv_at hl 0 rfl) ?_
    refine lv_iload_n hx hb dX9_method_401 rfl (lv_at hl 3 rfl) ?_
    refine va_iast hx hb hK hP hD hS 11 10 rfl rfl (vp_in_iff.mpr ⟨by decide, by decide⟩) dX9_method_402 (fun H locs hP hD hS => ?_)
    have hP : va_P (dC, dI) vwCl [(h0, .inr (8, [.int 0, .int 1, .ref (q 0), .ref (q 1), .ref (q 2), .ref (q 3), .ref (q 4), .ref (q 5), .ref (q 6), .ref (q 7), .int 1, .ref (q 8), .ref (q 9), .ref (q 10), .ref (q 11), .ref (q 12), .ref (q 13), .ref (q 14), .ref (q 15), .ref (q 16), .ref (q 17), .ref (q 18), .ref (q 19), .int 0, .int 0, .ref (q 20), .ref (q 21), .int 0, .ref (q 22), .ref (q 23), .ref (q 24), .ref (q 25), .ref (q 26), .ref (q 27), .int 0, .ref (q 28), .ref (q 29), .int 0, .long 0, .int 0, .int 0, .ref (q 30)])), ((q 0), .inl ((cA 0), 16, .inl (upd (fun _ => 0) 0 (-1)))), ((q 1), .inl ((cA 1), 16, .inl (fun _ => 0))), ((q 2), .inl ((cA 2), 16, .inl (upd (fun _ => 0) 0 (-1)))), ((q 3), .inl ((cA 3), 16, .inl (fun _ => 0))), ((q 4), .inl ((cA 4), 16, .inl (fun _ => 0))), ((q 5), .inl ((cA 5), 16, .inl (fun _ => 0))), ((q 6), .inl ((cA 6), 16, .inl (fun _ => 0))), ((q 7), .inl ((cA 7), 16, .inl (fun _ => 0))), ((q 8), .inl ((cA 8), 40, .inl (upd (fun _ => 0) 0 a1))), ((q 9), .inl ((cA 9), 40, .inl (upd (fun _ => 0) 0 0))), ((q 10), .inl ((cA 10), 40, .inl (upd (fun _ => 0) 0 a2))), ((q 11), .inl ((cA 11), 40, .inl (fun _ => 0))), ((q 12), .inl ((cA 12), 40, .inl (fun _ => 0))), ((q 13), .inl ((cA 13), 80, .inl (fun _ => 0))), ((q 14), .inl ((cA 14), 40, .inl (fun _ => 0))), ((q 15), .inl ((cA 15), 40, .inl (fun _ => 0))), ((q 16), .inl ((cA 16), 40, .inl (fun _ => 0))), ((q 17), .inl ((cA 17), 40, .inl (fun _ => 0))), ((q 18), .inl ((cA 18), 40, .inl (fun _ => 0))), ((q 19), .inl ((cA 19), 40, .inl (fun _ => 0))), ((q 20), .inl ((cA 20), 60, .inl (fun _ => 0))), ((q 21), .inl ((cA 21), 60, .inl (fun _ => 0))), ((q 22), .inl ((cA 22), 130, .inl (fun _ => 0))), ((q 23), .inl ((cA 23), 130, .inl (fun _ => 0))), ((q 24), .inl ((cA 24), 130, .inl (fun _ => 0))), ((q 25), .inl ((cA 25), 130, .inl (fun _ => 0))), ((q 26), .inl ((cA 26), 5240, .inl (fun _ => 0))), ((q 27), .inl ((cA 27), 5240, .inr (.inl (fun _ => 0)))), ((q 28), .inl ((cA 28), 3, .inl (fun _ => 0))), ((q 29), .inl ((cA 29), 3, .inr (.inl (fun _ => 0)))), ((q 30), .inl ((cA 30), 16, .inl (fun _ => 0)))] H := hP
    have hD : va_D A [(h0, .inr (8, [.int 0, .int 1, .ref (q 0), .ref (q 1), .ref (q 2), .ref (q 3), .ref (q 4), .ref (q 5), .ref (q 6), .ref (q 7), .int 1, .ref (q 8), .ref (q 9), .ref (q 10), .ref (q 11), .ref (q 12), .ref (q 13), .ref (q 14), .ref (q 15), .ref (q 16), .ref (q 17), .ref (q 18), .ref (q 19), .int 0, .int 0, .ref (q 20), .ref (q 21), .int 0, .ref (q 22), .ref (q 23), .ref (q 24), .ref (q 25), .ref (q 26), .ref (q 27), .int 0, .ref (q 28), .ref (q 29), .int 0, .long 0, .int 0, .int 0, .ref (q 30)])), ((q 0), .inl ((cA 0), 16, .inl (upd (fun _ => 0) 0 (-1)))), ((q 1), .inl ((cA 1), 16, .inl (fun _ => 0))), ((q 2), .inl ((cA 2), 16, .inl (upd (fun _ => 0) 0 (-1)))), ((q 3), .inl ((cA 3), 16, .inl (fun _ => 0))), ((q 4), .inl ((cA 4), 16, .inl (fun _ => 0))), ((q 5), .inl ((cA 5), 16, .inl (fun _ => 0))), ((q 6), .inl ((cA 6), 16, .inl (fun _ => 0))), ((q 7), .inl ((cA 7), 16, .inl (fun _ => 0))), ((q 8), .inl ((cA 8), 40, .inl (upd (fun _ => 0) 0 a1))), ((q 9), .inl ((cA 9), 40, .inl (upd (fun _ => 0) 0 0))), ((q 10), .inl ((cA 10), 40, .inl (upd (fun _ => 0) 0 a2))), ((q 11), .inl ((cA 11), 40, .inl (fun _ => 0))), ((q 12), .inl ((cA 12), 40, .inl (fun _ => 0))), ((q 13), .inl ((cA 13), 80, .inl (fun _ => 0))), ((q 14), .inl ((cA 14), 40, .inl (fun _ => 0))), ((q 15), .inl ((cA 15), 40, .inl (fun _ => 0))), ((q 16), .inl ((cA 16), 40, .inl (fun _ => 0))), ((q 17), .inl ((cA 17), 40, .inl (fun _ => 0))), ((q 18), .inl ((cA 18), 40, .inl (fun _ => 0))), ((q 19), .inl ((cA 19), 40, .inl (fun _ => 0))), ((q 20), .inl ((cA 20), 60, .inl (fun _ => 0))), ((q 21), .inl ((cA 21), 60, .inl (fun _ => 0))), ((q 22), .inl ((cA 22), 130, .inl (fun _ => 0))), ((q 23), .inl ((cA 23), 130, .inl (fun _ => 0))), ((q 24), .inl ((cA 24), 130, .inl (fun _ => 0))), ((q 25), .inl ((cA 25), 130, .inl (fun _ => 0))), ((q 26), .inl ((cA 26), 5240, .inl (fun _ => 0))), ((q 27), .inl ((cA 27), 5240, .inr (.inl (fun _ => 0)))), ((q 28), .inl ((cA 28), 3, .inl (fun _ => 0))), ((q 29), .inl ((cA 29), 3, .inr (.inl (fun _ => 0)))), ((q 30), .inl ((cA 30), 16, .inl (fun _ => 0)))] := hD
    refine lv_aload_n hx hb dX9_method_403 rfl (lv_at hl 1 rfl) ?_
    refine va_get (D := (dC, dI)) (own := RX9) (ref := "ReflectModelsModel") (index := 54) (ci := 8) (v := .ref (q 12)) (C := RX9) (T := TX9) (N := 42) hx hb hts inX9_method_9 hown hK hP 0 rfl rfl 15 (by decide) (hts (.fieldLink RX9 54 "ReflectModelsModel" "many" "[I") (by decide +kernel)) (fun _ h9 => h9) rfl dX9_method_404 ?_
    refine lv_iload hx hb dX9_method_407 (lv_at hl 0 rfl) ?_
    refine lv_iload_n hx hb dX9_method_409 rfl (lv_at hl 4 rfl) ?_
    refine va_iast hx hb hK hP hD hS 13 12 rfl rfl (vp_in_iff.mpr ⟨by decide, by decide⟩) dX9_method_410 (fun H locs hP hD hS => ?_)
    have hP : va_P (dC, dI) vwCl [(h0, .inr (8, [.int 0, .int 1, .ref (q 0), .ref (q 1), .ref (q 2), .ref (q 3), .ref (q 4), .ref (q 5), .ref (q 6), .ref (q 7), .int 1, .ref (q 8), .ref (q 9), .ref (q 10), .ref (q 11), .ref (q 12), .ref (q 13), .ref (q 14), .ref (q 15), .ref (q 16), .ref (q 17), .ref (q 18), .ref (q 19), .int 0, .int 0, .ref (q 20), .ref (q 21), .int 0, .ref (q 22), .ref (q 23), .ref (q 24), .ref (q 25), .ref (q 26), .ref (q 27), .int 0, .ref (q 28), .ref (q 29), .int 0, .long 0, .int 0, .int 0, .ref (q 30)])), ((q 0), .inl ((cA 0), 16, .inl (upd (fun _ => 0) 0 (-1)))), ((q 1), .inl ((cA 1), 16, .inl (fun _ => 0))), ((q 2), .inl ((cA 2), 16, .inl (upd (fun _ => 0) 0 (-1)))), ((q 3), .inl ((cA 3), 16, .inl (fun _ => 0))), ((q 4), .inl ((cA 4), 16, .inl (fun _ => 0))), ((q 5), .inl ((cA 5), 16, .inl (fun _ => 0))), ((q 6), .inl ((cA 6), 16, .inl (fun _ => 0))), ((q 7), .inl ((cA 7), 16, .inl (fun _ => 0))), ((q 8), .inl ((cA 8), 40, .inl (upd (fun _ => 0) 0 a1))), ((q 9), .inl ((cA 9), 40, .inl (upd (fun _ => 0) 0 0))), ((q 10), .inl ((cA 10), 40, .inl (upd (fun _ => 0) 0 a2))), ((q 11), .inl ((cA 11), 40, .inl (fun _ => 0))), ((q 12), .inl ((cA 12), 40, .inl (upd (fun _ => 0) 0 a3))), ((q 13), .inl ((cA 13), 80, .inl (fun _ => 0))), ((q 14), .inl ((cA 14), 40, .inl (fun _ => 0))), ((q 15), .inl ((cA 15), 40, .inl (fun _ => 0))), ((q 16), .inl ((cA 16), 40, .inl (fun _ => 0))), ((q 17), .inl ((cA 17), 40, .inl (fun _ => 0))), ((q 18), .inl ((cA 18), 40, .inl (fun _ => 0))), ((q 19), .inl ((cA 19), 40, .inl (fun _ => 0))), ((q 20), .inl ((cA 20), 60, .inl (fun _ => 0))), ((q 21), .inl ((cA 21), 60, .inl (fun _ => 0))), ((q 22), .inl ((cA 22), 130, .inl (fun _ => 0))), ((q 23), .inl ((cA 23), 130, .inl (fun _ => 0))), ((q 24), .inl ((cA 24), 130, .inl (fun _ => 0))), ((q 25), .inl ((cA 25), 130, .inl (fun _ => 0))), ((q 26), .inl ((cA 26), 5240, .inl (fun _ => 0))), ((q 27), .inl ((cA 27), 5240, .inr (.inl (fun _ => 0)))), ((q 28), .inl ((cA 28), 3, .inl (fun _ => 0))), ((q 29), .inl ((cA 29), 3, .inr (.inl (fun _ => 0)))), ((q 30), .inl ((cA 30), 16, .inl (fun _ => 0)))] H := hP
    have hD : va_D A [(h0, .inr (8, [.int 0, .int 1, .ref (q 0), .ref (q 1), .ref (q 2), .ref (q 3), .ref (q 4), .ref (q 5), .ref (q 6), .ref (q 7), .int 1, .ref (q 8), .ref (q 9), .ref (q 10), .ref (q 11), .ref (q 12), .ref (q 13), .ref (q 14), .ref (q 15), .ref (q 16), .ref (q 17), .ref (q 18), .ref (q 19), .int 0, .int 0, .ref (q 20), .ref (q 21), .int 0, .ref (q 22), .ref (q 23), .ref (q 24), .ref (q 25), .ref (q 26), .ref (q 27), .int 0, .ref (q 28), .ref (q 29), .int 0, .long 0, .int 0, .int 0, .ref (q 30)])), ((q 0), .inl ((cA 0), 16, .inl (upd (fun _ => 0) 0 (-1)))), ((q 1), .inl ((cA 1), 16, .inl (fun _ => 0))), ((q 2), .inl ((cA 2), 16, .inl (upd (fun _ => 0) 0 (-1)))), ((q 3), .inl ((cA 3), 16, .inl (fun _ => 0))), ((q 4), .inl ((cA 4), 16, .inl (fun _ => 0))), ((q 5), .inl ((cA 5), 16, .inl (fun _ => 0))), ((q 6), .inl ((cA 6), 16, .inl (fun _ => 0))), ((q 7), .inl ((cA 7), 16, .inl (fun _ => 0))), ((q 8), .inl ((cA 8), 40, .inl (upd (fun _ => 0) 0 a1))), ((q 9), .inl ((cA 9), 40, .inl (upd (fun _ => 0) 0 0))), ((q 10), .inl ((cA 10), 40, .inl (upd (fun _ => 0) 0 a2))), ((q 11), .inl ((cA 11), 40, .inl (fun _ => 0))), ((q 12), .inl ((cA 12), 40, .inl (upd (fun _ => 0) 0 a3))), ((q 13), .inl ((cA 13), 80, .inl (fun _ => 0))), ((q 14), .inl ((cA 14), 40, .inl (fun _ => 0))), ((q 15), .inl ((cA 15), 40, .inl (fun _ => 0))), ((q 16), .inl ((cA 16), 40, .inl (fun _ => 0))), ((q 17), .inl ((cA 17), 40, .inl (fun _ => 0))), ((q 18), .inl ((cA 18), 40, .inl (fun _ => 0))), ((q 19), .inl ((cA 19), 40, .inl (fun _ => 0))), ((q 20), .inl ((cA 20), 60, .inl (fun _ => 0))), ((q 21), .inl ((cA 21), 60, .inl (fun _ => 0))), ((q 22), .inl ((cA 22), 130, .inl (fun _ => 0))), ((q 23), .inl ((cA 23), 130, .inl (fun _ => 0))), ((q 24), .inl ((cA 24), 130, .inl (fun _ => 0))), ((q 25), .inl ((cA 25), 130, .inl (fun _ => 0))), ((q 26), .inl ((cA 26), 5240, .inl (fun _ => 0))), ((q 27), .inl ((cA 27), 5240, .inr (.inl (fun _ => 0)))), ((q 28), .inl ((cA 28), 3, .inl (fun _ => 0))), ((q 29), .inl ((cA 29), 3, .inr (.inl (fun _ => 0)))), ((q 30), .inl ((cA 30), 16, .inl (fun _ => 0)))] := hD
    refine lv_aload_n hx hb dX9_method_411 rfl (lv_at hl 1 rfl) ?_
    refine va_get (D := (dC, dI)) (own := RX9) (ref := "ReflectModelsModel") (index := 57) (ci := 8) (v := .ref (q 13)) (C := RX9) (T := TX9) (N := 42) hx hb hts inX9_method_9 hown hK hP 0 rfl rfl 16 (by decide) (hts (.fieldLink RX9 57 "ReflectModelsModel" "typeOf" "[I") (by decide +kernel)) (fun _ h9 => h9) rfl dX9_method_412 ?_
    refine lv_iconst (v := 2) hx hb dX9_method_415 (by decide) ?_
    refine lv_iload hx hb dX9_method_416 (lv_at hl 0 rfl) ?_
    refine lv_imul hx hb dX9_method_418 ?_
    refine lv_topi (fun y22 ey22 => ?_)
    obtain rfl : y22 = 0 := ey22.trans (by decide)
    refine lv_iload hx hb dX9_method_419 (lv_at hl 5 rfl) ?_
    refine va_iast hx hb hK hP hD hS 14 13 rfl rfl (vp_in_iff.mpr ⟨by decide, by decide⟩) dX9_method_421 (fun H locs hP hD hS => ?_)
    have hP : va_P (dC, dI) vwCl [(h0, .inr (8, [.int 0, .int 1, .ref (q 0), .ref (q 1), .ref (q 2), .ref (q 3), .ref (q 4), .ref (q 5), .ref (q 6), .ref (q 7), .int 1, .ref (q 8), .ref (q 9), .ref (q 10), .ref (q 11), .ref (q 12), .ref (q 13), .ref (q 14), .ref (q 15), .ref (q 16), .ref (q 17), .ref (q 18), .ref (q 19), .int 0, .int 0, .ref (q 20), .ref (q 21), .int 0, .ref (q 22), .ref (q 23), .ref (q 24), .ref (q 25), .ref (q 26), .ref (q 27), .int 0, .ref (q 28), .ref (q 29), .int 0, .long 0, .int 0, .int 0, .ref (q 30)])), ((q 0), .inl ((cA 0), 16, .inl (upd (fun _ => 0) 0 (-1)))), ((q 1), .inl ((cA 1), 16, .inl (fun _ => 0))), ((q 2), .inl ((cA 2), 16, .inl (upd (fun _ => 0) 0 (-1)))), ((q 3), .inl ((cA 3), 16, .inl (fun _ => 0))), ((q 4), .inl ((cA 4), 16, .inl (fun _ => 0))), ((q 5), .inl ((cA 5), 16, .inl (fun _ => 0))), ((q 6), .inl ((cA 6), 16, .inl (fun _ => 0))), ((q 7), .inl ((cA 7), 16, .inl (fun _ => 0))), ((q 8), .inl ((cA 8), 40, .inl (upd (fun _ => 0) 0 a1))), ((q 9), .inl ((cA 9), 40, .inl (upd (fun _ => 0) 0 0))), ((q 10), .inl ((cA 10), 40, .inl (upd (fun _ => 0) 0 a2))), ((q 11), .inl ((cA 11), 40, .inl (fun _ => 0))), ((q 12), .inl ((cA 12), 40, .inl (upd (fun _ => 0) 0 a3))), ((q 13), .inl ((cA 13), 80, .inl (upd (fun _ => 0) 0 a4))), ((q 14), .inl ((cA 14), 40, .inl (fun _ => 0))), ((q 15), .inl ((cA 15), 40, .inl (fun _ => 0))), ((q 16), .inl ((cA 16), 40, .inl (fun _ => 0))), ((q 17), .inl ((cA 17), 40, .inl (fun _ => 0))), ((q 18), .inl ((cA 18), 40, .inl (fun _ => 0))), ((q 19), .inl ((cA 19), 40, .inl (fun _ => 0))), ((q 20), .inl ((cA 20), 60, .inl (fun _ => 0))), ((q 21), .inl ((cA 21), 60, .inl (fun _ => 0))), ((q 22), .inl ((cA 22), 130, .inl (fun _ => 0))), ((q 23), .inl ((cA 23), 130, .inl (fun _ => 0))), ((q 24), .inl ((cA 24), 130, .inl (fun _ => 0))), ((q 25), .inl ((cA 25), 130, .inl (fun _ => 0))), ((q 26), .inl ((cA 26), 5240, .inl (fun _ => 0))), ((q 27), .inl ((cA 27), 5240, .inr (.inl (fun _ => 0)))), ((q 28), .inl ((cA 28), 3, .inl (fun _ => 0))), ((q 29), .inl ((cA 29), 3, .inr (.inl (fun _ => 0)))), ((q 30), .inl ((cA 30), 16, .inl (fun _ => 0)))] H := hP
    have hD : va_D A [(h0, .inr (8, [.int 0, .int 1, .ref (q 0), .ref (q 1), .ref (q 2), .ref (q 3), .ref (q 4), .ref (q 5), .ref (q 6), .ref (q 7), .int 1, .ref (q 8), .ref (q 9), .ref (q 10), .ref (q 11), .ref (q 12), .ref (q 13), .ref (q 14), .ref (q 15), .ref (q 16), .ref (q 17), .ref (q 18), .ref (q 19), .int 0, .int 0, .ref (q 20), .ref (q 21), .int 0, .ref (q 22), .ref (q 23), .ref (q 24), .ref (q 25), .ref (q 26), .ref (q 27), .int 0, .ref (q 28), .ref (q 29), .int 0, .long 0, .int 0, .int 0, .ref (q 30)])), ((q 0), .inl ((cA 0), 16, .inl (upd (fun _ => 0) 0 (-1)))), ((q 1), .inl ((cA 1), 16, .inl (fun _ => 0))), ((q 2), .inl ((cA 2), 16, .inl (upd (fun _ => 0) 0 (-1)))), ((q 3), .inl ((cA 3), 16, .inl (fun _ => 0))), ((q 4), .inl ((cA 4), 16, .inl (fun _ => 0))), ((q 5), .inl ((cA 5), 16, .inl (fun _ => 0))), ((q 6), .inl ((cA 6), 16, .inl (fun _ => 0))), ((q 7), .inl ((cA 7), 16, .inl (fun _ => 0))), ((q 8), .inl ((cA 8), 40, .inl (upd (fun _ => 0) 0 a1))), ((q 9), .inl ((cA 9), 40, .inl (upd (fun _ => 0) 0 0))), ((q 10), .inl ((cA 10), 40, .inl (upd (fun _ => 0) 0 a2))), ((q 11), .inl ((cA 11), 40, .inl (fun _ => 0))), ((q 12), .inl ((cA 12), 40, .inl (upd (fun _ => 0) 0 a3))), ((q 13), .inl ((cA 13), 80, .inl (upd (fun _ => 0) 0 a4))), ((q 14), .inl ((cA 14), 40, .inl (fun _ => 0))), ((q 15), .inl ((cA 15), 40, .inl (fun _ => 0))), ((q 16), .inl ((cA 16), 40, .inl (fun _ => 0))), ((q 17), .inl ((cA 17), 40, .inl (fun _ => 0))), ((q 18), .inl ((cA 18), 40, .inl (fun _ => 0))), ((q 19), .inl ((cA 19), 40, .inl (fun _ => 0))), ((q 20), .inl ((cA 20), 60, .inl (fun _ => 0))), ((q 21), .inl ((cA 21), 60, .inl (fun _ => 0))), ((q 22), .inl ((cA 22), 130, .inl (fun _ => 0))), ((q 23), .inl ((cA 23), 130, .inl (fun _ => 0))), ((q 24), .inl ((cA 24), 130, .inl (fun _ => 0))), ((q 25), .inl ((cA 25), 130, .inl (fun _ => 0))), ((q 26), .inl ((cA 26), 5240, .inl (fun _ => 0))), ((q 27), .inl ((cA 27), 5240, .inr (.inl (fun _ => 0)))), ((q 28), .inl ((cA 28), 3, .inl (fun _ => 0))), ((q 29), .inl ((cA 29), 3, .inr (.inl (fun _ => 0)))), ((q 30), .inl ((cA 30), 16, .inl (fun _ => 0)))] := hD
    refine lv_aload_n hx hb dX9_method_422 rfl (lv_at hl 1 rfl) ?_
    refine va_get (D := (dC, dI)) (own := RX9) (ref := "ReflectModelsModel") (index := 57) (ci := 8) (v := .ref (q 13)) (C := RX9) (T := TX9) (N := 42) hx hb hts inX9_method_9 hown hK hP 0 rfl rfl 16 (by decide) (hts (.fieldLink RX9 57 "ReflectModelsModel" "typeOf" "[I") (by decide +kernel)) (fun _ h9 => h9) rfl dX9_method_423 ?_
    refine lv_iconst (v := 2) hx hb dX9_method_426 (by decide) ?_
    refine lv_iload hx hb dX9_method_427 (lv_at hl 0 rfl) ?_
    refine lv_imul hx hb dX9_method_429 ?_
    refine lv_topi (fun y23 ey23 => ?_)
    obtain rfl : y23 = 0 := ey23.trans (by decide)
    refine lv_iconst (v := 1) hx hb dX9_method_430 (by decide) ?_
    refine lv_iadd hx hb dX9_method_431 ?_
    refine lv_topi (fun y24 ey24 => ?_)
    obtain rfl : y24 = 1 := ey24.trans (by decide)
    refine lv_iload hx hb dX9_method_432 (lv_at hl 6 rfl) ?_
    refine va_iast hx hb hK hP hD hS 14 13 rfl rfl (vp_in_iff.mpr ⟨by decide, by decide⟩) dX9_method_434 (fun H locs hP hD hS => ?_)
    have hP : va_P (dC, dI) vwCl [(h0, .inr (8, [.int 0, .int 1, .ref (q 0), .ref (q 1), .ref (q 2), .ref (q 3), .ref (q 4), .ref (q 5), .ref (q 6), .ref (q 7), .int 1, .ref (q 8), .ref (q 9), .ref (q 10), .ref (q 11), .ref (q 12), .ref (q 13), .ref (q 14), .ref (q 15), .ref (q 16), .ref (q 17), .ref (q 18), .ref (q 19), .int 0, .int 0, .ref (q 20), .ref (q 21), .int 0, .ref (q 22), .ref (q 23), .ref (q 24), .ref (q 25), .ref (q 26), .ref (q 27), .int 0, .ref (q 28), .ref (q 29), .int 0, .long 0, .int 0, .int 0, .ref (q 30)])), ((q 0), .inl ((cA 0), 16, .inl (upd (fun _ => 0) 0 (-1)))), ((q 1), .inl ((cA 1), 16, .inl (fun _ => 0))), ((q 2), .inl ((cA 2), 16, .inl (upd (fun _ => 0) 0 (-1)))), ((q 3), .inl ((cA 3), 16, .inl (fun _ => 0))), ((q 4), .inl ((cA 4), 16, .inl (fun _ => 0))), ((q 5), .inl ((cA 5), 16, .inl (fun _ => 0))), ((q 6), .inl ((cA 6), 16, .inl (fun _ => 0))), ((q 7), .inl ((cA 7), 16, .inl (fun _ => 0))), ((q 8), .inl ((cA 8), 40, .inl (upd (fun _ => 0) 0 a1))), ((q 9), .inl ((cA 9), 40, .inl (upd (fun _ => 0) 0 0))), ((q 10), .inl ((cA 10), 40, .inl (upd (fun _ => 0) 0 a2))), ((q 11), .inl ((cA 11), 40, .inl (fun _ => 0))), ((q 12), .inl ((cA 12), 40, .inl (upd (fun _ => 0) 0 a3))), ((q 13), .inl ((cA 13), 80, .inl (upd (upd (fun _ => 0) 0 a4) 1 a5))), ((q 14), .inl ((cA 14), 40, .inl (fun _ => 0))), ((q 15), .inl ((cA 15), 40, .inl (fun _ => 0))), ((q 16), .inl ((cA 16), 40, .inl (fun _ => 0))), ((q 17), .inl ((cA 17), 40, .inl (fun _ => 0))), ((q 18), .inl ((cA 18), 40, .inl (fun _ => 0))), ((q 19), .inl ((cA 19), 40, .inl (fun _ => 0))), ((q 20), .inl ((cA 20), 60, .inl (fun _ => 0))), ((q 21), .inl ((cA 21), 60, .inl (fun _ => 0))), ((q 22), .inl ((cA 22), 130, .inl (fun _ => 0))), ((q 23), .inl ((cA 23), 130, .inl (fun _ => 0))), ((q 24), .inl ((cA 24), 130, .inl (fun _ => 0))), ((q 25), .inl ((cA 25), 130, .inl (fun _ => 0))), ((q 26), .inl ((cA 26), 5240, .inl (fun _ => 0))), ((q 27), .inl ((cA 27), 5240, .inr (.inl (fun _ => 0)))), ((q 28), .inl ((cA 28), 3, .inl (fun _ => 0))), ((q 29), .inl ((cA 29), 3, .inr (.inl (fun _ => 0)))), ((q 30), .inl ((cA 30), 16, .inl (fun _ => 0)))] H := hP
    have hD : va_D A [(h0, .inr (8, [.int 0, .int 1, .ref (q 0), .ref (q 1), .ref (q 2), .ref (q 3), .ref (q 4), .ref (q 5), .ref (q 6), .ref (q 7), .int 1, .ref (q 8), .ref (q 9), .ref (q 10), .ref (q 11), .ref (q 12), .ref (q 13), .ref (q 14), .ref (q 15), .ref (q 16), .ref (q 17), .ref (q 18), .ref (q 19), .int 0, .int 0, .ref (q 20), .ref (q 21), .int 0, .ref (q 22), .ref (q 23), .ref (q 24), .ref (q 25), .ref (q 26), .ref (q 27), .int 0, .ref (q 28), .ref (q 29), .int 0, .long 0, .int 0, .int 0, .ref (q 30)])), ((q 0), .inl ((cA 0), 16, .inl (upd (fun _ => 0) 0 (-1)))), ((q 1), .inl ((cA 1), 16, .inl (fun _ => 0))), ((q 2), .inl ((cA 2), 16, .inl (upd (fun _ => 0) 0 (-1)))), ((q 3), .inl ((cA 3), 16, .inl (fun _ => 0))), ((q 4), .inl ((cA 4), 16, .inl (fun _ => 0))), ((q 5), .inl ((cA 5), 16, .inl (fun _ => 0))), ((q 6), .inl ((cA 6), 16, .inl (fun _ => 0))), ((q 7), .inl ((cA 7), 16, .inl (fun _ => 0))), ((q 8), .inl ((cA 8), 40, .inl (upd (fun _ => 0) 0 a1))), ((q 9), .inl ((cA 9), 40, .inl (upd (fun _ => 0) 0 0))), ((q 10), .inl ((cA 10), 40, .inl (upd (fun _ => 0) 0 a2))), ((q 11), .inl ((cA 11), 40, .inl (fun _ => 0))), ((q 12), .inl ((cA 12), 40, .inl (upd (fun _ => 0) 0 a3))), ((q 13), .inl ((cA 13), 80, .inl (upd (upd (fun _ => 0) 0 a4) 1 a5))), ((q 14), .inl ((cA 14), 40, .inl (fun _ => 0))), ((q 15), .inl ((cA 15), 40, .inl (fun _ => 0))), ((q 16), .inl ((cA 16), 40, .inl (fun _ => 0))), ((q 17), .inl ((cA 17), 40, .inl (fun _ => 0))), ((q 18), .inl ((cA 18), 40, .inl (fun _ => 0))), ((q 19), .inl ((cA 19), 40, .inl (fun _ => 0))), ((q 20), .inl ((cA 20), 60, .inl (fun _ => 0))), ((q 21), .inl ((cA 21), 60, .inl (fun _ => 0))), ((q 22), .inl ((cA 22), 130, .inl (fun _ => 0))), ((q 23), .inl ((cA 23), 130, .inl (fun _ => 0))), ((q 24), .inl ((cA 24), 130, .inl (fun _ => 0))), ((q 25), .inl ((cA 25), 130, .inl (fun _ => 0))), ((q 26), .inl ((cA 26), 5240, .inl (fun _ => 0))), ((q 27), .inl ((cA 27), 5240, .inr (.inl (fun _ => 0)))), ((q 28), .inl ((cA 28), 3, .inl (fun _ => 0))), ((q 29), .inl ((cA 29), 3, .inr (.inl (fun _ => 0)))), ((q 30), .inl ((cA 30), 16, .inl (fun _ => 0)))] := hD
    refine lv_aload_n hx hb dX9_method_435 rfl (lv_at hl 1 rfl) ?_
    refine va_get (D := (dC, dI)) (own := RX9) (ref := "ReflectModelsModel") (index := 51) (ci := 8) (v := .ref (q 11)) (C := RX9) (T := TX9) (N := 42) hx hb hts inX9_method_9 hown hK hP 0 rfl rfl 14 (by decide) (hts (.fieldLink RX9 51 "ReflectModelsModel" "gives" "[I") (by decide +kernel)) (fun _ h9 => h9) rfl dX9_method_436 ?_
    refine lv_iload hx hb dX9_method_439 (lv_at hl 0 rfl) ?_
    refine lv_iload hx hb dX9_method_441 (lv_at hl 7 rfl) ?_
    refine va_iast hx hb hK hP hD hS 12 11 rfl rfl (vp_in_iff.mpr ⟨by decide, by decide⟩) dX9_method_443 (fun H locs hP hD hS => ?_)
    have hP : va_P (dC, dI) vwCl [(h0, .inr (8, [.int 0, .int 1, .ref (q 0), .ref (q 1), .ref (q 2), .ref (q 3), .ref (q 4), .ref (q 5), .ref (q 6), .ref (q 7), .int 1, .ref (q 8), .ref (q 9), .ref (q 10), .ref (q 11), .ref (q 12), .ref (q 13), .ref (q 14), .ref (q 15), .ref (q 16), .ref (q 17), .ref (q 18), .ref (q 19), .int 0, .int 0, .ref (q 20), .ref (q 21), .int 0, .ref (q 22), .ref (q 23), .ref (q 24), .ref (q 25), .ref (q 26), .ref (q 27), .int 0, .ref (q 28), .ref (q 29), .int 0, .long 0, .int 0, .int 0, .ref (q 30)])), ((q 0), .inl ((cA 0), 16, .inl (upd (fun _ => 0) 0 (-1)))), ((q 1), .inl ((cA 1), 16, .inl (fun _ => 0))), ((q 2), .inl ((cA 2), 16, .inl (upd (fun _ => 0) 0 (-1)))), ((q 3), .inl ((cA 3), 16, .inl (fun _ => 0))), ((q 4), .inl ((cA 4), 16, .inl (fun _ => 0))), ((q 5), .inl ((cA 5), 16, .inl (fun _ => 0))), ((q 6), .inl ((cA 6), 16, .inl (fun _ => 0))), ((q 7), .inl ((cA 7), 16, .inl (fun _ => 0))), ((q 8), .inl ((cA 8), 40, .inl (upd (fun _ => 0) 0 a1))), ((q 9), .inl ((cA 9), 40, .inl (upd (fun _ => 0) 0 0))), ((q 10), .inl ((cA 10), 40, .inl (upd (fun _ => 0) 0 a2))), ((q 11), .inl ((cA 11), 40, .inl (upd (fun _ => 0) 0 a6))), ((q 12), .inl ((cA 12), 40, .inl (upd (fun _ => 0) 0 a3))), ((q 13), .inl ((cA 13), 80, .inl (upd (upd (fun _ => 0) 0 a4) 1 a5))), ((q 14), .inl ((cA 14), 40, .inl (fun _ => 0))), ((q 15), .inl ((cA 15), 40, .inl (fun _ => 0))), ((q 16), .inl ((cA 16), 40, .inl (fun _ => 0))), ((q 17), .inl ((cA 17), 40, .inl (fun _ => 0))), ((q 18), .inl ((cA 18), 40, .inl (fun _ => 0))), ((q 19), .inl ((cA 19), 40, .inl (fun _ => 0))), ((q 20), .inl ((cA 20), 60, .inl (fun _ => 0))), ((q 21), .inl ((cA 21), 60, .inl (fun _ => 0))), ((q 22), .inl ((cA 22), 130, .inl (fun _ => 0))), ((q 23), .inl ((cA 23), 130, .inl (fun _ => 0))), ((q 24), .inl ((cA 24), 130, .inl (fun _ => 0))), ((q 25), .inl ((cA 25), 130, .inl (fun _ => 0))), ((q 26), .inl ((cA 26), 5240, .inl (fun _ => 0))), ((q 27), .inl ((cA 27), 5240, .inr (.inl (fun _ => 0)))), ((q 28), .inl ((cA 28), 3, .inl (fun _ => 0))), ((q 29), .inl ((cA 29), 3, .inr (.inl (fun _ => 0)))), ((q 30), .inl ((cA 30), 16, .inl (fun _ => 0)))] H := hP
    have hD : va_D A [(h0, .inr (8, [.int 0, .int 1, .ref (q 0), .ref (q 1), .ref (q 2), .ref (q 3), .ref (q 4), .ref (q 5), .ref (q 6), .ref (q 7), .int 1, .ref (q 8), .ref (q 9), .ref (q 10), .ref (q 11), .ref (q 12), .ref (q 13), .ref (q 14), .ref (q 15), .ref (q 16), .ref (q 17), .ref (q 18), .ref (q 19), .int 0, .int 0, .ref (q 20), .ref (q 21), .int 0, .ref (q 22), .ref (q 23), .ref (q 24), .ref (q 25), .ref (q 26), .ref (q 27), .int 0, .ref (q 28), .ref (q 29), .int 0, .long 0, .int 0, .int 0, .ref (q 30)])), ((q 0), .inl ((cA 0), 16, .inl (upd (fun _ => 0) 0 (-1)))), ((q 1), .inl ((cA 1), 16, .inl (fun _ => 0))), ((q 2), .inl ((cA 2), 16, .inl (upd (fun _ => 0) 0 (-1)))), ((q 3), .inl ((cA 3), 16, .inl (fun _ => 0))), ((q 4), .inl ((cA 4), 16, .inl (fun _ => 0))), ((q 5), .inl ((cA 5), 16, .inl (fun _ => 0))), ((q 6), .inl ((cA 6), 16, .inl (fun _ => 0))), ((q 7), .inl ((cA 7), 16, .inl (fun _ => 0))), ((q 8), .inl ((cA 8), 40, .inl (upd (fun _ => 0) 0 a1))), ((q 9), .inl ((cA 9), 40, .inl (upd (fun _ => 0) 0 0))), ((q 10), .inl ((cA 10), 40, .inl (upd (fun _ => 0) 0 a2))), ((q 11), .inl ((cA 11), 40, .inl (upd (fun _ => 0) 0 a6))), ((q 12), .inl ((cA 12), 40, .inl (upd (fun _ => 0) 0 a3))), ((q 13), .inl ((cA 13), 80, .inl (upd (upd (fun _ => 0) 0 a4) 1 a5))), ((q 14), .inl ((cA 14), 40, .inl (fun _ => 0))), ((q 15), .inl ((cA 15), 40, .inl (fun _ => 0))), ((q 16), .inl ((cA 16), 40, .inl (fun _ => 0))), ((q 17), .inl ((cA 17), 40, .inl (fun _ => 0))), ((q 18), .inl ((cA 18), 40, .inl (fun _ => 0))), ((q 19), .inl ((cA 19), 40, .inl (fun _ => 0))), ((q 20), .inl ((cA 20), 60, .inl (fun _ => 0))), ((q 21), .inl ((cA 21), 60, .inl (fun _ => 0))), ((q 22), .inl ((cA 22), 130, .inl (fun _ => 0))), ((q 23), .inl ((cA 23), 130, .inl (fun _ => 0))), ((q 24), .inl ((cA 24), 130, .inl (fun _ => 0))), ((q 25), .inl ((cA 25), 130, .inl (fun _ => 0))), ((q 26), .inl ((cA 26), 5240, .inl (fun _ => 0))), ((q 27), .inl ((cA 27), 5240, .inr (.inl (fun _ => 0)))), ((q 28), .inl ((cA 28), 3, .inl (fun _ => 0))), ((q 29), .inl ((cA 29), 3, .inr (.inl (fun _ => 0)))), ((q 30), .inl ((cA 30), 16, .inl (fun _ => 0)))] := hD
    refine lv_aload_n hx hb dX9_method_444 rfl (lv_at hl 1 rfl) ?_
    refine va_get (D := (dC, dI)) (own := RX9) (ref := "ReflectModelsModel") (index := 60) (ci := 8) (v := .ref (q 14)) (C := RX9) (T := TX9) (N := 42) hx hb hts inX9_method_9 hown hK hP 0 rfl rfl 17 (by decide) (hts (.fieldLink RX9 60 "ReflectModelsModel" "isStatic" "[Z") (by decide +kernel)) (fun _ h9 => h9) rfl dX9_method_445 ?_
    refine lv_iload hx hb dX9_method_448 (lv_at hl 0 rfl) ?_
    refine lv_iload hx hb dX9_method_450 (lv_at hl 8 rfl) ?_
    refine lv_iconst (v := 1) hx hb dX9_method_452 (by decide) ?_
    refine lv_iand hx hb dX9_method_453 ?_
    refine lv_topi (fun y25 ey25 => ?_)
    refine lv_iconst (v := 1) hx hb dX9_method_454 (by decide) ?_
    refine lv_icmp_ne (tgt := 462) hx hb dX9_method_455 (by decide) (fun c26 => ?_) (fun c26 => ?_)
    · have ic26 : y25.toInt ≠ 1 := ine2 rfl (by decide) c26
      refine lv_iconst (v := 0) hx hb dX9_method_462 (by decide) ?_
      refine va_zast hx hb hK hP hD hS 15 14 rfl rfl (vp_in_iff.mpr ⟨by decide, by decide⟩) dX9_method_463 (fun H locs hP hD hS => ?_)
      have hP : va_P (dC, dI) vwCl [(h0, .inr (8, [.int 0, .int 1, .ref (q 0), .ref (q 1), .ref (q 2), .ref (q 3), .ref (q 4), .ref (q 5), .ref (q 6), .ref (q 7), .int 1, .ref (q 8), .ref (q 9), .ref (q 10), .ref (q 11), .ref (q 12), .ref (q 13), .ref (q 14), .ref (q 15), .ref (q 16), .ref (q 17), .ref (q 18), .ref (q 19), .int 0, .int 0, .ref (q 20), .ref (q 21), .int 0, .ref (q 22), .ref (q 23), .ref (q 24), .ref (q 25), .ref (q 26), .ref (q 27), .int 0, .ref (q 28), .ref (q 29), .int 0, .long 0, .int 0, .int 0, .ref (q 30)])), ((q 0), .inl ((cA 0), 16, .inl (upd (fun _ => 0) 0 (-1)))), ((q 1), .inl ((cA 1), 16, .inl (fun _ => 0))), ((q 2), .inl ((cA 2), 16, .inl (upd (fun _ => 0) 0 (-1)))), ((q 3), .inl ((cA 3), 16, .inl (fun _ => 0))), ((q 4), .inl ((cA 4), 16, .inl (fun _ => 0))), ((q 5), .inl ((cA 5), 16, .inl (fun _ => 0))), ((q 6), .inl ((cA 6), 16, .inl (fun _ => 0))), ((q 7), .inl ((cA 7), 16, .inl (fun _ => 0))), ((q 8), .inl ((cA 8), 40, .inl (upd (fun _ => 0) 0 a1))), ((q 9), .inl ((cA 9), 40, .inl (upd (fun _ => 0) 0 0))), ((q 10), .inl ((cA 10), 40, .inl (upd (fun _ => 0) 0 a2))), ((q 11), .inl ((cA 11), 40, .inl (upd (fun _ => 0) 0 a6))), ((q 12), .inl ((cA 12), 40, .inl (upd (fun _ => 0) 0 a3))), ((q 13), .inl ((cA 13), 80, .inl (upd (upd (fun _ => 0) 0 a4) 1 a5))), ((q 14), .inl ((cA 14), 40, .inl (upd (fun _ => 0) 0 0))), ((q 15), .inl ((cA 15), 40, .inl (fun _ => 0))), ((q 16), .inl ((cA 16), 40, .inl (fun _ => 0))), ((q 17), .inl ((cA 17), 40, .inl (fun _ => 0))), ((q 18), .inl ((cA 18), 40, .inl (fun _ => 0))), ((q 19), .inl ((cA 19), 40, .inl (fun _ => 0))), ((q 20), .inl ((cA 20), 60, .inl (fun _ => 0))), ((q 21), .inl ((cA 21), 60, .inl (fun _ => 0))), ((q 22), .inl ((cA 22), 130, .inl (fun _ => 0))), ((q 23), .inl ((cA 23), 130, .inl (fun _ => 0))), ((q 24), .inl ((cA 24), 130, .inl (fun _ => 0))), ((q 25), .inl ((cA 25), 130, .inl (fun _ => 0))), ((q 26), .inl ((cA 26), 5240, .inl (fun _ => 0))), ((q 27), .inl ((cA 27), 5240, .inr (.inl (fun _ => 0)))), ((q 28), .inl ((cA 28), 3, .inl (fun _ => 0))), ((q 29), .inl ((cA 29), 3, .inr (.inl (fun _ => 0)))), ((q 30), .inl ((cA 30), 16, .inl (fun _ => 0)))] H := hP
      have hD : va_D A [(h0, .inr (8, [.int 0, .int 1, .ref (q 0), .ref (q 1), .ref (q 2), .ref (q 3), .ref (q 4), .ref (q 5), .ref (q 6), .ref (q 7), .int 1, .ref (q 8), .ref (q 9), .ref (q 10), .ref (q 11), .ref (q 12), .ref (q 13), .ref (q 14), .ref (q 15), .ref (q 16), .ref (q 17), .ref (q 18), .ref (q 19), .int 0, .int 0, .ref (q 20), .ref (q 21), .int 0, .ref (q 22), .ref (q 23), .ref (q 24), .ref (q 25), .ref (q 26), .ref (q 27), .int 0, .ref (q 28), .ref (q 29), .int 0, .long 0, .int 0, .int 0, .ref (q 30)])), ((q 0), .inl ((cA 0), 16, .inl (upd (fun _ => 0) 0 (-1)))), ((q 1), .inl ((cA 1), 16, .inl (fun _ => 0))), ((q 2), .inl ((cA 2), 16, .inl (upd (fun _ => 0) 0 (-1)))), ((q 3), .inl ((cA 3), 16, .inl (fun _ => 0))), ((q 4), .inl ((cA 4), 16, .inl (fun _ => 0))), ((q 5), .inl ((cA 5), 16, .inl (fun _ => 0))), ((q 6), .inl ((cA 6), 16, .inl (fun _ => 0))), ((q 7), .inl ((cA 7), 16, .inl (fun _ => 0))), ((q 8), .inl ((cA 8), 40, .inl (upd (fun _ => 0) 0 a1))), ((q 9), .inl ((cA 9), 40, .inl (upd (fun _ => 0) 0 0))), ((q 10), .inl ((cA 10), 40, .inl (upd (fun _ => 0) 0 a2))), ((q 11), .inl ((cA 11), 40, .inl (upd (fun _ => 0) 0 a6))), ((q 12), .inl ((cA 12), 40, .inl (upd (fun _ => 0) 0 a3))), ((q 13), .inl ((cA 13), 80, .inl (upd (upd (fun _ => 0) 0 a4) 1 a5))), ((q 14), .inl ((cA 14), 40, .inl (upd (fun _ => 0) 0 0))), ((q 15), .inl ((cA 15), 40, .inl (fun _ => 0))), ((q 16), .inl ((cA 16), 40, .inl (fun _ => 0))), ((q 17), .inl ((cA 17), 40, .inl (fun _ => 0))), ((q 18), .inl ((cA 18), 40, .inl (fun _ => 0))), ((q 19), .inl ((cA 19), 40, .inl (fun _ => 0))), ((q 20), .inl ((cA 20), 60, .inl (fun _ => 0))), ((q 21), .inl ((cA 21), 60, .inl (fun _ => 0))), ((q 22), .inl ((cA 22), 130, .inl (fun _ => 0))), ((q 23), .inl ((cA 23), 130, .inl (fun _ => 0))), ((q 24), .inl ((cA 24), 130, .inl (fun _ => 0))), ((q 25), .inl ((cA 25), 130, .inl (fun _ => 0))), ((q 26), .inl ((cA 26), 5240, .inl (fun _ => 0))), ((q 27), .inl ((cA 27), 5240, .inr (.inl (fun _ => 0)))), ((q 28), .inl ((cA 28), 3, .inl (fun _ => 0))), ((q 29), .inl ((cA 29), 3, .inr (.inl (fun _ => 0)))), ((q 30), .inl ((cA 30), 16, .inl (fun _ => 0)))] := hD
      refine lv_aload_n hx hb dX9_method_464 rfl (lv_at hl 1 rfl) ?_
      refine va_get (D := (dC, dI)) (own := RX9) (ref := "ReflectModelsModel") (index := 69) (ci := 8) (v := .ref (q 17)) (C := RX9) (T := TX9) (N := 42) hx hb hts inX9_method_9 hown hK hP 0 rfl rfl 20 (by decide) (hts (.fieldLink RX9 69 "ReflectModelsModel" "isAbstract" "[Z") (by decide +kernel)) (fun _ h9 => h9) rfl dX9_method_465 ?_
      refine lv_iload hx hb dX9_method_468 (lv_at hl 0 rfl) ?_
      refine lv_iload hx hb dX9_method_470 (lv_at hl 11 rfl) ?_
      refine va_zast hx hb hK hP hD hS 18 17 rfl rfl (vp_in_iff.mpr ⟨by decide, by decide⟩) dX9_method_472 (fun H locs hP hD hS => ?_)
      have hP : va_P (dC, dI) vwCl [(h0, .inr (8, [.int 0, .int 1, .ref (q 0), .ref (q 1), .ref (q 2), .ref (q 3), .ref (q 4), .ref (q 5), .ref (q 6), .ref (q 7), .int 1, .ref (q 8), .ref (q 9), .ref (q 10), .ref (q 11), .ref (q 12), .ref (q 13), .ref (q 14), .ref (q 15), .ref (q 16), .ref (q 17), .ref (q 18), .ref (q 19), .int 0, .int 0, .ref (q 20), .ref (q 21), .int 0, .ref (q 22), .ref (q 23), .ref (q 24), .ref (q 25), .ref (q 26), .ref (q 27), .int 0, .ref (q 28), .ref (q 29), .int 0, .long 0, .int 0, .int 0, .ref (q 30)])), ((q 0), .inl ((cA 0), 16, .inl (upd (fun _ => 0) 0 (-1)))), ((q 1), .inl ((cA 1), 16, .inl (fun _ => 0))), ((q 2), .inl ((cA 2), 16, .inl (upd (fun _ => 0) 0 (-1)))), ((q 3), .inl ((cA 3), 16, .inl (fun _ => 0))), ((q 4), .inl ((cA 4), 16, .inl (fun _ => 0))), ((q 5), .inl ((cA 5), 16, .inl (fun _ => 0))), ((q 6), .inl ((cA 6), 16, .inl (fun _ => 0))), ((q 7), .inl ((cA 7), 16, .inl (fun _ => 0))), ((q 8), .inl ((cA 8), 40, .inl (upd (fun _ => 0) 0 a1))), ((q 9), .inl ((cA 9), 40, .inl (upd (fun _ => 0) 0 0))), ((q 10), .inl ((cA 10), 40, .inl (upd (fun _ => 0) 0 a2))), ((q 11), .inl ((cA 11), 40, .inl (upd (fun _ => 0) 0 a6))), ((q 12), .inl ((cA 12), 40, .inl (upd (fun _ => 0) 0 a3))), ((q 13), .inl ((cA 13), 80, .inl (upd (upd (fun _ => 0) 0 a4) 1 a5))), ((q 14), .inl ((cA 14), 40, .inl (upd (fun _ => 0) 0 0))), ((q 15), .inl ((cA 15), 40, .inl (fun _ => 0))), ((q 16), .inl ((cA 16), 40, .inl (fun _ => 0))), ((q 17), .inl ((cA 17), 40, .inl (upd (fun _ => 0) 0 0))), ((q 18), .inl ((cA 18), 40, .inl (fun _ => 0))), ((q 19), .inl ((cA 19), 40, .inl (fun _ => 0))), ((q 20), .inl ((cA 20), 60, .inl (fun _ => 0))), ((q 21), .inl ((cA 21), 60, .inl (fun _ => 0))), ((q 22), .inl ((cA 22), 130, .inl (fun _ => 0))), ((q 23), .inl ((cA 23), 130, .inl (fun _ => 0))), ((q 24), .inl ((cA 24), 130, .inl (fun _ => 0))), ((q 25), .inl ((cA 25), 130, .inl (fun _ => 0))), ((q 26), .inl ((cA 26), 5240, .inl (fun _ => 0))), ((q 27), .inl ((cA 27), 5240, .inr (.inl (fun _ => 0)))), ((q 28), .inl ((cA 28), 3, .inl (fun _ => 0))), ((q 29), .inl ((cA 29), 3, .inr (.inl (fun _ => 0)))), ((q 30), .inl ((cA 30), 16, .inl (fun _ => 0)))] H := hP
      have hD : va_D A [(h0, .inr (8, [.int 0, .int 1, .ref (q 0), .ref (q 1), .ref (q 2), .ref (q 3), .ref (q 4), .ref (q 5), .ref (q 6), .ref (q 7), .int 1, .ref (q 8), .ref (q 9), .ref (q 10), .ref (q 11), .ref (q 12), .ref (q 13), .ref (q 14), .ref (q 15), .ref (q 16), .ref (q 17), .ref (q 18), .ref (q 19), .int 0, .int 0, .ref (q 20), .ref (q 21), .int 0, .ref (q 22), .ref (q 23), .ref (q 24), .ref (q 25), .ref (q 26), .ref (q 27), .int 0, .ref (q 28), .ref (q 29), .int 0, .long 0, .int 0, .int 0, .ref (q 30)])), ((q 0), .inl ((cA 0), 16, .inl (upd (fun _ => 0) 0 (-1)))), ((q 1), .inl ((cA 1), 16, .inl (fun _ => 0))), ((q 2), .inl ((cA 2), 16, .inl (upd (fun _ => 0) 0 (-1)))), ((q 3), .inl ((cA 3), 16, .inl (fun _ => 0))), ((q 4), .inl ((cA 4), 16, .inl (fun _ => 0))), ((q 5), .inl ((cA 5), 16, .inl (fun _ => 0))), ((q 6), .inl ((cA 6), 16, .inl (fun _ => 0))), ((q 7), .inl ((cA 7), 16, .inl (fun _ => 0))), ((q 8), .inl ((cA 8), 40, .inl (upd (fun _ => 0) 0 a1))), ((q 9), .inl ((cA 9), 40, .inl (upd (fun _ => 0) 0 0))), ((q 10), .inl ((cA 10), 40, .inl (upd (fun _ => 0) 0 a2))), ((q 11), .inl ((cA 11), 40, .inl (upd (fun _ => 0) 0 a6))), ((q 12), .inl ((cA 12), 40, .inl (upd (fun _ => 0) 0 a3))), ((q 13), .inl ((cA 13), 80, .inl (upd (upd (fun _ => 0) 0 a4) 1 a5))), ((q 14), .inl ((cA 14), 40, .inl (upd (fun _ => 0) 0 0))), ((q 15), .inl ((cA 15), 40, .inl (fun _ => 0))), ((q 16), .inl ((cA 16), 40, .inl (fun _ => 0))), ((q 17), .inl ((cA 17), 40, .inl (upd (fun _ => 0) 0 0))), ((q 18), .inl ((cA 18), 40, .inl (fun _ => 0))), ((q 19), .inl ((cA 19), 40, .inl (fun _ => 0))), ((q 20), .inl ((cA 20), 60, .inl (fun _ => 0))), ((q 21), .inl ((cA 21), 60, .inl (fun _ => 0))), ((q 22), .inl ((cA 22), 130, .inl (fun _ => 0))), ((q 23), .inl ((cA 23), 130, .inl (fun _ => 0))), ((q 24), .inl ((cA 24), 130, .inl (fun _ => 0))), ((q 25), .inl ((cA 25), 130, .inl (fun _ => 0))), ((q 26), .inl ((cA 26), 5240, .inl (fun _ => 0))), ((q 27), .inl ((cA 27), 5240, .inr (.inl (fun _ => 0)))), ((q 28), .inl ((cA 28), 3, .inl (fun _ => 0))), ((q 29), .inl ((cA 29), 3, .inr (.inl (fun _ => 0)))), ((q 30), .inl ((cA 30), 16, .inl (fun _ => 0)))] := hD
      refine lv_aload_n hx hb dX9_method_473 rfl (lv_at hl 1 rfl) ?_
      refine va_get (D := (dC, dI)) (own := RX9) (ref := "ReflectModelsModel") (index := 66) (ci := 8) (v := .ref (q 16)) (C := RX9) (T := TX9) (N := 42) hx hb hts inX9_method_9 hown hK hP 0 rfl rfl 19 (by decide) (hts (.fieldLink RX9 66 "ReflectModelsModel" "isHidden" "[Z") (by decide +kernel)) (fun _ h9 => h9) rfl dX9_method_474 ?_
      refine lv_iload hx hb dX9_method_477 (lv_at hl 0 rfl) ?_
      refine lv_iload hx hb dX9_method_479 (lv_at hl 8 rfl) ?_
      refine lv_iconst (v := 4) hx hb dX9_method_481 (by decide) ?_
      refine lv_iand hx hb dX9_method_482 ?_
      refine lv_topi (fun y27 ey27 => ?_)
      refine lv_iconst (v := 4) hx hb dX9_method_483 (by decide) ?_
      refine lv_icmp_ne (tgt := 491) hx hb dX9_method_484 (by decide) (fun c28 => ?_) (fun c28 => ?_)
      · have ic28 : y27.toInt ≠ 4 := ine2 rfl (by decide) c28
        refine lv_iconst (v := 0) hx hb dX9_method_491 (by decide) ?_
        refine va_zast hx hb hK hP hD hS 17 16 rfl rfl (vp_in_iff.mpr ⟨by decide, by decide⟩) dX9_method_492 (fun H locs hP hD hS => ?_)
        have hP : va_P (dC, dI) vwCl [(h0, .inr (8, [.int 0, .int 1, .ref (q 0), .ref (q 1), .ref (q 2), .ref (q 3), .ref (q 4), .ref (q 5), .ref (q 6), .ref (q 7), .int 1, .ref (q 8), .ref (q 9), .ref (q 10), .ref (q 11), .ref (q 12), .ref (q 13), .ref (q 14), .ref (q 15), .ref (q 16), .ref (q 17), .ref (q 18), .ref (q 19), .int 0, .int 0, .ref (q 20), .ref (q 21), .int 0, .ref (q 22), .ref (q 23), .ref (q 24), .ref (q 25), .ref (q 26), .ref (q 27), .int 0, .ref (q 28), .ref (q 29), .int 0, .long 0, .int 0, .int 0, .ref (q 30)])), ((q 0), .inl ((cA 0), 16, .inl (upd (fun _ => 0) 0 (-1)))), ((q 1), .inl ((cA 1), 16, .inl (fun _ => 0))), ((q 2), .inl ((cA 2), 16, .inl (upd (fun _ => 0) 0 (-1)))), ((q 3), .inl ((cA 3), 16, .inl (fun _ => 0))), ((q 4), .inl ((cA 4), 16, .inl (fun _ => 0))), ((q 5), .inl ((cA 5), 16, .inl (fun _ => 0))), ((q 6), .inl ((cA 6), 16, .inl (fun _ => 0))), ((q 7), .inl ((cA 7), 16, .inl (fun _ => 0))), ((q 8), .inl ((cA 8), 40, .inl (upd (fun _ => 0) 0 a1))), ((q 9), .inl ((cA 9), 40, .inl (upd (fun _ => 0) 0 0))), ((q 10), .inl ((cA 10), 40, .inl (upd (fun _ => 0) 0 a2))), ((q 11), .inl ((cA 11), 40, .inl (upd (fun _ => 0) 0 a6))), ((q 12), .inl ((cA 12), 40, .inl (upd (fun _ => 0) 0 a3))), ((q 13), .inl ((cA 13), 80, .inl (upd (upd (fun _ => 0) 0 a4) 1 a5))), ((q 14), .inl ((cA 14), 40, .inl (upd (fun _ => 0) 0 0))), ((q 15), .inl ((cA 15), 40, .inl (fun _ => 0))), ((q 16), .inl ((cA 16), 40, .inl (upd (fun _ => 0) 0 0))), ((q 17), .inl ((cA 17), 40, .inl (upd (fun _ => 0) 0 0))), ((q 18), .inl ((cA 18), 40, .inl (fun _ => 0))), ((q 19), .inl ((cA 19), 40, .inl (fun _ => 0))), ((q 20), .inl ((cA 20), 60, .inl (fun _ => 0))), ((q 21), .inl ((cA 21), 60, .inl (fun _ => 0))), ((q 22), .inl ((cA 22), 130, .inl (fun _ => 0))), ((q 23), .inl ((cA 23), 130, .inl (fun _ => 0))), ((q 24), .inl ((cA 24), 130, .inl (fun _ => 0))), ((q 25), .inl ((cA 25), 130, .inl (fun _ => 0))), ((q 26), .inl ((cA 26), 5240, .inl (fun _ => 0))), ((q 27), .inl ((cA 27), 5240, .inr (.inl (fun _ => 0)))), ((q 28), .inl ((cA 28), 3, .inl (fun _ => 0))), ((q 29), .inl ((cA 29), 3, .inr (.inl (fun _ => 0)))), ((q 30), .inl ((cA 30), 16, .inl (fun _ => 0)))] H := hP
        have hD : va_D A [(h0, .inr (8, [.int 0, .int 1, .ref (q 0), .ref (q 1), .ref (q 2), .ref (q 3), .ref (q 4), .ref (q 5), .ref (q 6), .ref (q 7), .int 1, .ref (q 8), .ref (q 9), .ref (q 10), .ref (q 11), .ref (q 12), .ref (q 13), .ref (q 14), .ref (q 15), .ref (q 16), .ref (q 17), .ref (q 18), .ref (q 19), .int 0, .int 0, .ref (q 20), .ref (q 21), .int 0, .ref (q 22), .ref (q 23), .ref (q 24), .ref (q 25), .ref (q 26), .ref (q 27), .int 0, .ref (q 28), .ref (q 29), .int 0, .long 0, .int 0, .int 0, .ref (q 30)])), ((q 0), .inl ((cA 0), 16, .inl (upd (fun _ => 0) 0 (-1)))), ((q 1), .inl ((cA 1), 16, .inl (fun _ => 0))), ((q 2), .inl ((cA 2), 16, .inl (upd (fun _ => 0) 0 (-1)))), ((q 3), .inl ((cA 3), 16, .inl (fun _ => 0))), ((q 4), .inl ((cA 4), 16, .inl (fun _ => 0))), ((q 5), .inl ((cA 5), 16, .inl (fun _ => 0))), ((q 6), .inl ((cA 6), 16, .inl (fun _ => 0))), ((q 7), .inl ((cA 7), 16, .inl (fun _ => 0))), ((q 8), .inl ((cA 8), 40, .inl (upd (fun _ => 0) 0 a1))), ((q 9), .inl ((cA 9), 40, .inl (upd (fun _ => 0) 0 0))), ((q 10), .inl ((cA 10), 40, .inl (upd (fun _ => 0) 0 a2))), ((q 11), .inl ((cA 11), 40, .inl (upd (fun _ => 0) 0 a6))), ((q 12), .inl ((cA 12), 40, .inl (upd (fun _ => 0) 0 a3))), ((q 13), .inl ((cA 13), 80, .inl (upd (upd (fun _ => 0) 0 a4) 1 a5))), ((q 14), .inl ((cA 14), 40, .inl (upd (fun _ => 0) 0 0))), ((q 15), .inl ((cA 15), 40, .inl (fun _ => 0))), ((q 16), .inl ((cA 16), 40, .inl (upd (fun _ => 0) 0 0))), ((q 17), .inl ((cA 17), 40, .inl (upd (fun _ => 0) 0 0))), ((q 18), .inl ((cA 18), 40, .inl (fun _ => 0))), ((q 19), .inl ((cA 19), 40, .inl (fun _ => 0))), ((q 20), .inl ((cA 20), 60, .inl (fun _ => 0))), ((q 21), .inl ((cA 21), 60, .inl (fun _ => 0))), ((q 22), .inl ((cA 22), 130, .inl (fun _ => 0))), ((q 23), .inl ((cA 23), 130, .inl (fun _ => 0))), ((q 24), .inl ((cA 24), 130, .inl (fun _ => 0))), ((q 25), .inl ((cA 25), 130, .inl (fun _ => 0))), ((q 26), .inl ((cA 26), 5240, .inl (fun _ => 0))), ((q 27), .inl ((cA 27), 5240, .inr (.inl (fun _ => 0)))), ((q 28), .inl ((cA 28), 3, .inl (fun _ => 0))), ((q 29), .inl ((cA 29), 3, .inr (.inl (fun _ => 0)))), ((q 30), .inl ((cA 30), 16, .inl (fun _ => 0)))] := hD
        refine lv_aload_n hx hb dX9_method_493 rfl (lv_at hl 1 rfl) ?_
        refine va_get (D := (dC, dI)) (own := RX9) (ref := "ReflectModelsModel") (index := 72) (ci := 8) (v := .ref (q 18)) (C := RX9) (T := TX9) (N := 42) hx hb hts inX9_method_9 hown hK hP 0 rfl rfl 21 (by decide) (hts (.fieldLink RX9 72 "ReflectModelsModel" "body" "[I") (by decide +kernel)) (fun _ h9 => h9) rfl dX9_method_494 ?_
        refine lv_iload hx hb dX9_method_497 (lv_at hl 0 rfl) ?_
        refine lv_iload hx hb dX9_method_499 (lv_at hl 9 rfl) ?_
        refine va_iast hx hb hK hP hD hS 19 18 rfl rfl (vp_in_iff.mpr ⟨by decide, by decide⟩) dX9_method_501 (fun H locs hP hD hS => ?_)
        have hP : va_P (dC, dI) vwCl [(h0, .inr (8, [.int 0, .int 1, .ref (q 0), .ref (q 1), .ref (q 2), .ref (q 3), .ref (q 4), .ref (q 5), .ref (q 6), .ref (q 7), .int 1, .ref (q 8), .ref (q 9), .ref (q 10), .ref (q 11), .ref (q 12), .ref (q 13), .ref (q 14), .ref (q 15), .ref (q 16), .ref (q 17), .ref (q 18), .ref (q 19), .int 0, .int 0, .ref (q 20), .ref (q 21), .int 0, .ref (q 22), .ref (q 23), .ref (q 24), .ref (q 25), .ref (q 26), .ref (q 27), .int 0, .ref (q 28), .ref (q 29), .int 0, .long 0, .int 0, .int 0, .ref (q 30)])), ((q 0), .inl ((cA 0), 16, .inl (upd (fun _ => 0) 0 (-1)))), ((q 1), .inl ((cA 1), 16, .inl (fun _ => 0))), ((q 2), .inl ((cA 2), 16, .inl (upd (fun _ => 0) 0 (-1)))), ((q 3), .inl ((cA 3), 16, .inl (fun _ => 0))), ((q 4), .inl ((cA 4), 16, .inl (fun _ => 0))), ((q 5), .inl ((cA 5), 16, .inl (fun _ => 0))), ((q 6), .inl ((cA 6), 16, .inl (fun _ => 0))), ((q 7), .inl ((cA 7), 16, .inl (fun _ => 0))), ((q 8), .inl ((cA 8), 40, .inl (upd (fun _ => 0) 0 a1))), ((q 9), .inl ((cA 9), 40, .inl (upd (fun _ => 0) 0 0))), ((q 10), .inl ((cA 10), 40, .inl (upd (fun _ => 0) 0 a2))), ((q 11), .inl ((cA 11), 40, .inl (upd (fun _ => 0) 0 a6))), ((q 12), .inl ((cA 12), 40, .inl (upd (fun _ => 0) 0 a3))), ((q 13), .inl ((cA 13), 80, .inl (upd (upd (fun _ => 0) 0 a4) 1 a5))), ((q 14), .inl ((cA 14), 40, .inl (upd (fun _ => 0) 0 0))), ((q 15), .inl ((cA 15), 40, .inl (fun _ => 0))), ((q 16), .inl ((cA 16), 40, .inl (upd (fun _ => 0) 0 0))), ((q 17), .inl ((cA 17), 40, .inl (upd (fun _ => 0) 0 0))), ((q 18), .inl ((cA 18), 40, .inl (upd (fun _ => 0) 0 a8))), ((q 19), .inl ((cA 19), 40, .inl (fun _ => 0))), ((q 20), .inl ((cA 20), 60, .inl (fun _ => 0))), ((q 21), .inl ((cA 21), 60, .inl (fun _ => 0))), ((q 22), .inl ((cA 22), 130, .inl (fun _ => 0))), ((q 23), .inl ((cA 23), 130, .inl (fun _ => 0))), ((q 24), .inl ((cA 24), 130, .inl (fun _ => 0))), ((q 25), .inl ((cA 25), 130, .inl (fun _ => 0))), ((q 26), .inl ((cA 26), 5240, .inl (fun _ => 0))), ((q 27), .inl ((cA 27), 5240, .inr (.inl (fun _ => 0)))), ((q 28), .inl ((cA 28), 3, .inl (fun _ => 0))), ((q 29), .inl ((cA 29), 3, .inr (.inl (fun _ => 0)))), ((q 30), .inl ((cA 30), 16, .inl (fun _ => 0)))] H := hP
        have hD : va_D A [(h0, .inr (8, [.int 0, .int 1, .ref (q 0), .ref (q 1), .ref (q 2), .ref (q 3), .ref (q 4), .ref (q 5), .ref (q 6), .ref (q 7), .int 1, .ref (q 8), .ref (q 9), .ref (q 10), .ref (q 11), .ref (q 12), .ref (q 13), .ref (q 14), .ref (q 15), .ref (q 16), .ref (q 17), .ref (q 18), .ref (q 19), .int 0, .int 0, .ref (q 20), .ref (q 21), .int 0, .ref (q 22), .ref (q 23), .ref (q 24), .ref (q 25), .ref (q 26), .ref (q 27), .int 0, .ref (q 28), .ref (q 29), .int 0, .long 0, .int 0, .int 0, .ref (q 30)])), ((q 0), .inl ((cA 0), 16, .inl (upd (fun _ => 0) 0 (-1)))), ((q 1), .inl ((cA 1), 16, .inl (fun _ => 0))), ((q 2), .inl ((cA 2), 16, .inl (upd (fun _ => 0) 0 (-1)))), ((q 3), .inl ((cA 3), 16, .inl (fun _ => 0))), ((q 4), .inl ((cA 4), 16, .inl (fun _ => 0))), ((q 5), .inl ((cA 5), 16, .inl (fun _ => 0))), ((q 6), .inl ((cA 6), 16, .inl (fun _ => 0))), ((q 7), .inl ((cA 7), 16, .inl (fun _ => 0))), ((q 8), .inl ((cA 8), 40, .inl (upd (fun _ => 0) 0 a1))), ((q 9), .inl ((cA 9), 40, .inl (upd (fun _ => 0) 0 0))), ((q 10), .inl ((cA 10), 40, .inl (upd (fun _ => 0) 0 a2))), ((q 11), .inl ((cA 11), 40, .inl (upd (fun _ => 0) 0 a6))), ((q 12), .inl ((cA 12), 40, .inl (upd (fun _ => 0) 0 a3))), ((q 13), .inl ((cA 13), 80, .inl (upd (upd (fun _ => 0) 0 a4) 1 a5))), ((q 14), .inl ((cA 14), 40, .inl (upd (fun _ => 0) 0 0))), ((q 15), .inl ((cA 15), 40, .inl (fun _ => 0))), ((q 16), .inl ((cA 16), 40, .inl (upd (fun _ => 0) 0 0))), ((q 17), .inl ((cA 17), 40, .inl (upd (fun _ => 0) 0 0))), ((q 18), .inl ((cA 18), 40, .inl (upd (fun _ => 0) 0 a8))), ((q 19), .inl ((cA 19), 40, .inl (fun _ => 0))), ((q 20), .inl ((cA 20), 60, .inl (fun _ => 0))), ((q 21), .inl ((cA 21), 60, .inl (fun _ => 0))), ((q 22), .inl ((cA 22), 130, .inl (fun _ => 0))), ((q 23), .inl ((cA 23), 130, .inl (fun _ => 0))), ((q 24), .inl ((cA 24), 130, .inl (fun _ => 0))), ((q 25), .inl ((cA 25), 130, .inl (fun _ => 0))), ((q 26), .inl ((cA 26), 5240, .inl (fun _ => 0))), ((q 27), .inl ((cA 27), 5240, .inr (.inl (fun _ => 0)))), ((q 28), .inl ((cA 28), 3, .inl (fun _ => 0))), ((q 29), .inl ((cA 29), 3, .inr (.inl (fun _ => 0)))), ((q 30), .inl ((cA 30), 16, .inl (fun _ => 0)))] := hD
        refine lv_aload_n hx hb dX9_method_502 rfl (lv_at hl 1 rfl) ?_
        refine va_get (D := (dC, dI)) (own := RX9) (ref := "ReflectModelsModel") (index := 75) (ci := 8) (v := .ref (q 19)) (C := RX9) (T := TX9) (N := 42) hx hb hts inX9_method_9 hown hK hP 0 rfl rfl 22 (by decide) (hts (.fieldLink RX9 75 "ReflectModelsModel" "bodyB" "[I") (by decide +kernel)) (fun _ h9 => h9) rfl dX9_method_503 ?_
        refine lv_iload hx hb dX9_method_506 (lv_at hl 0 rfl) ?_
        refine lv_iload hx hb dX9_method_508 (lv_at hl 10 rfl) ?_
        refine va_iast hx hb hK hP hD hS 20 19 rfl rfl (vp_in_iff.mpr ⟨by decide, by decide⟩) dX9_method_510 (fun H locs hP hD hS => ?_)
        have hP : va_P (dC, dI) vwCl [(h0, .inr (8, [.int 0, .int 1, .ref (q 0), .ref (q 1), .ref (q 2), .ref (q 3), .ref (q 4), .ref (q 5), .ref (q 6), .ref (q 7), .int 1, .ref (q 8), .ref (q 9), .ref (q 10), .ref (q 11), .ref (q 12), .ref (q 13), .ref (q 14), .ref (q 15), .ref (q 16), .ref (q 17), .ref (q 18), .ref (q 19), .int 0, .int 0, .ref (q 20), .ref (q 21), .int 0, .ref (q 22), .ref (q 23), .ref (q 24), .ref (q 25), .ref (q 26), .ref (q 27), .int 0, .ref (q 28), .ref (q 29), .int 0, .long 0, .int 0, .int 0, .ref (q 30)])), ((q 0), .inl ((cA 0), 16, .inl (upd (fun _ => 0) 0 (-1)))), ((q 1), .inl ((cA 1), 16, .inl (fun _ => 0))), ((q 2), .inl ((cA 2), 16, .inl (upd (fun _ => 0) 0 (-1)))), ((q 3), .inl ((cA 3), 16, .inl (fun _ => 0))), ((q 4), .inl ((cA 4), 16, .inl (fun _ => 0))), ((q 5), .inl ((cA 5), 16, .inl (fun _ => 0))), ((q 6), .inl ((cA 6), 16, .inl (fun _ => 0))), ((q 7), .inl ((cA 7), 16, .inl (fun _ => 0))), ((q 8), .inl ((cA 8), 40, .inl (upd (fun _ => 0) 0 a1))), ((q 9), .inl ((cA 9), 40, .inl (upd (fun _ => 0) 0 0))), ((q 10), .inl ((cA 10), 40, .inl (upd (fun _ => 0) 0 a2))), ((q 11), .inl ((cA 11), 40, .inl (upd (fun _ => 0) 0 a6))), ((q 12), .inl ((cA 12), 40, .inl (upd (fun _ => 0) 0 a3))), ((q 13), .inl ((cA 13), 80, .inl (upd (upd (fun _ => 0) 0 a4) 1 a5))), ((q 14), .inl ((cA 14), 40, .inl (upd (fun _ => 0) 0 0))), ((q 15), .inl ((cA 15), 40, .inl (fun _ => 0))), ((q 16), .inl ((cA 16), 40, .inl (upd (fun _ => 0) 0 0))), ((q 17), .inl ((cA 17), 40, .inl (upd (fun _ => 0) 0 0))), ((q 18), .inl ((cA 18), 40, .inl (upd (fun _ => 0) 0 a8))), ((q 19), .inl ((cA 19), 40, .inl (upd (fun _ => 0) 0 a9))), ((q 20), .inl ((cA 20), 60, .inl (fun _ => 0))), ((q 21), .inl ((cA 21), 60, .inl (fun _ => 0))), ((q 22), .inl ((cA 22), 130, .inl (fun _ => 0))), ((q 23), .inl ((cA 23), 130, .inl (fun _ => 0))), ((q 24), .inl ((cA 24), 130, .inl (fun _ => 0))), ((q 25), .inl ((cA 25), 130, .inl (fun _ => 0))), ((q 26), .inl ((cA 26), 5240, .inl (fun _ => 0))), ((q 27), .inl ((cA 27), 5240, .inr (.inl (fun _ => 0)))), ((q 28), .inl ((cA 28), 3, .inl (fun _ => 0))), ((q 29), .inl ((cA 29), 3, .inr (.inl (fun _ => 0)))), ((q 30), .inl ((cA 30), 16, .inl (fun _ => 0)))] H := hP
        have hD : va_D A [(h0, .inr (8, [.int 0, .int 1, .ref (q 0), .ref (q 1), .ref (q 2), .ref (q 3), .ref (q 4), .ref (q 5), .ref (q 6), .ref (q 7), .int 1, .ref (q 8), .ref (q 9), .ref (q 10), .ref (q 11), .ref (q 12), .ref (q 13), .ref (q 14), .ref (q 15), .ref (q 16), .ref (q 17), .ref (q 18), .ref (q 19), .int 0, .int 0, .ref (q 20), .ref (q 21), .int 0, .ref (q 22), .ref (q 23), .ref (q 24), .ref (q 25), .ref (q 26), .ref (q 27), .int 0, .ref (q 28), .ref (q 29), .int 0, .long 0, .int 0, .int 0, .ref (q 30)])), ((q 0), .inl ((cA 0), 16, .inl (upd (fun _ => 0) 0 (-1)))), ((q 1), .inl ((cA 1), 16, .inl (fun _ => 0))), ((q 2), .inl ((cA 2), 16, .inl (upd (fun _ => 0) 0 (-1)))), ((q 3), .inl ((cA 3), 16, .inl (fun _ => 0))), ((q 4), .inl ((cA 4), 16, .inl (fun _ => 0))), ((q 5), .inl ((cA 5), 16, .inl (fun _ => 0))), ((q 6), .inl ((cA 6), 16, .inl (fun _ => 0))), ((q 7), .inl ((cA 7), 16, .inl (fun _ => 0))), ((q 8), .inl ((cA 8), 40, .inl (upd (fun _ => 0) 0 a1))), ((q 9), .inl ((cA 9), 40, .inl (upd (fun _ => 0) 0 0))), ((q 10), .inl ((cA 10), 40, .inl (upd (fun _ => 0) 0 a2))), ((q 11), .inl ((cA 11), 40, .inl (upd (fun _ => 0) 0 a6))), ((q 12), .inl ((cA 12), 40, .inl (upd (fun _ => 0) 0 a3))), ((q 13), .inl ((cA 13), 80, .inl (upd (upd (fun _ => 0) 0 a4) 1 a5))), ((q 14), .inl ((cA 14), 40, .inl (upd (fun _ => 0) 0 0))), ((q 15), .inl ((cA 15), 40, .inl (fun _ => 0))), ((q 16), .inl ((cA 16), 40, .inl (upd (fun _ => 0) 0 0))), ((q 17), .inl ((cA 17), 40, .inl (upd (fun _ => 0) 0 0))), ((q 18), .inl ((cA 18), 40, .inl (upd (fun _ => 0) 0 a8))), ((q 19), .inl ((cA 19), 40, .inl (upd (fun _ => 0) 0 a9))), ((q 20), .inl ((cA 20), 60, .inl (fun _ => 0))), ((q 21), .inl ((cA 21), 60, .inl (fun _ => 0))), ((q 22), .inl ((cA 22), 130, .inl (fun _ => 0))), ((q 23), .inl ((cA 23), 130, .inl (fun _ => 0))), ((q 24), .inl ((cA 24), 130, .inl (fun _ => 0))), ((q 25), .inl ((cA 25), 130, .inl (fun _ => 0))), ((q 26), .inl ((cA 26), 5240, .inl (fun _ => 0))), ((q 27), .inl ((cA 27), 5240, .inr (.inl (fun _ => 0)))), ((q 28), .inl ((cA 28), 3, .inl (fun _ => 0))), ((q 29), .inl ((cA 29), 3, .inr (.inl (fun _ => 0)))), ((q 30), .inl ((cA 30), 16, .inl (fun _ => 0)))] := hD
        refine lv_iload hx hb dX9_method_511 (lv_at hl 0 rfl) ?_
        have hP9 := hP.sub (ws' := []) [] rfl
        have hD9 := hD.sub (ws' := []) [] (by decide) rfl
        have hK9 := hK.sub (tys' := []) [] rfl
        exact W.zret (v := 0) (ty := .int) hx hb hr rfl (fun t ht hW => ⟨⟨(some (.int 0)), rfl, _, _, ⟨congrArg (fun z => some (Value.int z)) hz, rfl, rfl⟩, by rw [ht]; exact hP9, va_K.moved hW.alike hK9, hD9⟩, hS.F ht⟩) hS.2.2 dX9_method_513
      · have ic28 : y27.toInt = 4 := ieq2 rfl (by decide) c28
        refine lv_iconst (v := 1) hx hb dX9_method_487 (by decide) ?_
        refine lv_goto (tgt := 492) hx hb dX9_method_488 (by decide) ?_
        refine va_zast hx hb hK hP hD hS 17 16 rfl rfl (vp_in_iff.mpr ⟨by decide, by decide⟩) dX9_method_492 (fun H locs hP hD hS => ?_)
        have hP : va_P (dC, dI) vwCl [(h0, .inr (8, [.int 0, .int 1, .ref (q 0), .ref (q 1), .ref (q 2), .ref (q 3), .ref (q 4), .ref (q 5), .ref (q 6), .ref (q 7), .int 1, .ref (q 8), .ref (q 9), .ref (q 10), .ref (q 11), .ref (q 12), .ref (q 13), .ref (q 14), .ref (q 15), .ref (q 16), .ref (q 17), .ref (q 18), .ref (q 19), .int 0, .int 0, .ref (q 20), .ref (q 21), .int 0, .ref (q 22), .ref (q 23), .ref (q 24), .ref (q 25), .ref (q 26), .ref (q 27), .int 0, .ref (q 28), .ref (q 29), .int 0, .long 0, .int 0, .int 0, .ref (q 30)])), ((q 0), .inl ((cA 0), 16, .inl (upd (fun _ => 0) 0 (-1)))), ((q 1), .inl ((cA 1), 16, .inl (fun _ => 0))), ((q 2), .inl ((cA 2), 16, .inl (upd (fun _ => 0) 0 (-1)))), ((q 3), .inl ((cA 3), 16, .inl (fun _ => 0))), ((q 4), .inl ((cA 4), 16, .inl (fun _ => 0))), ((q 5), .inl ((cA 5), 16, .inl (fun _ => 0))), ((q 6), .inl ((cA 6), 16, .inl (fun _ => 0))), ((q 7), .inl ((cA 7), 16, .inl (fun _ => 0))), ((q 8), .inl ((cA 8), 40, .inl (upd (fun _ => 0) 0 a1))), ((q 9), .inl ((cA 9), 40, .inl (upd (fun _ => 0) 0 0))), ((q 10), .inl ((cA 10), 40, .inl (upd (fun _ => 0) 0 a2))), ((q 11), .inl ((cA 11), 40, .inl (upd (fun _ => 0) 0 a6))), ((q 12), .inl ((cA 12), 40, .inl (upd (fun _ => 0) 0 a3))), ((q 13), .inl ((cA 13), 80, .inl (upd (upd (fun _ => 0) 0 a4) 1 a5))), ((q 14), .inl ((cA 14), 40, .inl (upd (fun _ => 0) 0 0))), ((q 15), .inl ((cA 15), 40, .inl (fun _ => 0))), ((q 16), .inl ((cA 16), 40, .inl (upd (fun _ => 0) 0 1))), ((q 17), .inl ((cA 17), 40, .inl (upd (fun _ => 0) 0 0))), ((q 18), .inl ((cA 18), 40, .inl (fun _ => 0))), ((q 19), .inl ((cA 19), 40, .inl (fun _ => 0))), ((q 20), .inl ((cA 20), 60, .inl (fun _ => 0))), ((q 21), .inl ((cA 21), 60, .inl (fun _ => 0))), ((q 22), .inl ((cA 22), 130, .inl (fun _ => 0))), ((q 23), .inl ((cA 23), 130, .inl (fun _ => 0))), ((q 24), .inl ((cA 24), 130, .inl (fun _ => 0))), ((q 25), .inl ((cA 25), 130, .inl (fun _ => 0))), ((q 26), .inl ((cA 26), 5240, .inl (fun _ => 0))), ((q 27), .inl ((cA 27), 5240, .inr (.inl (fun _ => 0)))), ((q 28), .inl ((cA 28), 3, .inl (fun _ => 0))), ((q 29), .inl ((cA 29), 3, .inr (.inl (fun _ => 0)))), ((q 30), .inl ((cA 30), 16, .inl (fun _ => 0)))] H := hP
        have hD : va_D A [(h0, .inr (8, [.int 0, .int 1, .ref (q 0), .ref (q 1), .ref (q 2), .ref (q 3), .ref (q 4), .ref (q 5), .ref (q 6), .ref (q 7), .int 1, .ref (q 8), .ref (q 9), .ref (q 10), .ref (q 11), .ref (q 12), .ref (q 13), .ref (q 14), .ref (q 15), .ref (q 16), .ref (q 17), .ref (q 18), .ref (q 19), .int 0, .int 0, .ref (q 20), .ref (q 21), .int 0, .ref (q 22), .ref (q 23), .ref (q 24), .ref (q 25), .ref (q 26), .ref (q 27), .int 0, .ref (q 28), .ref (q 29), .int 0, .long 0, .int 0, .int 0, .ref (q 30)])), ((q 0), .inl ((cA 0), 16, .inl (upd (fun _ => 0) 0 (-1)))), ((q 1), .inl ((cA 1), 16, .inl (fun _ => 0))), ((q 2), .inl ((cA 2), 16, .inl (upd (fun _ => 0) 0 (-1)))), ((q 3), .inl ((cA 3), 16, .inl (fun _ => 0))), ((q 4), .inl ((cA 4), 16, .inl (fun _ => 0))), ((q 5), .inl ((cA 5), 16, .inl (fun _ => 0))), ((q 6), .inl ((cA 6), 16, .inl (fun _ => 0))), ((q 7), .inl ((cA 7), 16, .inl (fun _ => 0))), ((q 8), .inl ((cA 8), 40, .inl (upd (fun _ => 0) 0 a1))), ((q 9), .inl ((cA 9), 40, .inl (upd (fun _ => 0) 0 0))), ((q 10), .inl ((cA 10), 40, .inl (upd (fun _ => 0) 0 a2))), ((q 11), .inl ((cA 11), 40, .inl (upd (fun _ => 0) 0 a6))), ((q 12), .inl ((cA 12), 40, .inl (upd (fun _ => 0) 0 a3))), ((q 13), .inl ((cA 13), 80, .inl (upd (upd (fun _ => 0) 0 a4) 1 a5))), ((q 14), .inl ((cA 14), 40, .inl (upd (fun _ => 0) 0 0))), ((q 15), .inl ((cA 15), 40, .inl (fun _ => 0))), ((q 16), .inl ((cA 16), 40, .inl (upd (fun _ => 0) 0 1))), ((q 17), .inl ((cA 17), 40, .inl (upd (fun _ => 0) 0 0))), ((q 18), .inl ((cA 18), 40, .inl (fun _ => 0))), ((q 19), .inl ((cA 19), 40, .inl (fun _ => 0))), ((q 20), .inl ((cA 20), 60, .inl (fun _ => 0))), ((q 21), .inl ((cA 21), 60, .inl (fun _ => 0))), ((q 22), .inl ((cA 22), 130, .inl (fun _ => 0))), ((q 23), .inl ((cA 23), 130, .inl (fun _ => 0))), ((q 24), .inl ((cA 24), 130, .inl (fun _ => 0))), ((q 25), .inl ((cA 25), 130, .inl (fun _ => 0))), ((q 26), .inl ((cA 26), 5240, .inl (fun _ => 0))), ((q 27), .inl ((cA 27), 5240, .inr (.inl (fun _ => 0)))), ((q 28), .inl ((cA 28), 3, .inl (fun _ => 0))), ((q 29), .inl ((cA 29), 3, .inr (.inl (fun _ => 0)))), ((q 30), .inl ((cA 30), 16, .inl (fun _ => 0)))] := hD
        refine lv_aload_n hx hb dX9_method_493 rfl (lv_at hl 1 rfl) ?_
        refine va_get (D := (dC, dI)) (own := RX9) (ref := "ReflectModelsModel") (index := 72) (ci := 8) (v := .ref (q 18)) (C := RX9) (T := TX9) (N := 42) hx hb hts inX9_method_9 hown hK hP 0 rfl rfl 21 (by decide) (hts (.fieldLink RX9 72 "ReflectModelsModel" "body" "[I") (by decide +kernel)) (fun _ h9 => h9) rfl dX9_method_494 ?_
        refine lv_iload hx hb dX9_method_497 (lv_at hl 0 rfl) ?_
        refine lv_iload hx hb dX9_method_499 (lv_at hl 9 rfl) ?_
        refine va_iast hx hb hK hP hD hS 19 18 rfl rfl (vp_in_iff.mpr ⟨by decide, by decide⟩) dX9_method_501 (fun H locs hP hD hS => ?_)
        have hP : va_P (dC, dI) vwCl [(h0, .inr (8, [.int 0, .int 1, .ref (q 0), .ref (q 1), .ref (q 2), .ref (q 3), .ref (q 4), .ref (q 5), .ref (q 6), .ref (q 7), .int 1, .ref (q 8), .ref (q 9), .ref (q 10), .ref (q 11), .ref (q 12), .ref (q 13), .ref (q 14), .ref (q 15), .ref (q 16), .ref (q 17), .ref (q 18), .ref (q 19), .int 0, .int 0, .ref (q 20), .ref (q 21), .int 0, .ref (q 22), .ref (q 23), .ref (q 24), .ref (q 25), .ref (q 26), .ref (q 27), .int 0, .ref (q 28), .ref (q 29), .int 0, .long 0, .int 0, .int 0, .ref (q 30)])), ((q 0), .inl ((cA 0), 16, .inl (upd (fun _ => 0) 0 (-1)))), ((q 1), .inl ((cA 1), 16, .inl (fun _ => 0))), ((q 2), .inl ((cA 2), 16, .inl (upd (fun _ => 0) 0 (-1)))), ((q 3), .inl ((cA 3), 16, .inl (fun _ => 0))), ((q 4), .inl ((cA 4), 16, .inl (fun _ => 0))), ((q 5), .inl ((cA 5), 16, .inl (fun _ => 0))), ((q 6), .inl ((cA 6), 16, .inl (fun _ => 0))), ((q 7), .inl ((cA 7), 16, .inl (fun _ => 0))), ((q 8), .inl ((cA 8), 40, .inl (upd (fun _ => 0) 0 a1))), ((q 9), .inl ((cA 9), 40, .inl (upd (fun _ => 0) 0 0))), ((q 10), .inl ((cA 10), 40, .inl (upd (fun _ => 0) 0 a2))), ((q 11), .inl ((cA 11), 40, .inl (upd (fun _ => 0) 0 a6))), ((q 12), .inl ((cA 12), 40, .inl (upd (fun _ => 0) 0 a3))), ((q 13), .inl ((cA 13), 80, .inl (upd (upd (fun _ => 0) 0 a4) 1 a5))), ((q 14), .inl ((cA 14), 40, .inl (upd (fun _ => 0) 0 0))), ((q 15), .inl ((cA 15), 40, .inl (fun _ => 0))), ((q 16), .inl ((cA 16), 40, .inl (upd (fun _ => 0) 0 1))), ((q 17), .inl ((cA 17), 40, .inl (upd (fun _ => 0) 0 0))), ((q 18), .inl ((cA 18), 40, .inl (upd (fun _ => 0) 0 a8))), ((q 19), .inl ((cA 19), 40, .inl (fun _ => 0))), ((q 20), .inl ((cA 20), 60, .inl (fun _ => 0))), ((q 21), .inl ((cA 21), 60, .inl (fun _ => 0))), ((q 22), .inl ((cA 22), 130, .inl (fun _ => 0))), ((q 23), .inl ((cA 23), 130, .inl (fun _ => 0))), ((q 24), .inl ((cA 24), 130, .inl (fun _ => 0))), ((q 25), .inl ((cA 25), 130, .inl (fun _ => 0))), ((q 26), .inl ((cA 26), 5240, .inl (fun _ => 0))), ((q 27), .inl ((cA 27), 5240, .inr (.inl (fun _ => 0)))), ((q 28), .inl ((cA 28), 3, .inl (fun _ => 0))), ((q 29), .inl ((cA 29), 3, .inr (.inl (fun _ => 0)))), ((q 30), .inl ((cA 30), 16, .inl (fun _ => 0)))] H := hP
        have hD : va_D A [(h0, .inr (8, [.int 0, .int 1, .ref (q 0), .ref (q 1), .ref (q 2), .ref (q 3), .ref (q 4), .ref (q 5), .ref (q 6), .ref (q 7), .int 1, .ref (q 8), .ref (q 9), .ref (q 10), .ref (q 11), .ref (q 12), .ref (q 13), .ref (q 14), .ref (q 15), .ref (q 16), .ref (q 17), .ref (q 18), .ref (q 19), .int 0, .int 0, .ref (q 20), .ref (q 21), .int 0, .ref (q 22), .ref (q 23), .ref (q 24), .ref (q 25), .ref (q 26), .ref (q 27), .int 0, .ref (q 28), .ref (q 29), .int 0, .long 0, .int 0, .int 0, .ref (q 30)])), ((q 0), .inl ((cA 0), 16, .inl (upd (fun _ => 0) 0 (-1)))), ((q 1), .inl ((cA 1), 16, .inl (fun _ => 0))), ((q 2), .inl ((cA 2), 16, .inl (upd (fun _ => 0) 0 (-1)))), ((q 3), .inl ((cA 3), 16, .inl (fun _ => 0))), ((q 4), .inl ((cA 4), 16, .inl (fun _ => 0))), ((q 5), .inl ((cA 5), 16, .inl (fun _ => 0))), ((q 6), .inl ((cA 6), 16, .inl (fun _ => 0))), ((q 7), .inl ((cA 7), 16, .inl (fun _ => 0))), ((q 8), .inl ((cA 8), 40, .inl (upd (fun _ => 0) 0 a1))), ((q 9), .inl ((cA 9), 40, .inl (upd (fun _ => 0) 0 0))), ((q 10), .inl ((cA 10), 40, .inl (upd (fun _ => 0) 0 a2))), ((q 11), .inl ((cA 11), 40, .inl (upd (fun _ => 0) 0 a6))), ((q 12), .inl ((cA 12), 40, .inl (upd (fun _ => 0) 0 a3))), ((q 13), .inl ((cA 13), 80, .inl (upd (upd (fun _ => 0) 0 a4) 1 a5))), ((q 14), .inl ((cA 14), 40, .inl (upd (fun _ => 0) 0 0))), ((q 15), .inl ((cA 15), 40, .inl (fun _ => 0))), ((q 16), .inl ((cA 16), 40, .inl (upd (fun _ => 0) 0 1))), ((q 17), .inl ((cA 17), 40, .inl (upd (fun _ => 0) 0 0))), ((q 18), .inl ((cA 18), 40, .inl (upd (fun _ => 0) 0 a8))), ((q 19), .inl ((cA 19), 40, .inl (fun _ => 0))), ((q 20), .inl ((cA 20), 60, .inl (fun _ => 0))), ((q 21), .inl ((cA 21), 60, .inl (fun _ => 0))), ((q 22), .inl ((cA 22), 130, .inl (fun _ => 0))), ((q 23), .inl ((cA 23), 130, .inl (fun _ => 0))), ((q 24), .inl ((cA 24), 130, .inl (fun _ => 0))), ((q 25), .inl ((cA 25), 130, .inl (fun _ => 0))), ((q 26), .inl ((cA 26), 5240, .inl (fun _ => 0))), ((q 27), .inl ((cA 27), 5240, .inr (.inl (fun _ => 0)))), ((q 28), .inl ((cA 28), 3, .inl (fun _ => 0))), ((q 29), .inl ((cA 29), 3, .inr (.inl (fun _ => 0)))), ((q 30), .inl ((cA 30), 16, .inl (fun _ => 0)))] := hD
        refine lv_aload_n hx hb dX9_method_502 rfl (lv_at hl 1 rfl) ?_
        refine va_get (D := (dC, dI)) (own := RX9) (ref := "ReflectModelsModel") (index := 75) (ci := 8) (v := .ref (q 19)) (C := RX9) (T := TX9) (N := 42) hx hb hts inX9_method_9 hown hK hP 0 rfl rfl 22 (by decide) (hts (.fieldLink RX9 75 "ReflectModelsModel" "bodyB" "[I") (by decide +kernel)) (fun _ h9 => h9) rfl dX9_method_503 ?_
        refine lv_iload hx hb dX9_method_506 (lv_at hl 0 rfl) ?_
        refine lv_iload hx hb dX9_method_508 (lv_at hl 10 rfl) ?_
        refine va_iast hx hb hK hP hD hS 20 19 rfl rfl (vp_in_iff.mpr ⟨by decide, by decide⟩) dX9_method_510 (fun H locs hP hD hS => ?_)
        have hP : va_P (dC, dI) vwCl [(h0, .inr (8, [.int 0, .int 1, .ref (q 0), .ref (q 1), .ref (q 2), .ref (q 3), .ref (q 4), .ref (q 5), .ref (q 6), .ref (q 7), .int 1, .ref (q 8), .ref (q 9), .ref (q 10), .ref (q 11), .ref (q 12), .ref (q 13), .ref (q 14), .ref (q 15), .ref (q 16), .ref (q 17), .ref (q 18), .ref (q 19), .int 0, .int 0, .ref (q 20), .ref (q 21), .int 0, .ref (q 22), .ref (q 23), .ref (q 24), .ref (q 25), .ref (q 26), .ref (q 27), .int 0, .ref (q 28), .ref (q 29), .int 0, .long 0, .int 0, .int 0, .ref (q 30)])), ((q 0), .inl ((cA 0), 16, .inl (upd (fun _ => 0) 0 (-1)))), ((q 1), .inl ((cA 1), 16, .inl (fun _ => 0))), ((q 2), .inl ((cA 2), 16, .inl (upd (fun _ => 0) 0 (-1)))), ((q 3), .inl ((cA 3), 16, .inl (fun _ => 0))), ((q 4), .inl ((cA 4), 16, .inl (fun _ => 0))), ((q 5), .inl ((cA 5), 16, .inl (fun _ => 0))), ((q 6), .inl ((cA 6), 16, .inl (fun _ => 0))), ((q 7), .inl ((cA 7), 16, .inl (fun _ => 0))), ((q 8), .inl ((cA 8), 40, .inl (upd (fun _ => 0) 0 a1))), ((q 9), .inl ((cA 9), 40, .inl (upd (fun _ => 0) 0 0))), ((q 10), .inl ((cA 10), 40, .inl (upd (fun _ => 0) 0 a2))), ((q 11), .inl ((cA 11), 40, .inl (upd (fun _ => 0) 0 a6))), ((q 12), .inl ((cA 12), 40, .inl (upd (fun _ => 0) 0 a3))), ((q 13), .inl ((cA 13), 80, .inl (upd (upd (fun _ => 0) 0 a4) 1 a5))), ((q 14), .inl ((cA 14), 40, .inl (upd (fun _ => 0) 0 0))), ((q 15), .inl ((cA 15), 40, .inl (fun _ => 0))), ((q 16), .inl ((cA 16), 40, .inl (upd (fun _ => 0) 0 1))), ((q 17), .inl ((cA 17), 40, .inl (upd (fun _ => 0) 0 0))), ((q 18), .inl ((cA 18), 40, .inl (upd (fun _ => 0) 0 a8))), ((q 19), .inl ((cA 19), 40, .inl (upd (fun _ => 0) 0 a9))), ((q 20), .inl ((cA 20), 60, .inl (fun _ => 0))), ((q 21), .inl ((cA 21), 60, .inl (fun _ => 0))), ((q 22), .inl ((cA 22), 130, .inl (fun _ => 0))), ((q 23), .inl ((cA 23), 130, .inl (fun _ => 0))), ((q 24), .inl ((cA 24), 130, .inl (fun _ => 0))), ((q 25), .inl ((cA 25), 130, .inl (fun _ => 0))), ((q 26), .inl ((cA 26), 5240, .inl (fun _ => 0))), ((q 27), .inl ((cA 27), 5240, .inr (.inl (fun _ => 0)))), ((q 28), .inl ((cA 28), 3, .inl (fun _ => 0))), ((q 29), .inl ((cA 29), 3, .inr (.inl (fun _ => 0)))), ((q 30), .inl ((cA 30), 16, .inl (fun _ => 0)))] H := hP
        have hD : va_D A [(h0, .inr (8, [.int 0, .int 1, .ref (q 0), .ref (q 1), .ref (q 2), .ref (q 3), .ref (q 4), .ref (q 5), .ref (q 6), .ref (q 7), .int 1, .ref (q 8), .ref (q 9), .ref (q 10), .ref (q 11), .ref (q 12), .ref (q 13), .ref (q 14), .ref (q 15), .ref (q 16), .ref (q 17), .ref (q 18), .ref (q 19), .int 0, .int 0, .ref (q 20), .ref (q 21), .int 0, .ref (q 22), .ref (q 23), .ref (q 24), .ref (q 25), .ref (q 26), .ref (q 27), .int 0, .ref (q 28), .ref (q 29), .int 0, .long 0, .int 0, .int 0, .ref (q 30)])), ((q 0), .inl ((cA 0), 16, .inl (upd (fun _ => 0) 0 (-1)))), ((q 1), .inl ((cA 1), 16, .inl (fun _ => 0))), ((q 2), .inl ((cA 2), 16, .inl (upd (fun _ => 0) 0 (-1)))), ((q 3), .inl ((cA 3), 16, .inl (fun _ => 0))), ((q 4), .inl ((cA 4), 16, .inl (fun _ => 0))), ((q 5), .inl ((cA 5), 16, .inl (fun _ => 0))), ((q 6), .inl ((cA 6), 16, .inl (fun _ => 0))), ((q 7), .inl ((cA 7), 16, .inl (fun _ => 0))), ((q 8), .inl ((cA 8), 40, .inl (upd (fun _ => 0) 0 a1))), ((q 9), .inl ((cA 9), 40, .inl (upd (fun _ => 0) 0 0))), ((q 10), .inl ((cA 10), 40, .inl (upd (fun _ => 0) 0 a2))), ((q 11), .inl ((cA 11), 40, .inl (upd (fun _ => 0) 0 a6))), ((q 12), .inl ((cA 12), 40, .inl (upd (fun _ => 0) 0 a3))), ((q 13), .inl ((cA 13), 80, .inl (upd (upd (fun _ => 0) 0 a4) 1 a5))), ((q 14), .inl ((cA 14), 40, .inl (upd (fun _ => 0) 0 0))), ((q 15), .inl ((cA 15), 40, .inl (fun _ => 0))), ((q 16), .inl ((cA 16), 40, .inl (upd (fun _ => 0) 0 1))), ((q 17), .inl ((cA 17), 40, .inl (upd (fun _ => 0) 0 0))), ((q 18), .inl ((cA 18), 40, .inl (upd (fun _ => 0) 0 a8))), ((q 19), .inl ((cA 19), 40, .inl (upd (fun _ => 0) 0 a9))), ((q 20), .inl ((cA 20), 60, .inl (fun _ => 0))), ((q 21), .inl ((cA 21), 60, .inl (fun _ => 0))), ((q 22), .inl ((cA 22), 130, .inl (fun _ => 0))), ((q 23), .inl ((cA 23), 130, .inl (fun _ => 0))), ((q 24), .inl ((cA 24), 130, .inl (fun _ => 0))), ((q 25), .inl ((cA 25), 130, .inl (fun _ => 0))), ((q 26), .inl ((cA 26), 5240, .inl (fun _ => 0))), ((q 27), .inl ((cA 27), 5240, .inr (.inl (fun _ => 0)))), ((q 28), .inl ((cA 28), 3, .inl (fun _ => 0))), ((q 29), .inl ((cA 29), 3, .inr (.inl (fun _ => 0)))), ((q 30), .inl ((cA 30), 16, .inl (fun _ => 0)))] := hD
        refine lv_iload hx hb dX9_method_511 (lv_at hl 0 rfl) ?_
        have hP9 := hP.sub (ws' := []) [] rfl
        have hD9 := hD.sub (ws' := []) [] (by decide) rfl
        have hK9 := hK.sub (tys' := []) [] rfl
        exact W.zret (v := 0) (ty := .int) hx hb hr rfl (fun t ht hW => ⟨⟨(some (.int 0)), rfl, _, _, ⟨congrArg (fun z => some (Value.int z)) hz, rfl, rfl⟩, by rw [ht]; exact hP9, va_K.moved hW.alike hK9, hD9⟩, hS.F ht⟩) hS.2.2 dX9_method_513
    · have ic26 : y25.toInt = 1 := ieq2 rfl (by decide) c26
      refine lv_iconst (v := 1) hx hb dX9_method_458 (by decide) ?_
      refine lv_goto (tgt := 463) hx hb dX9_method_459 (by decide) ?_
      refine va_zast hx hb hK hP hD hS 15 14 rfl rfl (vp_in_iff.mpr ⟨by decide, by decide⟩) dX9_method_463 (fun H locs hP hD hS => ?_)
      have hP : va_P (dC, dI) vwCl [(h0, .inr (8, [.int 0, .int 1, .ref (q 0), .ref (q 1), .ref (q 2), .ref (q 3), .ref (q 4), .ref (q 5), .ref (q 6), .ref (q 7), .int 1, .ref (q 8), .ref (q 9), .ref (q 10), .ref (q 11), .ref (q 12), .ref (q 13), .ref (q 14), .ref (q 15), .ref (q 16), .ref (q 17), .ref (q 18), .ref (q 19), .int 0, .int 0, .ref (q 20), .ref (q 21), .int 0, .ref (q 22), .ref (q 23), .ref (q 24), .ref (q 25), .ref (q 26), .ref (q 27), .int 0, .ref (q 28), .ref (q 29), .int 0, .long 0, .int 0, .int 0, .ref (q 30)])), ((q 0), .inl ((cA 0), 16, .inl (upd (fun _ => 0) 0 (-1)))), ((q 1), .inl ((cA 1), 16, .inl (fun _ => 0))), ((q 2), .inl ((cA 2), 16, .inl (upd (fun _ => 0) 0 (-1)))), ((q 3), .inl ((cA 3), 16, .inl (fun _ => 0))), ((q 4), .inl ((cA 4), 16, .inl (fun _ => 0))), ((q 5), .inl ((cA 5), 16, .inl (fun _ => 0))), ((q 6), .inl ((cA 6), 16, .inl (fun _ => 0))), ((q 7), .inl ((cA 7), 16, .inl (fun _ => 0))), ((q 8), .inl ((cA 8), 40, .inl (upd (fun _ => 0) 0 a1))), ((q 9), .inl ((cA 9), 40, .inl (upd (fun _ => 0) 0 0))), ((q 10), .inl ((cA 10), 40, .inl (upd (fun _ => 0) 0 a2))), ((q 11), .inl ((cA 11), 40, .inl (upd (fun _ => 0) 0 a6))), ((q 12), .inl ((cA 12), 40, .inl (upd (fun _ => 0) 0 a3))), ((q 13), .inl ((cA 13), 80, .inl (upd (upd (fun _ => 0) 0 a4) 1 a5))), ((q 14), .inl ((cA 14), 40, .inl (upd (fun _ => 0) 0 1))), ((q 15), .inl ((cA 15), 40, .inl (fun _ => 0))), ((q 16), .inl ((cA 16), 40, .inl (fun _ => 0))), ((q 17), .inl ((cA 17), 40, .inl (fun _ => 0))), ((q 18), .inl ((cA 18), 40, .inl (fun _ => 0))), ((q 19), .inl ((cA 19), 40, .inl (fun _ => 0))), ((q 20), .inl ((cA 20), 60, .inl (fun _ => 0))), ((q 21), .inl ((cA 21), 60, .inl (fun _ => 0))), ((q 22), .inl ((cA 22), 130, .inl (fun _ => 0))), ((q 23), .inl ((cA 23), 130, .inl (fun _ => 0))), ((q 24), .inl ((cA 24), 130, .inl (fun _ => 0))), ((q 25), .inl ((cA 25), 130, .inl (fun _ => 0))), ((q 26), .inl ((cA 26), 5240, .inl (fun _ => 0))), ((q 27), .inl ((cA 27), 5240, .inr (.inl (fun _ => 0)))), ((q 28), .inl ((cA 28), 3, .inl (fun _ => 0))), ((q 29), .inl ((cA 29), 3, .inr (.inl (fun _ => 0)))), ((q 30), .inl ((cA 30), 16, .inl (fun _ => 0)))] H := hP
      have hD : va_D A [(h0, .inr (8, [.int 0, .int 1, .ref (q 0), .ref (q 1), .ref (q 2), .ref (q 3), .ref (q 4), .ref (q 5), .ref (q 6), .ref (q 7), .int 1, .ref (q 8), .ref (q 9), .ref (q 10), .ref (q 11), .ref (q 12), .ref (q 13), .ref (q 14), .ref (q 15), .ref (q 16), .ref (q 17), .ref (q 18), .ref (q 19), .int 0, .int 0, .ref (q 20), .ref (q 21), .int 0, .ref (q 22), .ref (q 23), .ref (q 24), .ref (q 25), .ref (q 26), .ref (q 27), .int 0, .ref (q 28), .ref (q 29), .int 0, .long 0, .int 0, .int 0, .ref (q 30)])), ((q 0), .inl ((cA 0), 16, .inl (upd (fun _ => 0) 0 (-1)))), ((q 1), .inl ((cA 1), 16, .inl (fun _ => 0))), ((q 2), .inl ((cA 2), 16, .inl (upd (fun _ => 0) 0 (-1)))), ((q 3), .inl ((cA 3), 16, .inl (fun _ => 0))), ((q 4), .inl ((cA 4), 16, .inl (fun _ => 0))), ((q 5), .inl ((cA 5), 16, .inl (fun _ => 0))), ((q 6), .inl ((cA 6), 16, .inl (fun _ => 0))), ((q 7), .inl ((cA 7), 16, .inl (fun _ => 0))), ((q 8), .inl ((cA 8), 40, .inl (upd (fun _ => 0) 0 a1))), ((q 9), .inl ((cA 9), 40, .inl (upd (fun _ => 0) 0 0))), ((q 10), .inl ((cA 10), 40, .inl (upd (fun _ => 0) 0 a2))), ((q 11), .inl ((cA 11), 40, .inl (upd (fun _ => 0) 0 a6))), ((q 12), .inl ((cA 12), 40, .inl (upd (fun _ => 0) 0 a3))), ((q 13), .inl ((cA 13), 80, .inl (upd (upd (fun _ => 0) 0 a4) 1 a5))), ((q 14), .inl ((cA 14), 40, .inl (upd (fun _ => 0) 0 1))), ((q 15), .inl ((cA 15), 40, .inl (fun _ => 0))), ((q 16), .inl ((cA 16), 40, .inl (fun _ => 0))), ((q 17), .inl ((cA 17), 40, .inl (fun _ => 0))), ((q 18), .inl ((cA 18), 40, .inl (fun _ => 0))), ((q 19), .inl ((cA 19), 40, .inl (fun _ => 0))), ((q 20), .inl ((cA 20), 60, .inl (fun _ => 0))), ((q 21), .inl ((cA 21), 60, .inl (fun _ => 0))), ((q 22), .inl ((cA 22), 130, .inl (fun _ => 0))), ((q 23), .inl ((cA 23), 130, .inl (fun _ => 0))), ((q 24), .inl ((cA 24), 130, .inl (fun _ => 0))), ((q 25), .inl ((cA 25), 130, .inl (fun _ => 0))), ((q 26), .inl ((cA 26), 5240, .inl (fun _ => 0))), ((q 27), .inl ((cA 27), 5240, .inr (.inl (fun _ => 0)))), ((q 28), .inl ((cA 28), 3, .inl (fun _ => 0))), ((q 29), .inl ((cA 29), 3, .inr (.inl (fun _ => 0)))), ((q 30), .inl ((cA 30), 16, .inl (fun _ => 0)))] := hD
      refine lv_aload_n hx hb dX9_method_464 rfl (lv_at hl 1 rfl) ?_
      refine va_get (D := (dC, dI)) (own := RX9) (ref := "ReflectModelsModel") (index := 69) (ci := 8) (v := .ref (q 17)) (C := RX9) (T := TX9) (N := 42) hx hb hts inX9_method_9 hown hK hP 0 rfl rfl 20 (by decide) (hts (.fieldLink RX9 69 "ReflectModelsModel" "isAbstract" "[Z") (by decide +kernel)) (fun _ h9 => h9) rfl dX9_method_465 ?_
      refine lv_iload hx hb dX9_method_468 (lv_at hl 0 rfl) ?_
      refine lv_iload hx hb dX9_method_470 (lv_at hl 11 rfl) ?_
      refine va_zast hx hb hK hP hD hS 18 17 rfl rfl (vp_in_iff.mpr ⟨by decide, by decide⟩) dX9_method_472 (fun H locs hP hD hS => ?_)
      have hP : va_P (dC, dI) vwCl [(h0, .inr (8, [.int 0, .int 1, .ref (q 0), .ref (q 1), .ref (q 2), .ref (q 3), .ref (q 4), .ref (q 5), .ref (q 6), .ref (q 7), .int 1, .ref (q 8), .ref (q 9), .ref (q 10), .ref (q 11), .ref (q 12), .ref (q 13), .ref (q 14), .ref (q 15), .ref (q 16), .ref (q 17), .ref (q 18), .ref (q 19), .int 0, .int 0, .ref (q 20), .ref (q 21), .int 0, .ref (q 22), .ref (q 23), .ref (q 24), .ref (q 25), .ref (q 26), .ref (q 27), .int 0, .ref (q 28), .ref (q 29), .int 0, .long 0, .int 0, .int 0, .ref (q 30)])), ((q 0), .inl ((cA 0), 16, .inl (upd (fun _ => 0) 0 (-1)))), ((q 1), .inl ((cA 1), 16, .inl (fun _ => 0))), ((q 2), .inl ((cA 2), 16, .inl (upd (fun _ => 0) 0 (-1)))), ((q 3), .inl ((cA 3), 16, .inl (fun _ => 0))), ((q 4), .inl ((cA 4), 16, .inl (fun _ => 0))), ((q 5), .inl ((cA 5), 16, .inl (fun _ => 0))), ((q 6), .inl ((cA 6), 16, .inl (fun _ => 0))), ((q 7), .inl ((cA 7), 16, .inl (fun _ => 0))), ((q 8), .inl ((cA 8), 40, .inl (upd (fun _ => 0) 0 a1))), ((q 9), .inl ((cA 9), 40, .inl (upd (fun _ => 0) 0 0))), ((q 10), .inl ((cA 10), 40, .inl (upd (fun _ => 0) 0 a2))), ((q 11), .inl ((cA 11), 40, .inl (upd (fun _ => 0) 0 a6))), ((q 12), .inl ((cA 12), 40, .inl (upd (fun _ => 0) 0 a3))), ((q 13), .inl ((cA 13), 80, .inl (upd (upd (fun _ => 0) 0 a4) 1 a5))), ((q 14), .inl ((cA 14), 40, .inl (upd (fun _ => 0) 0 1))), ((q 15), .inl ((cA 15), 40, .inl (fun _ => 0))), ((q 16), .inl ((cA 16), 40, .inl (fun _ => 0))), ((q 17), .inl ((cA 17), 40, .inl (upd (fun _ => 0) 0 0))), ((q 18), .inl ((cA 18), 40, .inl (fun _ => 0))), ((q 19), .inl ((cA 19), 40, .inl (fun _ => 0))), ((q 20), .inl ((cA 20), 60, .inl (fun _ => 0))), ((q 21), .inl ((cA 21), 60, .inl (fun _ => 0))), ((q 22), .inl ((cA 22), 130, .inl (fun _ => 0))), ((q 23), .inl ((cA 23), 130, .inl (fun _ => 0))), ((q 24), .inl ((cA 24), 130, .inl (fun _ => 0))), ((q 25), .inl ((cA 25), 130, .inl (fun _ => 0))), ((q 26), .inl ((cA 26), 5240, .inl (fun _ => 0))), ((q 27), .inl ((cA 27), 5240, .inr (.inl (fun _ => 0)))), ((q 28), .inl ((cA 28), 3, .inl (fun _ => 0))), ((q 29), .inl ((cA 29), 3, .inr (.inl (fun _ => 0)))), ((q 30), .inl ((cA 30), 16, .inl (fun _ => 0)))] H := hP
      have hD : va_D A [(h0, .inr (8, [.int 0, .int 1, .ref (q 0), .ref (q 1), .ref (q 2), .ref (q 3), .ref (q 4), .ref (q 5), .ref (q 6), .ref (q 7), .int 1, .ref (q 8), .ref (q 9), .ref (q 10), .ref (q 11), .ref (q 12), .ref (q 13), .ref (q 14), .ref (q 15), .ref (q 16), .ref (q 17), .ref (q 18), .ref (q 19), .int 0, .int 0, .ref (q 20), .ref (q 21), .int 0, .ref (q 22), .ref (q 23), .ref (q 24), .ref (q 25), .ref (q 26), .ref (q 27), .int 0, .ref (q 28), .ref (q 29), .int 0, .long 0, .int 0, .int 0, .ref (q 30)])), ((q 0), .inl ((cA 0), 16, .inl (upd (fun _ => 0) 0 (-1)))), ((q 1), .inl ((cA 1), 16, .inl (fun _ => 0))), ((q 2), .inl ((cA 2), 16, .inl (upd (fun _ => 0) 0 (-1)))), ((q 3), .inl ((cA 3), 16, .inl (fun _ => 0))), ((q 4), .inl ((cA 4), 16, .inl (fun _ => 0))), ((q 5), .inl ((cA 5), 16, .inl (fun _ => 0))), ((q 6), .inl ((cA 6), 16, .inl (fun _ => 0))), ((q 7), .inl ((cA 7), 16, .inl (fun _ => 0))), ((q 8), .inl ((cA 8), 40, .inl (upd (fun _ => 0) 0 a1))), ((q 9), .inl ((cA 9), 40, .inl (upd (fun _ => 0) 0 0))), ((q 10), .inl ((cA 10), 40, .inl (upd (fun _ => 0) 0 a2))), ((q 11), .inl ((cA 11), 40, .inl (upd (fun _ => 0) 0 a6))), ((q 12), .inl ((cA 12), 40, .inl (upd (fun _ => 0) 0 a3))), ((q 13), .inl ((cA 13), 80, .inl (upd (upd (fun _ => 0) 0 a4) 1 a5))), ((q 14), .inl ((cA 14), 40, .inl (upd (fun _ => 0) 0 1))), ((q 15), .inl ((cA 15), 40, .inl (fun _ => 0))), ((q 16), .inl ((cA 16), 40, .inl (fun _ => 0))), ((q 17), .inl ((cA 17), 40, .inl (upd (fun _ => 0) 0 0))), ((q 18), .inl ((cA 18), 40, .inl (fun _ => 0))), ((q 19), .inl ((cA 19), 40, .inl (fun _ => 0))), ((q 20), .inl ((cA 20), 60, .inl (fun _ => 0))), ((q 21), .inl ((cA 21), 60, .inl (fun _ => 0))), ((q 22), .inl ((cA 22), 130, .inl (fun _ => 0))), ((q 23), .inl ((cA 23), 130, .inl (fun _ => 0))), ((q 24), .inl ((cA 24), 130, .inl (fun _ => 0))), ((q 25), .inl ((cA 25), 130, .inl (fun _ => 0))), ((q 26), .inl ((cA 26), 5240, .inl (fun _ => 0))), ((q 27), .inl ((cA 27), 5240, .inr (.inl (fun _ => 0)))), ((q 28), .inl ((cA 28), 3, .inl (fun _ => 0))), ((q 29), .inl ((cA 29), 3, .inr (.inl (fun _ => 0)))), ((q 30), .inl ((cA 30), 16, .inl (fun _ => 0)))] := hD
      refine lv_aload_n hx hb dX9_method_473 rfl (lv_at hl 1 rfl) ?_
      refine va_get (D := (dC, dI)) (own := RX9) (ref := "ReflectModelsModel") (index := 66) (ci := 8) (v := .ref (q 16)) (C := RX9) (T := TX9) (N := 42) hx hb hts inX9_method_9 hown hK hP 0 rfl rfl 19 (by decide) (hts (.fieldLink RX9 66 "ReflectModelsModel" "isHidden" "[Z") (by decide +kernel)) (fun _ h9 => h9) rfl dX9_method_474 ?_
      refine lv_iload hx hb dX9_method_477 (lv_at hl 0 rfl) ?_
      refine lv_iload hx hb dX9_method_479 (lv_at hl 8 rfl) ?_
      refine lv_iconst (v := 4) hx hb dX9_method_481 (by decide) ?_
      refine lv_iand hx hb dX9_method_482 ?_
      refine lv_topi (fun y29 ey29 => ?_)
      refine lv_iconst (v := 4) hx hb dX9_method_483 (by decide) ?_
      refine lv_icmp_ne (tgt := 491) hx hb dX9_method_484 (by decide) (fun c30 => ?_) (fun c30 => ?_)
      · have ic30 : y29.toInt ≠ 4 := ine2 rfl (by decide) c30
        refine lv_iconst (v := 0) hx hb dX9_method_491 (by decide) ?_
        refine va_zast hx hb hK hP hD hS 17 16 rfl rfl (vp_in_iff.mpr ⟨by decide, by decide⟩) dX9_method_492 (fun H locs hP hD hS => ?_)
        have hP : va_P (dC, dI) vwCl [(h0, .inr (8, [.int 0, .int 1, .ref (q 0), .ref (q 1), .ref (q 2), .ref (q 3), .ref (q 4), .ref (q 5), .ref (q 6), .ref (q 7), .int 1, .ref (q 8), .ref (q 9), .ref (q 10), .ref (q 11), .ref (q 12), .ref (q 13), .ref (q 14), .ref (q 15), .ref (q 16), .ref (q 17), .ref (q 18), .ref (q 19), .int 0, .int 0, .ref (q 20), .ref (q 21), .int 0, .ref (q 22), .ref (q 23), .ref (q 24), .ref (q 25), .ref (q 26), .ref (q 27), .int 0, .ref (q 28), .ref (q 29), .int 0, .long 0, .int 0, .int 0, .ref (q 30)])), ((q 0), .inl ((cA 0), 16, .inl (upd (fun _ => 0) 0 (-1)))), ((q 1), .inl ((cA 1), 16, .inl (fun _ => 0))), ((q 2), .inl ((cA 2), 16, .inl (upd (fun _ => 0) 0 (-1)))), ((q 3), .inl ((cA 3), 16, .inl (fun _ => 0))), ((q 4), .inl ((cA 4), 16, .inl (fun _ => 0))), ((q 5), .inl ((cA 5), 16, .inl (fun _ => 0))), ((q 6), .inl ((cA 6), 16, .inl (fun _ => 0))), ((q 7), .inl ((cA 7), 16, .inl (fun _ => 0))), ((q 8), .inl ((cA 8), 40, .inl (upd (fun _ => 0) 0 a1))), ((q 9), .inl ((cA 9), 40, .inl (upd (fun _ => 0) 0 0))), ((q 10), .inl ((cA 10), 40, .inl (upd (fun _ => 0) 0 a2))), ((q 11), .inl ((cA 11), 40, .inl (upd (fun _ => 0) 0 a6))), ((q 12), .inl ((cA 12), 40, .inl (upd (fun _ => 0) 0 a3))), ((q 13), .inl ((cA 13), 80, .inl (upd (upd (fun _ => 0) 0 a4) 1 a5))), ((q 14), .inl ((cA 14), 40, .inl (upd (fun _ => 0) 0 1))), ((q 15), .inl ((cA 15), 40, .inl (fun _ => 0))), ((q 16), .inl ((cA 16), 40, .inl (upd (fun _ => 0) 0 0))), ((q 17), .inl ((cA 17), 40, .inl (upd (fun _ => 0) 0 0))), ((q 18), .inl ((cA 18), 40, .inl (fun _ => 0))), ((q 19), .inl ((cA 19), 40, .inl (fun _ => 0))), ((q 20), .inl ((cA 20), 60, .inl (fun _ => 0))), ((q 21), .inl ((cA 21), 60, .inl (fun _ => 0))), ((q 22), .inl ((cA 22), 130, .inl (fun _ => 0))), ((q 23), .inl ((cA 23), 130, .inl (fun _ => 0))), ((q 24), .inl ((cA 24), 130, .inl (fun _ => 0))), ((q 25), .inl ((cA 25), 130, .inl (fun _ => 0))), ((q 26), .inl ((cA 26), 5240, .inl (fun _ => 0))), ((q 27), .inl ((cA 27), 5240, .inr (.inl (fun _ => 0)))), ((q 28), .inl ((cA 28), 3, .inl (fun _ => 0))), ((q 29), .inl ((cA 29), 3, .inr (.inl (fun _ => 0)))), ((q 30), .inl ((cA 30), 16, .inl (fun _ => 0)))] H := hP
        have hD : va_D A [(h0, .inr (8, [.int 0, .int 1, .ref (q 0), .ref (q 1), .ref (q 2), .ref (q 3), .ref (q 4), .ref (q 5), .ref (q 6), .ref (q 7), .int 1, .ref (q 8), .ref (q 9), .ref (q 10), .ref (q 11), .ref (q 12), .ref (q 13), .ref (q 14), .ref (q 15), .ref (q 16), .ref (q 17), .ref (q 18), .ref (q 19), .int 0, .int 0, .ref (q 20), .ref (q 21), .int 0, .ref (q 22), .ref (q 23), .ref (q 24), .ref (q 25), .ref (q 26), .ref (q 27), .int 0, .ref (q 28), .ref (q 29), .int 0, .long 0, .int 0, .int 0, .ref (q 30)])), ((q 0), .inl ((cA 0), 16, .inl (upd (fun _ => 0) 0 (-1)))), ((q 1), .inl ((cA 1), 16, .inl (fun _ => 0))), ((q 2), .inl ((cA 2), 16, .inl (upd (fun _ => 0) 0 (-1)))), ((q 3), .inl ((cA 3), 16, .inl (fun _ => 0))), ((q 4), .inl ((cA 4), 16, .inl (fun _ => 0))), ((q 5), .inl ((cA 5), 16, .inl (fun _ => 0))), ((q 6), .inl ((cA 6), 16, .inl (fun _ => 0))), ((q 7), .inl ((cA 7), 16, .inl (fun _ => 0))), ((q 8), .inl ((cA 8), 40, .inl (upd (fun _ => 0) 0 a1))), ((q 9), .inl ((cA 9), 40, .inl (upd (fun _ => 0) 0 0))), ((q 10), .inl ((cA 10), 40, .inl (upd (fun _ => 0) 0 a2))), ((q 11), .inl ((cA 11), 40, .inl (upd (fun _ => 0) 0 a6))), ((q 12), .inl ((cA 12), 40, .inl (upd (fun _ => 0) 0 a3))), ((q 13), .inl ((cA 13), 80, .inl (upd (upd (fun _ => 0) 0 a4) 1 a5))), ((q 14), .inl ((cA 14), 40, .inl (upd (fun _ => 0) 0 1))), ((q 15), .inl ((cA 15), 40, .inl (fun _ => 0))), ((q 16), .inl ((cA 16), 40, .inl (upd (fun _ => 0) 0 0))), ((q 17), .inl ((cA 17), 40, .inl (upd (fun _ => 0) 0 0))), ((q 18), .inl ((cA 18), 40, .inl (fun _ => 0))), ((q 19), .inl ((cA 19), 40, .inl (fun _ => 0))), ((q 20), .inl ((cA 20), 60, .inl (fun _ => 0))), ((q 21), .inl ((cA 21), 60, .inl (fun _ => 0))), ((q 22), .inl ((cA 22), 130, .inl (fun _ => 0))), ((q 23), .inl ((cA 23), 130, .inl (fun _ => 0))), ((q 24), .inl ((cA 24), 130, .inl (fun _ => 0))), ((q 25), .inl ((cA 25), 130, .inl (fun _ => 0))), ((q 26), .inl ((cA 26), 5240, .inl (fun _ => 0))), ((q 27), .inl ((cA 27), 5240, .inr (.inl (fun _ => 0)))), ((q 28), .inl ((cA 28), 3, .inl (fun _ => 0))), ((q 29), .inl ((cA 29), 3, .inr (.inl (fun _ => 0)))), ((q 30), .inl ((cA 30), 16, .inl (fun _ => 0)))] := hD
        refine lv_aload_n hx hb dX9_method_493 rfl (lv_at hl 1 rfl) ?_
        refine va_get (D := (dC, dI)) (own := RX9) (ref := "ReflectModelsModel") (index := 72) (ci := 8) (v := .ref (q 18)) (C := RX9) (T := TX9) (N := 42) hx hb hts inX9_method_9 hown hK hP 0 rfl rfl 21 (by decide) (hts (.fieldLink RX9 72 "ReflectModelsModel" "body" "[I") (by decide +kernel)) (fun _ h9 => h9) rfl dX9_method_494 ?_
        refine lv_iload hx hb dX9_method_497 (lv_at hl 0 rfl) ?_
        refine lv_iload hx hb dX9_method_499 (lv_at hl 9 rfl) ?_
        refine va_iast hx hb hK hP hD hS 19 18 rfl rfl (vp_in_iff.mpr ⟨by decide, by decide⟩) dX9_method_501 (fun H locs hP hD hS => ?_)
        have hP : va_P (dC, dI) vwCl [(h0, .inr (8, [.int 0, .int 1, .ref (q 0), .ref (q 1), .ref (q 2), .ref (q 3), .ref (q 4), .ref (q 5), .ref (q 6), .ref (q 7), .int 1, .ref (q 8), .ref (q 9), .ref (q 10), .ref (q 11), .ref (q 12), .ref (q 13), .ref (q 14), .ref (q 15), .ref (q 16), .ref (q 17), .ref (q 18), .ref (q 19), .int 0, .int 0, .ref (q 20), .ref (q 21), .int 0, .ref (q 22), .ref (q 23), .ref (q 24), .ref (q 25), .ref (q 26), .ref (q 27), .int 0, .ref (q 28), .ref (q 29), .int 0, .long 0, .int 0, .int 0, .ref (q 30)])), ((q 0), .inl ((cA 0), 16, .inl (upd (fun _ => 0) 0 (-1)))), ((q 1), .inl ((cA 1), 16, .inl (fun _ => 0))), ((q 2), .inl ((cA 2), 16, .inl (upd (fun _ => 0) 0 (-1)))), ((q 3), .inl ((cA 3), 16, .inl (fun _ => 0))), ((q 4), .inl ((cA 4), 16, .inl (fun _ => 0))), ((q 5), .inl ((cA 5), 16, .inl (fun _ => 0))), ((q 6), .inl ((cA 6), 16, .inl (fun _ => 0))), ((q 7), .inl ((cA 7), 16, .inl (fun _ => 0))), ((q 8), .inl ((cA 8), 40, .inl (upd (fun _ => 0) 0 a1))), ((q 9), .inl ((cA 9), 40, .inl (upd (fun _ => 0) 0 0))), ((q 10), .inl ((cA 10), 40, .inl (upd (fun _ => 0) 0 a2))), ((q 11), .inl ((cA 11), 40, .inl (upd (fun _ => 0) 0 a6))), ((q 12), .inl ((cA 12), 40, .inl (upd (fun _ => 0) 0 a3))), ((q 13), .inl ((cA 13), 80, .inl (upd (upd (fun _ => 0) 0 a4) 1 a5))), ((q 14), .inl ((cA 14), 40, .inl (upd (fun _ => 0) 0 1))), ((q 15), .inl ((cA 15), 40, .inl (fun _ => 0))), ((q 16), .inl ((cA 16), 40, .inl (upd (fun _ => 0) 0 0))), ((q 17), .inl ((cA 17), 40, .inl (upd (fun _ => 0) 0 0))), ((q 18), .inl ((cA 18), 40, .inl (upd (fun _ => 0) 0 a8))), ((q 19), .inl ((cA 19), 40, .inl (fun _ => 0))), ((q 20), .inl ((cA 20), 60, .inl (fun _ => 0))), ((q 21), .inl ((cA 21), 60, .inl (fun _ => 0))), ((q 22), .inl ((cA 22), 130, .inl (fun _ => 0))), ((q 23), .inl ((cA 23), 130, .inl (fun _ => 0))), ((q 24), .inl ((cA 24), 130, .inl (fun _ => 0))), ((q 25), .inl ((cA 25), 130, .inl (fun _ => 0))), ((q 26), .inl ((cA 26), 5240, .inl (fun _ => 0))), ((q 27), .inl ((cA 27), 5240, .inr (.inl (fun _ => 0)))), ((q 28), .inl ((cA 28), 3, .inl (fun _ => 0))), ((q 29), .inl ((cA 29), 3, .inr (.inl (fun _ => 0)))), ((q 30), .inl ((cA 30), 16, .inl (fun _ => 0)))] H := hP
        have hD : va_D A [(h0, .inr (8, [.int 0, .int 1, .ref (q 0), .ref (q 1), .ref (q 2), .ref (q 3), .ref (q 4), .ref (q 5), .ref (q 6), .ref (q 7), .int 1, .ref (q 8), .ref (q 9), .ref (q 10), .ref (q 11), .ref (q 12), .ref (q 13), .ref (q 14), .ref (q 15), .ref (q 16), .ref (q 17), .ref (q 18), .ref (q 19), .int 0, .int 0, .ref (q 20), .ref (q 21), .int 0, .ref (q 22), .ref (q 23), .ref (q 24), .ref (q 25), .ref (q 26), .ref (q 27), .int 0, .ref (q 28), .ref (q 29), .int 0, .long 0, .int 0, .int 0, .ref (q 30)])), ((q 0), .inl ((cA 0), 16, .inl (upd (fun _ => 0) 0 (-1)))), ((q 1), .inl ((cA 1), 16, .inl (fun _ => 0))), ((q 2), .inl ((cA 2), 16, .inl (upd (fun _ => 0) 0 (-1)))), ((q 3), .inl ((cA 3), 16, .inl (fun _ => 0))), ((q 4), .inl ((cA 4), 16, .inl (fun _ => 0))), ((q 5), .inl ((cA 5), 16, .inl (fun _ => 0))), ((q 6), .inl ((cA 6), 16, .inl (fun _ => 0))), ((q 7), .inl ((cA 7), 16, .inl (fun _ => 0))), ((q 8), .inl ((cA 8), 40, .inl (upd (fun _ => 0) 0 a1))), ((q 9), .inl ((cA 9), 40, .inl (upd (fun _ => 0) 0 0))), ((q 10), .inl ((cA 10), 40, .inl (upd (fun _ => 0) 0 a2))), ((q 11), .inl ((cA 11), 40, .inl (upd (fun _ => 0) 0 a6))), ((q 12), .inl ((cA 12), 40, .inl (upd (fun _ => 0) 0 a3))), ((q 13), .inl ((cA 13), 80, .inl (upd (upd (fun _ => 0) 0 a4) 1 a5))), ((q 14), .inl ((cA 14), 40, .inl (upd (fun _ => 0) 0 1))), ((q 15), .inl ((cA 15), 40, .inl (fun _ => 0))), ((q 16), .inl ((cA 16), 40, .inl (upd (fun _ => 0) 0 0))), ((q 17), .inl ((cA 17), 40, .inl (upd (fun _ => 0) 0 0))), ((q 18), .inl ((cA 18), 40, .inl (upd (fun _ => 0) 0 a8))), ((q 19), .inl ((cA 19), 40, .inl (fun _ => 0))), ((q 20), .inl ((cA 20), 60, .inl (fun _ => 0))), ((q 21), .inl ((cA 21), 60, .inl (fun _ => 0))), ((q 22), .inl ((cA 22), 130, .inl (fun _ => 0))), ((q 23), .inl ((cA 23), 130, .inl (fun _ => 0))), ((q 24), .inl ((cA 24), 130, .inl (fun _ => 0))), ((q 25), .inl ((cA 25), 130, .inl (fun _ => 0))), ((q 26), .inl ((cA 26), 5240, .inl (fun _ => 0))), ((q 27), .inl ((cA 27), 5240, .inr (.inl (fun _ => 0)))), ((q 28), .inl ((cA 28), 3, .inl (fun _ => 0))), ((q 29), .inl ((cA 29), 3, .inr (.inl (fun _ => 0)))), ((q 30), .inl ((cA 30), 16, .inl (fun _ => 0)))] := hD
        refine lv_aload_n hx hb dX9_method_502 rfl (lv_at hl 1 rfl) ?_
        refine va_get (D := (dC, dI)) (own := RX9) (ref := "ReflectModelsModel") (index := 75) (ci := 8) (v := .ref (q 19)) (C := RX9) (T := TX9) (N := 42) hx hb hts inX9_method_9 hown hK hP 0 rfl rfl 22 (by decide) (hts (.fieldLink RX9 75 "ReflectModelsModel" "bodyB" "[I") (by decide +kernel)) (fun _ h9 => h9) rfl dX9_method_503 ?_
        refine lv_iload hx hb dX9_method_506 (lv_at hl 0 rfl) ?_
        refine lv_iload hx hb dX9_method_508 (lv_at hl 10 rfl) ?_
        refine va_iast hx hb hK hP hD hS 20 19 rfl rfl (vp_in_iff.mpr ⟨by decide, by decide⟩) dX9_method_510 (fun H locs hP hD hS => ?_)
        have hP : va_P (dC, dI) vwCl [(h0, .inr (8, [.int 0, .int 1, .ref (q 0), .ref (q 1), .ref (q 2), .ref (q 3), .ref (q 4), .ref (q 5), .ref (q 6), .ref (q 7), .int 1, .ref (q 8), .ref (q 9), .ref (q 10), .ref (q 11), .ref (q 12), .ref (q 13), .ref (q 14), .ref (q 15), .ref (q 16), .ref (q 17), .ref (q 18), .ref (q 19), .int 0, .int 0, .ref (q 20), .ref (q 21), .int 0, .ref (q 22), .ref (q 23), .ref (q 24), .ref (q 25), .ref (q 26), .ref (q 27), .int 0, .ref (q 28), .ref (q 29), .int 0, .long 0, .int 0, .int 0, .ref (q 30)])), ((q 0), .inl ((cA 0), 16, .inl (upd (fun _ => 0) 0 (-1)))), ((q 1), .inl ((cA 1), 16, .inl (fun _ => 0))), ((q 2), .inl ((cA 2), 16, .inl (upd (fun _ => 0) 0 (-1)))), ((q 3), .inl ((cA 3), 16, .inl (fun _ => 0))), ((q 4), .inl ((cA 4), 16, .inl (fun _ => 0))), ((q 5), .inl ((cA 5), 16, .inl (fun _ => 0))), ((q 6), .inl ((cA 6), 16, .inl (fun _ => 0))), ((q 7), .inl ((cA 7), 16, .inl (fun _ => 0))), ((q 8), .inl ((cA 8), 40, .inl (upd (fun _ => 0) 0 a1))), ((q 9), .inl ((cA 9), 40, .inl (upd (fun _ => 0) 0 0))), ((q 10), .inl ((cA 10), 40, .inl (upd (fun _ => 0) 0 a2))), ((q 11), .inl ((cA 11), 40, .inl (upd (fun _ => 0) 0 a6))), ((q 12), .inl ((cA 12), 40, .inl (upd (fun _ => 0) 0 a3))), ((q 13), .inl ((cA 13), 80, .inl (upd (upd (fun _ => 0) 0 a4) 1 a5))), ((q 14), .inl ((cA 14), 40, .inl (upd (fun _ => 0) 0 1))), ((q 15), .inl ((cA 15), 40, .inl (fun _ => 0))), ((q 16), .inl ((cA 16), 40, .inl (upd (fun _ => 0) 0 0))), ((q 17), .inl ((cA 17), 40, .inl (upd (fun _ => 0) 0 0))), ((q 18), .inl ((cA 18), 40, .inl (upd (fun _ => 0) 0 a8))), ((q 19), .inl ((cA 19), 40, .inl (upd (fun _ => 0) 0 a9))), ((q 20), .inl ((cA 20), 60, .inl (fun _ => 0))), ((q 21), .inl ((cA 21), 60, .inl (fun _ => 0))), ((q 22), .inl ((cA 22), 130, .inl (fun _ => 0))), ((q 23), .inl ((cA 23), 130, .inl (fun _ => 0))), ((q 24), .inl ((cA 24), 130, .inl (fun _ => 0))), ((q 25), .inl ((cA 25), 130, .inl (fun _ => 0))), ((q 26), .inl ((cA 26), 5240, .inl (fun _ => 0))), ((q 27), .inl ((cA 27), 5240, .inr (.inl (fun _ => 0)))), ((q 28), .inl ((cA 28), 3, .inl (fun _ => 0))), ((q 29), .inl ((cA 29), 3, .inr (.inl (fun _ => 0)))), ((q 30), .inl ((cA 30), 16, .inl (fun _ => 0)))] H := hP
        have hD : va_D A [(h0, .inr (8, [.int 0, .int 1, .ref (q 0), .ref (q 1), .ref (q 2), .ref (q 3), .ref (q 4), .ref (q 5), .ref (q 6), .ref (q 7), .int 1, .ref (q 8), .ref (q 9), .ref (q 10), .ref (q 11), .ref (q 12), .ref (q 13), .ref (q 14), .ref (q 15), .ref (q 16), .ref (q 17), .ref (q 18), .ref (q 19), .int 0, .int 0, .ref (q 20), .ref (q 21), .int 0, .ref (q 22), .ref (q 23), .ref (q 24), .ref (q 25), .ref (q 26), .ref (q 27), .int 0, .ref (q 28), .ref (q 29), .int 0, .long 0, .int 0, .int 0, .ref (q 30)])), ((q 0), .inl ((cA 0), 16, .inl (upd (fun _ => 0) 0 (-1)))), ((q 1), .inl ((cA 1), 16, .inl (fun _ => 0))), ((q 2), .inl ((cA 2), 16, .inl (upd (fun _ => 0) 0 (-1)))), ((q 3), .inl ((cA 3), 16, .inl (fun _ => 0))), ((q 4), .inl ((cA 4), 16, .inl (fun _ => 0))), ((q 5), .inl ((cA 5), 16, .inl (fun _ => 0))), ((q 6), .inl ((cA 6), 16, .inl (fun _ => 0))), ((q 7), .inl ((cA 7), 16, .inl (fun _ => 0))), ((q 8), .inl ((cA 8), 40, .inl (upd (fun _ => 0) 0 a1))), ((q 9), .inl ((cA 9), 40, .inl (upd (fun _ => 0) 0 0))), ((q 10), .inl ((cA 10), 40, .inl (upd (fun _ => 0) 0 a2))), ((q 11), .inl ((cA 11), 40, .inl (upd (fun _ => 0) 0 a6))), ((q 12), .inl ((cA 12), 40, .inl (upd (fun _ => 0) 0 a3))), ((q 13), .inl ((cA 13), 80, .inl (upd (upd (fun _ => 0) 0 a4) 1 a5))), ((q 14), .inl ((cA 14), 40, .inl (upd (fun _ => 0) 0 1))), ((q 15), .inl ((cA 15), 40, .inl (fun _ => 0))), ((q 16), .inl ((cA 16), 40, .inl (upd (fun _ => 0) 0 0))), ((q 17), .inl ((cA 17), 40, .inl (upd (fun _ => 0) 0 0))), ((q 18), .inl ((cA 18), 40, .inl (upd (fun _ => 0) 0 a8))), ((q 19), .inl ((cA 19), 40, .inl (upd (fun _ => 0) 0 a9))), ((q 20), .inl ((cA 20), 60, .inl (fun _ => 0))), ((q 21), .inl ((cA 21), 60, .inl (fun _ => 0))), ((q 22), .inl ((cA 22), 130, .inl (fun _ => 0))), ((q 23), .inl ((cA 23), 130, .inl (fun _ => 0))), ((q 24), .inl ((cA 24), 130, .inl (fun _ => 0))), ((q 25), .inl ((cA 25), 130, .inl (fun _ => 0))), ((q 26), .inl ((cA 26), 5240, .inl (fun _ => 0))), ((q 27), .inl ((cA 27), 5240, .inr (.inl (fun _ => 0)))), ((q 28), .inl ((cA 28), 3, .inl (fun _ => 0))), ((q 29), .inl ((cA 29), 3, .inr (.inl (fun _ => 0)))), ((q 30), .inl ((cA 30), 16, .inl (fun _ => 0)))] := hD
        refine lv_iload hx hb dX9_method_511 (lv_at hl 0 rfl) ?_
        have hP9 := hP.sub (ws' := []) [] rfl
        have hD9 := hD.sub (ws' := []) [] (by decide) rfl
        have hK9 := hK.sub (tys' := []) [] rfl
        exact W.zret (v := 0) (ty := .int) hx hb hr rfl (fun t ht hW => ⟨⟨(some (.int 0)), rfl, _, _, ⟨congrArg (fun z => some (Value.int z)) hz, rfl, rfl⟩, by rw [ht]; exact hP9, va_K.moved hW.alike hK9, hD9⟩, hS.F ht⟩) hS.2.2 dX9_method_513
      · have ic30 : y29.toInt = 4 := ieq2 rfl (by decide) c30
        refine lv_iconst (v := 1) hx hb dX9_method_487 (by decide) ?_
        refine lv_goto (tgt := 492) hx hb dX9_method_488 (by decide) ?_
        refine va_zast hx hb hK hP hD hS 17 16 rfl rfl (vp_in_iff.mpr ⟨by decide, by decide⟩) dX9_method_492 (fun H locs hP hD hS => ?_)
        have hP : va_P (dC, dI) vwCl [(h0, .inr (8, [.int 0, .int 1, .ref (q 0), .ref (q 1), .ref (q 2), .ref (q 3), .ref (q 4), .ref (q 5), .ref (q 6), .ref (q 7), .int 1, .ref (q 8), .ref (q 9), .ref (q 10), .ref (q 11), .ref (q 12), .ref (q 13), .ref (q 14), .ref (q 15), .ref (q 16), .ref (q 17), .ref (q 18), .ref (q 19), .int 0, .int 0, .ref (q 20), .ref (q 21), .int 0, .ref (q 22), .ref (q 23), .ref (q 24), .ref (q 25), .ref (q 26), .ref (q 27), .int 0, .ref (q 28), .ref (q 29), .int 0, .long 0, .int 0, .int 0, .ref (q 30)])), ((q 0), .inl ((cA 0), 16, .inl (upd (fun _ => 0) 0 (-1)))), ((q 1), .inl ((cA 1), 16, .inl (fun _ => 0))), ((q 2), .inl ((cA 2), 16, .inl (upd (fun _ => 0) 0 (-1)))), ((q 3), .inl ((cA 3), 16, .inl (fun _ => 0))), ((q 4), .inl ((cA 4), 16, .inl (fun _ => 0))), ((q 5), .inl ((cA 5), 16, .inl (fun _ => 0))), ((q 6), .inl ((cA 6), 16, .inl (fun _ => 0))), ((q 7), .inl ((cA 7), 16, .inl (fun _ => 0))), ((q 8), .inl ((cA 8), 40, .inl (upd (fun _ => 0) 0 a1))), ((q 9), .inl ((cA 9), 40, .inl (upd (fun _ => 0) 0 0))), ((q 10), .inl ((cA 10), 40, .inl (upd (fun _ => 0) 0 a2))), ((q 11), .inl ((cA 11), 40, .inl (upd (fun _ => 0) 0 a6))), ((q 12), .inl ((cA 12), 40, .inl (upd (fun _ => 0) 0 a3))), ((q 13), .inl ((cA 13), 80, .inl (upd (upd (fun _ => 0) 0 a4) 1 a5))), ((q 14), .inl ((cA 14), 40, .inl (upd (fun _ => 0) 0 1))), ((q 15), .inl ((cA 15), 40, .inl (fun _ => 0))), ((q 16), .inl ((cA 16), 40, .inl (upd (fun _ => 0) 0 1))), ((q 17), .inl ((cA 17), 40, .inl (upd (fun _ => 0) 0 0))), ((q 18), .inl ((cA 18), 40, .inl (fun _ => 0))), ((q 19), .inl ((cA 19), 40, .inl (fun _ => 0))), ((q 20), .inl ((cA 20), 60, .inl (fun _ => 0))), ((q 21), .inl ((cA 21), 60, .inl (fun _ => 0))), ((q 22), .inl ((cA 22), 130, .inl (fun _ => 0))), ((q 23), .inl ((cA 23), 130, .inl (fun _ => 0))), ((q 24), .inl ((cA 24), 130, .inl (fun _ => 0))), ((q 25), .inl ((cA 25), 130, .inl (fun _ => 0))), ((q 26), .inl ((cA 26), 5240, .inl (fun _ => 0))), ((q 27), .inl ((cA 27), 5240, .inr (.inl (fun _ => 0)))), ((q 28), .inl ((cA 28), 3, .inl (fun _ => 0))), ((q 29), .inl ((cA 29), 3, .inr (.inl (fun _ => 0)))), ((q 30), .inl ((cA 30), 16, .inl (fun _ => 0)))] H := hP
        have hD : va_D A [(h0, .inr (8, [.int 0, .int 1, .ref (q 0), .ref (q 1), .ref (q 2), .ref (q 3), .ref (q 4), .ref (q 5), .ref (q 6), .ref (q 7), .int 1, .ref (q 8), .ref (q 9), .ref (q 10), .ref (q 11), .ref (q 12), .ref (q 13), .ref (q 14), .ref (q 15), .ref (q 16), .ref (q 17), .ref (q 18), .ref (q 19), .int 0, .int 0, .ref (q 20), .ref (q 21), .int 0, .ref (q 22), .ref (q 23), .ref (q 24), .ref (q 25), .ref (q 26), .ref (q 27), .int 0, .ref (q 28), .ref (q 29), .int 0, .long 0, .int 0, .int 0, .ref (q 30)])), ((q 0), .inl ((cA 0), 16, .inl (upd (fun _ => 0) 0 (-1)))), ((q 1), .inl ((cA 1), 16, .inl (fun _ => 0))), ((q 2), .inl ((cA 2), 16, .inl (upd (fun _ => 0) 0 (-1)))), ((q 3), .inl ((cA 3), 16, .inl (fun _ => 0))), ((q 4), .inl ((cA 4), 16, .inl (fun _ => 0))), ((q 5), .inl ((cA 5), 16, .inl (fun _ => 0))), ((q 6), .inl ((cA 6), 16, .inl (fun _ => 0))), ((q 7), .inl ((cA 7), 16, .inl (fun _ => 0))), ((q 8), .inl ((cA 8), 40, .inl (upd (fun _ => 0) 0 a1))), ((q 9), .inl ((cA 9), 40, .inl (upd (fun _ => 0) 0 0))), ((q 10), .inl ((cA 10), 40, .inl (upd (fun _ => 0) 0 a2))), ((q 11), .inl ((cA 11), 40, .inl (upd (fun _ => 0) 0 a6))), ((q 12), .inl ((cA 12), 40, .inl (upd (fun _ => 0) 0 a3))), ((q 13), .inl ((cA 13), 80, .inl (upd (upd (fun _ => 0) 0 a4) 1 a5))), ((q 14), .inl ((cA 14), 40, .inl (upd (fun _ => 0) 0 1))), ((q 15), .inl ((cA 15), 40, .inl (fun _ => 0))), ((q 16), .inl ((cA 16), 40, .inl (upd (fun _ => 0) 0 1))), ((q 17), .inl ((cA 17), 40, .inl (upd (fun _ => 0) 0 0))), ((q 18), .inl ((cA 18), 40, .inl (fun _ => 0))), ((q 19), .inl ((cA 19), 40, .inl (fun _ => 0))), ((q 20), .inl ((cA 20), 60, .inl (fun _ => 0))), ((q 21), .inl ((cA 21), 60, .inl (fun _ => 0))), ((q 22), .inl ((cA 22), 130, .inl (fun _ => 0))), ((q 23), .inl ((cA 23), 130, .inl (fun _ => 0))), ((q 24), .inl ((cA 24), 130, .inl (fun _ => 0))), ((q 25), .inl ((cA 25), 130, .inl (fun _ => 0))), ((q 26), .inl ((cA 26), 5240, .inl (fun _ => 0))), ((q 27), .inl ((cA 27), 5240, .inr (.inl (fun _ => 0)))), ((q 28), .inl ((cA 28), 3, .inl (fun _ => 0))), ((q 29), .inl ((cA 29), 3, .inr (.inl (fun _ => 0)))), ((q 30), .inl ((cA 30), 16, .inl (fun _ => 0)))] := hD
        refine lv_aload_n hx hb dX9_method_493 rfl (lv_at hl 1 rfl) ?_
        refine va_get (D := (dC, dI)) (own := RX9) (ref := "ReflectModelsModel") (index := 72) (ci := 8) (v := .ref (q 18)) (C := RX9) (T := TX9) (N := 42) hx hb hts inX9_method_9 hown hK hP 0 rfl rfl 21 (by decide) (hts (.fieldLink RX9 72 "ReflectModelsModel" "body" "[I") (by decide +kernel)) (fun _ h9 => h9) rfl dX9_method_494 ?_
        refine lv_iload hx hb dX9_method_497 (lv_at hl 0 rfl) ?_
        refine lv_iload hx hb dX9_method_499 (lv_at hl 9 rfl) ?_
        refine va_iast hx hb hK hP hD hS 19 18 rfl rfl (vp_in_iff.mpr ⟨by decide, by decide⟩) dX9_method_501 (fun H locs hP hD hS => ?_)
        have hP : va_P (dC, dI) vwCl [(h0, .inr (8, [.int 0, .int 1, .ref (q 0), .ref (q 1), .ref (q 2), .ref (q 3), .ref (q 4), .ref (q 5), .ref (q 6), .ref (q 7), .int 1, .ref (q 8), .ref (q 9), .ref (q 10), .ref (q 11), .ref (q 12), .ref (q 13), .ref (q 14), .ref (q 15), .ref (q 16), .ref (q 17), .ref (q 18), .ref (q 19), .int 0, .int 0, .ref (q 20), .ref (q 21), .int 0, .ref (q 22), .ref (q 23), .ref (q 24), .ref (q 25), .ref (q 26), .ref (q 27), .int 0, .ref (q 28), .ref (q 29), .int 0, .long 0, .int 0, .int 0, .ref (q 30)])), ((q 0), .inl ((cA 0), 16, .inl (upd (fun _ => 0) 0 (-1)))), ((q 1), .inl ((cA 1), 16, .inl (fun _ => 0))), ((q 2), .inl ((cA 2), 16, .inl (upd (fun _ => 0) 0 (-1)))), ((q 3), .inl ((cA 3), 16, .inl (fun _ => 0))), ((q 4), .inl ((cA 4), 16, .inl (fun _ => 0))), ((q 5), .inl ((cA 5), 16, .inl (fun _ => 0))), ((q 6), .inl ((cA 6), 16, .inl (fun _ => 0))), ((q 7), .inl ((cA 7), 16, .inl (fun _ => 0))), ((q 8), .inl ((cA 8), 40, .inl (upd (fun _ => 0) 0 a1))), ((q 9), .inl ((cA 9), 40, .inl (upd (fun _ => 0) 0 0))), ((q 10), .inl ((cA 10), 40, .inl (upd (fun _ => 0) 0 a2))), ((q 11), .inl ((cA 11), 40, .inl (upd (fun _ => 0) 0 a6))), ((q 12), .inl ((cA 12), 40, .inl (upd (fun _ => 0) 0 a3))), ((q 13), .inl ((cA 13), 80, .inl (upd (upd (fun _ => 0) 0 a4) 1 a5))), ((q 14), .inl ((cA 14), 40, .inl (upd (fun _ => 0) 0 1))), ((q 15), .inl ((cA 15), 40, .inl (fun _ => 0))), ((q 16), .inl ((cA 16), 40, .inl (upd (fun _ => 0) 0 1))), ((q 17), .inl ((cA 17), 40, .inl (upd (fun _ => 0) 0 0))), ((q 18), .inl ((cA 18), 40, .inl (upd (fun _ => 0) 0 a8))), ((q 19), .inl ((cA 19), 40, .inl (fun _ => 0))), ((q 20), .inl ((cA 20), 60, .inl (fun _ => 0))), ((q 21), .inl ((cA 21), 60, .inl (fun _ => 0))), ((q 22), .inl ((cA 22), 130, .inl (fun _ => 0))), ((q 23), .inl ((cA 23), 130, .inl (fun _ => 0))), ((q 24), .inl ((cA 24), 130, .inl (fun _ => 0))), ((q 25), .inl ((cA 25), 130, .inl (fun _ => 0))), ((q 26), .inl ((cA 26), 5240, .inl (fun _ => 0))), ((q 27), .inl ((cA 27), 5240, .inr (.inl (fun _ => 0)))), ((q 28), .inl ((cA 28), 3, .inl (fun _ => 0))), ((q 29), .inl ((cA 29), 3, .inr (.inl (fun _ => 0)))), ((q 30), .inl ((cA 30), 16, .inl (fun _ => 0)))] H := hP
        have hD : va_D A [(h0, .inr (8, [.int 0, .int 1, .ref (q 0), .ref (q 1), .ref (q 2), .ref (q 3), .ref (q 4), .ref (q 5), .ref (q 6), .ref (q 7), .int 1, .ref (q 8), .ref (q 9), .ref (q 10), .ref (q 11), .ref (q 12), .ref (q 13), .ref (q 14), .ref (q 15), .ref (q 16), .ref (q 17), .ref (q 18), .ref (q 19), .int 0, .int 0, .ref (q 20), .ref (q 21), .int 0, .ref (q 22), .ref (q 23), .ref (q 24), .ref (q 25), .ref (q 26), .ref (q 27), .int 0, .ref (q 28), .ref (q 29), .int 0, .long 0, .int 0, .int 0, .ref (q 30)])), ((q 0), .inl ((cA 0), 16, .inl (upd (fun _ => 0) 0 (-1)))), ((q 1), .inl ((cA 1), 16, .inl (fun _ => 0))), ((q 2), .inl ((cA 2), 16, .inl (upd (fun _ => 0) 0 (-1)))), ((q 3), .inl ((cA 3), 16, .inl (fun _ => 0))), ((q 4), .inl ((cA 4), 16, .inl (fun _ => 0))), ((q 5), .inl ((cA 5), 16, .inl (fun _ => 0))), ((q 6), .inl ((cA 6), 16, .inl (fun _ => 0))), ((q 7), .inl ((cA 7), 16, .inl (fun _ => 0))), ((q 8), .inl ((cA 8), 40, .inl (upd (fun _ => 0) 0 a1))), ((q 9), .inl ((cA 9), 40, .inl (upd (fun _ => 0) 0 0))), ((q 10), .inl ((cA 10), 40, .inl (upd (fun _ => 0) 0 a2))), ((q 11), .inl ((cA 11), 40, .inl (upd (fun _ => 0) 0 a6))), ((q 12), .inl ((cA 12), 40, .inl (upd (fun _ => 0) 0 a3))), ((q 13), .inl ((cA 13), 80, .inl (upd (upd (fun _ => 0) 0 a4) 1 a5))), ((q 14), .inl ((cA 14), 40, .inl (upd (fun _ => 0) 0 1))), ((q 15), .inl ((cA 15), 40, .inl (fun _ => 0))), ((q 16), .inl ((cA 16), 40, .inl (upd (fun _ => 0) 0 1))), ((q 17), .inl ((cA 17), 40, .inl (upd (fun _ => 0) 0 0))), ((q 18), .inl ((cA 18), 40, .inl (upd (fun _ => 0) 0 a8))), ((q 19), .inl ((cA 19), 40, .inl (fun _ => 0))), ((q 20), .inl ((cA 20), 60, .inl (fun _ => 0))), ((q 21), .inl ((cA 21), 60, .inl (fun _ => 0))), ((q 22), .inl ((cA 22), 130, .inl (fun _ => 0))), ((q 23), .inl ((cA 23), 130, .inl (fun _ => 0))), ((q 24), .inl ((cA 24), 130, .inl (fun _ => 0))), ((q 25), .inl ((cA 25), 130, .inl (fun _ => 0))), ((q 26), .inl ((cA 26), 5240, .inl (fun _ => 0))), ((q 27), .inl ((cA 27), 5240, .inr (.inl (fun _ => 0)))), ((q 28), .inl ((cA 28), 3, .inl (fun _ => 0))), ((q 29), .inl ((cA 29), 3, .inr (.inl (fun _ => 0)))), ((q 30), .inl ((cA 30), 16, .inl (fun _ => 0)))] := hD
        refine lv_aload_n hx hb dX9_method_502 rfl (lv_at hl 1 rfl) ?_
        refine va_get (D := (dC, dI)) (own := RX9) (ref := "ReflectModelsModel") (index := 75) (ci := 8) (v := .ref (q 19)) (C := RX9) (T := TX9) (N := 42) hx hb hts inX9_method_9 hown hK hP 0 rfl rfl 22 (by decide) (hts (.fieldLink RX9 75 "ReflectModelsModel" "bodyB" "[I") (by decide +kernel)) (fun _ h9 => h9) rfl dX9_method_503 ?_
        refine lv_iload hx hb dX9_method_506 (lv_at hl 0 rfl) ?_
        refine lv_iload hx hb dX9_method_508 (lv_at hl 10 rfl) ?_
        refine va_iast hx hb hK hP hD hS 20 19 rfl rfl (vp_in_iff.mpr ⟨by decide, by decide⟩) dX9_method_510 (fun H locs hP hD hS => ?_)
        have hP : va_P (dC, dI) vwCl [(h0, .inr (8, [.int 0, .int 1, .ref (q 0), .ref (q 1), .ref (q 2), .ref (q 3), .ref (q 4), .ref (q 5), .ref (q 6), .ref (q 7), .int 1, .ref (q 8), .ref (q 9), .ref (q 10), .ref (q 11), .ref (q 12), .ref (q 13), .ref (q 14), .ref (q 15), .ref (q 16), .ref (q 17), .ref (q 18), .ref (q 19), .int 0, .int 0, .ref (q 20), .ref (q 21), .int 0, .ref (q 22), .ref (q 23), .ref (q 24), .ref (q 25), .ref (q 26), .ref (q 27), .int 0, .ref (q 28), .ref (q 29), .int 0, .long 0, .int 0, .int 0, .ref (q 30)])), ((q 0), .inl ((cA 0), 16, .inl (upd (fun _ => 0) 0 (-1)))), ((q 1), .inl ((cA 1), 16, .inl (fun _ => 0))), ((q 2), .inl ((cA 2), 16, .inl (upd (fun _ => 0) 0 (-1)))), ((q 3), .inl ((cA 3), 16, .inl (fun _ => 0))), ((q 4), .inl ((cA 4), 16, .inl (fun _ => 0))), ((q 5), .inl ((cA 5), 16, .inl (fun _ => 0))), ((q 6), .inl ((cA 6), 16, .inl (fun _ => 0))), ((q 7), .inl ((cA 7), 16, .inl (fun _ => 0))), ((q 8), .inl ((cA 8), 40, .inl (upd (fun _ => 0) 0 a1))), ((q 9), .inl ((cA 9), 40, .inl (upd (fun _ => 0) 0 0))), ((q 10), .inl ((cA 10), 40, .inl (upd (fun _ => 0) 0 a2))), ((q 11), .inl ((cA 11), 40, .inl (upd (fun _ => 0) 0 a6))), ((q 12), .inl ((cA 12), 40, .inl (upd (fun _ => 0) 0 a3))), ((q 13), .inl ((cA 13), 80, .inl (upd (upd (fun _ => 0) 0 a4) 1 a5))), ((q 14), .inl ((cA 14), 40, .inl (upd (fun _ => 0) 0 1))), ((q 15), .inl ((cA 15), 40, .inl (fun _ => 0))), ((q 16), .inl ((cA 16), 40, .inl (upd (fun _ => 0) 0 1))), ((q 17), .inl ((cA 17), 40, .inl (upd (fun _ => 0) 0 0))), ((q 18), .inl ((cA 18), 40, .inl (upd (fun _ => 0) 0 a8))), ((q 19), .inl ((cA 19), 40, .inl (upd (fun _ => 0) 0 a9))), ((q 20), .inl ((cA 20), 60, .inl (fun _ => 0))), ((q 21), .inl ((cA 21), 60, .inl (fun _ => 0))), ((q 22), .inl ((cA 22), 130, .inl (fun _ => 0))), ((q 23), .inl ((cA 23), 130, .inl (fun _ => 0))), ((q 24), .inl ((cA 24), 130, .inl (fun _ => 0))), ((q 25), .inl ((cA 25), 130, .inl (fun _ => 0))), ((q 26), .inl ((cA 26), 5240, .inl (fun _ => 0))), ((q 27), .inl ((cA 27), 5240, .inr (.inl (fun _ => 0)))), ((q 28), .inl ((cA 28), 3, .inl (fun _ => 0))), ((q 29), .inl ((cA 29), 3, .inr (.inl (fun _ => 0)))), ((q 30), .inl ((cA 30), 16, .inl (fun _ => 0)))] H := hP
        have hD : va_D A [(h0, .inr (8, [.int 0, .int 1, .ref (q 0), .ref (q 1), .ref (q 2), .ref (q 3), .ref (q 4), .ref (q 5), .ref (q 6), .ref (q 7), .int 1, .ref (q 8), .ref (q 9), .ref (q 10), .ref (q 11), .ref (q 12), .ref (q 13), .ref (q 14), .ref (q 15), .ref (q 16), .ref (q 17), .ref (q 18), .ref (q 19), .int 0, .int 0, .ref (q 20), .ref (q 21), .int 0, .ref (q 22), .ref (q 23), .ref (q 24), .ref (q 25), .ref (q 26), .ref (q 27), .int 0, .ref (q 28), .ref (q 29), .int 0, .long 0, .int 0, .int 0, .ref (q 30)])), ((q 0), .inl ((cA 0), 16, .inl (upd (fun _ => 0) 0 (-1)))), ((q 1), .inl ((cA 1), 16, .inl (fun _ => 0))), ((q 2), .inl ((cA 2), 16, .inl (upd (fun _ => 0) 0 (-1)))), ((q 3), .inl ((cA 3), 16, .inl (fun _ => 0))), ((q 4), .inl ((cA 4), 16, .inl (fun _ => 0))), ((q 5), .inl ((cA 5), 16, .inl (fun _ => 0))), ((q 6), .inl ((cA 6), 16, .inl (fun _ => 0))), ((q 7), .inl ((cA 7), 16, .inl (fun _ => 0))), ((q 8), .inl ((cA 8), 40, .inl (upd (fun _ => 0) 0 a1))), ((q 9), .inl ((cA 9), 40, .inl (upd (fun _ => 0) 0 0))), ((q 10), .inl ((cA 10), 40, .inl (upd (fun _ => 0) 0 a2))), ((q 11), .inl ((cA 11), 40, .inl (upd (fun _ => 0) 0 a6))), ((q 12), .inl ((cA 12), 40, .inl (upd (fun _ => 0) 0 a3))), ((q 13), .inl ((cA 13), 80, .inl (upd (upd (fun _ => 0) 0 a4) 1 a5))), ((q 14), .inl ((cA 14), 40, .inl (upd (fun _ => 0) 0 1))), ((q 15), .inl ((cA 15), 40, .inl (fun _ => 0))), ((q 16), .inl ((cA 16), 40, .inl (upd (fun _ => 0) 0 1))), ((q 17), .inl ((cA 17), 40, .inl (upd (fun _ => 0) 0 0))), ((q 18), .inl ((cA 18), 40, .inl (upd (fun _ => 0) 0 a8))), ((q 19), .inl ((cA 19), 40, .inl (upd (fun _ => 0) 0 a9))), ((q 20), .inl ((cA 20), 60, .inl (fun _ => 0))), ((q 21), .inl ((cA 21), 60, .inl (fun _ => 0))), ((q 22), .inl ((cA 22), 130, .inl (fun _ => 0))), ((q 23), .inl ((cA 23), 130, .inl (fun _ => 0))), ((q 24), .inl ((cA 24), 130, .inl (fun _ => 0))), ((q 25), .inl ((cA 25), 130, .inl (fun _ => 0))), ((q 26), .inl ((cA 26), 5240, .inl (fun _ => 0))), ((q 27), .inl ((cA 27), 5240, .inr (.inl (fun _ => 0)))), ((q 28), .inl ((cA 28), 3, .inl (fun _ => 0))), ((q 29), .inl ((cA 29), 3, .inr (.inl (fun _ => 0)))), ((q 30), .inl ((cA 30), 16, .inl (fun _ => 0)))] := hD
        refine lv_iload hx hb dX9_method_511 (lv_at hl 0 rfl) ?_
        have hP9 := hP.sub (ws' := []) [] rfl
        have hD9 := hD.sub (ws' := []) [] (by decide) rfl
        have hK9 := hK.sub (tys' := []) [] rfl
        exact W.zret (v := 0) (ty := .int) hx hb hr rfl (fun t ht hW => ⟨⟨(some (.int 0)), rfl, _, _, ⟨congrArg (fun z => some (Value.int z)) hz, rfl, rfl⟩, by rw [ht]; exact hP9, va_K.moved hW.alike hK9, hD9⟩, hS.F ht⟩) hS.2.2 dX9_method_513
  have tl179 : ∀ (H : Heap) (locs : List Loc) (ls : Array Slot), va_P (dC, dI) vwCl [(h0, .inr (8, [.int 0, .int 1, .ref (q 0), .ref (q 1), .ref (q 2), .ref (q 3), .ref (q 4), .ref (q 5), .ref (q 6), .ref (q 7), .int 0, .ref (q 8), .ref (q 9), .ref (q 10), .ref (q 11), .ref (q 12), .ref (q 13), .ref (q 14), .ref (q 15), .ref (q 16), .ref (q 17), .ref (q 18), .ref (q 19), .int 0, .int 0, .ref (q 20), .ref (q 21), .int 0, .ref (q 22), .ref (q 23), .ref (q 24), .ref (q 25), .ref (q 26), .ref (q 27), .int 0, .ref (q 28), .ref (q 29), .int 0, .long 0, .int 0, .int 0, .ref (q 30)])), ((q 0), .inl ((cA 0), 16, .inl (upd (fun _ => 0) 0 (-1)))), ((q 1), .inl ((cA 1), 16, .inl (fun _ => 0))), ((q 2), .inl ((cA 2), 16, .inl (upd (fun _ => 0) 0 (-1)))), ((q 3), .inl ((cA 3), 16, .inl (fun _ => 0))), ((q 4), .inl ((cA 4), 16, .inl (fun _ => 0))), ((q 5), .inl ((cA 5), 16, .inl (fun _ => 0))), ((q 6), .inl ((cA 6), 16, .inl (fun _ => 0))), ((q 7), .inl ((cA 7), 16, .inl (fun _ => 0))), ((q 8), .inl ((cA 8), 40, .inl (fun _ => 0))), ((q 9), .inl ((cA 9), 40, .inl (fun _ => 0))), ((q 10), .inl ((cA 10), 40, .inl (fun _ => 0))), ((q 11), .inl ((cA 11), 40, .inl (fun _ => 0))), ((q 12), .inl ((cA 12), 40, .inl (fun _ => 0))), ((q 13), .inl ((cA 13), 80, .inl (fun _ => 0))), ((q 14), .inl ((cA 14), 40, .inl (fun _ => 0))), ((q 15), .inl ((cA 15), 40, .inl (fun _ => 0))), ((q 16), .inl ((cA 16), 40, .inl (fun _ => 0))), ((q 17), .inl ((cA 17), 40, .inl (fun _ => 0))), ((q 18), .inl ((cA 18), 40, .inl (fun _ => 0))), ((q 19), .inl ((cA 19), 40, .inl (fun _ => 0))), ((q 20), .inl ((cA 20), 60, .inl (fun _ => 0))), ((q 21), .inl ((cA 21), 60, .inl (fun _ => 0))), ((q 22), .inl ((cA 22), 130, .inl (fun _ => 0))), ((q 23), .inl ((cA 23), 130, .inl (fun _ => 0))), ((q 24), .inl ((cA 24), 130, .inl (fun _ => 0))), ((q 25), .inl ((cA 25), 130, .inl (fun _ => 0))), ((q 26), .inl ((cA 26), 5240, .inl (fun _ => 0))), ((q 27), .inl ((cA 27), 5240, .inr (.inl (fun _ => 0)))), ((q 28), .inl ((cA 28), 3, .inl (fun _ => 0))), ((q 29), .inl ((cA 29), 3, .inr (.inl (fun _ => 0)))), ((q 30), .inl ((cA 30), 16, .inl (fun _ => 0)))] H → va_D A [(h0, .inr (8, [.int 0, .int 1, .ref (q 0), .ref (q 1), .ref (q 2), .ref (q 3), .ref (q 4), .ref (q 5), .ref (q 6), .ref (q 7), .int 0, .ref (q 8), .ref (q 9), .ref (q 10), .ref (q 11), .ref (q 12), .ref (q 13), .ref (q 14), .ref (q 15), .ref (q 16), .ref (q 17), .ref (q 18), .ref (q 19), .int 0, .int 0, .ref (q 20), .ref (q 21), .int 0, .ref (q 22), .ref (q 23), .ref (q 24), .ref (q 25), .ref (q 26), .ref (q 27), .int 0, .ref (q 28), .ref (q 29), .int 0, .long 0, .int 0, .int 0, .ref (q 30)])), ((q 0), .inl ((cA 0), 16, .inl (upd (fun _ => 0) 0 (-1)))), ((q 1), .inl ((cA 1), 16, .inl (fun _ => 0))), ((q 2), .inl ((cA 2), 16, .inl (upd (fun _ => 0) 0 (-1)))), ((q 3), .inl ((cA 3), 16, .inl (fun _ => 0))), ((q 4), .inl ((cA 4), 16, .inl (fun _ => 0))), ((q 5), .inl ((cA 5), 16, .inl (fun _ => 0))), ((q 6), .inl ((cA 6), 16, .inl (fun _ => 0))), ((q 7), .inl ((cA 7), 16, .inl (fun _ => 0))), ((q 8), .inl ((cA 8), 40, .inl (fun _ => 0))), ((q 9), .inl ((cA 9), 40, .inl (fun _ => 0))), ((q 10), .inl ((cA 10), 40, .inl (fun _ => 0))), ((q 11), .inl ((cA 11), 40, .inl (fun _ => 0))), ((q 12), .inl ((cA 12), 40, .inl (fun _ => 0))), ((q 13), .inl ((cA 13), 80, .inl (fun _ => 0))), ((q 14), .inl ((cA 14), 40, .inl (fun _ => 0))), ((q 15), .inl ((cA 15), 40, .inl (fun _ => 0))), ((q 16), .inl ((cA 16), 40, .inl (fun _ => 0))), ((q 17), .inl ((cA 17), 40, .inl (fun _ => 0))), ((q 18), .inl ((cA 18), 40, .inl (fun _ => 0))), ((q 19), .inl ((cA 19), 40, .inl (fun _ => 0))), ((q 20), .inl ((cA 20), 60, .inl (fun _ => 0))), ((q 21), .inl ((cA 21), 60, .inl (fun _ => 0))), ((q 22), .inl ((cA 22), 130, .inl (fun _ => 0))), ((q 23), .inl ((cA 23), 130, .inl (fun _ => 0))), ((q 24), .inl ((cA 24), 130, .inl (fun _ => 0))), ((q 25), .inl ((cA 25), 130, .inl (fun _ => 0))), ((q 26), .inl ((cA 26), 5240, .inl (fun _ => 0))), ((q 27), .inl ((cA 27), 5240, .inr (.inl (fun _ => 0)))), ((q 28), .inl ((cA 28), 3, .inl (fun _ => 0))), ((q 29), .inl ((cA 29), 3, .inr (.inl (fun _ => 0)))), ((q 30), .inl ((cA 30), 16, .inl (fun _ => 0)))] → va_S A s.heap H locs → lv_has ls 14 [(0, .ref h0), (1, .int a1), (2, .int a2), (3, .int a3), (4, .int a4), (5, .int a5), (6, .int a6), (7, .int a7), (8, .int a8), (9, .int a9)] → (a1.toInt = 0 ∧ ¬ mU a1.toInt a3.toInt a4.toInt a5.toInt a6.toInt ∧ ¬ mO1 a2.toInt a3.toInt a4.toInt a5.toInt a6.toInt ∧ 0 ≤ a3.toInt ∧ a3.toInt ≤ 2 ∧ ¬ mO2 a7.toInt ∧ (a7 = 0 ∨ a7 = 1 ∨ a7 = 2 ∨ a7 = 4 ∨ a7 = 5) ∧ ¬ mO3 a8.toInt a9.toInt ∧ 0 ≤ a8.toInt ∧ a8.toInt ≤ 7) → W p l e (headSpec wsX9_method ({ frames := 3, cells := 0, slots := 0, locals := 72 })).room s m ([.ref h0, .int a1, .int a2, .int a3, .int a4, .int a5, .int a6, .int a7, .int a8, .int a9].toArray) below meth c H locs 0 0 (MQ below (qW (dC, dI) (fun v w1 ty1 => v = some (.int (an_method a1.toInt a2.toInt a3.toInt a4.toInt a5.toInt a6.toInt a7.toInt a8.toInt a9.toInt)) ∧ w1 = [] ∧ ty1 = []) A) ([.ref h0, .int a1, .int a2, .int a3, .int a4, .int a5, .int a6, .int a7, .int a8, .int a9].toArray) s 0 0 A) (F0 m 179 ls []) := by
    intro H locs ls hP hD hS hl hz
    obtain ⟨z1, zU, zO1, z2, z3, zO2, zm, zO3, z4, z5⟩ := hz
    rcases zm with rfl | rfl | rfl | rfl | rfl
    · refine lv_iload hx hb dX9_method_179 (lv_at hl 7 rfl) ?_
      refine lv_iconst (v := 2) hx hb dX9_method_181 (by decide) ?_
      refine lv_icmp_ne (tgt := 189) hx hb dX9_method_182 (by decide) (fun _ => ?_) (fun h => absurd h (by decide))
      refine lv_iconst (v := 0) hx hb dX9_method_189 (by decide) ?_
      refine lv_istore (lv' := [(11, .int 0), (0, .ref h0), (1, .int a1), (2, .int a2), (3, .int a3), (4, .int a4), (5, .int a5), (6, .int a6), (7, .int 0), (8, .int a8), (9, .int a9)]) hx hb dX9_method_190 hl (by decide) rfl (fun ls hl => ?_)
      refine lv_aload_n hx hb dX9_method_192 rfl (lv_at hl 1 rfl) ?_
      refine va_get (D := (dC, dI)) (own := RX9) (ref := "ReflectModelsModel") (index := 20) (ci := 8) (v := .ref (q 1)) (C := RX9) (T := TX9) (N := 42) hx hb hts inX9_method_9 hown hK hP 0 rfl rfl 3 (by decide) (hts (.fieldLink RX9 20 "ReflectModelsModel" "sort" "[I") (by decide +kernel)) (fun _ h9 => h9) rfl dX9_method_193 ?_
      refine lv_iload_n hx hb dX9_method_196 rfl (lv_at hl 2 rfl) ?_
      obtain rfl : a1 = 0 := iof (a := 0) (by decide) (by omega)
      refine va_iald hx hb hK hP 2 1 rfl rfl (vp_in_iff.mpr ⟨by decide, by decide⟩) dX9_method_197 ?_
      refine W.eq (g2 := F0 m 198 ls [.int 0]) rfl ?_
      refine lv_iconst (v := 2) hx hb dX9_method_198 (by decide) ?_
      refine lv_icmp_ne (tgt := 223) hx hb dX9_method_199 (by decide) (fun _ => ?_) (fun h => absurd h (by decide))
      refine lv_iload hx hb dX9_method_223 (lv_at hl 0 rfl) ?_
      refine lv_if_eq (tgt := 238) hx hb dX9_method_225 (by decide) (fun _ => ?_) (fun h => absurd (by decide) h)
      refine lv_iconst (v := 1) hx hb dX9_method_238 (by decide) ?_
      refine lv_goto (tgt := 243) hx hb dX9_method_239 (by decide) ?_
      refine lv_istore (lv' := [(12, .int 1), (11, .int 0), (0, .ref h0), (1, .int 0), (2, .int a2), (3, .int a3), (4, .int a4), (5, .int a5), (6, .int a6), (7, .int 0), (8, .int a8), (9, .int a9)]) hx hb dX9_method_243 hl (by decide) rfl (fun ls hl => ?_)
      refine lv_iload hx hb dX9_method_245 (lv_at hl 0 rfl) ?_
      refine lv_if_eq (tgt := 277) hx hb dX9_method_247 (by decide) (fun h => absurd h (by decide)) (fun _ => ?_)
      refine lv_iload hx hb dX9_method_250 (lv_at hl 1 rfl) ?_
      refine lv_if_ne (tgt := 273) hx hb dX9_method_252 (by decide) (fun h => absurd h (by decide)) (fun _ => ?_)
      refine lv_aload_n hx hb dX9_method_255 rfl (lv_at hl 2 rfl) ?_
      refine lv_iload_n hx hb dX9_method_256 rfl (lv_at hl 5 rfl) ?_
      refine lv_iload hx hb dX9_method_257 (lv_at hl 6 rfl) ?_
      refine lv_iload hx hb dX9_method_259 (lv_at hl 7 rfl) ?_
      refine lv_iload hx hb dX9_method_261 (lv_at hl 9 rfl) ?_
      refine lv_iload hx hb dX9_method_263 (lv_at hl 10 rfl) ?_
      refine lv_iload hx hb dX9_method_265 (lv_at hl 11 rfl) ?_
      refine clR (va_runV (As := [.int a3, .int a4, .int a5, .int 0, .int a8, .int a9]) (rest := []) ⟨hx, hb, hml, hown, hts⟩ (c9_bodyMay0 l dC dI h0 q a3 a4 a5 a8 a9 _) (cwV 6 hts gX9_method_X9_bodyMay rfl rfl rfl (by decide +kernel) ⟨Nat.le_of_ble_eq_true rfl, Nat.le_of_ble_eq_true rfl⟩) ⟨pz_blind, va_recv hK hP (ci := 8) (q0 := 0) rfl rfl, pz_of hP hK hD hN [0] [] rfl (by decide) rfl⟩ rfl rfl hl.1 rfl (lv_room (Nat.le_of_ble_eq_true rfl)) dX9_method_267 ⟨Nat.le_of_ble_eq_true rfl, Nat.le_of_ble_eq_true rfl⟩) hS hP (fun v H locs w33 hP hS => ?_)
      rcases w33 with ⟨rfl, u31⟩ | ⟨rfl, u32⟩
      · refine W.eq (g2 := F0 m 270 ls [.int 1]) rfl ?_
        refine lv_if_eq (tgt := 277) hx hb dX9_method_270 (by decide) (fun h => absurd h (by decide)) (fun _ => ?_)
        refine lv_iconst (v := 1) hx hb dX9_method_273 (by decide) ?_
        refine lv_goto (tgt := 278) hx hb dX9_method_274 (by decide) ?_
        refine lv_istore (lv' := [(12, .int 1), (11, .int 0), (0, .ref h0), (1, .int 0), (2, .int a2), (3, .int a3), (4, .int a4), (5, .int a5), (6, .int a6), (7, .int 0), (8, .int a8), (9, .int a9)]) hx hb dX9_method_278 hl (by decide) rfl (fun ls hl => ?_)
        refine lv_iconst (v := 0) hx hb dX9_method_280 (by decide) ?_
        refine lv_istore (lv' := [(13, .int 0), (12, .int 1), (11, .int 0), (0, .ref h0), (1, .int 0), (2, .int a2), (3, .int a3), (4, .int a4), (5, .int a5), (6, .int a6), (7, .int 0), (8, .int a8), (9, .int a9)]) hx hb dX9_method_281 hl (by decide) rfl (fun ls hl => ?_)
        refine lv_iload hx hb dX9_method_283 (lv_at hl 0 rfl) ?_
        refine lv_aload_n hx hb dX9_method_285 rfl (lv_at hl 3 rfl) ?_
        refine va_get (D := (dC, dI)) (own := RX9) (ref := "ReflectModelsModel") (index := 128) (ci := 8) (v := .int 0) (C := RX9) (T := TX9) (N := 42) hx hb hts inX9_method_9 hown hK hP 0 rfl rfl 10 (by decide) (hts (.fieldLink RX9 128 "ReflectModelsModel" "members" "I") (by decide +kernel)) (fun _ h9 => h9) rfl dX9_method_286 ?_
        refine lv_icmp_ge (tgt := 336) hx hb dX9_method_289 (by decide) (fun _ => ?_) (fun h => absurd (by decide) h)
        refine lv_iload hx hb dX9_method_336 (lv_at hl 1 rfl) ?_
        refine lv_if_eq (tgt := 348) hx hb dX9_method_338 (by decide) (fun h => absurd h (by decide)) (fun _ => ?_)
        refine lv_aload_n hx hb dX9_method_341 rfl (lv_at hl 3 rfl) ?_
        refine va_get (D := (dC, dI)) (own := RX9) (ref := "ReflectModelsModel") (index := 119) (ci := 8) (v := .int 0) (C := RX9) (T := TX9) (N := 42) hx hb hts inX9_method_9 hown hK hP 0 rfl rfl 27 (by decide) (hts (.fieldLink RX9 119 "ReflectModelsModel" "objects" "I") (by decide +kernel)) (fun _ h9 => h9) rfl dX9_method_342 ?_
        refine lv_if_le (tgt := 351) hx hb dX9_method_345 (by decide) (fun _ => ?_) (fun h => absurd (by decide) h)
        refine lv_aload_n hx hb dX9_method_351 rfl (lv_at hl 3 rfl) ?_
        refine va_get (D := (dC, dI)) (own := RX9) (ref := "ReflectModelsModel") (index := 128) (ci := 8) (v := .int 0) (C := RX9) (T := TX9) (N := 42) hx hb hts inX9_method_9 hown hK hP 0 rfl rfl 10 (by decide) (hts (.fieldLink RX9 128 "ReflectModelsModel" "members" "I") (by decide +kernel)) (fun _ h9 => h9) rfl dX9_method_352 ?_
        refine lv_bipush (v := 40) hx hb dX9_method_355 (by decide) ?_
        refine lv_icmp_ne (tgt := 363) hx hb dX9_method_357 (by decide) (fun _ => ?_) (fun h => absurd h (by decide))
        exact tl363 _ _ _ hP hD hS (lv_sub hl [3, 4, 5, 6, 7, 8, 9, 10, 11, 12, 2] rfl) (an_m0 zU zO1 zO2 zO3 (by unfold mS; first | omega | (have kq := kz; omega)))
      · refine W.eq (g2 := F0 m 270 ls [.int 0]) rfl ?_
        refine lv_if_eq (tgt := 277) hx hb dX9_method_270 (by decide) (fun _ => ?_) (fun h => absurd (by decide) h)
        refine lv_iconst (v := 0) hx hb dX9_method_277 (by decide) ?_
        refine lv_istore (lv' := [(12, .int 0), (11, .int 0), (0, .ref h0), (1, .int 0), (2, .int a2), (3, .int a3), (4, .int a4), (5, .int a5), (6, .int a6), (7, .int 0), (8, .int a8), (9, .int a9)]) hx hb dX9_method_278 hl (by decide) rfl (fun ls hl => ?_)
        refine lv_iconst (v := 0) hx hb dX9_method_280 (by decide) ?_
        refine lv_istore (lv' := [(13, .int 0), (12, .int 0), (11, .int 0), (0, .ref h0), (1, .int 0), (2, .int a2), (3, .int a3), (4, .int a4), (5, .int a5), (6, .int a6), (7, .int 0), (8, .int a8), (9, .int a9)]) hx hb dX9_method_281 hl (by decide) rfl (fun ls hl => ?_)
        refine lv_iload hx hb dX9_method_283 (lv_at hl 0 rfl) ?_
        refine lv_aload_n hx hb dX9_method_285 rfl (lv_at hl 3 rfl) ?_
        refine va_get (D := (dC, dI)) (own := RX9) (ref := "ReflectModelsModel") (index := 128) (ci := 8) (v := .int 0) (C := RX9) (T := TX9) (N := 42) hx hb hts inX9_method_9 hown hK hP 0 rfl rfl 10 (by decide) (hts (.fieldLink RX9 128 "ReflectModelsModel" "members" "I") (by decide +kernel)) (fun _ h9 => h9) rfl dX9_method_286 ?_
        refine lv_icmp_ge (tgt := 336) hx hb dX9_method_289 (by decide) (fun _ => ?_) (fun h => absurd (by decide) h)
        refine lv_iload hx hb dX9_method_336 (lv_at hl 1 rfl) ?_
        refine lv_if_eq (tgt := 348) hx hb dX9_method_338 (by decide) (fun _ => ?_) (fun h => absurd (by decide) h)
        refine lv_bipush (v := (-4)) hx hb dX9_method_348 (by decide) ?_
        have hP9 := hP.sub (ws' := []) [] rfl
        have hD9 := hD.sub (ws' := []) [] (by decide) rfl
        have hK9 := hK.sub (tys' := []) [] rfl
        exact W.zret (v := (-4)) (ty := .int) hx hb hr rfl (fun t ht hW => ⟨⟨(some (.int (-4))), rfl, _, _, ⟨congrArg (fun z => some (Value.int z)) (show (-4 : Int32) = an_method (0 : Int32).toInt (a2 : Int32).toInt (a3 : Int32).toInt (a4 : Int32).toInt (a5 : Int32).toInt (a6 : Int32).toInt (0 : Int32).toInt (a8 : Int32).toInt (a9 : Int32).toInt from an_m4 zU zO1 zO2 zO3 (by unfold mS; first | omega | (have kq := kz; omega))), rfl, rfl⟩, by rw [ht]; exact hP9, va_K.moved hW.alike hK9, hD9⟩, hS.F ht⟩) hS.2.2 dX9_method_350
    · refine lv_iload hx hb dX9_method_179 (lv_at hl 7 rfl) ?_
      refine lv_iconst (v := 2) hx hb dX9_method_181 (by decide) ?_
      refine lv_icmp_ne (tgt := 189) hx hb dX9_method_182 (by decide) (fun _ => ?_) (fun h => absurd h (by decide))
      refine lv_iconst (v := 0) hx hb dX9_method_189 (by decide) ?_
      refine lv_istore (lv' := [(11, .int 0), (0, .ref h0), (1, .int a1), (2, .int a2), (3, .int a3), (4, .int a4), (5, .int a5), (6, .int a6), (7, .int 1), (8, .int a8), (9, .int a9)]) hx hb dX9_method_190 hl (by decide) rfl (fun ls hl => ?_)
      refine lv_aload_n hx hb dX9_method_192 rfl (lv_at hl 1 rfl) ?_
      refine va_get (D := (dC, dI)) (own := RX9) (ref := "ReflectModelsModel") (index := 20) (ci := 8) (v := .ref (q 1)) (C := RX9) (T := TX9) (N := 42) hx hb hts inX9_method_9 hown hK hP 0 rfl rfl 3 (by decide) (hts (.fieldLink RX9 20 "ReflectModelsModel" "sort" "[I") (by decide +kernel)) (fun _ h9 => h9) rfl dX9_method_193 ?_
      refine lv_iload_n hx hb dX9_method_196 rfl (lv_at hl 2 rfl) ?_
      obtain rfl : a1 = 0 := iof (a := 0) (by decide) (by omega)
      refine va_iald hx hb hK hP 2 1 rfl rfl (vp_in_iff.mpr ⟨by decide, by decide⟩) dX9_method_197 ?_
      refine W.eq (g2 := F0 m 198 ls [.int 0]) rfl ?_
      refine lv_iconst (v := 2) hx hb dX9_method_198 (by decide) ?_
      refine lv_icmp_ne (tgt := 223) hx hb dX9_method_199 (by decide) (fun _ => ?_) (fun h => absurd h (by decide))
      refine lv_iload hx hb dX9_method_223 (lv_at hl 0 rfl) ?_
      refine lv_if_eq (tgt := 238) hx hb dX9_method_225 (by decide) (fun _ => ?_) (fun h => absurd (by decide) h)
      refine lv_iconst (v := 1) hx hb dX9_method_238 (by decide) ?_
      refine lv_goto (tgt := 243) hx hb dX9_method_239 (by decide) ?_
      refine lv_istore (lv' := [(12, .int 1), (11, .int 0), (0, .ref h0), (1, .int 0), (2, .int a2), (3, .int a3), (4, .int a4), (5, .int a5), (6, .int a6), (7, .int 1), (8, .int a8), (9, .int a9)]) hx hb dX9_method_243 hl (by decide) rfl (fun ls hl => ?_)
      refine lv_iload hx hb dX9_method_245 (lv_at hl 0 rfl) ?_
      refine lv_if_eq (tgt := 277) hx hb dX9_method_247 (by decide) (fun h => absurd h (by decide)) (fun _ => ?_)
      refine lv_iload hx hb dX9_method_250 (lv_at hl 1 rfl) ?_
      refine lv_if_ne (tgt := 273) hx hb dX9_method_252 (by decide) (fun h => absurd h (by decide)) (fun _ => ?_)
      refine lv_aload_n hx hb dX9_method_255 rfl (lv_at hl 2 rfl) ?_
      refine lv_iload_n hx hb dX9_method_256 rfl (lv_at hl 5 rfl) ?_
      refine lv_iload hx hb dX9_method_257 (lv_at hl 6 rfl) ?_
      refine lv_iload hx hb dX9_method_259 (lv_at hl 7 rfl) ?_
      refine lv_iload hx hb dX9_method_261 (lv_at hl 9 rfl) ?_
      refine lv_iload hx hb dX9_method_263 (lv_at hl 10 rfl) ?_
      refine lv_iload hx hb dX9_method_265 (lv_at hl 11 rfl) ?_
      refine clR (va_runV (As := [.int a3, .int a4, .int a5, .int 1, .int a8, .int a9]) (rest := []) ⟨hx, hb, hml, hown, hts⟩ (c9_bodyMay1 l dC dI h0 q a3 a4 a5 a8 a9 _) (cwV 6 hts gX9_method_X9_bodyMay rfl rfl rfl (by decide +kernel) ⟨Nat.le_of_ble_eq_true rfl, Nat.le_of_ble_eq_true rfl⟩) ⟨pz_blind, va_recv hK hP (ci := 8) (q0 := 0) rfl rfl, pz_of hP hK hD hN [0] [] rfl (by decide) rfl⟩ rfl rfl hl.1 rfl (lv_room (Nat.le_of_ble_eq_true rfl)) dX9_method_267 ⟨Nat.le_of_ble_eq_true rfl, Nat.le_of_ble_eq_true rfl⟩) hS hP (fun v H locs w36 hP hS => ?_)
      rcases w36 with ⟨rfl, u34⟩ | ⟨rfl, u35⟩
      · refine W.eq (g2 := F0 m 270 ls [.int 1]) rfl ?_
        refine lv_if_eq (tgt := 277) hx hb dX9_method_270 (by decide) (fun h => absurd h (by decide)) (fun _ => ?_)
        refine lv_iconst (v := 1) hx hb dX9_method_273 (by decide) ?_
        refine lv_goto (tgt := 278) hx hb dX9_method_274 (by decide) ?_
        refine lv_istore (lv' := [(12, .int 1), (11, .int 0), (0, .ref h0), (1, .int 0), (2, .int a2), (3, .int a3), (4, .int a4), (5, .int a5), (6, .int a6), (7, .int 1), (8, .int a8), (9, .int a9)]) hx hb dX9_method_278 hl (by decide) rfl (fun ls hl => ?_)
        refine lv_iconst (v := 0) hx hb dX9_method_280 (by decide) ?_
        refine lv_istore (lv' := [(13, .int 0), (12, .int 1), (11, .int 0), (0, .ref h0), (1, .int 0), (2, .int a2), (3, .int a3), (4, .int a4), (5, .int a5), (6, .int a6), (7, .int 1), (8, .int a8), (9, .int a9)]) hx hb dX9_method_281 hl (by decide) rfl (fun ls hl => ?_)
        refine lv_iload hx hb dX9_method_283 (lv_at hl 0 rfl) ?_
        refine lv_aload_n hx hb dX9_method_285 rfl (lv_at hl 3 rfl) ?_
        refine va_get (D := (dC, dI)) (own := RX9) (ref := "ReflectModelsModel") (index := 128) (ci := 8) (v := .int 0) (C := RX9) (T := TX9) (N := 42) hx hb hts inX9_method_9 hown hK hP 0 rfl rfl 10 (by decide) (hts (.fieldLink RX9 128 "ReflectModelsModel" "members" "I") (by decide +kernel)) (fun _ h9 => h9) rfl dX9_method_286 ?_
        refine lv_icmp_ge (tgt := 336) hx hb dX9_method_289 (by decide) (fun _ => ?_) (fun h => absurd (by decide) h)
        refine lv_iload hx hb dX9_method_336 (lv_at hl 1 rfl) ?_
        refine lv_if_eq (tgt := 348) hx hb dX9_method_338 (by decide) (fun h => absurd h (by decide)) (fun _ => ?_)
        refine lv_aload_n hx hb dX9_method_341 rfl (lv_at hl 3 rfl) ?_
        refine va_get (D := (dC, dI)) (own := RX9) (ref := "ReflectModelsModel") (index := 119) (ci := 8) (v := .int 0) (C := RX9) (T := TX9) (N := 42) hx hb hts inX9_method_9 hown hK hP 0 rfl rfl 27 (by decide) (hts (.fieldLink RX9 119 "ReflectModelsModel" "objects" "I") (by decide +kernel)) (fun _ h9 => h9) rfl dX9_method_342 ?_
        refine lv_if_le (tgt := 351) hx hb dX9_method_345 (by decide) (fun _ => ?_) (fun h => absurd (by decide) h)
        refine lv_aload_n hx hb dX9_method_351 rfl (lv_at hl 3 rfl) ?_
        refine va_get (D := (dC, dI)) (own := RX9) (ref := "ReflectModelsModel") (index := 128) (ci := 8) (v := .int 0) (C := RX9) (T := TX9) (N := 42) hx hb hts inX9_method_9 hown hK hP 0 rfl rfl 10 (by decide) (hts (.fieldLink RX9 128 "ReflectModelsModel" "members" "I") (by decide +kernel)) (fun _ h9 => h9) rfl dX9_method_352 ?_
        refine lv_bipush (v := 40) hx hb dX9_method_355 (by decide) ?_
        refine lv_icmp_ne (tgt := 363) hx hb dX9_method_357 (by decide) (fun _ => ?_) (fun h => absurd h (by decide))
        exact tl363 _ _ _ hP hD hS (lv_sub hl [3, 4, 5, 6, 7, 8, 9, 10, 11, 12, 2] rfl) (an_m0 zU zO1 zO2 zO3 (by unfold mS; first | omega | (have kq := kz; omega)))
      · refine W.eq (g2 := F0 m 270 ls [.int 0]) rfl ?_
        refine lv_if_eq (tgt := 277) hx hb dX9_method_270 (by decide) (fun _ => ?_) (fun h => absurd (by decide) h)
        refine lv_iconst (v := 0) hx hb dX9_method_277 (by decide) ?_
        refine lv_istore (lv' := [(12, .int 0), (11, .int 0), (0, .ref h0), (1, .int 0), (2, .int a2), (3, .int a3), (4, .int a4), (5, .int a5), (6, .int a6), (7, .int 1), (8, .int a8), (9, .int a9)]) hx hb dX9_method_278 hl (by decide) rfl (fun ls hl => ?_)
        refine lv_iconst (v := 0) hx hb dX9_method_280 (by decide) ?_
        refine lv_istore (lv' := [(13, .int 0), (12, .int 0), (11, .int 0), (0, .ref h0), (1, .int 0), (2, .int a2), (3, .int a3), (4, .int a4), (5, .int a5), (6, .int a6), (7, .int 1), (8, .int a8), (9, .int a9)]) hx hb dX9_method_281 hl (by decide) rfl (fun ls hl => ?_)
        refine lv_iload hx hb dX9_method_283 (lv_at hl 0 rfl) ?_
        refine lv_aload_n hx hb dX9_method_285 rfl (lv_at hl 3 rfl) ?_
        refine va_get (D := (dC, dI)) (own := RX9) (ref := "ReflectModelsModel") (index := 128) (ci := 8) (v := .int 0) (C := RX9) (T := TX9) (N := 42) hx hb hts inX9_method_9 hown hK hP 0 rfl rfl 10 (by decide) (hts (.fieldLink RX9 128 "ReflectModelsModel" "members" "I") (by decide +kernel)) (fun _ h9 => h9) rfl dX9_method_286 ?_
        refine lv_icmp_ge (tgt := 336) hx hb dX9_method_289 (by decide) (fun _ => ?_) (fun h => absurd (by decide) h)
        refine lv_iload hx hb dX9_method_336 (lv_at hl 1 rfl) ?_
        refine lv_if_eq (tgt := 348) hx hb dX9_method_338 (by decide) (fun _ => ?_) (fun h => absurd (by decide) h)
        refine lv_bipush (v := (-4)) hx hb dX9_method_348 (by decide) ?_
        have hP9 := hP.sub (ws' := []) [] rfl
        have hD9 := hD.sub (ws' := []) [] (by decide) rfl
        have hK9 := hK.sub (tys' := []) [] rfl
        exact W.zret (v := (-4)) (ty := .int) hx hb hr rfl (fun t ht hW => ⟨⟨(some (.int (-4))), rfl, _, _, ⟨congrArg (fun z => some (Value.int z)) (show (-4 : Int32) = an_method (0 : Int32).toInt (a2 : Int32).toInt (a3 : Int32).toInt (a4 : Int32).toInt (a5 : Int32).toInt (a6 : Int32).toInt (1 : Int32).toInt (a8 : Int32).toInt (a9 : Int32).toInt from an_m4 zU zO1 zO2 zO3 (by unfold mS; first | omega | (have kq := kz; omega))), rfl, rfl⟩, by rw [ht]; exact hP9, va_K.moved hW.alike hK9, hD9⟩, hS.F ht⟩) hS.2.2 dX9_method_350
    · refine lv_iload hx hb dX9_method_179 (lv_at hl 7 rfl) ?_
      refine lv_iconst (v := 2) hx hb dX9_method_181 (by decide) ?_
      refine lv_icmp_ne (tgt := 189) hx hb dX9_method_182 (by decide) (fun h => absurd h (by decide)) (fun _ => ?_)
      refine lv_iconst (v := 1) hx hb dX9_method_185 (by decide) ?_
      refine lv_goto (tgt := 190) hx hb dX9_method_186 (by decide) ?_
      refine lv_istore (lv' := [(11, .int 1), (0, .ref h0), (1, .int a1), (2, .int a2), (3, .int a3), (4, .int a4), (5, .int a5), (6, .int a6), (7, .int 2), (8, .int a8), (9, .int a9)]) hx hb dX9_method_190 hl (by decide) rfl (fun ls hl => ?_)
      refine lv_aload_n hx hb dX9_method_192 rfl (lv_at hl 1 rfl) ?_
      refine va_get (D := (dC, dI)) (own := RX9) (ref := "ReflectModelsModel") (index := 20) (ci := 8) (v := .ref (q 1)) (C := RX9) (T := TX9) (N := 42) hx hb hts inX9_method_9 hown hK hP 0 rfl rfl 3 (by decide) (hts (.fieldLink RX9 20 "ReflectModelsModel" "sort" "[I") (by decide +kernel)) (fun _ h9 => h9) rfl dX9_method_193 ?_
      refine lv_iload_n hx hb dX9_method_196 rfl (lv_at hl 2 rfl) ?_
      obtain rfl : a1 = 0 := iof (a := 0) (by decide) (by omega)
      refine va_iald hx hb hK hP 2 1 rfl rfl (vp_in_iff.mpr ⟨by decide, by decide⟩) dX9_method_197 ?_
      refine W.eq (g2 := F0 m 198 ls [.int 0]) rfl ?_
      refine lv_iconst (v := 2) hx hb dX9_method_198 (by decide) ?_
      refine lv_icmp_ne (tgt := 223) hx hb dX9_method_199 (by decide) (fun _ => ?_) (fun h => absurd h (by decide))
      refine lv_iload hx hb dX9_method_223 (lv_at hl 0 rfl) ?_
      refine lv_if_eq (tgt := 238) hx hb dX9_method_225 (by decide) (fun h => absurd h (by decide)) (fun _ => ?_)
      refine lv_aload_n hx hb dX9_method_228 rfl (lv_at hl 1 rfl) ?_
      refine va_get (D := (dC, dI)) (own := RX9) (ref := "ReflectModelsModel") (index := 20) (ci := 8) (v := .ref (q 1)) (C := RX9) (T := TX9) (N := 42) hx hb hts inX9_method_9 hown hK hP 0 rfl rfl 3 (by decide) (hts (.fieldLink RX9 20 "ReflectModelsModel" "sort" "[I") (by decide +kernel)) (fun _ h9 => h9) rfl dX9_method_229 ?_
      refine lv_iload_n hx hb dX9_method_232 rfl (lv_at hl 2 rfl) ?_
      refine va_iald hx hb hK hP 2 1 rfl rfl (vp_in_iff.mpr ⟨by decide, by decide⟩) dX9_method_233 ?_
      refine W.eq (g2 := F0 m 234 ls [.int 0]) rfl ?_
      refine lv_iconst (v := 1) hx hb dX9_method_234 (by decide) ?_
      refine lv_icmp_ne (tgt := 242) hx hb dX9_method_235 (by decide) (fun _ => ?_) (fun h => absurd h (by decide))
      refine lv_iconst (v := 0) hx hb dX9_method_242 (by decide) ?_
      refine lv_istore (lv' := [(12, .int 0), (11, .int 1), (0, .ref h0), (1, .int 0), (2, .int a2), (3, .int a3), (4, .int a4), (5, .int a5), (6, .int a6), (7, .int 2), (8, .int a8), (9, .int a9)]) hx hb dX9_method_243 hl (by decide) rfl (fun ls hl => ?_)
      refine lv_iload hx hb dX9_method_245 (lv_at hl 0 rfl) ?_
      refine lv_if_eq (tgt := 277) hx hb dX9_method_247 (by decide) (fun _ => ?_) (fun h => absurd (by decide) h)
      refine lv_iconst (v := 0) hx hb dX9_method_277 (by decide) ?_
      refine lv_istore (lv' := [(12, .int 0), (11, .int 1), (0, .ref h0), (1, .int 0), (2, .int a2), (3, .int a3), (4, .int a4), (5, .int a5), (6, .int a6), (7, .int 2), (8, .int a8), (9, .int a9)]) hx hb dX9_method_278 hl (by decide) rfl (fun ls hl => ?_)
      refine lv_iconst (v := 0) hx hb dX9_method_280 (by decide) ?_
      refine lv_istore (lv' := [(13, .int 0), (12, .int 0), (11, .int 1), (0, .ref h0), (1, .int 0), (2, .int a2), (3, .int a3), (4, .int a4), (5, .int a5), (6, .int a6), (7, .int 2), (8, .int a8), (9, .int a9)]) hx hb dX9_method_281 hl (by decide) rfl (fun ls hl => ?_)
      refine lv_iload hx hb dX9_method_283 (lv_at hl 0 rfl) ?_
      refine lv_aload_n hx hb dX9_method_285 rfl (lv_at hl 3 rfl) ?_
      refine va_get (D := (dC, dI)) (own := RX9) (ref := "ReflectModelsModel") (index := 128) (ci := 8) (v := .int 0) (C := RX9) (T := TX9) (N := 42) hx hb hts inX9_method_9 hown hK hP 0 rfl rfl 10 (by decide) (hts (.fieldLink RX9 128 "ReflectModelsModel" "members" "I") (by decide +kernel)) (fun _ h9 => h9) rfl dX9_method_286 ?_
      refine lv_icmp_ge (tgt := 336) hx hb dX9_method_289 (by decide) (fun _ => ?_) (fun h => absurd (by decide) h)
      refine lv_iload hx hb dX9_method_336 (lv_at hl 1 rfl) ?_
      refine lv_if_eq (tgt := 348) hx hb dX9_method_338 (by decide) (fun _ => ?_) (fun h => absurd (by decide) h)
      refine lv_bipush (v := (-4)) hx hb dX9_method_348 (by decide) ?_
      have hP9 := hP.sub (ws' := []) [] rfl
      have hD9 := hD.sub (ws' := []) [] (by decide) rfl
      have hK9 := hK.sub (tys' := []) [] rfl
      exact W.zret (v := (-4)) (ty := .int) hx hb hr rfl (fun t ht hW => ⟨⟨(some (.int (-4))), rfl, _, _, ⟨congrArg (fun z => some (Value.int z)) (show (-4 : Int32) = an_method (0 : Int32).toInt (a2 : Int32).toInt (a3 : Int32).toInt (a4 : Int32).toInt (a5 : Int32).toInt (a6 : Int32).toInt (2 : Int32).toInt (a8 : Int32).toInt (a9 : Int32).toInt from an_m4 zU zO1 zO2 zO3 (by unfold mS; first | omega | (have kq := kz; omega))), rfl, rfl⟩, by rw [ht]; exact hP9, va_K.moved hW.alike hK9, hD9⟩, hS.F ht⟩) hS.2.2 dX9_method_350
    · refine lv_iload hx hb dX9_method_179 (lv_at hl 7 rfl) ?_
      refine lv_iconst (v := 2) hx hb dX9_method_181 (by decide) ?_
      refine lv_icmp_ne (tgt := 189) hx hb dX9_method_182 (by decide) (fun _ => ?_) (fun h => absurd h (by decide))
      refine lv_iconst (v := 0) hx hb dX9_method_189 (by decide) ?_
      refine lv_istore (lv' := [(11, .int 0), (0, .ref h0), (1, .int a1), (2, .int a2), (3, .int a3), (4, .int a4), (5, .int a5), (6, .int a6), (7, .int 4), (8, .int a8), (9, .int a9)]) hx hb dX9_method_190 hl (by decide) rfl (fun ls hl => ?_)
      refine lv_aload_n hx hb dX9_method_192 rfl (lv_at hl 1 rfl) ?_
      refine va_get (D := (dC, dI)) (own := RX9) (ref := "ReflectModelsModel") (index := 20) (ci := 8) (v := .ref (q 1)) (C := RX9) (T := TX9) (N := 42) hx hb hts inX9_method_9 hown hK hP 0 rfl rfl 3 (by decide) (hts (.fieldLink RX9 20 "ReflectModelsModel" "sort" "[I") (by decide +kernel)) (fun _ h9 => h9) rfl dX9_method_193 ?_
      refine lv_iload_n hx hb dX9_method_196 rfl (lv_at hl 2 rfl) ?_
      obtain rfl : a1 = 0 := iof (a := 0) (by decide) (by omega)
      refine va_iald hx hb hK hP 2 1 rfl rfl (vp_in_iff.mpr ⟨by decide, by decide⟩) dX9_method_197 ?_
      refine W.eq (g2 := F0 m 198 ls [.int 0]) rfl ?_
      refine lv_iconst (v := 2) hx hb dX9_method_198 (by decide) ?_
      refine lv_icmp_ne (tgt := 223) hx hb dX9_method_199 (by decide) (fun _ => ?_) (fun h => absurd h (by decide))
      refine lv_iload hx hb dX9_method_223 (lv_at hl 0 rfl) ?_
      refine lv_if_eq (tgt := 238) hx hb dX9_method_225 (by decide) (fun _ => ?_) (fun h => absurd (by decide) h)
      refine lv_iconst (v := 1) hx hb dX9_method_238 (by decide) ?_
      refine lv_goto (tgt := 243) hx hb dX9_method_239 (by decide) ?_
      refine lv_istore (lv' := [(12, .int 1), (11, .int 0), (0, .ref h0), (1, .int 0), (2, .int a2), (3, .int a3), (4, .int a4), (5, .int a5), (6, .int a6), (7, .int 4), (8, .int a8), (9, .int a9)]) hx hb dX9_method_243 hl (by decide) rfl (fun ls hl => ?_)
      refine lv_iload hx hb dX9_method_245 (lv_at hl 0 rfl) ?_
      refine lv_if_eq (tgt := 277) hx hb dX9_method_247 (by decide) (fun h => absurd h (by decide)) (fun _ => ?_)
      refine lv_iload hx hb dX9_method_250 (lv_at hl 1 rfl) ?_
      refine lv_if_ne (tgt := 273) hx hb dX9_method_252 (by decide) (fun h => absurd h (by decide)) (fun _ => ?_)
      refine lv_aload_n hx hb dX9_method_255 rfl (lv_at hl 2 rfl) ?_
      refine lv_iload_n hx hb dX9_method_256 rfl (lv_at hl 5 rfl) ?_
      refine lv_iload hx hb dX9_method_257 (lv_at hl 6 rfl) ?_
      refine lv_iload hx hb dX9_method_259 (lv_at hl 7 rfl) ?_
      refine lv_iload hx hb dX9_method_261 (lv_at hl 9 rfl) ?_
      refine lv_iload hx hb dX9_method_263 (lv_at hl 10 rfl) ?_
      refine lv_iload hx hb dX9_method_265 (lv_at hl 11 rfl) ?_
      refine clR (va_runV (As := [.int a3, .int a4, .int a5, .int 4, .int a8, .int a9]) (rest := []) ⟨hx, hb, hml, hown, hts⟩ (c9_bodyMay4 l dC dI h0 q a3 a4 a5 a8 a9 _) (cwV 6 hts gX9_method_X9_bodyMay rfl rfl rfl (by decide +kernel) ⟨Nat.le_of_ble_eq_true rfl, Nat.le_of_ble_eq_true rfl⟩) ⟨pz_blind, va_recv hK hP (ci := 8) (q0 := 0) rfl rfl, pz_of hP hK hD hN [0] [] rfl (by decide) rfl⟩ rfl rfl hl.1 rfl (lv_room (Nat.le_of_ble_eq_true rfl)) dX9_method_267 ⟨Nat.le_of_ble_eq_true rfl, Nat.le_of_ble_eq_true rfl⟩) hS hP (fun v H locs w39 hP hS => ?_)
      rcases w39 with ⟨rfl, u37⟩ | ⟨rfl, u38⟩
      · refine W.eq (g2 := F0 m 270 ls [.int 1]) rfl ?_
        refine lv_if_eq (tgt := 277) hx hb dX9_method_270 (by decide) (fun h => absurd h (by decide)) (fun _ => ?_)
        refine lv_iconst (v := 1) hx hb dX9_method_273 (by decide) ?_
        refine lv_goto (tgt := 278) hx hb dX9_method_274 (by decide) ?_
        refine lv_istore (lv' := [(12, .int 1), (11, .int 0), (0, .ref h0), (1, .int 0), (2, .int a2), (3, .int a3), (4, .int a4), (5, .int a5), (6, .int a6), (7, .int 4), (8, .int a8), (9, .int a9)]) hx hb dX9_method_278 hl (by decide) rfl (fun ls hl => ?_)
        refine lv_iconst (v := 0) hx hb dX9_method_280 (by decide) ?_
        refine lv_istore (lv' := [(13, .int 0), (12, .int 1), (11, .int 0), (0, .ref h0), (1, .int 0), (2, .int a2), (3, .int a3), (4, .int a4), (5, .int a5), (6, .int a6), (7, .int 4), (8, .int a8), (9, .int a9)]) hx hb dX9_method_281 hl (by decide) rfl (fun ls hl => ?_)
        refine lv_iload hx hb dX9_method_283 (lv_at hl 0 rfl) ?_
        refine lv_aload_n hx hb dX9_method_285 rfl (lv_at hl 3 rfl) ?_
        refine va_get (D := (dC, dI)) (own := RX9) (ref := "ReflectModelsModel") (index := 128) (ci := 8) (v := .int 0) (C := RX9) (T := TX9) (N := 42) hx hb hts inX9_method_9 hown hK hP 0 rfl rfl 10 (by decide) (hts (.fieldLink RX9 128 "ReflectModelsModel" "members" "I") (by decide +kernel)) (fun _ h9 => h9) rfl dX9_method_286 ?_
        refine lv_icmp_ge (tgt := 336) hx hb dX9_method_289 (by decide) (fun _ => ?_) (fun h => absurd (by decide) h)
        refine lv_iload hx hb dX9_method_336 (lv_at hl 1 rfl) ?_
        refine lv_if_eq (tgt := 348) hx hb dX9_method_338 (by decide) (fun h => absurd h (by decide)) (fun _ => ?_)
        refine lv_aload_n hx hb dX9_method_341 rfl (lv_at hl 3 rfl) ?_
        refine va_get (D := (dC, dI)) (own := RX9) (ref := "ReflectModelsModel") (index := 119) (ci := 8) (v := .int 0) (C := RX9) (T := TX9) (N := 42) hx hb hts inX9_method_9 hown hK hP 0 rfl rfl 27 (by decide) (hts (.fieldLink RX9 119 "ReflectModelsModel" "objects" "I") (by decide +kernel)) (fun _ h9 => h9) rfl dX9_method_342 ?_
        refine lv_if_le (tgt := 351) hx hb dX9_method_345 (by decide) (fun _ => ?_) (fun h => absurd (by decide) h)
        refine lv_aload_n hx hb dX9_method_351 rfl (lv_at hl 3 rfl) ?_
        refine va_get (D := (dC, dI)) (own := RX9) (ref := "ReflectModelsModel") (index := 128) (ci := 8) (v := .int 0) (C := RX9) (T := TX9) (N := 42) hx hb hts inX9_method_9 hown hK hP 0 rfl rfl 10 (by decide) (hts (.fieldLink RX9 128 "ReflectModelsModel" "members" "I") (by decide +kernel)) (fun _ h9 => h9) rfl dX9_method_352 ?_
        refine lv_bipush (v := 40) hx hb dX9_method_355 (by decide) ?_
        refine lv_icmp_ne (tgt := 363) hx hb dX9_method_357 (by decide) (fun _ => ?_) (fun h => absurd h (by decide))
        exact tl363 _ _ _ hP hD hS (lv_sub hl [3, 4, 5, 6, 7, 8, 9, 10, 11, 12, 2] rfl) (an_m0 zU zO1 zO2 zO3 (by unfold mS; first | omega | (have kq := kz; omega)))
      · refine W.eq (g2 := F0 m 270 ls [.int 0]) rfl ?_
        refine lv_if_eq (tgt := 277) hx hb dX9_method_270 (by decide) (fun _ => ?_) (fun h => absurd (by decide) h)
        refine lv_iconst (v := 0) hx hb dX9_method_277 (by decide) ?_
        refine lv_istore (lv' := [(12, .int 0), (11, .int 0), (0, .ref h0), (1, .int 0), (2, .int a2), (3, .int a3), (4, .int a4), (5, .int a5), (6, .int a6), (7, .int 4), (8, .int a8), (9, .int a9)]) hx hb dX9_method_278 hl (by decide) rfl (fun ls hl => ?_)
        refine lv_iconst (v := 0) hx hb dX9_method_280 (by decide) ?_
        refine lv_istore (lv' := [(13, .int 0), (12, .int 0), (11, .int 0), (0, .ref h0), (1, .int 0), (2, .int a2), (3, .int a3), (4, .int a4), (5, .int a5), (6, .int a6), (7, .int 4), (8, .int a8), (9, .int a9)]) hx hb dX9_method_281 hl (by decide) rfl (fun ls hl => ?_)
        refine lv_iload hx hb dX9_method_283 (lv_at hl 0 rfl) ?_
        refine lv_aload_n hx hb dX9_method_285 rfl (lv_at hl 3 rfl) ?_
        refine va_get (D := (dC, dI)) (own := RX9) (ref := "ReflectModelsModel") (index := 128) (ci := 8) (v := .int 0) (C := RX9) (T := TX9) (N := 42) hx hb hts inX9_method_9 hown hK hP 0 rfl rfl 10 (by decide) (hts (.fieldLink RX9 128 "ReflectModelsModel" "members" "I") (by decide +kernel)) (fun _ h9 => h9) rfl dX9_method_286 ?_
        refine lv_icmp_ge (tgt := 336) hx hb dX9_method_289 (by decide) (fun _ => ?_) (fun h => absurd (by decide) h)
        refine lv_iload hx hb dX9_method_336 (lv_at hl 1 rfl) ?_
        refine lv_if_eq (tgt := 348) hx hb dX9_method_338 (by decide) (fun _ => ?_) (fun h => absurd (by decide) h)
        refine lv_bipush (v := (-4)) hx hb dX9_method_348 (by decide) ?_
        have hP9 := hP.sub (ws' := []) [] rfl
        have hD9 := hD.sub (ws' := []) [] (by decide) rfl
        have hK9 := hK.sub (tys' := []) [] rfl
        exact W.zret (v := (-4)) (ty := .int) hx hb hr rfl (fun t ht hW => ⟨⟨(some (.int (-4))), rfl, _, _, ⟨congrArg (fun z => some (Value.int z)) (show (-4 : Int32) = an_method (0 : Int32).toInt (a2 : Int32).toInt (a3 : Int32).toInt (a4 : Int32).toInt (a5 : Int32).toInt (a6 : Int32).toInt (4 : Int32).toInt (a8 : Int32).toInt (a9 : Int32).toInt from an_m4 zU zO1 zO2 zO3 (by unfold mS; first | omega | (have kq := kz; omega))), rfl, rfl⟩, by rw [ht]; exact hP9, va_K.moved hW.alike hK9, hD9⟩, hS.F ht⟩) hS.2.2 dX9_method_350
    · refine lv_iload hx hb dX9_method_179 (lv_at hl 7 rfl) ?_
      refine lv_iconst (v := 2) hx hb dX9_method_181 (by decide) ?_
      refine lv_icmp_ne (tgt := 189) hx hb dX9_method_182 (by decide) (fun _ => ?_) (fun h => absurd h (by decide))
      refine lv_iconst (v := 0) hx hb dX9_method_189 (by decide) ?_
      refine lv_istore (lv' := [(11, .int 0), (0, .ref h0), (1, .int a1), (2, .int a2), (3, .int a3), (4, .int a4), (5, .int a5), (6, .int a6), (7, .int 5), (8, .int a8), (9, .int a9)]) hx hb dX9_method_190 hl (by decide) rfl (fun ls hl => ?_)
      refine lv_aload_n hx hb dX9_method_192 rfl (lv_at hl 1 rfl) ?_
      refine va_get (D := (dC, dI)) (own := RX9) (ref := "ReflectModelsModel") (index := 20) (ci := 8) (v := .ref (q 1)) (C := RX9) (T := TX9) (N := 42) hx hb hts inX9_method_9 hown hK hP 0 rfl rfl 3 (by decide) (hts (.fieldLink RX9 20 "ReflectModelsModel" "sort" "[I") (by decide +kernel)) (fun _ h9 => h9) rfl dX9_method_193 ?_
      refine lv_iload_n hx hb dX9_method_196 rfl (lv_at hl 2 rfl) ?_
      obtain rfl : a1 = 0 := iof (a := 0) (by decide) (by omega)
      refine va_iald hx hb hK hP 2 1 rfl rfl (vp_in_iff.mpr ⟨by decide, by decide⟩) dX9_method_197 ?_
      refine W.eq (g2 := F0 m 198 ls [.int 0]) rfl ?_
      refine lv_iconst (v := 2) hx hb dX9_method_198 (by decide) ?_
      refine lv_icmp_ne (tgt := 223) hx hb dX9_method_199 (by decide) (fun _ => ?_) (fun h => absurd h (by decide))
      refine lv_iload hx hb dX9_method_223 (lv_at hl 0 rfl) ?_
      refine lv_if_eq (tgt := 238) hx hb dX9_method_225 (by decide) (fun _ => ?_) (fun h => absurd (by decide) h)
      refine lv_iconst (v := 1) hx hb dX9_method_238 (by decide) ?_
      refine lv_goto (tgt := 243) hx hb dX9_method_239 (by decide) ?_
      refine lv_istore (lv' := [(12, .int 1), (11, .int 0), (0, .ref h0), (1, .int 0), (2, .int a2), (3, .int a3), (4, .int a4), (5, .int a5), (6, .int a6), (7, .int 5), (8, .int a8), (9, .int a9)]) hx hb dX9_method_243 hl (by decide) rfl (fun ls hl => ?_)
      refine lv_iload hx hb dX9_method_245 (lv_at hl 0 rfl) ?_
      refine lv_if_eq (tgt := 277) hx hb dX9_method_247 (by decide) (fun h => absurd h (by decide)) (fun _ => ?_)
      refine lv_iload hx hb dX9_method_250 (lv_at hl 1 rfl) ?_
      refine lv_if_ne (tgt := 273) hx hb dX9_method_252 (by decide) (fun h => absurd h (by decide)) (fun _ => ?_)
      refine lv_aload_n hx hb dX9_method_255 rfl (lv_at hl 2 rfl) ?_
      refine lv_iload_n hx hb dX9_method_256 rfl (lv_at hl 5 rfl) ?_
      refine lv_iload hx hb dX9_method_257 (lv_at hl 6 rfl) ?_
      refine lv_iload hx hb dX9_method_259 (lv_at hl 7 rfl) ?_
      refine lv_iload hx hb dX9_method_261 (lv_at hl 9 rfl) ?_
      refine lv_iload hx hb dX9_method_263 (lv_at hl 10 rfl) ?_
      refine lv_iload hx hb dX9_method_265 (lv_at hl 11 rfl) ?_
      refine clR (va_runV (As := [.int a3, .int a4, .int a5, .int 5, .int a8, .int a9]) (rest := []) ⟨hx, hb, hml, hown, hts⟩ (c9_bodyMay5 l dC dI h0 q a3 a4 a5 a8 a9 _) (cwV 6 hts gX9_method_X9_bodyMay rfl rfl rfl (by decide +kernel) ⟨Nat.le_of_ble_eq_true rfl, Nat.le_of_ble_eq_true rfl⟩) ⟨pz_blind, va_recv hK hP (ci := 8) (q0 := 0) rfl rfl, pz_of hP hK hD hN [0] [] rfl (by decide) rfl⟩ rfl rfl hl.1 rfl (lv_room (Nat.le_of_ble_eq_true rfl)) dX9_method_267 ⟨Nat.le_of_ble_eq_true rfl, Nat.le_of_ble_eq_true rfl⟩) hS hP (fun v H locs w42 hP hS => ?_)
      rcases w42 with ⟨rfl, u40⟩ | ⟨rfl, u41⟩
      · refine W.eq (g2 := F0 m 270 ls [.int 1]) rfl ?_
        refine lv_if_eq (tgt := 277) hx hb dX9_method_270 (by decide) (fun h => absurd h (by decide)) (fun _ => ?_)
        refine lv_iconst (v := 1) hx hb dX9_method_273 (by decide) ?_
        refine lv_goto (tgt := 278) hx hb dX9_method_274 (by decide) ?_
        refine lv_istore (lv' := [(12, .int 1), (11, .int 0), (0, .ref h0), (1, .int 0), (2, .int a2), (3, .int a3), (4, .int a4), (5, .int a5), (6, .int a6), (7, .int 5), (8, .int a8), (9, .int a9)]) hx hb dX9_method_278 hl (by decide) rfl (fun ls hl => ?_)
        refine lv_iconst (v := 0) hx hb dX9_method_280 (by decide) ?_
        refine lv_istore (lv' := [(13, .int 0), (12, .int 1), (11, .int 0), (0, .ref h0), (1, .int 0), (2, .int a2), (3, .int a3), (4, .int a4), (5, .int a5), (6, .int a6), (7, .int 5), (8, .int a8), (9, .int a9)]) hx hb dX9_method_281 hl (by decide) rfl (fun ls hl => ?_)
        refine lv_iload hx hb dX9_method_283 (lv_at hl 0 rfl) ?_
        refine lv_aload_n hx hb dX9_method_285 rfl (lv_at hl 3 rfl) ?_
        refine va_get (D := (dC, dI)) (own := RX9) (ref := "ReflectModelsModel") (index := 128) (ci := 8) (v := .int 0) (C := RX9) (T := TX9) (N := 42) hx hb hts inX9_method_9 hown hK hP 0 rfl rfl 10 (by decide) (hts (.fieldLink RX9 128 "ReflectModelsModel" "members" "I") (by decide +kernel)) (fun _ h9 => h9) rfl dX9_method_286 ?_
        refine lv_icmp_ge (tgt := 336) hx hb dX9_method_289 (by decide) (fun _ => ?_) (fun h => absurd (by decide) h)
        refine lv_iload hx hb dX9_method_336 (lv_at hl 1 rfl) ?_
        refine lv_if_eq (tgt := 348) hx hb dX9_method_338 (by decide) (fun h => absurd h (by decide)) (fun _ => ?_)
        refine lv_aload_n hx hb dX9_method_341 rfl (lv_at hl 3 rfl) ?_
        refine va_get (D := (dC, dI)) (own := RX9) (ref := "ReflectModelsModel") (index := 119) (ci := 8) (v := .int 0) (C := RX9) (T := TX9) (N := 42) hx hb hts inX9_method_9 hown hK hP 0 rfl rfl 27 (by decide) (hts (.fieldLink RX9 119 "ReflectModelsModel" "objects" "I") (by decide +kernel)) (fun _ h9 => h9) rfl dX9_method_342 ?_
        refine lv_if_le (tgt := 351) hx hb dX9_method_345 (by decide) (fun _ => ?_) (fun h => absurd (by decide) h)
        refine lv_aload_n hx hb dX9_method_351 rfl (lv_at hl 3 rfl) ?_
        refine va_get (D := (dC, dI)) (own := RX9) (ref := "ReflectModelsModel") (index := 128) (ci := 8) (v := .int 0) (C := RX9) (T := TX9) (N := 42) hx hb hts inX9_method_9 hown hK hP 0 rfl rfl 10 (by decide) (hts (.fieldLink RX9 128 "ReflectModelsModel" "members" "I") (by decide +kernel)) (fun _ h9 => h9) rfl dX9_method_352 ?_
        refine lv_bipush (v := 40) hx hb dX9_method_355 (by decide) ?_
        refine lv_icmp_ne (tgt := 363) hx hb dX9_method_357 (by decide) (fun _ => ?_) (fun h => absurd h (by decide))
        exact tl363 _ _ _ hP hD hS (lv_sub hl [3, 4, 5, 6, 7, 8, 9, 10, 11, 12, 2] rfl) (an_m0 zU zO1 zO2 zO3 (by unfold mS; first | omega | (have kq := kz; omega)))
      · refine W.eq (g2 := F0 m 270 ls [.int 0]) rfl ?_
        refine lv_if_eq (tgt := 277) hx hb dX9_method_270 (by decide) (fun _ => ?_) (fun h => absurd (by decide) h)
        refine lv_iconst (v := 0) hx hb dX9_method_277 (by decide) ?_
        refine lv_istore (lv' := [(12, .int 0), (11, .int 0), (0, .ref h0), (1, .int 0), (2, .int a2), (3, .int a3), (4, .int a4), (5, .int a5), (6, .int a6), (7, .int 5), (8, .int a8), (9, .int a9)]) hx hb dX9_method_278 hl (by decide) rfl (fun ls hl => ?_)
        refine lv_iconst (v := 0) hx hb dX9_method_280 (by decide) ?_
        refine lv_istore (lv' := [(13, .int 0), (12, .int 0), (11, .int 0), (0, .ref h0), (1, .int 0), (2, .int a2), (3, .int a3), (4, .int a4), (5, .int a5), (6, .int a6), (7, .int 5), (8, .int a8), (9, .int a9)]) hx hb dX9_method_281 hl (by decide) rfl (fun ls hl => ?_)
        refine lv_iload hx hb dX9_method_283 (lv_at hl 0 rfl) ?_
        refine lv_aload_n hx hb dX9_method_285 rfl (lv_at hl 3 rfl) ?_
        refine va_get (D := (dC, dI)) (own := RX9) (ref := "ReflectModelsModel") (index := 128) (ci := 8) (v := .int 0) (C := RX9) (T := TX9) (N := 42) hx hb hts inX9_method_9 hown hK hP 0 rfl rfl 10 (by decide) (hts (.fieldLink RX9 128 "ReflectModelsModel" "members" "I") (by decide +kernel)) (fun _ h9 => h9) rfl dX9_method_286 ?_
        refine lv_icmp_ge (tgt := 336) hx hb dX9_method_289 (by decide) (fun _ => ?_) (fun h => absurd (by decide) h)
        refine lv_iload hx hb dX9_method_336 (lv_at hl 1 rfl) ?_
        refine lv_if_eq (tgt := 348) hx hb dX9_method_338 (by decide) (fun _ => ?_) (fun h => absurd (by decide) h)
        refine lv_bipush (v := (-4)) hx hb dX9_method_348 (by decide) ?_
        have hP9 := hP.sub (ws' := []) [] rfl
        have hD9 := hD.sub (ws' := []) [] (by decide) rfl
        have hK9 := hK.sub (tys' := []) [] rfl
        exact W.zret (v := (-4)) (ty := .int) hx hb hr rfl (fun t ht hW => ⟨⟨(some (.int (-4))), rfl, _, _, ⟨congrArg (fun z => some (Value.int z)) (show (-4 : Int32) = an_method (0 : Int32).toInt (a2 : Int32).toInt (a3 : Int32).toInt (a4 : Int32).toInt (a5 : Int32).toInt (a6 : Int32).toInt (5 : Int32).toInt (a8 : Int32).toInt (a9 : Int32).toInt from an_m4 zU zO1 zO2 zO3 (by unfold mS; first | omega | (have kq := kz; omega))), rfl, rfl⟩, by rw [ht]; exact hP9, va_K.moved hW.alike hK9, hD9⟩, hS.F ht⟩) hS.2.2 dX9_method_350
  have tl144 : ∀ (H : Heap) (locs : List Loc) (ls : Array Slot), va_P (dC, dI) vwCl [(h0, .inr (8, [.int 0, .int 1, .ref (q 0), .ref (q 1), .ref (q 2), .ref (q 3), .ref (q 4), .ref (q 5), .ref (q 6), .ref (q 7), .int 0, .ref (q 8), .ref (q 9), .ref (q 10), .ref (q 11), .ref (q 12), .ref (q 13), .ref (q 14), .ref (q 15), .ref (q 16), .ref (q 17), .ref (q 18), .ref (q 19), .int 0, .int 0, .ref (q 20), .ref (q 21), .int 0, .ref (q 22), .ref (q 23), .ref (q 24), .ref (q 25), .ref (q 26), .ref (q 27), .int 0, .ref (q 28), .ref (q 29), .int 0, .long 0, .int 0, .int 0, .ref (q 30)])), ((q 0), .inl ((cA 0), 16, .inl (upd (fun _ => 0) 0 (-1)))), ((q 1), .inl ((cA 1), 16, .inl (fun _ => 0))), ((q 2), .inl ((cA 2), 16, .inl (upd (fun _ => 0) 0 (-1)))), ((q 3), .inl ((cA 3), 16, .inl (fun _ => 0))), ((q 4), .inl ((cA 4), 16, .inl (fun _ => 0))), ((q 5), .inl ((cA 5), 16, .inl (fun _ => 0))), ((q 6), .inl ((cA 6), 16, .inl (fun _ => 0))), ((q 7), .inl ((cA 7), 16, .inl (fun _ => 0))), ((q 8), .inl ((cA 8), 40, .inl (fun _ => 0))), ((q 9), .inl ((cA 9), 40, .inl (fun _ => 0))), ((q 10), .inl ((cA 10), 40, .inl (fun _ => 0))), ((q 11), .inl ((cA 11), 40, .inl (fun _ => 0))), ((q 12), .inl ((cA 12), 40, .inl (fun _ => 0))), ((q 13), .inl ((cA 13), 80, .inl (fun _ => 0))), ((q 14), .inl ((cA 14), 40, .inl (fun _ => 0))), ((q 15), .inl ((cA 15), 40, .inl (fun _ => 0))), ((q 16), .inl ((cA 16), 40, .inl (fun _ => 0))), ((q 17), .inl ((cA 17), 40, .inl (fun _ => 0))), ((q 18), .inl ((cA 18), 40, .inl (fun _ => 0))), ((q 19), .inl ((cA 19), 40, .inl (fun _ => 0))), ((q 20), .inl ((cA 20), 60, .inl (fun _ => 0))), ((q 21), .inl ((cA 21), 60, .inl (fun _ => 0))), ((q 22), .inl ((cA 22), 130, .inl (fun _ => 0))), ((q 23), .inl ((cA 23), 130, .inl (fun _ => 0))), ((q 24), .inl ((cA 24), 130, .inl (fun _ => 0))), ((q 25), .inl ((cA 25), 130, .inl (fun _ => 0))), ((q 26), .inl ((cA 26), 5240, .inl (fun _ => 0))), ((q 27), .inl ((cA 27), 5240, .inr (.inl (fun _ => 0)))), ((q 28), .inl ((cA 28), 3, .inl (fun _ => 0))), ((q 29), .inl ((cA 29), 3, .inr (.inl (fun _ => 0)))), ((q 30), .inl ((cA 30), 16, .inl (fun _ => 0)))] H → va_D A [(h0, .inr (8, [.int 0, .int 1, .ref (q 0), .ref (q 1), .ref (q 2), .ref (q 3), .ref (q 4), .ref (q 5), .ref (q 6), .ref (q 7), .int 0, .ref (q 8), .ref (q 9), .ref (q 10), .ref (q 11), .ref (q 12), .ref (q 13), .ref (q 14), .ref (q 15), .ref (q 16), .ref (q 17), .ref (q 18), .ref (q 19), .int 0, .int 0, .ref (q 20), .ref (q 21), .int 0, .ref (q 22), .ref (q 23), .ref (q 24), .ref (q 25), .ref (q 26), .ref (q 27), .int 0, .ref (q 28), .ref (q 29), .int 0, .long 0, .int 0, .int 0, .ref (q 30)])), ((q 0), .inl ((cA 0), 16, .inl (upd (fun _ => 0) 0 (-1)))), ((q 1), .inl ((cA 1), 16, .inl (fun _ => 0))), ((q 2), .inl ((cA 2), 16, .inl (upd (fun _ => 0) 0 (-1)))), ((q 3), .inl ((cA 3), 16, .inl (fun _ => 0))), ((q 4), .inl ((cA 4), 16, .inl (fun _ => 0))), ((q 5), .inl ((cA 5), 16, .inl (fun _ => 0))), ((q 6), .inl ((cA 6), 16, .inl (fun _ => 0))), ((q 7), .inl ((cA 7), 16, .inl (fun _ => 0))), ((q 8), .inl ((cA 8), 40, .inl (fun _ => 0))), ((q 9), .inl ((cA 9), 40, .inl (fun _ => 0))), ((q 10), .inl ((cA 10), 40, .inl (fun _ => 0))), ((q 11), .inl ((cA 11), 40, .inl (fun _ => 0))), ((q 12), .inl ((cA 12), 40, .inl (fun _ => 0))), ((q 13), .inl ((cA 13), 80, .inl (fun _ => 0))), ((q 14), .inl ((cA 14), 40, .inl (fun _ => 0))), ((q 15), .inl ((cA 15), 40, .inl (fun _ => 0))), ((q 16), .inl ((cA 16), 40, .inl (fun _ => 0))), ((q 17), .inl ((cA 17), 40, .inl (fun _ => 0))), ((q 18), .inl ((cA 18), 40, .inl (fun _ => 0))), ((q 19), .inl ((cA 19), 40, .inl (fun _ => 0))), ((q 20), .inl ((cA 20), 60, .inl (fun _ => 0))), ((q 21), .inl ((cA 21), 60, .inl (fun _ => 0))), ((q 22), .inl ((cA 22), 130, .inl (fun _ => 0))), ((q 23), .inl ((cA 23), 130, .inl (fun _ => 0))), ((q 24), .inl ((cA 24), 130, .inl (fun _ => 0))), ((q 25), .inl ((cA 25), 130, .inl (fun _ => 0))), ((q 26), .inl ((cA 26), 5240, .inl (fun _ => 0))), ((q 27), .inl ((cA 27), 5240, .inr (.inl (fun _ => 0)))), ((q 28), .inl ((cA 28), 3, .inl (fun _ => 0))), ((q 29), .inl ((cA 29), 3, .inr (.inl (fun _ => 0)))), ((q 30), .inl ((cA 30), 16, .inl (fun _ => 0)))] → va_S A s.heap H locs → lv_has ls 14 [(0, .ref h0), (1, .int a1), (2, .int a2), (3, .int a3), (4, .int a4), (5, .int a5), (6, .int a6), (7, .int a7), (8, .int a8), (9, .int a9)] → (a1.toInt = 0 ∧ ¬ mU a1.toInt a3.toInt a4.toInt a5.toInt a6.toInt ∧ ¬ mO1 a2.toInt a3.toInt a4.toInt a5.toInt a6.toInt ∧ 0 ≤ a3.toInt ∧ a3.toInt ≤ 2 ∧ ¬ mO2 a7.toInt ∧ (a7 = 0 ∨ a7 = 1 ∨ a7 = 2 ∨ a7 = 4 ∨ a7 = 5)) → W p l e (headSpec wsX9_method ({ frames := 3, cells := 0, slots := 0, locals := 72 })).room s m ([.ref h0, .int a1, .int a2, .int a3, .int a4, .int a5, .int a6, .int a7, .int a8, .int a9].toArray) below meth c H locs 0 0 (MQ below (qW (dC, dI) (fun v w1 ty1 => v = some (.int (an_method a1.toInt a2.toInt a3.toInt a4.toInt a5.toInt a6.toInt a7.toInt a8.toInt a9.toInt)) ∧ w1 = [] ∧ ty1 = []) A) ([.ref h0, .int a1, .int a2, .int a3, .int a4, .int a5, .int a6, .int a7, .int a8, .int a9].toArray) s 0 0 A) (F0 m 144 ls []) := by
    intro H locs ls hP hD hS hl hz
    obtain ⟨z1, zU, zO1, z2, z3, zO2, zm⟩ := hz
    refine lv_iload hx hb dX9_method_144 (lv_at hl 8 rfl) ?_
    refine lv_i2l (v := a8.toInt64) hx hb dX9_method_146 rfl ?_
    refine lv_lconst (v := 0) hx hb dX9_method_147 (by decide) ?_
    refine lv_ldc2 (v := 7) hx hb hown (hts (.constantLong RX9 146 7) (by decide +kernel)) dX9_method_148 ?_
    refine clR (va_runS (As := [.long a8.toInt64, .long 0, .long 7]) (rest := []) ⟨hx, hb, hml, hown, hts⟩ (c9_in l dC dI a8.toInt64 0 7 a8.toInt 0 7 _ (i2L _) (by decide) (by decide)) (va_cwS 3 hts gX9_method_X9_in rfl rfl rfl (by decide +kernel) ⟨Nat.le_of_ble_eq_true rfl, Nat.le_of_ble_eq_true rfl⟩) ⟨pz_blind, pz_of hP hK hD hN [] [] rfl (by decide) rfl⟩ rfl rfl hl.1 rfl (lv_room (Nat.le_of_ble_eq_true rfl)) dX9_method_151 ⟨Nat.le_of_ble_eq_true rfl, Nat.le_of_ble_eq_true rfl⟩) hS hP (fun v H locs w45 hP hS => ?_)
    rcases w45 with ⟨rfl, u43⟩ | ⟨rfl, u44⟩
    · refine W.eq (g2 := F0 m 154 ls [.int 1]) rfl ?_
      refine lv_if_eq (tgt := 176) hx hb dX9_method_154 (by decide) (fun h => absurd h (by decide)) (fun _ => ?_)
      refine lv_iload hx hb dX9_method_157 (lv_at hl 8 rfl) ?_
      refine lv_iconst (v := 5) hx hb dX9_method_159 (by decide) ?_
      refine lv_icmp_ne (tgt := 179) hx hb dX9_method_160 (by decide) (fun c46 => ?_) (fun c46 => ?_)
      · have ic46 : a8.toInt ≠ 5 := ine2 rfl (by decide) c46
        exact tl179 _ _ _ hP hD hS (lv_sub hl [0, 1, 2, 3, 4, 5, 6, 7, 8, 9] rfl) ⟨z1, zU, zO1, z2, z3, zO2, zm, (by unfold mO3; first | omega | (have kq := kz; omega)), (by first | omega | (have kq := kz; omega)), (by first | omega | (have kq := kz; omega))⟩
      · have ic46 : a8.toInt = 5 := ieq2 rfl (by decide) c46
        refine lv_iload hx hb dX9_method_163 (lv_at hl 9 rfl) ?_
        refine lv_i2l (v := a9.toInt64) hx hb dX9_method_165 rfl ?_
        refine lv_lconst (v := 0) hx hb dX9_method_166 (by decide) ?_
        refine lv_ldc2 (v := 99) hx hb hown (hts (.constantLong RX9 148 99) (by decide +kernel)) dX9_method_167 ?_
        refine clR (va_runS (As := [.long a9.toInt64, .long 0, .long 99]) (rest := []) ⟨hx, hb, hml, hown, hts⟩ (c9_in l dC dI a9.toInt64 0 99 a9.toInt 0 99 _ (i2L _) (by decide) (by decide)) (va_cwS 3 hts gX9_method_X9_in rfl rfl rfl (by decide +kernel) ⟨Nat.le_of_ble_eq_true rfl, Nat.le_of_ble_eq_true rfl⟩) ⟨pz_blind, pz_of hP hK hD hN [] [] rfl (by decide) rfl⟩ rfl rfl hl.1 rfl (lv_room (Nat.le_of_ble_eq_true rfl)) dX9_method_170 ⟨Nat.le_of_ble_eq_true rfl, Nat.le_of_ble_eq_true rfl⟩) hS hP (fun v H locs w49 hP hS => ?_)
        rcases w49 with ⟨rfl, u47⟩ | ⟨rfl, u48⟩
        · refine W.eq (g2 := F0 m 173 ls [.int 1]) rfl ?_
          refine lv_if_ne (tgt := 179) hx hb dX9_method_173 (by decide) (fun _ => ?_) (fun h => absurd h (by decide))
          exact tl179 _ _ _ hP hD hS (lv_sub hl [0, 1, 2, 3, 4, 5, 6, 7, 8, 9] rfl) ⟨z1, zU, zO1, z2, z3, zO2, zm, (by unfold mO3; first | omega | (have kq := kz; omega)), (by first | omega | (have kq := kz; omega)), (by first | omega | (have kq := kz; omega))⟩
        · refine W.eq (g2 := F0 m 173 ls [.int 0]) rfl ?_
          refine lv_if_ne (tgt := 179) hx hb dX9_method_173 (by decide) (fun h => absurd h (by decide)) (fun _ => ?_)
          refine lv_bipush (v := (-3)) hx hb dX9_method_176 (by decide) ?_
          have hP9 := hP.sub (ws' := []) [] rfl
          have hD9 := hD.sub (ws' := []) [] (by decide) rfl
          have hK9 := hK.sub (tys' := []) [] rfl
          exact W.zret (v := (-3)) (ty := .int) hx hb hr rfl (fun t ht hW => ⟨⟨(some (.int (-3))), rfl, _, _, ⟨congrArg (fun z => some (Value.int z)) (show (-3 : Int32) = an_method (a1 : Int32).toInt (a2 : Int32).toInt (a3 : Int32).toInt (a4 : Int32).toInt (a5 : Int32).toInt (a6 : Int32).toInt (a7 : Int32).toInt (a8 : Int32).toInt (a9 : Int32).toInt from an_m3c zU (by unfold mO3; first | omega | (have kq := kz; omega))), rfl, rfl⟩, by rw [ht]; exact hP9, va_K.moved hW.alike hK9, hD9⟩, hS.F ht⟩) hS.2.2 dX9_method_178
    · refine W.eq (g2 := F0 m 154 ls [.int 0]) rfl ?_
      refine lv_if_eq (tgt := 176) hx hb dX9_method_154 (by decide) (fun _ => ?_) (fun h => absurd (by decide) h)
      refine lv_bipush (v := (-3)) hx hb dX9_method_176 (by decide) ?_
      have hP9 := hP.sub (ws' := []) [] rfl
      have hD9 := hD.sub (ws' := []) [] (by decide) rfl
      have hK9 := hK.sub (tys' := []) [] rfl
      exact W.zret (v := (-3)) (ty := .int) hx hb hr rfl (fun t ht hW => ⟨⟨(some (.int (-3))), rfl, _, _, ⟨congrArg (fun z => some (Value.int z)) (show (-3 : Int32) = an_method (a1 : Int32).toInt (a2 : Int32).toInt (a3 : Int32).toInt (a4 : Int32).toInt (a5 : Int32).toInt (a6 : Int32).toInt (a7 : Int32).toInt (a8 : Int32).toInt (a9 : Int32).toInt from an_m3c zU (by unfold mO3; first | omega | (have kq := kz; omega))), rfl, rfl⟩, by rw [ht]; exact hP9, va_K.moved hW.alike hK9, hD9⟩, hS.F ht⟩) hS.2.2 dX9_method_178
  have tl118 : ∀ (H : Heap) (locs : List Loc) (ls : Array Slot), va_P (dC, dI) vwCl [(h0, .inr (8, [.int 0, .int 1, .ref (q 0), .ref (q 1), .ref (q 2), .ref (q 3), .ref (q 4), .ref (q 5), .ref (q 6), .ref (q 7), .int 0, .ref (q 8), .ref (q 9), .ref (q 10), .ref (q 11), .ref (q 12), .ref (q 13), .ref (q 14), .ref (q 15), .ref (q 16), .ref (q 17), .ref (q 18), .ref (q 19), .int 0, .int 0, .ref (q 20), .ref (q 21), .int 0, .ref (q 22), .ref (q 23), .ref (q 24), .ref (q 25), .ref (q 26), .ref (q 27), .int 0, .ref (q 28), .ref (q 29), .int 0, .long 0, .int 0, .int 0, .ref (q 30)])), ((q 0), .inl ((cA 0), 16, .inl (upd (fun _ => 0) 0 (-1)))), ((q 1), .inl ((cA 1), 16, .inl (fun _ => 0))), ((q 2), .inl ((cA 2), 16, .inl (upd (fun _ => 0) 0 (-1)))), ((q 3), .inl ((cA 3), 16, .inl (fun _ => 0))), ((q 4), .inl ((cA 4), 16, .inl (fun _ => 0))), ((q 5), .inl ((cA 5), 16, .inl (fun _ => 0))), ((q 6), .inl ((cA 6), 16, .inl (fun _ => 0))), ((q 7), .inl ((cA 7), 16, .inl (fun _ => 0))), ((q 8), .inl ((cA 8), 40, .inl (fun _ => 0))), ((q 9), .inl ((cA 9), 40, .inl (fun _ => 0))), ((q 10), .inl ((cA 10), 40, .inl (fun _ => 0))), ((q 11), .inl ((cA 11), 40, .inl (fun _ => 0))), ((q 12), .inl ((cA 12), 40, .inl (fun _ => 0))), ((q 13), .inl ((cA 13), 80, .inl (fun _ => 0))), ((q 14), .inl ((cA 14), 40, .inl (fun _ => 0))), ((q 15), .inl ((cA 15), 40, .inl (fun _ => 0))), ((q 16), .inl ((cA 16), 40, .inl (fun _ => 0))), ((q 17), .inl ((cA 17), 40, .inl (fun _ => 0))), ((q 18), .inl ((cA 18), 40, .inl (fun _ => 0))), ((q 19), .inl ((cA 19), 40, .inl (fun _ => 0))), ((q 20), .inl ((cA 20), 60, .inl (fun _ => 0))), ((q 21), .inl ((cA 21), 60, .inl (fun _ => 0))), ((q 22), .inl ((cA 22), 130, .inl (fun _ => 0))), ((q 23), .inl ((cA 23), 130, .inl (fun _ => 0))), ((q 24), .inl ((cA 24), 130, .inl (fun _ => 0))), ((q 25), .inl ((cA 25), 130, .inl (fun _ => 0))), ((q 26), .inl ((cA 26), 5240, .inl (fun _ => 0))), ((q 27), .inl ((cA 27), 5240, .inr (.inl (fun _ => 0)))), ((q 28), .inl ((cA 28), 3, .inl (fun _ => 0))), ((q 29), .inl ((cA 29), 3, .inr (.inl (fun _ => 0)))), ((q 30), .inl ((cA 30), 16, .inl (fun _ => 0)))] H → va_D A [(h0, .inr (8, [.int 0, .int 1, .ref (q 0), .ref (q 1), .ref (q 2), .ref (q 3), .ref (q 4), .ref (q 5), .ref (q 6), .ref (q 7), .int 0, .ref (q 8), .ref (q 9), .ref (q 10), .ref (q 11), .ref (q 12), .ref (q 13), .ref (q 14), .ref (q 15), .ref (q 16), .ref (q 17), .ref (q 18), .ref (q 19), .int 0, .int 0, .ref (q 20), .ref (q 21), .int 0, .ref (q 22), .ref (q 23), .ref (q 24), .ref (q 25), .ref (q 26), .ref (q 27), .int 0, .ref (q 28), .ref (q 29), .int 0, .long 0, .int 0, .int 0, .ref (q 30)])), ((q 0), .inl ((cA 0), 16, .inl (upd (fun _ => 0) 0 (-1)))), ((q 1), .inl ((cA 1), 16, .inl (fun _ => 0))), ((q 2), .inl ((cA 2), 16, .inl (upd (fun _ => 0) 0 (-1)))), ((q 3), .inl ((cA 3), 16, .inl (fun _ => 0))), ((q 4), .inl ((cA 4), 16, .inl (fun _ => 0))), ((q 5), .inl ((cA 5), 16, .inl (fun _ => 0))), ((q 6), .inl ((cA 6), 16, .inl (fun _ => 0))), ((q 7), .inl ((cA 7), 16, .inl (fun _ => 0))), ((q 8), .inl ((cA 8), 40, .inl (fun _ => 0))), ((q 9), .inl ((cA 9), 40, .inl (fun _ => 0))), ((q 10), .inl ((cA 10), 40, .inl (fun _ => 0))), ((q 11), .inl ((cA 11), 40, .inl (fun _ => 0))), ((q 12), .inl ((cA 12), 40, .inl (fun _ => 0))), ((q 13), .inl ((cA 13), 80, .inl (fun _ => 0))), ((q 14), .inl ((cA 14), 40, .inl (fun _ => 0))), ((q 15), .inl ((cA 15), 40, .inl (fun _ => 0))), ((q 16), .inl ((cA 16), 40, .inl (fun _ => 0))), ((q 17), .inl ((cA 17), 40, .inl (fun _ => 0))), ((q 18), .inl ((cA 18), 40, .inl (fun _ => 0))), ((q 19), .inl ((cA 19), 40, .inl (fun _ => 0))), ((q 20), .inl ((cA 20), 60, .inl (fun _ => 0))), ((q 21), .inl ((cA 21), 60, .inl (fun _ => 0))), ((q 22), .inl ((cA 22), 130, .inl (fun _ => 0))), ((q 23), .inl ((cA 23), 130, .inl (fun _ => 0))), ((q 24), .inl ((cA 24), 130, .inl (fun _ => 0))), ((q 25), .inl ((cA 25), 130, .inl (fun _ => 0))), ((q 26), .inl ((cA 26), 5240, .inl (fun _ => 0))), ((q 27), .inl ((cA 27), 5240, .inr (.inl (fun _ => 0)))), ((q 28), .inl ((cA 28), 3, .inl (fun _ => 0))), ((q 29), .inl ((cA 29), 3, .inr (.inl (fun _ => 0)))), ((q 30), .inl ((cA 30), 16, .inl (fun _ => 0)))] → va_S A s.heap H locs → lv_has ls 14 [(0, .ref h0), (1, .int a1), (2, .int a2), (3, .int a3), (4, .int a4), (5, .int a5), (6, .int a6), (7, .int a7), (8, .int a8), (9, .int a9)] → (a1.toInt = 0 ∧ ¬ mU a1.toInt a3.toInt a4.toInt a5.toInt a6.toInt ∧ ¬ mO1 a2.toInt a3.toInt a4.toInt a5.toInt a6.toInt ∧ 0 ≤ a3.toInt ∧ a3.toInt ≤ 2) → W p l e (headSpec wsX9_method ({ frames := 3, cells := 0, slots := 0, locals := 72 })).room s m ([.ref h0, .int a1, .int a2, .int a3, .int a4, .int a5, .int a6, .int a7, .int a8, .int a9].toArray) below meth c H locs 0 0 (MQ below (qW (dC, dI) (fun v w1 ty1 => v = some (.int (an_method a1.toInt a2.toInt a3.toInt a4.toInt a5.toInt a6.toInt a7.toInt a8.toInt a9.toInt)) ∧ w1 = [] ∧ ty1 = []) A) ([.ref h0, .int a1, .int a2, .int a3, .int a4, .int a5, .int a6, .int a7, .int a8, .int a9].toArray) s 0 0 A) (F0 m 118 ls []) := by
    intro H locs ls hP hD hS hl hz
    obtain ⟨z1, zU, zO1, z2, z3⟩ := hz
    refine lv_iload hx hb dX9_method_118 (lv_at hl 7 rfl) ?_
    refine lv_i2l (v := a7.toInt64) hx hb dX9_method_120 rfl ?_
    refine lv_lconst (v := 0) hx hb dX9_method_121 (by decide) ?_
    refine lv_ldc2 (v := 7) hx hb hown (hts (.constantLong RX9 146 7) (by decide +kernel)) dX9_method_122 ?_
    refine clR (va_runS (As := [.long a7.toInt64, .long 0, .long 7]) (rest := []) ⟨hx, hb, hml, hown, hts⟩ (c9_in l dC dI a7.toInt64 0 7 a7.toInt 0 7 _ (i2L _) (by decide) (by decide)) (va_cwS 3 hts gX9_method_X9_in rfl rfl rfl (by decide +kernel) ⟨Nat.le_of_ble_eq_true rfl, Nat.le_of_ble_eq_true rfl⟩) ⟨pz_blind, pz_of hP hK hD hN [] [] rfl (by decide) rfl⟩ rfl rfl hl.1 rfl (lv_room (Nat.le_of_ble_eq_true rfl)) dX9_method_125 ⟨Nat.le_of_ble_eq_true rfl, Nat.le_of_ble_eq_true rfl⟩) hS hP (fun v H locs w52 hP hS => ?_)
    rcases w52 with ⟨rfl, u50⟩ | ⟨rfl, u51⟩
    · refine W.eq (g2 := F0 m 128 ls [.int 1]) rfl ?_
      refine lv_if_eq (tgt := 176) hx hb dX9_method_128 (by decide) (fun h => absurd h (by decide)) (fun _ => ?_)
      refine lv_iload hx hb dX9_method_131 (lv_at hl 7 rfl) ?_
      refine lv_iconst (v := 2) hx hb dX9_method_133 (by decide) ?_
      rcases tw_0_7 (x := a7) (by omega) (by omega) with rfl | rfl | rfl | rfl | rfl | rfl | rfl | rfl
      · refine lv_iand hx hb dX9_method_134 ?_
        refine lv_topi (fun y53 ey53 => ?_)
        obtain rfl : y53 = 0 := ey53.trans (by decide)
        refine lv_if_eq (tgt := 144) hx hb dX9_method_135 (by decide) (fun _ => ?_) (fun h => absurd (by decide) h)
        exact tl144 _ _ _ hP hD hS (lv_sub hl [0, 1, 2, 3, 4, 5, 6, 7, 8, 9] rfl) ⟨z1, zU, zO1, z2, z3, (by unfold mO2; first | omega | (have kq := kz; omega)), (by decide)⟩
      · refine lv_iand hx hb dX9_method_134 ?_
        refine lv_topi (fun y54 ey54 => ?_)
        obtain rfl : y54 = 0 := ey54.trans (by decide)
        refine lv_if_eq (tgt := 144) hx hb dX9_method_135 (by decide) (fun _ => ?_) (fun h => absurd (by decide) h)
        exact tl144 _ _ _ hP hD hS (lv_sub hl [0, 1, 2, 3, 4, 5, 6, 7, 8, 9] rfl) ⟨z1, zU, zO1, z2, z3, (by unfold mO2; first | omega | (have kq := kz; omega)), (by decide)⟩
      · refine lv_iand hx hb dX9_method_134 ?_
        refine lv_topi (fun y55 ey55 => ?_)
        obtain rfl : y55 = 2 := ey55.trans (by decide)
        refine lv_if_eq (tgt := 144) hx hb dX9_method_135 (by decide) (fun h => absurd h (by decide)) (fun _ => ?_)
        refine lv_iload hx hb dX9_method_138 (lv_at hl 7 rfl) ?_
        refine lv_iconst (v := 2) hx hb dX9_method_140 (by decide) ?_
        refine lv_icmp_ne (tgt := 176) hx hb dX9_method_141 (by decide) (fun h => absurd h (by decide)) (fun _ => ?_)
        exact tl144 _ _ _ hP hD hS (lv_sub hl [0, 1, 2, 3, 4, 5, 6, 7, 8, 9] rfl) ⟨z1, zU, zO1, z2, z3, (by unfold mO2; first | omega | (have kq := kz; omega)), (by decide)⟩
      · refine lv_iand hx hb dX9_method_134 ?_
        refine lv_topi (fun y56 ey56 => ?_)
        obtain rfl : y56 = 2 := ey56.trans (by decide)
        refine lv_if_eq (tgt := 144) hx hb dX9_method_135 (by decide) (fun h => absurd h (by decide)) (fun _ => ?_)
        refine lv_iload hx hb dX9_method_138 (lv_at hl 7 rfl) ?_
        refine lv_iconst (v := 2) hx hb dX9_method_140 (by decide) ?_
        refine lv_icmp_ne (tgt := 176) hx hb dX9_method_141 (by decide) (fun _ => ?_) (fun h => absurd h (by decide))
        refine lv_bipush (v := (-3)) hx hb dX9_method_176 (by decide) ?_
        have hP9 := hP.sub (ws' := []) [] rfl
        have hD9 := hD.sub (ws' := []) [] (by decide) rfl
        have hK9 := hK.sub (tys' := []) [] rfl
        exact W.zret (v := (-3)) (ty := .int) hx hb hr rfl (fun t ht hW => ⟨⟨(some (.int (-3))), rfl, _, _, ⟨congrArg (fun z => some (Value.int z)) (show (-3 : Int32) = an_method (a1 : Int32).toInt (a2 : Int32).toInt (a3 : Int32).toInt (a4 : Int32).toInt (a5 : Int32).toInt (a6 : Int32).toInt (3 : Int32).toInt (a8 : Int32).toInt (a9 : Int32).toInt from an_m3b zU (by unfold mO2; first | omega | (have kq := kz; omega))), rfl, rfl⟩, by rw [ht]; exact hP9, va_K.moved hW.alike hK9, hD9⟩, hS.F ht⟩) hS.2.2 dX9_method_178
      · refine lv_iand hx hb dX9_method_134 ?_
        refine lv_topi (fun y57 ey57 => ?_)
        obtain rfl : y57 = 0 := ey57.trans (by decide)
        refine lv_if_eq (tgt := 144) hx hb dX9_method_135 (by decide) (fun _ => ?_) (fun h => absurd (by decide) h)
        exact tl144 _ _ _ hP hD hS (lv_sub hl [0, 1, 2, 3, 4, 5, 6, 7, 8, 9] rfl) ⟨z1, zU, zO1, z2, z3, (by unfold mO2; first | omega | (have kq := kz; omega)), (by decide)⟩
      · refine lv_iand hx hb dX9_method_134 ?_
        refine lv_topi (fun y58 ey58 => ?_)
        obtain rfl : y58 = 0 := ey58.trans (by decide)
        refine lv_if_eq (tgt := 144) hx hb dX9_method_135 (by decide) (fun _ => ?_) (fun h => absurd (by decide) h)
        exact tl144 _ _ _ hP hD hS (lv_sub hl [0, 1, 2, 3, 4, 5, 6, 7, 8, 9] rfl) ⟨z1, zU, zO1, z2, z3, (by unfold mO2; first | omega | (have kq := kz; omega)), (by decide)⟩
      · refine lv_iand hx hb dX9_method_134 ?_
        refine lv_topi (fun y59 ey59 => ?_)
        obtain rfl : y59 = 2 := ey59.trans (by decide)
        refine lv_if_eq (tgt := 144) hx hb dX9_method_135 (by decide) (fun h => absurd h (by decide)) (fun _ => ?_)
        refine lv_iload hx hb dX9_method_138 (lv_at hl 7 rfl) ?_
        refine lv_iconst (v := 2) hx hb dX9_method_140 (by decide) ?_
        refine lv_icmp_ne (tgt := 176) hx hb dX9_method_141 (by decide) (fun _ => ?_) (fun h => absurd h (by decide))
        refine lv_bipush (v := (-3)) hx hb dX9_method_176 (by decide) ?_
        have hP9 := hP.sub (ws' := []) [] rfl
        have hD9 := hD.sub (ws' := []) [] (by decide) rfl
        have hK9 := hK.sub (tys' := []) [] rfl
        exact W.zret (v := (-3)) (ty := .int) hx hb hr rfl (fun t ht hW => ⟨⟨(some (.int (-3))), rfl, _, _, ⟨congrArg (fun z => some (Value.int z)) (show (-3 : Int32) = an_method (a1 : Int32).toInt (a2 : Int32).toInt (a3 : Int32).toInt (a4 : Int32).toInt (a5 : Int32).toInt (a6 : Int32).toInt (6 : Int32).toInt (a8 : Int32).toInt (a9 : Int32).toInt from an_m3b zU (by unfold mO2; first | omega | (have kq := kz; omega))), rfl, rfl⟩, by rw [ht]; exact hP9, va_K.moved hW.alike hK9, hD9⟩, hS.F ht⟩) hS.2.2 dX9_method_178
      · refine lv_iand hx hb dX9_method_134 ?_
        refine lv_topi (fun y60 ey60 => ?_)
        obtain rfl : y60 = 2 := ey60.trans (by decide)
        refine lv_if_eq (tgt := 144) hx hb dX9_method_135 (by decide) (fun h => absurd h (by decide)) (fun _ => ?_)
        refine lv_iload hx hb dX9_method_138 (lv_at hl 7 rfl) ?_
        refine lv_iconst (v := 2) hx hb dX9_method_140 (by decide) ?_
        refine lv_icmp_ne (tgt := 176) hx hb dX9_method_141 (by decide) (fun _ => ?_) (fun h => absurd h (by decide))
        refine lv_bipush (v := (-3)) hx hb dX9_method_176 (by decide) ?_
        have hP9 := hP.sub (ws' := []) [] rfl
        have hD9 := hD.sub (ws' := []) [] (by decide) rfl
        have hK9 := hK.sub (tys' := []) [] rfl
        exact W.zret (v := (-3)) (ty := .int) hx hb hr rfl (fun t ht hW => ⟨⟨(some (.int (-3))), rfl, _, _, ⟨congrArg (fun z => some (Value.int z)) (show (-3 : Int32) = an_method (a1 : Int32).toInt (a2 : Int32).toInt (a3 : Int32).toInt (a4 : Int32).toInt (a5 : Int32).toInt (a6 : Int32).toInt (7 : Int32).toInt (a8 : Int32).toInt (a9 : Int32).toInt from an_m3b zU (by unfold mO2; first | omega | (have kq := kz; omega))), rfl, rfl⟩, by rw [ht]; exact hP9, va_K.moved hW.alike hK9, hD9⟩, hS.F ht⟩) hS.2.2 dX9_method_178
    · refine W.eq (g2 := F0 m 128 ls [.int 0]) rfl ?_
      refine lv_if_eq (tgt := 176) hx hb dX9_method_128 (by decide) (fun _ => ?_) (fun h => absurd (by decide) h)
      refine lv_bipush (v := (-3)) hx hb dX9_method_176 (by decide) ?_
      have hP9 := hP.sub (ws' := []) [] rfl
      have hD9 := hD.sub (ws' := []) [] (by decide) rfl
      have hK9 := hK.sub (tys' := []) [] rfl
      exact W.zret (v := (-3)) (ty := .int) hx hb hr rfl (fun t ht hW => ⟨⟨(some (.int (-3))), rfl, _, _, ⟨congrArg (fun z => some (Value.int z)) (show (-3 : Int32) = an_method (a1 : Int32).toInt (a2 : Int32).toInt (a3 : Int32).toInt (a4 : Int32).toInt (a5 : Int32).toInt (a6 : Int32).toInt (a7 : Int32).toInt (a8 : Int32).toInt (a9 : Int32).toInt from an_m3b zU (by unfold mO2; first | omega | (have kq := kz; omega))), rfl, rfl⟩, by rw [ht]; exact hP9, va_K.moved hW.alike hK9, hD9⟩, hS.F ht⟩) hS.2.2 dX9_method_178
  have tl52 : ∀ (H : Heap) (locs : List Loc) (ls : Array Slot), va_P (dC, dI) vwCl [(h0, .inr (8, [.int 0, .int 1, .ref (q 0), .ref (q 1), .ref (q 2), .ref (q 3), .ref (q 4), .ref (q 5), .ref (q 6), .ref (q 7), .int 0, .ref (q 8), .ref (q 9), .ref (q 10), .ref (q 11), .ref (q 12), .ref (q 13), .ref (q 14), .ref (q 15), .ref (q 16), .ref (q 17), .ref (q 18), .ref (q 19), .int 0, .int 0, .ref (q 20), .ref (q 21), .int 0, .ref (q 22), .ref (q 23), .ref (q 24), .ref (q 25), .ref (q 26), .ref (q 27), .int 0, .ref (q 28), .ref (q 29), .int 0, .long 0, .int 0, .int 0, .ref (q 30)])), ((q 0), .inl ((cA 0), 16, .inl (upd (fun _ => 0) 0 (-1)))), ((q 1), .inl ((cA 1), 16, .inl (fun _ => 0))), ((q 2), .inl ((cA 2), 16, .inl (upd (fun _ => 0) 0 (-1)))), ((q 3), .inl ((cA 3), 16, .inl (fun _ => 0))), ((q 4), .inl ((cA 4), 16, .inl (fun _ => 0))), ((q 5), .inl ((cA 5), 16, .inl (fun _ => 0))), ((q 6), .inl ((cA 6), 16, .inl (fun _ => 0))), ((q 7), .inl ((cA 7), 16, .inl (fun _ => 0))), ((q 8), .inl ((cA 8), 40, .inl (fun _ => 0))), ((q 9), .inl ((cA 9), 40, .inl (fun _ => 0))), ((q 10), .inl ((cA 10), 40, .inl (fun _ => 0))), ((q 11), .inl ((cA 11), 40, .inl (fun _ => 0))), ((q 12), .inl ((cA 12), 40, .inl (fun _ => 0))), ((q 13), .inl ((cA 13), 80, .inl (fun _ => 0))), ((q 14), .inl ((cA 14), 40, .inl (fun _ => 0))), ((q 15), .inl ((cA 15), 40, .inl (fun _ => 0))), ((q 16), .inl ((cA 16), 40, .inl (fun _ => 0))), ((q 17), .inl ((cA 17), 40, .inl (fun _ => 0))), ((q 18), .inl ((cA 18), 40, .inl (fun _ => 0))), ((q 19), .inl ((cA 19), 40, .inl (fun _ => 0))), ((q 20), .inl ((cA 20), 60, .inl (fun _ => 0))), ((q 21), .inl ((cA 21), 60, .inl (fun _ => 0))), ((q 22), .inl ((cA 22), 130, .inl (fun _ => 0))), ((q 23), .inl ((cA 23), 130, .inl (fun _ => 0))), ((q 24), .inl ((cA 24), 130, .inl (fun _ => 0))), ((q 25), .inl ((cA 25), 130, .inl (fun _ => 0))), ((q 26), .inl ((cA 26), 5240, .inl (fun _ => 0))), ((q 27), .inl ((cA 27), 5240, .inr (.inl (fun _ => 0)))), ((q 28), .inl ((cA 28), 3, .inl (fun _ => 0))), ((q 29), .inl ((cA 29), 3, .inr (.inl (fun _ => 0)))), ((q 30), .inl ((cA 30), 16, .inl (fun _ => 0)))] H → va_D A [(h0, .inr (8, [.int 0, .int 1, .ref (q 0), .ref (q 1), .ref (q 2), .ref (q 3), .ref (q 4), .ref (q 5), .ref (q 6), .ref (q 7), .int 0, .ref (q 8), .ref (q 9), .ref (q 10), .ref (q 11), .ref (q 12), .ref (q 13), .ref (q 14), .ref (q 15), .ref (q 16), .ref (q 17), .ref (q 18), .ref (q 19), .int 0, .int 0, .ref (q 20), .ref (q 21), .int 0, .ref (q 22), .ref (q 23), .ref (q 24), .ref (q 25), .ref (q 26), .ref (q 27), .int 0, .ref (q 28), .ref (q 29), .int 0, .long 0, .int 0, .int 0, .ref (q 30)])), ((q 0), .inl ((cA 0), 16, .inl (upd (fun _ => 0) 0 (-1)))), ((q 1), .inl ((cA 1), 16, .inl (fun _ => 0))), ((q 2), .inl ((cA 2), 16, .inl (upd (fun _ => 0) 0 (-1)))), ((q 3), .inl ((cA 3), 16, .inl (fun _ => 0))), ((q 4), .inl ((cA 4), 16, .inl (fun _ => 0))), ((q 5), .inl ((cA 5), 16, .inl (fun _ => 0))), ((q 6), .inl ((cA 6), 16, .inl (fun _ => 0))), ((q 7), .inl ((cA 7), 16, .inl (fun _ => 0))), ((q 8), .inl ((cA 8), 40, .inl (fun _ => 0))), ((q 9), .inl ((cA 9), 40, .inl (fun _ => 0))), ((q 10), .inl ((cA 10), 40, .inl (fun _ => 0))), ((q 11), .inl ((cA 11), 40, .inl (fun _ => 0))), ((q 12), .inl ((cA 12), 40, .inl (fun _ => 0))), ((q 13), .inl ((cA 13), 80, .inl (fun _ => 0))), ((q 14), .inl ((cA 14), 40, .inl (fun _ => 0))), ((q 15), .inl ((cA 15), 40, .inl (fun _ => 0))), ((q 16), .inl ((cA 16), 40, .inl (fun _ => 0))), ((q 17), .inl ((cA 17), 40, .inl (fun _ => 0))), ((q 18), .inl ((cA 18), 40, .inl (fun _ => 0))), ((q 19), .inl ((cA 19), 40, .inl (fun _ => 0))), ((q 20), .inl ((cA 20), 60, .inl (fun _ => 0))), ((q 21), .inl ((cA 21), 60, .inl (fun _ => 0))), ((q 22), .inl ((cA 22), 130, .inl (fun _ => 0))), ((q 23), .inl ((cA 23), 130, .inl (fun _ => 0))), ((q 24), .inl ((cA 24), 130, .inl (fun _ => 0))), ((q 25), .inl ((cA 25), 130, .inl (fun _ => 0))), ((q 26), .inl ((cA 26), 5240, .inl (fun _ => 0))), ((q 27), .inl ((cA 27), 5240, .inr (.inl (fun _ => 0)))), ((q 28), .inl ((cA 28), 3, .inl (fun _ => 0))), ((q 29), .inl ((cA 29), 3, .inr (.inl (fun _ => 0)))), ((q 30), .inl ((cA 30), 16, .inl (fun _ => 0)))] → va_S A s.heap H locs → lv_has ls 14 [(0, .ref h0), (1, .int a1), (2, .int a2), (3, .int a3), (4, .int a4), (5, .int a5), (6, .int a6), (7, .int a7), (8, .int a8), (9, .int a9)] → (a1.toInt = 0 ∧ ¬ mU a1.toInt a3.toInt a4.toInt a5.toInt a6.toInt) → W p l e (headSpec wsX9_method ({ frames := 3, cells := 0, slots := 0, locals := 72 })).room s m ([.ref h0, .int a1, .int a2, .int a3, .int a4, .int a5, .int a6, .int a7, .int a8, .int a9].toArray) below meth c H locs 0 0 (MQ below (qW (dC, dI) (fun v w1 ty1 => v = some (.int (an_method a1.toInt a2.toInt a3.toInt a4.toInt a5.toInt a6.toInt a7.toInt a8.toInt a9.toInt)) ∧ w1 = [] ∧ ty1 = []) A) ([.ref h0, .int a1, .int a2, .int a3, .int a4, .int a5, .int a6, .int a7, .int a8, .int a9].toArray) s 0 0 A) (F0 m 52 ls []) := by
    intro H locs ls hP hD hS hl hz
    obtain ⟨z1, zU⟩ := hz
    refine lv_iload_n hx hb dX9_method_52 rfl (lv_at hl 2 rfl) ?_
    refine lv_i2l (v := a2.toInt64) hx hb dX9_method_53 rfl ?_
    refine lv_lconst (v := 0) hx hb dX9_method_54 (by decide) ?_
    refine lv_ldc2 (v := 19) hx hb hown (hts (.constantLong RX9 134 19) (by decide +kernel)) dX9_method_55 ?_
    refine clR (va_runS (As := [.long a2.toInt64, .long 0, .long 19]) (rest := []) ⟨hx, hb, hml, hown, hts⟩ (c9_in l dC dI a2.toInt64 0 19 a2.toInt 0 19 _ (i2L _) (by decide) (by decide)) (va_cwS 3 hts gX9_method_X9_in rfl rfl rfl (by decide +kernel) ⟨Nat.le_of_ble_eq_true rfl, Nat.le_of_ble_eq_true rfl⟩) ⟨pz_blind, pz_of hP hK hD hN [] [] rfl (by decide) rfl⟩ rfl rfl hl.1 rfl (lv_room (Nat.le_of_ble_eq_true rfl)) dX9_method_58 ⟨Nat.le_of_ble_eq_true rfl, Nat.le_of_ble_eq_true rfl⟩) hS hP (fun v H locs w63 hP hS => ?_)
    rcases w63 with ⟨rfl, u61⟩ | ⟨rfl, u62⟩
    · refine W.eq (g2 := F0 m 61 ls [.int 1]) rfl ?_
      refine lv_if_eq (tgt := 106) hx hb dX9_method_61 (by decide) (fun h => absurd h (by decide)) (fun _ => ?_)
      refine lv_iload_n hx hb dX9_method_64 rfl (lv_at hl 3 rfl) ?_
      refine lv_i2l (v := a3.toInt64) hx hb dX9_method_65 rfl ?_
      refine lv_lconst (v := 0) hx hb dX9_method_66 (by decide) ?_
      refine lv_ldc2 (v := 2) hx hb hown (hts (.constantLong RX9 144 2) (by decide +kernel)) dX9_method_67 ?_
      refine clR (va_runS (As := [.long a3.toInt64, .long 0, .long 2]) (rest := []) ⟨hx, hb, hml, hown, hts⟩ (c9_in l dC dI a3.toInt64 0 2 a3.toInt 0 2 _ (i2L _) (by decide) (by decide)) (va_cwS 3 hts gX9_method_X9_in rfl rfl rfl (by decide +kernel) ⟨Nat.le_of_ble_eq_true rfl, Nat.le_of_ble_eq_true rfl⟩) ⟨pz_blind, pz_of hP hK hD hN [] [] rfl (by decide) rfl⟩ rfl rfl hl.1 rfl (lv_room (Nat.le_of_ble_eq_true rfl)) dX9_method_70 ⟨Nat.le_of_ble_eq_true rfl, Nat.le_of_ble_eq_true rfl⟩) hS hP (fun v H locs w66 hP hS => ?_)
      rcases w66 with ⟨rfl, u64⟩ | ⟨rfl, u65⟩
      · refine W.eq (g2 := F0 m 73 ls [.int 1]) rfl ?_
        refine lv_if_eq (tgt := 106) hx hb dX9_method_73 (by decide) (fun h => absurd h (by decide)) (fun _ => ?_)
        refine lv_iload_n hx hb dX9_method_76 rfl (lv_at hl 3 rfl) ?_
        refine lv_if_le (tgt := 87) hx hb dX9_method_77 (by decide) (fun c67 => ?_) (fun c67 => ?_)
        · have ic67 : a3.toInt ≤ 0 := ile2 rfl (by decide) c67
          refine lv_iload_n hx hb dX9_method_87 rfl (lv_at hl 3 rfl) ?_
          refine lv_iconst (v := 1) hx hb dX9_method_88 (by decide) ?_
          refine lv_icmp_le (tgt := 99) hx hb dX9_method_89 (by decide) (fun c68 => ?_) (fun c68 => ?_)
          · have ic68 : a3.toInt ≤ 1 := ile2 rfl (by decide) c68
            refine lv_iload hx hb dX9_method_99 (lv_at hl 6 rfl) ?_
            refine lv_bipush (v := (-3)) hx hb dX9_method_101 (by decide) ?_
            refine lv_icmp_ge (tgt := 110) hx hb dX9_method_103 (by decide) (fun c69 => ?_) (fun c69 => ?_)
            · have ic69 : (-3) ≤ a6.toInt := ile2 (by decide) rfl c69
              refine lv_iconst (v := 0) hx hb dX9_method_110 (by decide) ?_
              refine lv_istore (lv' := [(10, .int 0), (0, .ref h0), (1, .int a1), (2, .int a2), (3, .int a3), (4, .int a4), (5, .int a5), (6, .int a6), (7, .int a7), (8, .int a8), (9, .int a9)]) hx hb dX9_method_111 hl (by decide) rfl (fun ls hl => ?_)
              refine lv_iload hx hb dX9_method_113 (lv_at hl 0 rfl) ?_
              refine lv_if_ne (tgt := 176) hx hb dX9_method_115 (by decide) (fun h => absurd h (by decide)) (fun _ => ?_)
              exact tl118 _ _ _ hP hD hS (lv_sub hl [1, 2, 3, 4, 5, 6, 7, 8, 9, 10] rfl) ⟨z1, zU, (by unfold mO1; first | omega | (have kq := kz; omega)), (by first | omega | (have kq := kz; omega)), (by first | omega | (have kq := kz; omega))⟩
            · have ic69 : a6.toInt < (-3) := inle2 (by decide) rfl c69
              refine lv_iconst (v := 1) hx hb dX9_method_106 (by decide) ?_
              refine lv_goto (tgt := 111) hx hb dX9_method_107 (by decide) ?_
              refine lv_istore (lv' := [(10, .int 1), (0, .ref h0), (1, .int a1), (2, .int a2), (3, .int a3), (4, .int a4), (5, .int a5), (6, .int a6), (7, .int a7), (8, .int a8), (9, .int a9)]) hx hb dX9_method_111 hl (by decide) rfl (fun ls hl => ?_)
              refine lv_iload hx hb dX9_method_113 (lv_at hl 0 rfl) ?_
              refine lv_if_ne (tgt := 176) hx hb dX9_method_115 (by decide) (fun _ => ?_) (fun h => absurd h (by decide))
              refine lv_bipush (v := (-3)) hx hb dX9_method_176 (by decide) ?_
              have hP9 := hP.sub (ws' := []) [] rfl
              have hD9 := hD.sub (ws' := []) [] (by decide) rfl
              have hK9 := hK.sub (tys' := []) [] rfl
              exact W.zret (v := (-3)) (ty := .int) hx hb hr rfl (fun t ht hW => ⟨⟨(some (.int (-3))), rfl, _, _, ⟨congrArg (fun z => some (Value.int z)) (show (-3 : Int32) = an_method (a1 : Int32).toInt (a2 : Int32).toInt (a3 : Int32).toInt (a4 : Int32).toInt (a5 : Int32).toInt (a6 : Int32).toInt (a7 : Int32).toInt (a8 : Int32).toInt (a9 : Int32).toInt from an_m3a zU (by unfold mO1; first | omega | (have kq := kz; omega))), rfl, rfl⟩, by rw [ht]; exact hP9, va_K.moved hW.alike hK9, hD9⟩, hS.F ht⟩) hS.2.2 dX9_method_178
          · have ic68 : 1 < a3.toInt := inle2 rfl (by decide) c68
            exfalso; first | omega | (have kq := kz; omega)
        · have ic67 : 0 < a3.toInt := inle2 rfl (by decide) c67
          refine lv_iload hx hb dX9_method_80 (lv_at hl 4 rfl) ?_
          refine lv_bipush (v := (-2)) hx hb dX9_method_82 (by decide) ?_
          refine lv_icmp_lt (tgt := 106) hx hb dX9_method_84 (by decide) (fun c70 => ?_) (fun c70 => ?_)
          · have ic70 : a4.toInt < (-2) := il2 rfl (by decide) c70
            refine lv_iconst (v := 1) hx hb dX9_method_106 (by decide) ?_
            refine lv_goto (tgt := 111) hx hb dX9_method_107 (by decide) ?_
            refine lv_istore (lv' := [(10, .int 1), (0, .ref h0), (1, .int a1), (2, .int a2), (3, .int a3), (4, .int a4), (5, .int a5), (6, .int a6), (7, .int a7), (8, .int a8), (9, .int a9)]) hx hb dX9_method_111 hl (by decide) rfl (fun ls hl => ?_)
            refine lv_iload hx hb dX9_method_113 (lv_at hl 0 rfl) ?_
            refine lv_if_ne (tgt := 176) hx hb dX9_method_115 (by decide) (fun _ => ?_) (fun h => absurd h (by decide))
            refine lv_bipush (v := (-3)) hx hb dX9_method_176 (by decide) ?_
            have hP9 := hP.sub (ws' := []) [] rfl
            have hD9 := hD.sub (ws' := []) [] (by decide) rfl
            have hK9 := hK.sub (tys' := []) [] rfl
            exact W.zret (v := (-3)) (ty := .int) hx hb hr rfl (fun t ht hW => ⟨⟨(some (.int (-3))), rfl, _, _, ⟨congrArg (fun z => some (Value.int z)) (show (-3 : Int32) = an_method (a1 : Int32).toInt (a2 : Int32).toInt (a3 : Int32).toInt (a4 : Int32).toInt (a5 : Int32).toInt (a6 : Int32).toInt (a7 : Int32).toInt (a8 : Int32).toInt (a9 : Int32).toInt from an_m3a zU (by unfold mO1; first | omega | (have kq := kz; omega))), rfl, rfl⟩, by rw [ht]; exact hP9, va_K.moved hW.alike hK9, hD9⟩, hS.F ht⟩) hS.2.2 dX9_method_178
          · have ic70 : (-2) ≤ a4.toInt := inl2 rfl (by decide) c70
            refine lv_iload_n hx hb dX9_method_87 rfl (lv_at hl 3 rfl) ?_
            refine lv_iconst (v := 1) hx hb dX9_method_88 (by decide) ?_
            refine lv_icmp_le (tgt := 99) hx hb dX9_method_89 (by decide) (fun c71 => ?_) (fun c71 => ?_)
            · have ic71 : a3.toInt ≤ 1 := ile2 rfl (by decide) c71
              refine lv_iload hx hb dX9_method_99 (lv_at hl 6 rfl) ?_
              refine lv_bipush (v := (-3)) hx hb dX9_method_101 (by decide) ?_
              refine lv_icmp_ge (tgt := 110) hx hb dX9_method_103 (by decide) (fun c72 => ?_) (fun c72 => ?_)
              · have ic72 : (-3) ≤ a6.toInt := ile2 (by decide) rfl c72
                refine lv_iconst (v := 0) hx hb dX9_method_110 (by decide) ?_
                refine lv_istore (lv' := [(10, .int 0), (0, .ref h0), (1, .int a1), (2, .int a2), (3, .int a3), (4, .int a4), (5, .int a5), (6, .int a6), (7, .int a7), (8, .int a8), (9, .int a9)]) hx hb dX9_method_111 hl (by decide) rfl (fun ls hl => ?_)
                refine lv_iload hx hb dX9_method_113 (lv_at hl 0 rfl) ?_
                refine lv_if_ne (tgt := 176) hx hb dX9_method_115 (by decide) (fun h => absurd h (by decide)) (fun _ => ?_)
                exact tl118 _ _ _ hP hD hS (lv_sub hl [1, 2, 3, 4, 5, 6, 7, 8, 9, 10] rfl) ⟨z1, zU, (by unfold mO1; first | omega | (have kq := kz; omega)), (by first | omega | (have kq := kz; omega)), (by first | omega | (have kq := kz; omega))⟩
              · have ic72 : a6.toInt < (-3) := inle2 (by decide) rfl c72
                refine lv_iconst (v := 1) hx hb dX9_method_106 (by decide) ?_
                refine lv_goto (tgt := 111) hx hb dX9_method_107 (by decide) ?_
                refine lv_istore (lv' := [(10, .int 1), (0, .ref h0), (1, .int a1), (2, .int a2), (3, .int a3), (4, .int a4), (5, .int a5), (6, .int a6), (7, .int a7), (8, .int a8), (9, .int a9)]) hx hb dX9_method_111 hl (by decide) rfl (fun ls hl => ?_)
                refine lv_iload hx hb dX9_method_113 (lv_at hl 0 rfl) ?_
                refine lv_if_ne (tgt := 176) hx hb dX9_method_115 (by decide) (fun _ => ?_) (fun h => absurd h (by decide))
                refine lv_bipush (v := (-3)) hx hb dX9_method_176 (by decide) ?_
                have hP9 := hP.sub (ws' := []) [] rfl
                have hD9 := hD.sub (ws' := []) [] (by decide) rfl
                have hK9 := hK.sub (tys' := []) [] rfl
                exact W.zret (v := (-3)) (ty := .int) hx hb hr rfl (fun t ht hW => ⟨⟨(some (.int (-3))), rfl, _, _, ⟨congrArg (fun z => some (Value.int z)) (show (-3 : Int32) = an_method (a1 : Int32).toInt (a2 : Int32).toInt (a3 : Int32).toInt (a4 : Int32).toInt (a5 : Int32).toInt (a6 : Int32).toInt (a7 : Int32).toInt (a8 : Int32).toInt (a9 : Int32).toInt from an_m3a zU (by unfold mO1; first | omega | (have kq := kz; omega))), rfl, rfl⟩, by rw [ht]; exact hP9, va_K.moved hW.alike hK9, hD9⟩, hS.F ht⟩) hS.2.2 dX9_method_178
            · have ic71 : 1 < a3.toInt := inle2 rfl (by decide) c71
              refine lv_iload hx hb dX9_method_92 (lv_at hl 5 rfl) ?_
              refine lv_bipush (v := (-2)) hx hb dX9_method_94 (by decide) ?_
              refine lv_icmp_lt (tgt := 106) hx hb dX9_method_96 (by decide) (fun c73 => ?_) (fun c73 => ?_)
              · have ic73 : a5.toInt < (-2) := il2 rfl (by decide) c73
                refine lv_iconst (v := 1) hx hb dX9_method_106 (by decide) ?_
                refine lv_goto (tgt := 111) hx hb dX9_method_107 (by decide) ?_
                refine lv_istore (lv' := [(10, .int 1), (0, .ref h0), (1, .int a1), (2, .int a2), (3, .int a3), (4, .int a4), (5, .int a5), (6, .int a6), (7, .int a7), (8, .int a8), (9, .int a9)]) hx hb dX9_method_111 hl (by decide) rfl (fun ls hl => ?_)
                refine lv_iload hx hb dX9_method_113 (lv_at hl 0 rfl) ?_
                refine lv_if_ne (tgt := 176) hx hb dX9_method_115 (by decide) (fun _ => ?_) (fun h => absurd h (by decide))
                refine lv_bipush (v := (-3)) hx hb dX9_method_176 (by decide) ?_
                have hP9 := hP.sub (ws' := []) [] rfl
                have hD9 := hD.sub (ws' := []) [] (by decide) rfl
                have hK9 := hK.sub (tys' := []) [] rfl
                exact W.zret (v := (-3)) (ty := .int) hx hb hr rfl (fun t ht hW => ⟨⟨(some (.int (-3))), rfl, _, _, ⟨congrArg (fun z => some (Value.int z)) (show (-3 : Int32) = an_method (a1 : Int32).toInt (a2 : Int32).toInt (a3 : Int32).toInt (a4 : Int32).toInt (a5 : Int32).toInt (a6 : Int32).toInt (a7 : Int32).toInt (a8 : Int32).toInt (a9 : Int32).toInt from an_m3a zU (by unfold mO1; first | omega | (have kq := kz; omega))), rfl, rfl⟩, by rw [ht]; exact hP9, va_K.moved hW.alike hK9, hD9⟩, hS.F ht⟩) hS.2.2 dX9_method_178
              · have ic73 : (-2) ≤ a5.toInt := inl2 rfl (by decide) c73
                refine lv_iload hx hb dX9_method_99 (lv_at hl 6 rfl) ?_
                refine lv_bipush (v := (-3)) hx hb dX9_method_101 (by decide) ?_
                refine lv_icmp_ge (tgt := 110) hx hb dX9_method_103 (by decide) (fun c74 => ?_) (fun c74 => ?_)
                · have ic74 : (-3) ≤ a6.toInt := ile2 (by decide) rfl c74
                  refine lv_iconst (v := 0) hx hb dX9_method_110 (by decide) ?_
                  refine lv_istore (lv' := [(10, .int 0), (0, .ref h0), (1, .int a1), (2, .int a2), (3, .int a3), (4, .int a4), (5, .int a5), (6, .int a6), (7, .int a7), (8, .int a8), (9, .int a9)]) hx hb dX9_method_111 hl (by decide) rfl (fun ls hl => ?_)
                  refine lv_iload hx hb dX9_method_113 (lv_at hl 0 rfl) ?_
                  refine lv_if_ne (tgt := 176) hx hb dX9_method_115 (by decide) (fun h => absurd h (by decide)) (fun _ => ?_)
                  exact tl118 _ _ _ hP hD hS (lv_sub hl [1, 2, 3, 4, 5, 6, 7, 8, 9, 10] rfl) ⟨z1, zU, (by unfold mO1; first | omega | (have kq := kz; omega)), (by first | omega | (have kq := kz; omega)), (by first | omega | (have kq := kz; omega))⟩
                · have ic74 : a6.toInt < (-3) := inle2 (by decide) rfl c74
                  refine lv_iconst (v := 1) hx hb dX9_method_106 (by decide) ?_
                  refine lv_goto (tgt := 111) hx hb dX9_method_107 (by decide) ?_
                  refine lv_istore (lv' := [(10, .int 1), (0, .ref h0), (1, .int a1), (2, .int a2), (3, .int a3), (4, .int a4), (5, .int a5), (6, .int a6), (7, .int a7), (8, .int a8), (9, .int a9)]) hx hb dX9_method_111 hl (by decide) rfl (fun ls hl => ?_)
                  refine lv_iload hx hb dX9_method_113 (lv_at hl 0 rfl) ?_
                  refine lv_if_ne (tgt := 176) hx hb dX9_method_115 (by decide) (fun _ => ?_) (fun h => absurd h (by decide))
                  refine lv_bipush (v := (-3)) hx hb dX9_method_176 (by decide) ?_
                  have hP9 := hP.sub (ws' := []) [] rfl
                  have hD9 := hD.sub (ws' := []) [] (by decide) rfl
                  have hK9 := hK.sub (tys' := []) [] rfl
                  exact W.zret (v := (-3)) (ty := .int) hx hb hr rfl (fun t ht hW => ⟨⟨(some (.int (-3))), rfl, _, _, ⟨congrArg (fun z => some (Value.int z)) (show (-3 : Int32) = an_method (a1 : Int32).toInt (a2 : Int32).toInt (a3 : Int32).toInt (a4 : Int32).toInt (a5 : Int32).toInt (a6 : Int32).toInt (a7 : Int32).toInt (a8 : Int32).toInt (a9 : Int32).toInt from an_m3a zU (by unfold mO1; first | omega | (have kq := kz; omega))), rfl, rfl⟩, by rw [ht]; exact hP9, va_K.moved hW.alike hK9, hD9⟩, hS.F ht⟩) hS.2.2 dX9_method_178
      · refine W.eq (g2 := F0 m 73 ls [.int 0]) rfl ?_
        refine lv_if_eq (tgt := 106) hx hb dX9_method_73 (by decide) (fun _ => ?_) (fun h => absurd (by decide) h)
        refine lv_iconst (v := 1) hx hb dX9_method_106 (by decide) ?_
        refine lv_goto (tgt := 111) hx hb dX9_method_107 (by decide) ?_
        refine lv_istore (lv' := [(10, .int 1), (0, .ref h0), (1, .int a1), (2, .int a2), (3, .int a3), (4, .int a4), (5, .int a5), (6, .int a6), (7, .int a7), (8, .int a8), (9, .int a9)]) hx hb dX9_method_111 hl (by decide) rfl (fun ls hl => ?_)
        refine lv_iload hx hb dX9_method_113 (lv_at hl 0 rfl) ?_
        refine lv_if_ne (tgt := 176) hx hb dX9_method_115 (by decide) (fun _ => ?_) (fun h => absurd h (by decide))
        refine lv_bipush (v := (-3)) hx hb dX9_method_176 (by decide) ?_
        have hP9 := hP.sub (ws' := []) [] rfl
        have hD9 := hD.sub (ws' := []) [] (by decide) rfl
        have hK9 := hK.sub (tys' := []) [] rfl
        exact W.zret (v := (-3)) (ty := .int) hx hb hr rfl (fun t ht hW => ⟨⟨(some (.int (-3))), rfl, _, _, ⟨congrArg (fun z => some (Value.int z)) (show (-3 : Int32) = an_method (a1 : Int32).toInt (a2 : Int32).toInt (a3 : Int32).toInt (a4 : Int32).toInt (a5 : Int32).toInt (a6 : Int32).toInt (a7 : Int32).toInt (a8 : Int32).toInt (a9 : Int32).toInt from an_m3a zU (by unfold mO1; first | omega | (have kq := kz; omega))), rfl, rfl⟩, by rw [ht]; exact hP9, va_K.moved hW.alike hK9, hD9⟩, hS.F ht⟩) hS.2.2 dX9_method_178
    · refine W.eq (g2 := F0 m 61 ls [.int 0]) rfl ?_
      refine lv_if_eq (tgt := 106) hx hb dX9_method_61 (by decide) (fun _ => ?_) (fun h => absurd (by decide) h)
      refine lv_iconst (v := 1) hx hb dX9_method_106 (by decide) ?_
      refine lv_goto (tgt := 111) hx hb dX9_method_107 (by decide) ?_
      refine lv_istore (lv' := [(10, .int 1), (0, .ref h0), (1, .int a1), (2, .int a2), (3, .int a3), (4, .int a4), (5, .int a5), (6, .int a6), (7, .int a7), (8, .int a8), (9, .int a9)]) hx hb dX9_method_111 hl (by decide) rfl (fun ls hl => ?_)
      refine lv_iload hx hb dX9_method_113 (lv_at hl 0 rfl) ?_
      refine lv_if_ne (tgt := 176) hx hb dX9_method_115 (by decide) (fun _ => ?_) (fun h => absurd h (by decide))
      refine lv_bipush (v := (-3)) hx hb dX9_method_176 (by decide) ?_
      have hP9 := hP.sub (ws' := []) [] rfl
      have hD9 := hD.sub (ws' := []) [] (by decide) rfl
      have hK9 := hK.sub (tys' := []) [] rfl
      exact W.zret (v := (-3)) (ty := .int) hx hb hr rfl (fun t ht hW => ⟨⟨(some (.int (-3))), rfl, _, _, ⟨congrArg (fun z => some (Value.int z)) (show (-3 : Int32) = an_method (a1 : Int32).toInt (a2 : Int32).toInt (a3 : Int32).toInt (a4 : Int32).toInt (a5 : Int32).toInt (a6 : Int32).toInt (a7 : Int32).toInt (a8 : Int32).toInt (a9 : Int32).toInt from an_m3a zU (by unfold mO1; first | omega | (have kq := kz; omega))), rfl, rfl⟩, by rw [ht]; exact hP9, va_K.moved hW.alike hK9, hD9⟩, hS.F ht⟩) hS.2.2 dX9_method_178
  refine lv_aload_n hx hb dX9_method_0 rfl (lv_at hl 0 rfl) ?_
  refine lv_iconst (v := 0) hx hb dX9_method_1 (by decide) ?_
  refine va_put (D := (dC, dI)) (own := RX9) (ref := "ReflectModelsModel") (index := 1) (ci := 8) (v := .int 0) (ty := .int) (C := RX9) (T := TX9) (N := 42) hx hb hts inX9_method_9 tyX9 tyX9_ok nmX9 hown hK hP hD hS 0 rfl rfl 0 (by decide) (hts (.fieldLink RX9 1 "ReflectModelsModel" "thrown" "I") (by decide +kernel)) (fun _ h9 => h9) rfl (by decide +kernel) rfl rfl (Nat.le_of_ble_eq_true rfl) dX9_method_2 (fun H locs hP hD hS => ?_)
  have hP : va_P (dC, dI) vwCl [(h0, .inr (8, [.int 0, .int 1, .ref (q 0), .ref (q 1), .ref (q 2), .ref (q 3), .ref (q 4), .ref (q 5), .ref (q 6), .ref (q 7), .int 0, .ref (q 8), .ref (q 9), .ref (q 10), .ref (q 11), .ref (q 12), .ref (q 13), .ref (q 14), .ref (q 15), .ref (q 16), .ref (q 17), .ref (q 18), .ref (q 19), .int 0, .int 0, .ref (q 20), .ref (q 21), .int 0, .ref (q 22), .ref (q 23), .ref (q 24), .ref (q 25), .ref (q 26), .ref (q 27), .int 0, .ref (q 28), .ref (q 29), .int 0, .long 0, .int 0, .int 0, .ref (q 30)])), ((q 0), .inl ((cA 0), 16, .inl (upd (fun _ => 0) 0 (-1)))), ((q 1), .inl ((cA 1), 16, .inl (fun _ => 0))), ((q 2), .inl ((cA 2), 16, .inl (upd (fun _ => 0) 0 (-1)))), ((q 3), .inl ((cA 3), 16, .inl (fun _ => 0))), ((q 4), .inl ((cA 4), 16, .inl (fun _ => 0))), ((q 5), .inl ((cA 5), 16, .inl (fun _ => 0))), ((q 6), .inl ((cA 6), 16, .inl (fun _ => 0))), ((q 7), .inl ((cA 7), 16, .inl (fun _ => 0))), ((q 8), .inl ((cA 8), 40, .inl (fun _ => 0))), ((q 9), .inl ((cA 9), 40, .inl (fun _ => 0))), ((q 10), .inl ((cA 10), 40, .inl (fun _ => 0))), ((q 11), .inl ((cA 11), 40, .inl (fun _ => 0))), ((q 12), .inl ((cA 12), 40, .inl (fun _ => 0))), ((q 13), .inl ((cA 13), 80, .inl (fun _ => 0))), ((q 14), .inl ((cA 14), 40, .inl (fun _ => 0))), ((q 15), .inl ((cA 15), 40, .inl (fun _ => 0))), ((q 16), .inl ((cA 16), 40, .inl (fun _ => 0))), ((q 17), .inl ((cA 17), 40, .inl (fun _ => 0))), ((q 18), .inl ((cA 18), 40, .inl (fun _ => 0))), ((q 19), .inl ((cA 19), 40, .inl (fun _ => 0))), ((q 20), .inl ((cA 20), 60, .inl (fun _ => 0))), ((q 21), .inl ((cA 21), 60, .inl (fun _ => 0))), ((q 22), .inl ((cA 22), 130, .inl (fun _ => 0))), ((q 23), .inl ((cA 23), 130, .inl (fun _ => 0))), ((q 24), .inl ((cA 24), 130, .inl (fun _ => 0))), ((q 25), .inl ((cA 25), 130, .inl (fun _ => 0))), ((q 26), .inl ((cA 26), 5240, .inl (fun _ => 0))), ((q 27), .inl ((cA 27), 5240, .inr (.inl (fun _ => 0)))), ((q 28), .inl ((cA 28), 3, .inl (fun _ => 0))), ((q 29), .inl ((cA 29), 3, .inr (.inl (fun _ => 0)))), ((q 30), .inl ((cA 30), 16, .inl (fun _ => 0)))] H := hP
  have hD : va_D A [(h0, .inr (8, [.int 0, .int 1, .ref (q 0), .ref (q 1), .ref (q 2), .ref (q 3), .ref (q 4), .ref (q 5), .ref (q 6), .ref (q 7), .int 0, .ref (q 8), .ref (q 9), .ref (q 10), .ref (q 11), .ref (q 12), .ref (q 13), .ref (q 14), .ref (q 15), .ref (q 16), .ref (q 17), .ref (q 18), .ref (q 19), .int 0, .int 0, .ref (q 20), .ref (q 21), .int 0, .ref (q 22), .ref (q 23), .ref (q 24), .ref (q 25), .ref (q 26), .ref (q 27), .int 0, .ref (q 28), .ref (q 29), .int 0, .long 0, .int 0, .int 0, .ref (q 30)])), ((q 0), .inl ((cA 0), 16, .inl (upd (fun _ => 0) 0 (-1)))), ((q 1), .inl ((cA 1), 16, .inl (fun _ => 0))), ((q 2), .inl ((cA 2), 16, .inl (upd (fun _ => 0) 0 (-1)))), ((q 3), .inl ((cA 3), 16, .inl (fun _ => 0))), ((q 4), .inl ((cA 4), 16, .inl (fun _ => 0))), ((q 5), .inl ((cA 5), 16, .inl (fun _ => 0))), ((q 6), .inl ((cA 6), 16, .inl (fun _ => 0))), ((q 7), .inl ((cA 7), 16, .inl (fun _ => 0))), ((q 8), .inl ((cA 8), 40, .inl (fun _ => 0))), ((q 9), .inl ((cA 9), 40, .inl (fun _ => 0))), ((q 10), .inl ((cA 10), 40, .inl (fun _ => 0))), ((q 11), .inl ((cA 11), 40, .inl (fun _ => 0))), ((q 12), .inl ((cA 12), 40, .inl (fun _ => 0))), ((q 13), .inl ((cA 13), 80, .inl (fun _ => 0))), ((q 14), .inl ((cA 14), 40, .inl (fun _ => 0))), ((q 15), .inl ((cA 15), 40, .inl (fun _ => 0))), ((q 16), .inl ((cA 16), 40, .inl (fun _ => 0))), ((q 17), .inl ((cA 17), 40, .inl (fun _ => 0))), ((q 18), .inl ((cA 18), 40, .inl (fun _ => 0))), ((q 19), .inl ((cA 19), 40, .inl (fun _ => 0))), ((q 20), .inl ((cA 20), 60, .inl (fun _ => 0))), ((q 21), .inl ((cA 21), 60, .inl (fun _ => 0))), ((q 22), .inl ((cA 22), 130, .inl (fun _ => 0))), ((q 23), .inl ((cA 23), 130, .inl (fun _ => 0))), ((q 24), .inl ((cA 24), 130, .inl (fun _ => 0))), ((q 25), .inl ((cA 25), 130, .inl (fun _ => 0))), ((q 26), .inl ((cA 26), 5240, .inl (fun _ => 0))), ((q 27), .inl ((cA 27), 5240, .inr (.inl (fun _ => 0)))), ((q 28), .inl ((cA 28), 3, .inl (fun _ => 0))), ((q 29), .inl ((cA 29), 3, .inr (.inl (fun _ => 0)))), ((q 30), .inl ((cA 30), 16, .inl (fun _ => 0)))] := hD
  refine lv_aload_n hx hb dX9_method_5 rfl (lv_at hl 0 rfl) ?_
  refine lv_iload_n hx hb dX9_method_6 rfl (lv_at hl 1 rfl) ?_
  refine clR (va_runV (As := [.int a1]) (rest := []) ⟨hx, hb, hml, hown, hts⟩ (c9_isClass l dC dI h0 q a1 _) (cwV 1 hts gX9_method_X9_isClass rfl rfl rfl (by decide +kernel) ⟨Nat.le_of_ble_eq_true rfl, Nat.le_of_ble_eq_true rfl⟩) ⟨pz_blind, va_recv hK hP (ci := 8) (q0 := 0) rfl rfl, pz_of hP hK hD hN [0] [] rfl (by decide) rfl⟩ rfl rfl hl.1 rfl (lv_room (Nat.le_of_ble_eq_true rfl)) dX9_method_7 ⟨Nat.le_of_ble_eq_true rfl, Nat.le_of_ble_eq_true rfl⟩) hS hP (fun v H locs w2 hP hS => ?_)
  rcases w2 with ⟨rfl, rfl⟩ | ⟨rfl, u1⟩
  · refine W.eq (g2 := F0 m 10 ls [.int 1]) rfl ?_
    refine lv_if_eq (tgt := 49) hx hb dX9_method_10 (by decide) (fun h => absurd h (by decide)) (fun _ => ?_)
    refine lv_iload_n hx hb dX9_method_13 rfl (lv_at hl 3 rfl) ?_
    refine lv_if_le (tgt := 26) hx hb dX9_method_14 (by decide) (fun c3 => ?_) (fun c3 => ?_)
    · have ic3 : a3.toInt ≤ 0 := ile2 rfl (by decide) c3
      refine lv_iload_n hx hb dX9_method_26 rfl (lv_at hl 3 rfl) ?_
      refine lv_iconst (v := 1) hx hb dX9_method_27 (by decide) ?_
      refine lv_icmp_le (tgt := 40) hx hb dX9_method_28 (by decide) (fun c4 => ?_) (fun c4 => ?_)
      · have ic4 : a3.toInt ≤ 1 := ile2 rfl (by decide) c4
        refine lv_aload_n hx hb dX9_method_40 rfl (lv_at hl 0 rfl) ?_
        refine lv_iload hx hb dX9_method_41 (lv_at hl 6 rfl) ?_
        refine clR (va_runV (As := [.int a6]) (rest := []) ⟨hx, hb, hml, hown, hts⟩ (c9_isNoClass l dC dI h0 q a6 _) (cwV 1 hts gX9_method_X9_isNoClass rfl rfl rfl (by decide +kernel) ⟨Nat.le_of_ble_eq_true rfl, Nat.le_of_ble_eq_true rfl⟩) ⟨pz_blind, va_recv hK hP (ci := 8) (q0 := 0) rfl rfl, pz_of hP hK hD hN [0] [] rfl (by decide) rfl⟩ rfl rfl hl.1 rfl (lv_room (Nat.le_of_ble_eq_true rfl)) dX9_method_43 ⟨Nat.le_of_ble_eq_true rfl, Nat.le_of_ble_eq_true rfl⟩) hS hP (fun v H locs w7 hP hS => ?_)
        rcases w7 with ⟨rfl, u5⟩ | ⟨rfl, u6⟩
        · refine W.eq (g2 := F0 m 46 ls [.int 1]) rfl ?_
          refine lv_if_eq (tgt := 52) hx hb dX9_method_46 (by decide) (fun h => absurd h (by decide)) (fun _ => ?_)
          refine lv_bipush (v := (-2)) hx hb dX9_method_49 (by decide) ?_
          have hP9 := hP.sub (ws' := []) [] rfl
          have hD9 := hD.sub (ws' := []) [] (by decide) rfl
          have hK9 := hK.sub (tys' := []) [] rfl
          exact W.zret (v := (-2)) (ty := .int) hx hb hr rfl (fun t ht hW => ⟨⟨(some (.int (-2))), rfl, _, _, ⟨congrArg (fun z => some (Value.int z)) (show (-2 : Int32) = an_method (0 : Int32).toInt (a2 : Int32).toInt (a3 : Int32).toInt (a4 : Int32).toInt (a5 : Int32).toInt (a6 : Int32).toInt (a7 : Int32).toInt (a8 : Int32).toInt (a9 : Int32).toInt from an_m2 (by unfold mU; first | omega | (have kq := kz; omega))), rfl, rfl⟩, by rw [ht]; exact hP9, va_K.moved hW.alike hK9, hD9⟩, hS.F ht⟩) hS.2.2 dX9_method_51
        · refine W.eq (g2 := F0 m 46 ls [.int 0]) rfl ?_
          refine lv_if_eq (tgt := 52) hx hb dX9_method_46 (by decide) (fun _ => ?_) (fun h => absurd (by decide) h)
          exact tl52 _ _ _ hP hD hS (lv_sub hl [0, 1, 2, 3, 4, 5, 6, 7, 8, 9] rfl) ⟨(by first | omega | (have kq := kz; omega)), (by unfold mU; first | omega | (have kq := kz; omega))⟩
      · have ic4 : 1 < a3.toInt := inle2 rfl (by decide) c4
        exfalso; first | omega | (have kq := kz; omega)
    · have ic3 : 0 < a3.toInt := inle2 rfl (by decide) c3
      refine lv_aload_n hx hb dX9_method_17 rfl (lv_at hl 0 rfl) ?_
      refine lv_iload hx hb dX9_method_18 (lv_at hl 4 rfl) ?_
      refine clR (va_runV (As := [.int a4]) (rest := []) ⟨hx, hb, hml, hown, hts⟩ (c9_isNoClass l dC dI h0 q a4 _) (cwV 1 hts gX9_method_X9_isNoClass rfl rfl rfl (by decide +kernel) ⟨Nat.le_of_ble_eq_true rfl, Nat.le_of_ble_eq_true rfl⟩) ⟨pz_blind, va_recv hK hP (ci := 8) (q0 := 0) rfl rfl, pz_of hP hK hD hN [0] [] rfl (by decide) rfl⟩ rfl rfl hl.1 rfl (lv_room (Nat.le_of_ble_eq_true rfl)) dX9_method_20 ⟨Nat.le_of_ble_eq_true rfl, Nat.le_of_ble_eq_true rfl⟩) hS hP (fun v H locs w10 hP hS => ?_)
      rcases w10 with ⟨rfl, u8⟩ | ⟨rfl, u9⟩
      · refine W.eq (g2 := F0 m 23 ls [.int 1]) rfl ?_
        refine lv_if_ne (tgt := 49) hx hb dX9_method_23 (by decide) (fun _ => ?_) (fun h => absurd h (by decide))
        refine lv_bipush (v := (-2)) hx hb dX9_method_49 (by decide) ?_
        have hP9 := hP.sub (ws' := []) [] rfl
        have hD9 := hD.sub (ws' := []) [] (by decide) rfl
        have hK9 := hK.sub (tys' := []) [] rfl
        exact W.zret (v := (-2)) (ty := .int) hx hb hr rfl (fun t ht hW => ⟨⟨(some (.int (-2))), rfl, _, _, ⟨congrArg (fun z => some (Value.int z)) (show (-2 : Int32) = an_method (0 : Int32).toInt (a2 : Int32).toInt (a3 : Int32).toInt (a4 : Int32).toInt (a5 : Int32).toInt (a6 : Int32).toInt (a7 : Int32).toInt (a8 : Int32).toInt (a9 : Int32).toInt from an_m2 (by unfold mU; first | omega | (have kq := kz; omega))), rfl, rfl⟩, by rw [ht]; exact hP9, va_K.moved hW.alike hK9, hD9⟩, hS.F ht⟩) hS.2.2 dX9_method_51
      · refine W.eq (g2 := F0 m 23 ls [.int 0]) rfl ?_
        refine lv_if_ne (tgt := 49) hx hb dX9_method_23 (by decide) (fun h => absurd h (by decide)) (fun _ => ?_)
        refine lv_iload_n hx hb dX9_method_26 rfl (lv_at hl 3 rfl) ?_
        refine lv_iconst (v := 1) hx hb dX9_method_27 (by decide) ?_
        refine lv_icmp_le (tgt := 40) hx hb dX9_method_28 (by decide) (fun c11 => ?_) (fun c11 => ?_)
        · have ic11 : a3.toInt ≤ 1 := ile2 rfl (by decide) c11
          refine lv_aload_n hx hb dX9_method_40 rfl (lv_at hl 0 rfl) ?_
          refine lv_iload hx hb dX9_method_41 (lv_at hl 6 rfl) ?_
          refine clR (va_runV (As := [.int a6]) (rest := []) ⟨hx, hb, hml, hown, hts⟩ (c9_isNoClass l dC dI h0 q a6 _) (cwV 1 hts gX9_method_X9_isNoClass rfl rfl rfl (by decide +kernel) ⟨Nat.le_of_ble_eq_true rfl, Nat.le_of_ble_eq_true rfl⟩) ⟨pz_blind, va_recv hK hP (ci := 8) (q0 := 0) rfl rfl, pz_of hP hK hD hN [0] [] rfl (by decide) rfl⟩ rfl rfl hl.1 rfl (lv_room (Nat.le_of_ble_eq_true rfl)) dX9_method_43 ⟨Nat.le_of_ble_eq_true rfl, Nat.le_of_ble_eq_true rfl⟩) hS hP (fun v H locs w14 hP hS => ?_)
          rcases w14 with ⟨rfl, u12⟩ | ⟨rfl, u13⟩
          · refine W.eq (g2 := F0 m 46 ls [.int 1]) rfl ?_
            refine lv_if_eq (tgt := 52) hx hb dX9_method_46 (by decide) (fun h => absurd h (by decide)) (fun _ => ?_)
            refine lv_bipush (v := (-2)) hx hb dX9_method_49 (by decide) ?_
            have hP9 := hP.sub (ws' := []) [] rfl
            have hD9 := hD.sub (ws' := []) [] (by decide) rfl
            have hK9 := hK.sub (tys' := []) [] rfl
            exact W.zret (v := (-2)) (ty := .int) hx hb hr rfl (fun t ht hW => ⟨⟨(some (.int (-2))), rfl, _, _, ⟨congrArg (fun z => some (Value.int z)) (show (-2 : Int32) = an_method (0 : Int32).toInt (a2 : Int32).toInt (a3 : Int32).toInt (a4 : Int32).toInt (a5 : Int32).toInt (a6 : Int32).toInt (a7 : Int32).toInt (a8 : Int32).toInt (a9 : Int32).toInt from an_m2 (by unfold mU; first | omega | (have kq := kz; omega))), rfl, rfl⟩, by rw [ht]; exact hP9, va_K.moved hW.alike hK9, hD9⟩, hS.F ht⟩) hS.2.2 dX9_method_51
          · refine W.eq (g2 := F0 m 46 ls [.int 0]) rfl ?_
            refine lv_if_eq (tgt := 52) hx hb dX9_method_46 (by decide) (fun _ => ?_) (fun h => absurd (by decide) h)
            exact tl52 _ _ _ hP hD hS (lv_sub hl [0, 1, 2, 3, 4, 5, 6, 7, 8, 9] rfl) ⟨(by first | omega | (have kq := kz; omega)), (by unfold mU; first | omega | (have kq := kz; omega))⟩
        · have ic11 : 1 < a3.toInt := inle2 rfl (by decide) c11
          refine lv_aload_n hx hb dX9_method_31 rfl (lv_at hl 0 rfl) ?_
          refine lv_iload hx hb dX9_method_32 (lv_at hl 5 rfl) ?_
          refine clR (va_runV (As := [.int a5]) (rest := []) ⟨hx, hb, hml, hown, hts⟩ (c9_isNoClass l dC dI h0 q a5 _) (cwV 1 hts gX9_method_X9_isNoClass rfl rfl rfl (by decide +kernel) ⟨Nat.le_of_ble_eq_true rfl, Nat.le_of_ble_eq_true rfl⟩) ⟨pz_blind, va_recv hK hP (ci := 8) (q0 := 0) rfl rfl, pz_of hP hK hD hN [0] [] rfl (by decide) rfl⟩ rfl rfl hl.1 rfl (lv_room (Nat.le_of_ble_eq_true rfl)) dX9_method_34 ⟨Nat.le_of_ble_eq_true rfl, Nat.le_of_ble_eq_true rfl⟩) hS hP (fun v H locs w17 hP hS => ?_)
          rcases w17 with ⟨rfl, u15⟩ | ⟨rfl, u16⟩
          · refine W.eq (g2 := F0 m 37 ls [.int 1]) rfl ?_
            refine lv_if_ne (tgt := 49) hx hb dX9_method_37 (by decide) (fun _ => ?_) (fun h => absurd h (by decide))
            refine lv_bipush (v := (-2)) hx hb dX9_method_49 (by decide) ?_
            have hP9 := hP.sub (ws' := []) [] rfl
            have hD9 := hD.sub (ws' := []) [] (by decide) rfl
            have hK9 := hK.sub (tys' := []) [] rfl
            exact W.zret (v := (-2)) (ty := .int) hx hb hr rfl (fun t ht hW => ⟨⟨(some (.int (-2))), rfl, _, _, ⟨congrArg (fun z => some (Value.int z)) (show (-2 : Int32) = an_method (0 : Int32).toInt (a2 : Int32).toInt (a3 : Int32).toInt (a4 : Int32).toInt (a5 : Int32).toInt (a6 : Int32).toInt (a7 : Int32).toInt (a8 : Int32).toInt (a9 : Int32).toInt from an_m2 (by unfold mU; first | omega | (have kq := kz; omega))), rfl, rfl⟩, by rw [ht]; exact hP9, va_K.moved hW.alike hK9, hD9⟩, hS.F ht⟩) hS.2.2 dX9_method_51
          · refine W.eq (g2 := F0 m 37 ls [.int 0]) rfl ?_
            refine lv_if_ne (tgt := 49) hx hb dX9_method_37 (by decide) (fun h => absurd h (by decide)) (fun _ => ?_)
            refine lv_aload_n hx hb dX9_method_40 rfl (lv_at hl 0 rfl) ?_
            refine lv_iload hx hb dX9_method_41 (lv_at hl 6 rfl) ?_
            refine clR (va_runV (As := [.int a6]) (rest := []) ⟨hx, hb, hml, hown, hts⟩ (c9_isNoClass l dC dI h0 q a6 _) (cwV 1 hts gX9_method_X9_isNoClass rfl rfl rfl (by decide +kernel) ⟨Nat.le_of_ble_eq_true rfl, Nat.le_of_ble_eq_true rfl⟩) ⟨pz_blind, va_recv hK hP (ci := 8) (q0 := 0) rfl rfl, pz_of hP hK hD hN [0] [] rfl (by decide) rfl⟩ rfl rfl hl.1 rfl (lv_room (Nat.le_of_ble_eq_true rfl)) dX9_method_43 ⟨Nat.le_of_ble_eq_true rfl, Nat.le_of_ble_eq_true rfl⟩) hS hP (fun v H locs w20 hP hS => ?_)
            rcases w20 with ⟨rfl, u18⟩ | ⟨rfl, u19⟩
            · refine W.eq (g2 := F0 m 46 ls [.int 1]) rfl ?_
              refine lv_if_eq (tgt := 52) hx hb dX9_method_46 (by decide) (fun h => absurd h (by decide)) (fun _ => ?_)
              refine lv_bipush (v := (-2)) hx hb dX9_method_49 (by decide) ?_
              have hP9 := hP.sub (ws' := []) [] rfl
              have hD9 := hD.sub (ws' := []) [] (by decide) rfl
              have hK9 := hK.sub (tys' := []) [] rfl
              exact W.zret (v := (-2)) (ty := .int) hx hb hr rfl (fun t ht hW => ⟨⟨(some (.int (-2))), rfl, _, _, ⟨congrArg (fun z => some (Value.int z)) (show (-2 : Int32) = an_method (0 : Int32).toInt (a2 : Int32).toInt (a3 : Int32).toInt (a4 : Int32).toInt (a5 : Int32).toInt (a6 : Int32).toInt (a7 : Int32).toInt (a8 : Int32).toInt (a9 : Int32).toInt from an_m2 (by unfold mU; first | omega | (have kq := kz; omega))), rfl, rfl⟩, by rw [ht]; exact hP9, va_K.moved hW.alike hK9, hD9⟩, hS.F ht⟩) hS.2.2 dX9_method_51
            · refine W.eq (g2 := F0 m 46 ls [.int 0]) rfl ?_
              refine lv_if_eq (tgt := 52) hx hb dX9_method_46 (by decide) (fun _ => ?_) (fun h => absurd (by decide) h)
              exact tl52 _ _ _ hP hD hS (lv_sub hl [0, 1, 2, 3, 4, 5, 6, 7, 8, 9] rfl) ⟨(by first | omega | (have kq := kz; omega)), (by unfold mU; first | omega | (have kq := kz; omega))⟩
  · refine W.eq (g2 := F0 m 10 ls [.int 0]) rfl ?_
    refine lv_if_eq (tgt := 49) hx hb dX9_method_10 (by decide) (fun _ => ?_) (fun h => absurd (by decide) h)
    refine lv_bipush (v := (-2)) hx hb dX9_method_49 (by decide) ?_
    have hP9 := hP.sub (ws' := []) [] rfl
    have hD9 := hD.sub (ws' := []) [] (by decide) rfl
    have hK9 := hK.sub (tys' := []) [] rfl
    exact W.zret (v := (-2)) (ty := .int) hx hb hr rfl (fun t ht hW => ⟨⟨(some (.int (-2))), rfl, _, _, ⟨congrArg (fun z => some (Value.int z)) (show (-2 : Int32) = an_method (a1 : Int32).toInt (a2 : Int32).toInt (a3 : Int32).toInt (a4 : Int32).toInt (a5 : Int32).toInt (a6 : Int32).toInt (a7 : Int32).toInt (a8 : Int32).toInt (a9 : Int32).toInt from an_m2 (by unfold mU; first | omega | (have kq := kz; omega))), rfl, rfl⟩, by rw [ht]; exact hP9, va_K.moved hW.alike hK9, hD9⟩, hS.F ht⟩) hS.2.2 dX9_method_51
