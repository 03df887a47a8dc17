set_option maxHeartbeats 40000000 in
set_option maxRecDepth 100000 in
/-- THE LAW, from its entry -/
theorem whole_start {p : Program} {e : Env} {s : State} {m : MethodId} {below : List Frame} {meth : Method} {c : Code} (l : Launch) {b L : Nat} {xs : Nat → Int32} (hL : L ≤ 10) (C0 : lw_At p s m meth c b L xs) : W p l e room_1 s m #[Value.ref b] below meth c s.heap [] 0 0 (lw_Z below #[Value.ref b] s) (entryFrame m ([Value.ref b] : List Value).toArray 4) := by
  obtain ⟨hx, hb, hr, hml, hown, hts0, hX, hbl, hlocks, hgv⟩ := id C0
  have hts : ∀ w ∈ wsL_law, w.before #[Value.ref b] s = true := fun w h => hts0 w (wsL_in w h)
  have hN : nwk s := nwk_start hts0
  have hown : s.vm.findClass RL = some m.cls := hown
  have hA : ∀ q : Nat, s.heap.size ≤ q → (fun q : Nat => s.heap.size ≤ q) q := fun _ h => h
  have hbA : ¬ (fun q : Nat => s.heap.size ≤ q) b := Nat.not_le.mpr hbl
  obtain ⟨c0, iS0, hKn0⟩ := u_known (C := RX0) (T := TX0) (N := 12) (n := 12) hts wk_X0 (hts (.instantiable RX0 12) (by decide +kernel))
  obtain ⟨c1, iS1, hKn1⟩ := u_known (C := RX1) (T := TX1) (N := 9) (n := 9) hts wk_X1 (hts (.instantiable RX1 9) (by decide +kernel))
  obtain ⟨c2, iS2, hKn2⟩ := u_known (C := RX2) (T := TX2) (N := 3) (n := 3) hts wk_X2 (hts (.instantiable RX2 3) (by decide +kernel))
  obtain ⟨c3, iS3, hKn3⟩ := u_known (C := RX4) (T := TX4) (N := 8) (n := 8) hts wk_X4 (hts (.instantiable RX4 8) (by decide +kernel))
  obtain ⟨c4, iS4, hKn4⟩ := u_known (C := RX5) (T := TX5) (N := 4) (n := 4) hts wk_X5 (hts (.instantiable RX5 4) (by decide +kernel))
  obtain ⟨c5, iS5, hKn5⟩ := u_known (C := RX6) (T := TX6) (N := 5) (n := 5) hts wk_X6 (hts (.instantiable RX6 5) (by decide +kernel))
  obtain ⟨c6, iS6, hKn6⟩ := u_known (C := RX7) (T := TX7) (N := 2) (n := 2) hts wk_X7 (hts (.instantiable RX7 2) (by decide +kernel))
  obtain ⟨c7, iS7, hKn7⟩ := u_known (C := RX8) (T := TX8) (N := 15) (n := 15) hts wk_X8 (hts (.instantiable RX8 15) (by decide +kernel))
  obtain ⟨c8, iS8, hKn8⟩ := u_known (C := RX9) (T := TX9) (N := 42) (n := 42) hts wk_X9 (hts (.instantiable RX9 42) (by decide +kernel))
  obtain ⟨dC, dI, hKc⟩ : ∃ (dC : Nat → ClassId) (dI : Nat → Nat → Nat), ∀ (k : Nat) (q : vw_C), vwCl[k]? = some q → u_Kn s q.1 q.2.1 q.2.2 (dC k) (dI k) := by
    refine ⟨fun k => if k = 0 then c0 else if k = 1 then c1 else if k = 2 then c2 else if k = 3 then c3 else if k = 4 then c4 else if k = 5 then c5 else if k = 6 then c6 else if k = 7 then c7 else c8, fun k => if k = 0 then iS0 else if k = 1 then iS1 else if k = 2 then iS2 else if k = 3 then iS3 else if k = 4 then iS4 else if k = 5 then iS5 else if k = 6 then iS6 else if k = 7 then iS7 else iS8, ?_⟩
    intro k q hq
    match k, hq with
    | 0, hq => cases hq; exact hKn0
    | 1, hq => cases hq; exact hKn1
    | 2, hq => cases hq; exact hKn2
    | 3, hq => cases hq; exact hKn3
    | 4, hq => cases hq; exact hKn4
    | 5, hq => cases hq; exact hKn5
    | 6, hq => cases hq; exact hKn6
    | 7, hq => cases hq; exact hKn7
    | 8, hq => cases hq; exact hKn8
    | k + 9, hq => simp [vwCl] at hq
  have hS : va_S (fun q : Nat => s.heap.size ≤ q) s.heap s.heap [] := va_S.rf
  have hK : va_K (dC, dI) vwCl [] s := ⟨hKc, fun k q h => by simp at h⟩
  have hP : va_P (dC, dI) vwCl [] s.heap := fun k q h => by simp at h
  have hD : va_D (fun q : Nat => s.heap.size ≤ q) [] := ⟨fun i j p q h => by simp at h, fun k q h => by simp at h⟩
  have hl := lv_entry ([.ref b]) (n := 4) (Nat.le_of_ble_eq_true rfl)
  rw [lg_entry_eq]
  generalize (lg_sl ([.ref b]) ++ List.replicate (4 - (lg_sl ([.ref b])).length) Slot.unset).toArray = ls at hl ⊢
  have hl : lv_has ls 4 [(0, .ref b)] := hl
  refine va_new (ci := 7) (fs := [.null, .int 0, .null, .int 0, .int 0, .null, .int 0, .null, .int 0, .null, .int 0, .int 0, .null, .int 0, .int 0]) (C := RX8) (T := TX8) (N := 15) hx hb hts inL_law_8 tyX8 tyX8_ok hown (hts (.classLink RL 7 RX8) (by decide +kernel)) (hts (.instantiable RX8 15) (by decide +kernel)) (hts (.initialized RX8) (by decide +kernel)) hK hP hD hS hA rfl df_X8 (Nat.le_of_ble_eq_true rfl) (Nat.le_of_ble_eq_true rfl) dL_law_0 (fun q1 H hP hD hS => ?_)
  have hP : va_P (dC, dI) vwCl [(q1, .inr (7, [.null, .int 0, .null, .int 0, .int 0, .null, .int 0, .null, .int 0, .null, .int 0, .int 0, .null, .int 0, .int 0]))] H := hP
  have hD : va_D (fun q : Nat => s.heap.size ≤ q) [(q1, .inr (7, [.null, .int 0, .null, .int 0, .int 0, .null, .int 0, .null, .int 0, .null, .int 0, .int 0, .null, .int 0, .int 0]))] := hD
  refine W.cs (cells' := 1) (slots' := 15) rfl rfl ?_
  refine lv_dup hx hb dL_law_3 rfl ?_
  refine clW (wr := []) [0] [] (va_runI (As := []) (rest := [.ref q1]) ⟨hx, hb, hml, hown, hts⟩ (c8_init l dC dI q1 _) (cwI 0 hts gL_law_X8_init rfl rfl rfl (hts (.initialized RX8) (by decide +kernel)) (hts (.methodLink RL 9 yX8_init) (by decide +kernel)) (hts (.instanceMethod yX8_init) (by decide +kernel)) rfl (by decide +kernel) ⟨Nat.le_of_ble_eq_true rfl, Nat.le_of_ble_eq_true rfl⟩) ⟨pz_blind, pz_of hP hK hD hN [0] [] rfl (by decide) rfl⟩ rfl rfl hl.1 rfl (lv_room (Nat.le_of_ble_eq_true rfl)) dL_law_4 ⟨Nat.le_of_ble_eq_true rfl, Nat.le_of_ble_eq_true rfl⟩) hS hP hD hK hA rfl rfl (by decide) (by decide) (fun v w1 ty1 H locs w2 hP hD hK hS => ?_)
  obtain ⟨rfl, qa, ca, rfl, rfl⟩ := w2
  refine W.eq (g2 := F0 m 7 ls [.ref q1]) rfl ?_
  have hP : va_P (dC, dI) vwCl [(q1, .inr (7, [.ref (qa 0), .int 1, .ref (qa 1), .int 0, .int 0, .ref (qa 2), .int 0, .ref (qa 3), .int 0, .ref (qa 4), .int 0, .int 0, .ref (qa 5), .int 0, .int 0])), ((qa 0), .inl ((ca 0), 16, .inr (.inr (.inr (.inr (va_up (fun _ => none) 0 (some (qa 6)))))))), ((qa 1), .inl ((ca 1), 40, .inr (.inr (.inr (.inr (fun _ => none)))))), ((qa 2), .inl ((ca 2), 60, .inr (.inr (.inr (.inr (fun _ => none)))))), ((qa 3), .inl ((ca 3), 124, .inr (.inr (.inr (.inr (fun _ => none)))))), ((qa 4), .inl ((ca 4), 3, .inr (.inr (.inr (.inr (va_up (va_up (va_up (fun _ => none) 0 (some (qa 7))) 1 (some (qa 8))) 2 (some (qa 9)))))))), ((qa 5), .inr (6, [.int 0, .long 0])), ((qa 6), .inr (0, [.int 0, .null, .int 0, .null, .int 0, .int 0, .int 1, .int 1, .int 0, .int 0, .int 0, .int 0])), ((qa 7), .inr (6, [.int 0, .long 0])), ((qa 8), .inr (6, [.int 0, .long 0])), ((qa 9), .inr (6, [.int 0, .long 0]))] H := hP
  have hD : va_D (fun q : Nat => s.heap.size ≤ q) [(q1, .inr (7, [.ref (qa 0), .int 1, .ref (qa 1), .int 0, .int 0, .ref (qa 2), .int 0, .ref (qa 3), .int 0, .ref (qa 4), .int 0, .int 0, .ref (qa 5), .int 0, .int 0])), ((qa 0), .inl ((ca 0), 16, .inr (.inr (.inr (.inr (va_up (fun _ => none) 0 (some (qa 6)))))))), ((qa 1), .inl ((ca 1), 40, .inr (.inr (.inr (.inr (fun _ => none)))))), ((qa 2), .inl ((ca 2), 60, .inr (.inr (.inr (.inr (fun _ => none)))))), ((qa 3), .inl ((ca 3), 124, .inr (.inr (.inr (.inr (fun _ => none)))))), ((qa 4), .inl ((ca 4), 3, .inr (.inr (.inr (.inr (va_up (va_up (va_up (fun _ => none) 0 (some (qa 7))) 1 (some (qa 8))) 2 (some (qa 9)))))))), ((qa 5), .inr (6, [.int 0, .long 0])), ((qa 6), .inr (0, [.int 0, .null, .int 0, .null, .int 0, .int 0, .int 1, .int 1, .int 0, .int 0, .int 0, .int 0])), ((qa 7), .inr (6, [.int 0, .long 0])), ((qa 8), .inr (6, [.int 0, .long 0])), ((qa 9), .inr (6, [.int 0, .long 0]))] := hD
  have hK : va_K (dC, dI) vwCl [((ca 0), .object "ReflectModels$ClassModel"), ((ca 1), .object "ReflectModels$Member"), ((ca 2), .object "ReflectModels$Handle"), ((ca 3), .object "ReflectModels$Thing"), ((ca 4), .object "ReflectModels$Value")] s := hK
  refine W.cs (cells' := 11) (slots' := 278) rfl rfl ?_
  refine lv_astore_n (lv' := [(1, .ref q1), (0, .ref b)]) hx hb dL_law_7 rfl hl (by decide) rfl (fun ls hl => ?_)
  refine va_new (ci := 8) (fs := [.int 0, .int 0, .null, .null, .null, .null, .null, .null, .null, .null, .int 0, .null, .null, .null, .null, .null, .null, .null, .null, .null, .null, .null, .null, .int 0, .int 0, .null, .null, .int 0, .null, .null, .null, .null, .null, .null, .int 0, .null, .null, .int 0, .long 0, .int 0, .int 0, .null]) (C := RX9) (T := TX9) (N := 42) hx hb hts inL_law_9 tyX9 tyX9_ok hown (hts (.classLink RL 10 RX9) (by decide +kernel)) (hts (.instantiable RX9 42) (by decide +kernel)) (hts (.initialized RX9) (by decide +kernel)) hK hP hD hS hA rfl df_X9 (Nat.le_of_ble_eq_true rfl) (Nat.le_of_ble_eq_true rfl) dL_law_8 (fun q3 H hP hD hS => ?_)
  have hP : va_P (dC, dI) vwCl [(q1, .inr (7, [.ref (qa 0), .int 1, .ref (qa 1), .int 0, .int 0, .ref (qa 2), .int 0, .ref (qa 3), .int 0, .ref (qa 4), .int 0, .int 0, .ref (qa 5), .int 0, .int 0])), ((qa 0), .inl ((ca 0), 16, .inr (.inr (.inr (.inr (va_up (fun _ => none) 0 (some (qa 6)))))))), ((qa 1), .inl ((ca 1), 40, .inr (.inr (.inr (.inr (fun _ => none)))))), ((qa 2), .inl ((ca 2), 60, .inr (.inr (.inr (.inr (fun _ => none)))))), ((qa 3), .inl ((ca 3), 124, .inr (.inr (.inr (.inr (fun _ => none)))))), ((qa 4), .inl ((ca 4), 3, .inr (.inr (.inr (.inr (va_up (va_up (va_up (fun _ => none) 0 (some (qa 7))) 1 (some (qa 8))) 2 (some (qa 9)))))))), ((qa 5), .inr (6, [.int 0, .long 0])), ((qa 6), .inr (0, [.int 0, .null, .int 0, .null, .int 0, .int 0, .int 1, .int 1, .int 0, .int 0, .int 0, .int 0])), ((qa 7), .inr (6, [.int 0, .long 0])), ((qa 8), .inr (6, [.int 0, .long 0])), ((qa 9), .inr (6, [.int 0, .long 0])), (q3, .inr (8, [.int 0, .int 0, .null, .null, .null, .null, .null, .null, .null, .null, .int 0, .null, .null, .null, .null, .null, .null, .null, .null, .null, .null, .null, .null, .int 0, .int 0, .null, .null, .int 0, .null, .null, .null, .null, .null, .null, .int 0, .null, .null, .int 0, .long 0, .int 0, .int 0, .null]))] H := hP
  have hD : va_D (fun q : Nat => s.heap.size ≤ q) [(q1, .inr (7, [.ref (qa 0), .int 1, .ref (qa 1), .int 0, .int 0, .ref (qa 2), .int 0, .ref (qa 3), .int 0, .ref (qa 4), .int 0, .int 0, .ref (qa 5), .int 0, .int 0])), ((qa 0), .inl ((ca 0), 16, .inr (.inr (.inr (.inr (va_up (fun _ => none) 0 (some (qa 6)))))))), ((qa 1), .inl ((ca 1), 40, .inr (.inr (.inr (.inr (fun _ => none)))))), ((qa 2), .inl ((ca 2), 60, .inr (.inr (.inr (.inr (fun _ => none)))))), ((qa 3), .inl ((ca 3), 124, .inr (.inr (.inr (.inr (fun _ => none)))))), ((qa 4), .inl ((ca 4), 3, .inr (.inr (.inr (.inr (va_up (va_up (va_up (fun _ => none) 0 (some (qa 7))) 1 (some (qa 8))) 2 (some (qa 9)))))))), ((qa 5), .inr (6, [.int 0, .long 0])), ((qa 6), .inr (0, [.int 0, .null, .int 0, .null, .int 0, .int 0, .int 1, .int 1, .int 0, .int 0, .int 0, .int 0])), ((qa 7), .inr (6, [.int 0, .long 0])), ((qa 8), .inr (6, [.int 0, .long 0])), ((qa 9), .inr (6, [.int 0, .long 0])), (q3, .inr (8, [.int 0, .int 0, .null, .null, .null, .null, .null, .null, .null, .null, .int 0, .null, .null, .null, .null, .null, .null, .null, .null, .null, .null, .null, .null, .int 0, .int 0, .null, .null, .int 0, .null, .null, .null, .null, .null, .null, .int 0, .null, .null, .int 0, .long 0, .int 0, .int 0, .null]))] := hD
  refine W.cs (cells' := 12) (slots' := 320) rfl rfl ?_
  refine lv_dup hx hb dL_law_11 rfl ?_
  refine clW (wr := [(q1, .inr (7, [.ref (qa 0), .int 1, .ref (qa 1), .int 0, .int 0, .ref (qa 2), .int 0, .ref (qa 3), .int 0, .ref (qa 4), .int 0, .int 0, .ref (qa 5), .int 0, .int 0])), ((qa 0), .inl ((ca 0), 16, .inr (.inr (.inr (.inr (va_up (fun _ => none) 0 (some (qa 6)))))))), ((qa 1), .inl ((ca 1), 40, .inr (.inr (.inr (.inr (fun _ => none)))))), ((qa 2), .inl ((ca 2), 60, .inr (.inr (.inr (.inr (fun _ => none)))))), ((qa 3), .inl ((ca 3), 124, .inr (.inr (.inr (.inr (fun _ => none)))))), ((qa 4), .inl ((ca 4), 3, .inr (.inr (.inr (.inr (va_up (va_up (va_up (fun _ => none) 0 (some (qa 7))) 1 (some (qa 8))) 2 (some (qa 9)))))))), ((qa 5), .inr (6, [.int 0, .long 0])), ((qa 6), .inr (0, [.int 0, .null, .int 0, .null, .int 0, .int 0, .int 1, .int 1, .int 0, .int 0, .int 0, .int 0])), ((qa 7), .inr (6, [.int 0, .long 0])), ((qa 8), .inr (6, [.int 0, .long 0])), ((qa 9), .inr (6, [.int 0, .long 0]))]) [11] [0, 1, 2, 3, 4, 5, 6, 7, 8, 9, 10] (va_runI (As := []) (rest := [.ref q3]) ⟨hx, hb, hml, hown, hts⟩ (c9_init l dC dI q3 _) (cwI 0 hts gL_law_X9_init rfl rfl rfl (hts (.initialized RX9) (by decide +kernel)) (hts (.methodLink RL 12 yX9_init) (by decide +kernel)) (hts (.instanceMethod yX9_init) (by decide +kernel)) rfl (by decide +kernel) ⟨Nat.le_of_ble_eq_true rfl, Nat.le_of_ble_eq_true rfl⟩) ⟨pz_blind, pz_of hP hK hD hN [11] [] rfl (by decide) rfl⟩ rfl rfl hl.1 rfl (lv_room (Nat.le_of_ble_eq_true rfl)) dL_law_12 ⟨Nat.le_of_ble_eq_true rfl, Nat.le_of_ble_eq_true rfl⟩) hS hP hD hK hA rfl rfl (by decide) (by decide) (fun v w1 ty1 H locs w4 hP hD hK hS => ?_)
  obtain ⟨rfl, qb, cb, rfl, rfl⟩ := w4
  refine W.eq (g2 := F0 m 15 ls [.ref q3]) rfl ?_
  have hP : va_P (dC, dI) vwCl [(q1, .inr (7, [.ref (qa 0), .int 1, .ref (qa 1), .int 0, .int 0, .ref (qa 2), .int 0, .ref (qa 3), .int 0, .ref (qa 4), .int 0, .int 0, .ref (qa 5), .int 0, .int 0])), ((qa 0), .inl ((ca 0), 16, .inr (.inr (.inr (.inr (va_up (fun _ => none) 0 (some (qa 6)))))))), ((qa 1), .inl ((ca 1), 40, .inr (.inr (.inr (.inr (fun _ => none)))))), ((qa 2), .inl ((ca 2), 60, .inr (.inr (.inr (.inr (fun _ => none)))))), ((qa 3), .inl ((ca 3), 124, .inr (.inr (.inr (.inr (fun _ => none)))))), ((qa 4), .inl ((ca 4), 3, .inr (.inr (.inr (.inr (va_up (va_up (va_up (fun _ => none) 0 (some (qa 7))) 1 (some (qa 8))) 2 (some (qa 9)))))))), ((qa 5), .inr (6, [.int 0, .long 0])), ((qa 6), .inr (0, [.int 0, .null, .int 0, .null, .int 0, .int 0, .int 1, .int 1, .int 0, .int 0, .int 0, .int 0])), ((qa 7), .inr (6, [.int 0, .long 0])), ((qa 8), .inr (6, [.int 0, .long 0])), ((qa 9), .inr (6, [.int 0, .long 0])), (q3, .inr (8, [.int 0, .int 1, .ref (qb 0), .ref (qb 1), .ref (qb 2), .ref (qb 3), .ref (qb 4), .ref (qb 5), .ref (qb 6), .ref (qb 7), .int 0, .ref (qb 8), .ref (qb 9), .ref (qb 10), .ref (qb 11), .ref (qb 12), .ref (qb 13), .ref (qb 14), .ref (qb 15), .ref (qb 16), .ref (qb 17), .ref (qb 18), .ref (qb 19), .int 0, .int 0, .ref (qb 20), .ref (qb 21), .int 0, .ref (qb 22), .ref (qb 23), .ref (qb 24), .ref (qb 25), .ref (qb 26), .ref (qb 27), .int 0, .ref (qb 28), .ref (qb 29), .int 0, .long 0, .int 0, .int 0, .ref (qb 30)])), ((qb 0), .inl ((cb 0), 16, .inl (upd (fun _ => 0) 0 (-1)))), ((qb 1), .inl ((cb 1), 16, .inl (fun _ => 0))), ((qb 2), .inl ((cb 2), 16, .inl (upd (fun _ => 0) 0 (-1)))), ((qb 3), .inl ((cb 3), 16, .inl (fun _ => 0))), ((qb 4), .inl ((cb 4), 16, .inl (fun _ => 0))), ((qb 5), .inl ((cb 5), 16, .inl (fun _ => 0))), ((qb 6), .inl ((cb 6), 16, .inl (fun _ => 0))), ((qb 7), .inl ((cb 7), 16, .inl (fun _ => 0))), ((qb 8), .inl ((cb 8), 40, .inl (fun _ => 0))), ((qb 9), .inl ((cb 9), 40, .inl (fun _ => 0))), ((qb 10), .inl ((cb 10), 40, .inl (fun _ => 0))), ((qb 11), .inl ((cb 11), 40, .inl (fun _ => 0))), ((qb 12), .inl ((cb 12), 40, .inl (fun _ => 0))), ((qb 13), .inl ((cb 13), 80, .inl (fun _ => 0))), ((qb 14), .inl ((cb 14), 40, .inl (fun _ => 0))), ((qb 15), .inl ((cb 15), 40, .inl (fun _ => 0))), ((qb 16), .inl ((cb 16), 40, .inl (fun _ => 0))), ((qb 17), .inl ((cb 17), 40, .inl (fun _ => 0))), ((qb 18), .inl ((cb 18), 40, .inl (fun _ => 0))), ((qb 19), .inl ((cb 19), 40, .inl (fun _ => 0))), ((qb 20), .inl ((cb 20), 60, .inl (fun _ => 0))), ((qb 21), .inl ((cb 21), 60, .inl (fun _ => 0))), ((qb 22), .inl ((cb 22), 130, .inl (fun _ => 0))), ((qb 23), .inl ((cb 23), 130, .inl (fun _ => 0))), ((qb 24), .inl ((cb 24), 130, .inl (fun _ => 0))), ((qb 25), .inl ((cb 25), 130, .inl (fun _ => 0))), ((qb 26), .inl ((cb 26), 5240, .inl (fun _ => 0))), ((qb 27), .inl ((cb 27), 5240, .inr (.inl (fun _ => 0)))), ((qb 28), .inl ((cb 28), 3, .inl (fun _ => 0))), ((qb 29), .inl ((cb 29), 3, .inr (.inl (fun _ => 0)))), ((qb 30), .inl ((cb 30), 16, .inl (fun _ => 0)))] H := hP
  have hD : va_D (fun q : Nat => s.heap.size ≤ q) [(q1, .inr (7, [.ref (qa 0), .int 1, .ref (qa 1), .int 0, .int 0, .ref (qa 2), .int 0, .ref (qa 3), .int 0, .ref (qa 4), .int 0, .int 0, .ref (qa 5), .int 0, .int 0])), ((qa 0), .inl ((ca 0), 16, .inr (.inr (.inr (.inr (va_up (fun _ => none) 0 (some (qa 6)))))))), ((qa 1), .inl ((ca 1), 40, .inr (.inr (.inr (.inr (fun _ => none)))))), ((qa 2), .inl ((ca 2), 60, .inr (.inr (.inr (.inr (fun _ => none)))))), ((qa 3), .inl ((ca 3), 124, .inr (.inr (.inr (.inr (fun _ => none)))))), ((qa 4), .inl ((ca 4), 3, .inr (.inr (.inr (.inr (va_up (va_up (va_up (fun _ => none) 0 (some (qa 7))) 1 (some (qa 8))) 2 (some (qa 9)))))))), ((qa 5), .inr (6, [.int 0, .long 0])), ((qa 6), .inr (0, [.int 0, .null, .int 0, .null, .int 0, .int 0, .int 1, .int 1, .int 0, .int 0, .int 0, .int 0])), ((qa 7), .inr (6, [.int 0, .long 0])), ((qa 8), .inr (6, [.int 0, .long 0])), ((qa 9), .inr (6, [.int 0, .long 0])), (q3, .inr (8, [.int 0, .int 1, .ref (qb 0), .ref (qb 1), .ref (qb 2), .ref (qb 3), .ref (qb 4), .ref (qb 5), .ref (qb 6), .ref (qb 7), .int 0, .ref (qb 8), .ref (qb 9), .ref (qb 10), .ref (qb 11), .ref (qb 12), .ref (qb 13), .ref (qb 14), .ref (qb 15), .ref (qb 16), .ref (qb 17), .ref (qb 18), .ref (qb 19), .int 0, .int 0, .ref (qb 20), .ref (qb 21), .int 0, .ref (qb 22), .ref (qb 23), .ref (qb 24), .ref (qb 25), .ref (qb 26), .ref (qb 27), .int 0, .ref (qb 28), .ref (qb 29), .int 0, .long 0, .int 0, .int 0, .ref (qb 30)])), ((qb 0), .inl ((cb 0), 16, .inl (upd (fun _ => 0) 0 (-1)))), ((qb 1), .inl ((cb 1), 16, .inl (fun _ => 0))), ((qb 2), .inl ((cb 2), 16, .inl (upd (fun _ => 0) 0 (-1)))), ((qb 3), .inl ((cb 3), 16, .inl (fun _ => 0))), ((qb 4), .inl ((cb 4), 16, .inl (fun _ => 0))), ((qb 5), .inl ((cb 5), 16, .inl (fun _ => 0))), ((qb 6), .inl ((cb 6), 16, .inl (fun _ => 0))), ((qb 7), .inl ((cb 7), 16, .inl (fun _ => 0))), ((qb 8), .inl ((cb 8), 40, .inl (fun _ => 0))), ((qb 9), .inl ((cb 9), 40, .inl (fun _ => 0))), ((qb 10), .inl ((cb 10), 40, .inl (fun _ => 0))), ((qb 11), .inl ((cb 11), 40, .inl (fun _ => 0))), ((qb 12), .inl ((cb 12), 40, .inl (fun _ => 0))), ((qb 13), .inl ((cb 13), 80, .inl (fun _ => 0))), ((qb 14), .inl ((cb 14), 40, .inl (fun _ => 0))), ((qb 15), .inl ((cb 15), 40, .inl (fun _ => 0))), ((qb 16), .inl ((cb 16), 40, .inl (fun _ => 0))), ((qb 17), .inl ((cb 17), 40, .inl (fun _ => 0))), ((qb 18), .inl ((cb 18), 40, .inl (fun _ => 0))), ((qb 19), .inl ((cb 19), 40, .inl (fun _ => 0))), ((qb 20), .inl ((cb 20), 60, .inl (fun _ => 0))), ((qb 21), .inl ((cb 21), 60, .inl (fun _ => 0))), ((qb 22), .inl ((cb 22), 130, .inl (fun _ => 0))), ((qb 23), .inl ((cb 23), 130, .inl (fun _ => 0))), ((qb 24), .inl ((cb 24), 130, .inl (fun _ => 0))), ((qb 25), .inl ((cb 25), 130, .inl (fun _ => 0))), ((qb 26), .inl ((cb 26), 5240, .inl (fun _ => 0))), ((qb 27), .inl ((cb 27), 5240, .inr (.inl (fun _ => 0)))), ((qb 28), .inl ((cb 28), 3, .inl (fun _ => 0))), ((qb 29), .inl ((cb 29), 3, .inr (.inl (fun _ => 0)))), ((qb 30), .inl ((cb 30), 16, .inl (fun _ => 0)))] := hD
  have hK : va_K (dC, dI) vwCl [((ca 0), .object "ReflectModels$ClassModel"), ((ca 1), .object "ReflectModels$Member"), ((ca 2), .object "ReflectModels$Handle"), ((ca 3), .object "ReflectModels$Thing"), ((ca 4), .object "ReflectModels$Value"), ((cb 0), .int), ((cb 1), .int), ((cb 2), .int), ((cb 3), .boolean), ((cb 4), .boolean), ((cb 5), .int), ((cb 6), .int), ((cb 7), .int), ((cb 8), .int), ((cb 9), .boolean), ((cb 10), .int), ((cb 11), .int), ((cb 12), .int), ((cb 13), .int), ((cb 14), .boolean), ((cb 15), .boolean), ((cb 16), .boolean), ((cb 17), .boolean), ((cb 18), .int), ((cb 19), .int), ((cb 20), .int), ((cb 21), .boolean), ((cb 22), .int), ((cb 23), .int), ((cb 24), .int), ((cb 25), .int), ((cb 26), .int), ((cb 27), .long), ((cb 28), .int), ((cb 29), .long), ((cb 30), .int)] s := hK
  refine W.cs (cells' := 43) (slots' := 12110) rfl rfl ?_
  refine lv_astore_n (lv' := [(2, .ref q3), (1, .ref q1), (0, .ref b)]) hx hb dL_law_15 rfl hl (by decide) rfl (fun ls hl => ?_)
  refine lv_iconst (v := 0) hx hb dL_law_16 (by decide) ?_
  refine lv_istore_n (lv' := [(3, .int 0), (2, .ref q3), (1, .ref q1), (0, .ref b)]) hx hb dL_law_17 rfl hl (by decide) rfl (fun ls hl => ?_)
  refine lv_iload_n hx hb dL_law_18 rfl (lv_at hl 0 rfl) ?_
  refine lv_aload_n hx hb dL_law_19 rfl (lv_at hl 3 rfl) ?_
  refine va_slen hx hb hX hbl hbA hS dL_law_20 ?_
  rcases (show L = 0 ∨ L = 1 ∨ L = 2 ∨ L = 3 ∨ L = 4 ∨ L = 5 ∨ L = 6 ∨ L = 7 ∨ L = 8 ∨ L = 9 ∨ L = 10 by omega) with rfl | rfl | rfl | rfl | rfl | rfl | rfl | rfl | rfl | rfl | rfl
  · refine W.eq (g2 := F0 m 21 ls [.int 0, .int 0]) rfl ?_
    refine lv_bipush (v := 10) hx hb dL_law_21 (by decide) ?_
    refine lv_isub hx hb dL_law_23 ?_
    refine lv_topi (fun y5 ey5 => ?_)
    obtain rfl : y5 = (-10) := ey5.trans (by decide)
    refine lv_icmp_gt (tgt := 1160) hx hb dL_law_24 (by decide) (fun _ => ?_) (fun h => absurd (by decide) h)
    refine lv_iconst (v := 1) hx hb dL_law_1160 (by decide) ?_
    refine va_forget (fun z hz => hS.2.2 z hz) ?_
    refine W.widen (k := 600000) (n := 7302250) (by omega) (by omega) ?_
    exact lw_ret hx hb hr hlocks dL_law_1161
  · refine W.eq (g2 := F0 m 21 ls [.int 1, .int 0]) rfl ?_
    refine lv_bipush (v := 10) hx hb dL_law_21 (by decide) ?_
    refine lv_isub hx hb dL_law_23 ?_
    refine lv_topi (fun y6 ey6 => ?_)
    obtain rfl : y6 = (-9) := ey6.trans (by decide)
    refine lv_icmp_gt (tgt := 1160) hx hb dL_law_24 (by decide) (fun _ => ?_) (fun h => absurd (by decide) h)
    refine lv_iconst (v := 1) hx hb dL_law_1160 (by decide) ?_
    refine va_forget (fun z hz => hS.2.2 z hz) ?_
    refine W.widen (k := 600000) (n := 7302250) (by omega) (by omega) ?_
    exact lw_ret hx hb hr hlocks dL_law_1161
  · refine W.eq (g2 := F0 m 21 ls [.int 2, .int 0]) rfl ?_
    refine lv_bipush (v := 10) hx hb dL_law_21 (by decide) ?_
    refine lv_isub hx hb dL_law_23 ?_
    refine lv_topi (fun y7 ey7 => ?_)
    obtain rfl : y7 = (-8) := ey7.trans (by decide)
    refine lv_icmp_gt (tgt := 1160) hx hb dL_law_24 (by decide) (fun _ => ?_) (fun h => absurd (by decide) h)
    refine lv_iconst (v := 1) hx hb dL_law_1160 (by decide) ?_
    refine va_forget (fun z hz => hS.2.2 z hz) ?_
    refine W.widen (k := 600000) (n := 7302250) (by omega) (by omega) ?_
    exact lw_ret hx hb hr hlocks dL_law_1161
  · refine W.eq (g2 := F0 m 21 ls [.int 3, .int 0]) rfl ?_
    refine lv_bipush (v := 10) hx hb dL_law_21 (by decide) ?_
    refine lv_isub hx hb dL_law_23 ?_
    refine lv_topi (fun y8 ey8 => ?_)
    obtain rfl : y8 = (-7) := ey8.trans (by decide)
    refine lv_icmp_gt (tgt := 1160) hx hb dL_law_24 (by decide) (fun _ => ?_) (fun h => absurd (by decide) h)
    refine lv_iconst (v := 1) hx hb dL_law_1160 (by decide) ?_
    refine va_forget (fun z hz => hS.2.2 z hz) ?_
    refine W.widen (k := 600000) (n := 7302250) (by omega) (by omega) ?_
    exact lw_ret hx hb hr hlocks dL_law_1161
  · refine W.eq (g2 := F0 m 21 ls [.int 4, .int 0]) rfl ?_
    refine lv_bipush (v := 10) hx hb dL_law_21 (by decide) ?_
    refine lv_isub hx hb dL_law_23 ?_
    refine lv_topi (fun y9 ey9 => ?_)
    obtain rfl : y9 = (-6) := ey9.trans (by decide)
    refine lv_icmp_gt (tgt := 1160) hx hb dL_law_24 (by decide) (fun _ => ?_) (fun h => absurd (by decide) h)
    refine lv_iconst (v := 1) hx hb dL_law_1160 (by decide) ?_
    refine va_forget (fun z hz => hS.2.2 z hz) ?_
    refine W.widen (k := 600000) (n := 7302250) (by omega) (by omega) ?_
    exact lw_ret hx hb hr hlocks dL_law_1161
  · refine W.eq (g2 := F0 m 21 ls [.int 5, .int 0]) rfl ?_
    refine lv_bipush (v := 10) hx hb dL_law_21 (by decide) ?_
    refine lv_isub hx hb dL_law_23 ?_
    refine lv_topi (fun y10 ey10 => ?_)
    obtain rfl : y10 = (-5) := ey10.trans (by decide)
    refine lv_icmp_gt (tgt := 1160) hx hb dL_law_24 (by decide) (fun _ => ?_) (fun h => absurd (by decide) h)
    refine lv_iconst (v := 1) hx hb dL_law_1160 (by decide) ?_
    refine va_forget (fun z hz => hS.2.2 z hz) ?_
    refine W.widen (k := 600000) (n := 7302250) (by omega) (by omega) ?_
    exact lw_ret hx hb hr hlocks dL_law_1161
  · refine W.eq (g2 := F0 m 21 ls [.int 6, .int 0]) rfl ?_
    refine lv_bipush (v := 10) hx hb dL_law_21 (by decide) ?_
    refine lv_isub hx hb dL_law_23 ?_
    refine lv_topi (fun y11 ey11 => ?_)
    obtain rfl : y11 = (-4) := ey11.trans (by decide)
    refine lv_icmp_gt (tgt := 1160) hx hb dL_law_24 (by decide) (fun _ => ?_) (fun h => absurd (by decide) h)
    refine lv_iconst (v := 1) hx hb dL_law_1160 (by decide) ?_
    refine va_forget (fun z hz => hS.2.2 z hz) ?_
    refine W.widen (k := 600000) (n := 7302250) (by omega) (by omega) ?_
    exact lw_ret hx hb hr hlocks dL_law_1161
  · refine W.eq (g2 := F0 m 21 ls [.int 7, .int 0]) rfl ?_
    refine lv_bipush (v := 10) hx hb dL_law_21 (by decide) ?_
    refine lv_isub hx hb dL_law_23 ?_
    refine lv_topi (fun y12 ey12 => ?_)
    obtain rfl : y12 = (-3) := ey12.trans (by decide)
    refine lv_icmp_gt (tgt := 1160) hx hb dL_law_24 (by decide) (fun _ => ?_) (fun h => absurd (by decide) h)
    refine lv_iconst (v := 1) hx hb dL_law_1160 (by decide) ?_
    refine va_forget (fun z hz => hS.2.2 z hz) ?_
    refine W.widen (k := 600000) (n := 7302250) (by omega) (by omega) ?_
    exact lw_ret hx hb hr hlocks dL_law_1161
  · refine W.eq (g2 := F0 m 21 ls [.int 8, .int 0]) rfl ?_
    refine lv_bipush (v := 10) hx hb dL_law_21 (by decide) ?_
    refine lv_isub hx hb dL_law_23 ?_
    refine lv_topi (fun y13 ey13 => ?_)
    obtain rfl : y13 = (-2) := ey13.trans (by decide)
    refine lv_icmp_gt (tgt := 1160) hx hb dL_law_24 (by decide) (fun _ => ?_) (fun h => absurd (by decide) h)
    refine lv_iconst (v := 1) hx hb dL_law_1160 (by decide) ?_
    refine va_forget (fun z hz => hS.2.2 z hz) ?_
    refine W.widen (k := 600000) (n := 7302250) (by omega) (by omega) ?_
    exact lw_ret hx hb hr hlocks dL_law_1161
  · refine W.eq (g2 := F0 m 21 ls [.int 9, .int 0]) rfl ?_
    refine lv_bipush (v := 10) hx hb dL_law_21 (by decide) ?_
    refine lv_isub hx hb dL_law_23 ?_
    refine lv_topi (fun y14 ey14 => ?_)
    obtain rfl : y14 = (-1) := ey14.trans (by decide)
    refine lv_icmp_gt (tgt := 1160) hx hb dL_law_24 (by decide) (fun _ => ?_) (fun h => absurd (by decide) h)
    refine lv_iconst (v := 1) hx hb dL_law_1160 (by decide) ?_
    refine va_forget (fun z hz => hS.2.2 z hz) ?_
    refine W.widen (k := 600000) (n := 7302250) (by omega) (by omega) ?_
    exact lw_ret hx hb hr hlocks dL_law_1161
  · refine W.eq (g2 := F0 m 21 ls [.int 10, .int 0]) rfl ?_
    refine lv_bipush (v := 10) hx hb dL_law_21 (by decide) ?_
    refine lv_isub hx hb dL_law_23 ?_
    refine lv_topi (fun y15 ey15 => ?_)
    obtain rfl : y15 = 0 := ey15.trans (by decide)
    refine lv_icmp_gt (tgt := 1160) hx hb dL_law_24 (by decide) (fun h => absurd h (by decide)) (fun _ => ?_)
    refine lv_aload_n hx hb dL_law_27 rfl (lv_at hl 3 rfl) ?_
    refine lv_iload_n hx hb dL_law_28 rfl (lv_at hl 0 rfl) ?_
    refine va_sld hx hb hX hbl hbA hS (vp_in_iff.mpr ⟨by decide, by decide⟩) dL_law_29 ?_
    refine W.eq (g2 := F0 m 30 ls [.int (xs 0)]) rfl ?_
    refine lv_bipush (v := 31) hx hb dL_law_30 (by decide) ?_
    refine lv_iand hx hb dL_law_32 ?_
    refine lv_topi (fun y16 ey16 => ?_)
    by_cases h17 : y16.toInt < 0 ∨ 22 < y16.toInt
    · refine lv_tableOut (tgt := 1154) hx hb dL_law_33 h17 (by decide) ?_
      refine lv_iinc (v := 10) (lv' := [(3, .int 10), (2, .ref q3), (1, .ref q1), (0, .ref b)]) hx hb dL_law_1154 hl (k := 0) rfl (by decide) (by decide) rfl (fun ls hl => ?_)
      refine lv_goto (tgt := 18) hx hb dL_law_1157 (by decide) ?_
      refine lv_iload_n hx hb dL_law_18 rfl (lv_at hl 0 rfl) ?_
      refine lv_aload_n hx hb dL_law_19 rfl (lv_at hl 3 rfl) ?_
      refine va_slen hx hb hX hbl hbA hS dL_law_20 ?_
      refine W.eq (g2 := F0 m 21 ls [.int 10, .int 10]) rfl ?_
      refine lv_bipush (v := 10) hx hb dL_law_21 (by decide) ?_
      refine lv_isub hx hb dL_law_23 ?_
      refine lv_topi (fun y18 ey18 => ?_)
      obtain rfl : y18 = 0 := ey18.trans (by decide)
      refine lv_icmp_gt (tgt := 1160) hx hb dL_law_24 (by decide) (fun _ => ?_) (fun h => absurd (by decide) h)
      refine lv_iconst (v := 1) hx hb dL_law_1160 (by decide) ?_
      refine va_forget (fun z hz => hS.2.2 z hz) ?_
      refine W.widen (k := 600000) (n := 7302250) (by omega) (by omega) ?_
      exact lw_ret hx hb hr hlocks dL_law_1161
    · have gh17 : y16 = 0 ∨ y16 = 1 ∨ y16 = 2 ∨ y16 = 3 ∨ y16 = 4 ∨ y16 = 5 ∨ y16 = 6 ∨ y16 = 7 ∨ y16 = 8 ∨ y16 = 9 ∨ y16 = 10 ∨ y16 = 11 ∨ y16 = 12 ∨ y16 = 13 ∨ y16 = 14 ∨ y16 = 15 ∨ y16 = 16 ∨ y16 = 17 ∨ y16 = 18 ∨ y16 = 19 ∨ y16 = 20 ∨ y16 = 21 ∨ y16 = 22 := tw_0_22 (by omega) (by omega)
      rcases gh17 with rfl | rfl | rfl | rfl | rfl | rfl | rfl | rfl | rfl | rfl | rfl | rfl | rfl | rfl | rfl | rfl | rfl | rfl | rfl | rfl | rfl | rfl | rfl
      · refine lv_tableIn (tgt := 140) (off := 107) hx hb dL_law_33 (by decide) (by decide) (by decide) (by decide) ?_
        refine lv_aload_n hx hb dL_law_140 rfl (lv_at hl 2 rfl) ?_
        refine lv_aload_n hx hb dL_law_141 rfl (lv_at hl 3 rfl) ?_
        refine lv_iload_n hx hb dL_law_142 rfl (lv_at hl 0 rfl) ?_
        refine lv_iconst (v := 1) hx hb dL_law_143 (by decide) ?_
        refine lv_iadd hx hb dL_law_144 ?_
        refine lv_topi (fun y19 ey19 => ?_)
        obtain rfl : y19 = 1 := ey19.trans (by decide)
        refine va_sld hx hb hX hbl hbA hS (vp_in_iff.mpr ⟨by decide, by decide⟩) dL_law_145 ?_
        refine W.eq (g2 := F0 m 146 ls [.int (xs 1), .ref q1]) rfl ?_
        refine lv_aload_n hx hb dL_law_146 rfl (lv_at hl 3 rfl) ?_
        refine lv_iload_n hx hb dL_law_147 rfl (lv_at hl 0 rfl) ?_
        refine lv_iconst (v := 2) hx hb dL_law_148 (by decide) ?_
        refine lv_iadd hx hb dL_law_149 ?_
        refine lv_topi (fun y20 ey20 => ?_)
        obtain rfl : y20 = 2 := ey20.trans (by decide)
        refine va_sld hx hb hX hbl hbA hS (vp_in_iff.mpr ⟨by decide, by decide⟩) dL_law_150 ?_
        refine W.eq (g2 := F0 m 151 ls [.int (xs 2), .int (xs 1), .ref q1]) rfl ?_
        refine lv_aload_n hx hb dL_law_151 rfl (lv_at hl 3 rfl) ?_
        refine lv_iload_n hx hb dL_law_152 rfl (lv_at hl 0 rfl) ?_
        refine lv_iconst (v := 3) hx hb dL_law_153 (by decide) ?_
        refine lv_iadd hx hb dL_law_154 ?_
        refine lv_topi (fun y21 ey21 => ?_)
        obtain rfl : y21 = 3 := ey21.trans (by decide)
        refine va_sld hx hb hX hbl hbA hS (vp_in_iff.mpr ⟨by decide, by decide⟩) dL_law_155 ?_
        refine W.eq (g2 := F0 m 156 ls [.int (xs 3), .int (xs 2), .int (xs 1), .ref q1]) rfl ?_
        refine lv_aload_n hx hb dL_law_156 rfl (lv_at hl 3 rfl) ?_
        refine lv_iload_n hx hb dL_law_157 rfl (lv_at hl 0 rfl) ?_
        refine lv_iconst (v := 4) hx hb dL_law_158 (by decide) ?_
        refine lv_iadd hx hb dL_law_159 ?_
        refine lv_topi (fun y22 ey22 => ?_)
        obtain rfl : y22 = 4 := ey22.trans (by decide)
        refine va_sld hx hb hX hbl hbA hS (vp_in_iff.mpr ⟨by decide, by decide⟩) dL_law_160 ?_
        refine W.eq (g2 := F0 m 161 ls [.int (xs 4), .int (xs 3), .int (xs 2), .int (xs 1), .ref q1]) rfl ?_
        refine lw_b hx hb dL_law_161 dL_law_164 dL_law_165 dL_law_168 ?_
        refine lv_aload_n hx hb dL_law_169 rfl (lv_at hl 3 rfl) ?_
        refine lv_iload_n hx hb dL_law_170 rfl (lv_at hl 0 rfl) ?_
        refine lv_iconst (v := 5) hx hb dL_law_171 (by decide) ?_
        refine lv_iadd hx hb dL_law_172 ?_
        refine lv_topi (fun y23 ey23 => ?_)
        obtain rfl : y23 = 5 := ey23.trans (by decide)
        refine va_sld hx hb hX hbl hbA hS (vp_in_iff.mpr ⟨by decide, by decide⟩) dL_law_173 ?_
        refine W.eq (g2 := F0 m 174 ls [.int (xs 5), .int (bz (xs 4)), .int (xs 3), .int (xs 2), .int (xs 1), .ref q1]) rfl ?_
        refine lw_b hx hb dL_law_174 dL_law_177 dL_law_178 dL_law_181 ?_
        refine clW (wr := [(q3, .inr (8, [.int 0, .int 1, .ref (qb 0), .ref (qb 1), .ref (qb 2), .ref (qb 3), .ref (qb 4), .ref (qb 5), .ref (qb 6), .ref (qb 7), .int 0, .ref (qb 8), .ref (qb 9), .ref (qb 10), .ref (qb 11), .ref (qb 12), .ref (qb 13), .ref (qb 14), .ref (qb 15), .ref (qb 16), .ref (qb 17), .ref (qb 18), .ref (qb 19), .int 0, .int 0, .ref (qb 20), .ref (qb 21), .int 0, .ref (qb 22), .ref (qb 23), .ref (qb 24), .ref (qb 25), .ref (qb 26), .ref (qb 27), .int 0, .ref (qb 28), .ref (qb 29), .int 0, .long 0, .int 0, .int 0, .ref (qb 30)])), ((qb 0), .inl ((cb 0), 16, .inl (upd (fun _ => 0) 0 (-1)))), ((qb 1), .inl ((cb 1), 16, .inl (fun _ => 0))), ((qb 2), .inl ((cb 2), 16, .inl (upd (fun _ => 0) 0 (-1)))), ((qb 3), .inl ((cb 3), 16, .inl (fun _ => 0))), ((qb 4), .inl ((cb 4), 16, .inl (fun _ => 0))), ((qb 5), .inl ((cb 5), 16, .inl (fun _ => 0))), ((qb 6), .inl ((cb 6), 16, .inl (fun _ => 0))), ((qb 7), .inl ((cb 7), 16, .inl (fun _ => 0))), ((qb 8), .inl ((cb 8), 40, .inl (fun _ => 0))), ((qb 9), .inl ((cb 9), 40, .inl (fun _ => 0))), ((qb 10), .inl ((cb 10), 40, .inl (fun _ => 0))), ((qb 11), .inl ((cb 11), 40, .inl (fun _ => 0))), ((qb 12), .inl ((cb 12), 40, .inl (fun _ => 0))), ((qb 13), .inl ((cb 13), 80, .inl (fun _ => 0))), ((qb 14), .inl ((cb 14), 40, .inl (fun _ => 0))), ((qb 15), .inl ((cb 15), 40, .inl (fun _ => 0))), ((qb 16), .inl ((cb 16), 40, .inl (fun _ => 0))), ((qb 17), .inl ((cb 17), 40, .inl (fun _ => 0))), ((qb 18), .inl ((cb 18), 40, .inl (fun _ => 0))), ((qb 19), .inl ((cb 19), 40, .inl (fun _ => 0))), ((qb 20), .inl ((cb 20), 60, .inl (fun _ => 0))), ((qb 21), .inl ((cb 21), 60, .inl (fun _ => 0))), ((qb 22), .inl ((cb 22), 130, .inl (fun _ => 0))), ((qb 23), .inl ((cb 23), 130, .inl (fun _ => 0))), ((qb 24), .inl ((cb 24), 130, .inl (fun _ => 0))), ((qb 25), .inl ((cb 25), 130, .inl (fun _ => 0))), ((qb 26), .inl ((cb 26), 5240, .inl (fun _ => 0))), ((qb 27), .inl ((cb 27), 5240, .inr (.inl (fun _ => 0)))), ((qb 28), .inl ((cb 28), 3, .inl (fun _ => 0))), ((qb 29), .inl ((cb 29), 3, .inr (.inl (fun _ => 0)))), ((qb 30), .inl ((cb 30), 16, .inl (fun _ => 0)))]) [0, 1, 2, 3, 4, 5, 6, 7, 8, 9, 10] [11, 12, 13, 14, 15, 16, 17, 18, 19, 20, 21, 22, 23, 24, 25, 26, 27, 28, 29, 30, 31, 32, 33, 34, 35, 36, 37, 38, 39, 40, 41, 42] (va_runV (As := [.int (xs 1), .int (xs 2), .int (xs 3), .int (bz (xs 4)), .int (bz (xs 5))]) (rest := []) ⟨hx, hb, hml, hown, hts⟩ (c8_type l dC dI q1 qa ca (xs 1) (xs 2) (xs 3) (bz (xs 4)) (bz (xs 5)) _ (bz_01 _) (bz_01 _)) (cwV 5 hts gL_law_X8_type rfl rfl rfl (by decide +kernel) ⟨Nat.le_of_ble_eq_true rfl, Nat.le_of_ble_eq_true rfl⟩) ⟨pz_blind, va_recv hK hP (ci := 7) (q0 := 0) rfl rfl, pz_of hP hK hD hN [0, 1, 2, 3, 4, 5, 6, 7, 8, 9, 10] [0, 1, 2, 3, 4] rfl (by decide) rfl⟩ rfl rfl hl.1 rfl (lv_room (Nat.le_of_ble_eq_true rfl)) dL_law_182 ⟨Nat.le_of_ble_eq_true rfl, Nat.le_of_ble_eq_true rfl⟩) hS hP hD hK hA rfl rfl (by decide) (by decide) (fun v w1 ty1 H locs w24 hP hD hK hS => ?_)
        obtain ⟨rfl, rfl, rfl⟩ := w24
        refine W.eq (g2 := F0 m 185 ls [.int (an_type (xs 1).toInt (xs 2).toInt (xs 3).toInt)]) rfl ?_
        have hP : va_P (dC, dI) vwCl [(q3, .inr (8, [.int 0, .int 1, .ref (qb 0), .ref (qb 1), .ref (qb 2), .ref (qb 3), .ref (qb 4), .ref (qb 5), .ref (qb 6), .ref (qb 7), .int 0, .ref (qb 8), .ref (qb 9), .ref (qb 10), .ref (qb 11), .ref (qb 12), .ref (qb 13), .ref (qb 14), .ref (qb 15), .ref (qb 16), .ref (qb 17), .ref (qb 18), .ref (qb 19), .int 0, .int 0, .ref (qb 20), .ref (qb 21), .int 0, .ref (qb 22), .ref (qb 23), .ref (qb 24), .ref (qb 25), .ref (qb 26), .ref (qb 27), .int 0, .ref (qb 28), .ref (qb 29), .int 0, .long 0, .int 0, .int 0, .ref (qb 30)])), ((qb 0), .inl ((cb 0), 16, .inl (upd (fun _ => 0) 0 (-1)))), ((qb 1), .inl ((cb 1), 16, .inl (fun _ => 0))), ((qb 2), .inl ((cb 2), 16, .inl (upd (fun _ => 0) 0 (-1)))), ((qb 3), .inl ((cb 3), 16, .inl (fun _ => 0))), ((qb 4), .inl ((cb 4), 16, .inl (fun _ => 0))), ((qb 5), .inl ((cb 5), 16, .inl (fun _ => 0))), ((qb 6), .inl ((cb 6), 16, .inl (fun _ => 0))), ((qb 7), .inl ((cb 7), 16, .inl (fun _ => 0))), ((qb 8), .inl ((cb 8), 40, .inl (fun _ => 0))), ((qb 9), .inl ((cb 9), 40, .inl (fun _ => 0))), ((qb 10), .inl ((cb 10), 40, .inl (fun _ => 0))), ((qb 11), .inl ((cb 11), 40, .inl (fun _ => 0))), ((qb 12), .inl ((cb 12), 40, .inl (fun _ => 0))), ((qb 13), .inl ((cb 13), 80, .inl (fun _ => 0))), ((qb 14), .inl ((cb 14), 40, .inl (fun _ => 0))), ((qb 15), .inl ((cb 15), 40, .inl (fun _ => 0))), ((qb 16), .inl ((cb 16), 40, .inl (fun _ => 0))), ((qb 17), .inl ((cb 17), 40, .inl (fun _ => 0))), ((qb 18), .inl ((cb 18), 40, .inl (fun _ => 0))), ((qb 19), .inl ((cb 19), 40, .inl (fun _ => 0))), ((qb 20), .inl ((cb 20), 60, .inl (fun _ => 0))), ((qb 21), .inl ((cb 21), 60, .inl (fun _ => 0))), ((qb 22), .inl ((cb 22), 130, .inl (fun _ => 0))), ((qb 23), .inl ((cb 23), 130, .inl (fun _ => 0))), ((qb 24), .inl ((cb 24), 130, .inl (fun _ => 0))), ((qb 25), .inl ((cb 25), 130, .inl (fun _ => 0))), ((qb 26), .inl ((cb 26), 5240, .inl (fun _ => 0))), ((qb 27), .inl ((cb 27), 5240, .inr (.inl (fun _ => 0)))), ((qb 28), .inl ((cb 28), 3, .inl (fun _ => 0))), ((qb 29), .inl ((cb 29), 3, .inr (.inl (fun _ => 0)))), ((qb 30), .inl ((cb 30), 16, .inl (fun _ => 0)))] H := hP
        have hD : va_D (fun q : Nat => s.heap.size ≤ q) [(q3, .inr (8, [.int 0, .int 1, .ref (qb 0), .ref (qb 1), .ref (qb 2), .ref (qb 3), .ref (qb 4), .ref (qb 5), .ref (qb 6), .ref (qb 7), .int 0, .ref (qb 8), .ref (qb 9), .ref (qb 10), .ref (qb 11), .ref (qb 12), .ref (qb 13), .ref (qb 14), .ref (qb 15), .ref (qb 16), .ref (qb 17), .ref (qb 18), .ref (qb 19), .int 0, .int 0, .ref (qb 20), .ref (qb 21), .int 0, .ref (qb 22), .ref (qb 23), .ref (qb 24), .ref (qb 25), .ref (qb 26), .ref (qb 27), .int 0, .ref (qb 28), .ref (qb 29), .int 0, .long 0, .int 0, .int 0, .ref (qb 30)])), ((qb 0), .inl ((cb 0), 16, .inl (upd (fun _ => 0) 0 (-1)))), ((qb 1), .inl ((cb 1), 16, .inl (fun _ => 0))), ((qb 2), .inl ((cb 2), 16, .inl (upd (fun _ => 0) 0 (-1)))), ((qb 3), .inl ((cb 3), 16, .inl (fun _ => 0))), ((qb 4), .inl ((cb 4), 16, .inl (fun _ => 0))), ((qb 5), .inl ((cb 5), 16, .inl (fun _ => 0))), ((qb 6), .inl ((cb 6), 16, .inl (fun _ => 0))), ((qb 7), .inl ((cb 7), 16, .inl (fun _ => 0))), ((qb 8), .inl ((cb 8), 40, .inl (fun _ => 0))), ((qb 9), .inl ((cb 9), 40, .inl (fun _ => 0))), ((qb 10), .inl ((cb 10), 40, .inl (fun _ => 0))), ((qb 11), .inl ((cb 11), 40, .inl (fun _ => 0))), ((qb 12), .inl ((cb 12), 40, .inl (fun _ => 0))), ((qb 13), .inl ((cb 13), 80, .inl (fun _ => 0))), ((qb 14), .inl ((cb 14), 40, .inl (fun _ => 0))), ((qb 15), .inl ((cb 15), 40, .inl (fun _ => 0))), ((qb 16), .inl ((cb 16), 40, .inl (fun _ => 0))), ((qb 17), .inl ((cb 17), 40, .inl (fun _ => 0))), ((qb 18), .inl ((cb 18), 40, .inl (fun _ => 0))), ((qb 19), .inl ((cb 19), 40, .inl (fun _ => 0))), ((qb 20), .inl ((cb 20), 60, .inl (fun _ => 0))), ((qb 21), .inl ((cb 21), 60, .inl (fun _ => 0))), ((qb 22), .inl ((cb 22), 130, .inl (fun _ => 0))), ((qb 23), .inl ((cb 23), 130, .inl (fun _ => 0))), ((qb 24), .inl ((cb 24), 130, .inl (fun _ => 0))), ((qb 25), .inl ((cb 25), 130, .inl (fun _ => 0))), ((qb 26), .inl ((cb 26), 5240, .inl (fun _ => 0))), ((qb 27), .inl ((cb 27), 5240, .inr (.inl (fun _ => 0)))), ((qb 28), .inl ((cb 28), 3, .inl (fun _ => 0))), ((qb 29), .inl ((cb 29), 3, .inr (.inl (fun _ => 0)))), ((qb 30), .inl ((cb 30), 16, .inl (fun _ => 0)))] := hD
        have hK : va_K (dC, dI) vwCl [((ca 0), .object "ReflectModels$ClassModel"), ((ca 1), .object "ReflectModels$Member"), ((ca 2), .object "ReflectModels$Handle"), ((ca 3), .object "ReflectModels$Thing"), ((ca 4), .object "ReflectModels$Value"), ((cb 0), .int), ((cb 1), .int), ((cb 2), .int), ((cb 3), .boolean), ((cb 4), .boolean), ((cb 5), .int), ((cb 6), .int), ((cb 7), .int), ((cb 8), .int), ((cb 9), .boolean), ((cb 10), .int), ((cb 11), .int), ((cb 12), .int), ((cb 13), .int), ((cb 14), .boolean), ((cb 15), .boolean), ((cb 16), .boolean), ((cb 17), .boolean), ((cb 18), .int), ((cb 19), .int), ((cb 20), .int), ((cb 21), .boolean), ((cb 22), .int), ((cb 23), .int), ((cb 24), .int), ((cb 25), .int), ((cb 26), .int), ((cb 27), .long), ((cb 28), .int), ((cb 29), .long), ((cb 30), .int)] s := hK
        refine W.cs (cells' := 44) (slots' := 12122) rfl rfl ?_
        refine lv_aload_n hx hb dL_law_185 rfl (lv_at hl 1 rfl) ?_
        refine lv_aload_n hx hb dL_law_186 rfl (lv_at hl 3 rfl) ?_
        refine lv_iload_n hx hb dL_law_187 rfl (lv_at hl 0 rfl) ?_
        refine lv_iconst (v := 1) hx hb dL_law_188 (by decide) ?_
        refine lv_iadd hx hb dL_law_189 ?_
        refine lv_topi (fun y25 ey25 => ?_)
        obtain rfl : y25 = 1 := ey25.trans (by decide)
        refine va_sld hx hb hX hbl hbA hS (vp_in_iff.mpr ⟨by decide, by decide⟩) dL_law_190 ?_
        refine W.eq (g2 := F0 m 191 ls [.int (xs 1), .ref q3, .int (an_type (xs 1).toInt (xs 2).toInt (xs 3).toInt)]) rfl ?_
        refine lv_aload_n hx hb dL_law_191 rfl (lv_at hl 3 rfl) ?_
        refine lv_iload_n hx hb dL_law_192 rfl (lv_at hl 0 rfl) ?_
        refine lv_iconst (v := 2) hx hb dL_law_193 (by decide) ?_
        refine lv_iadd hx hb dL_law_194 ?_
        refine lv_topi (fun y26 ey26 => ?_)
        obtain rfl : y26 = 2 := ey26.trans (by decide)
        refine va_sld hx hb hX hbl hbA hS (vp_in_iff.mpr ⟨by decide, by decide⟩) dL_law_195 ?_
        refine W.eq (g2 := F0 m 196 ls [.int (xs 2), .int (xs 1), .ref q3, .int (an_type (xs 1).toInt (xs 2).toInt (xs 3).toInt)]) rfl ?_
        refine lv_aload_n hx hb dL_law_196 rfl (lv_at hl 3 rfl) ?_
        refine lv_iload_n hx hb dL_law_197 rfl (lv_at hl 0 rfl) ?_
        refine lv_iconst (v := 3) hx hb dL_law_198 (by decide) ?_
        refine lv_iadd hx hb dL_law_199 ?_
        refine lv_topi (fun y27 ey27 => ?_)
        obtain rfl : y27 = 3 := ey27.trans (by decide)
        refine va_sld hx hb hX hbl hbA hS (vp_in_iff.mpr ⟨by decide, by decide⟩) dL_law_200 ?_
        refine W.eq (g2 := F0 m 201 ls [.int (xs 3), .int (xs 2), .int (xs 1), .ref q3, .int (an_type (xs 1).toInt (xs 2).toInt (xs 3).toInt)]) rfl ?_
        refine lv_aload_n hx hb dL_law_201 rfl (lv_at hl 3 rfl) ?_
        refine lv_iload_n hx hb dL_law_202 rfl (lv_at hl 0 rfl) ?_
        refine lv_iconst (v := 4) hx hb dL_law_203 (by decide) ?_
        refine lv_iadd hx hb dL_law_204 ?_
        refine lv_topi (fun y28 ey28 => ?_)
        obtain rfl : y28 = 4 := ey28.trans (by decide)
        refine va_sld hx hb hX hbl hbA hS (vp_in_iff.mpr ⟨by decide, by decide⟩) dL_law_205 ?_
        refine W.eq (g2 := F0 m 206 ls [.int (xs 4), .int (xs 3), .int (xs 2), .int (xs 1), .ref q3, .int (an_type (xs 1).toInt (xs 2).toInt (xs 3).toInt)]) rfl ?_
        refine lw_b hx hb dL_law_206 dL_law_209 dL_law_210 dL_law_213 ?_
        refine lv_aload_n hx hb dL_law_214 rfl (lv_at hl 3 rfl) ?_
        refine lv_iload_n hx hb dL_law_215 rfl (lv_at hl 0 rfl) ?_
        refine lv_iconst (v := 5) hx hb dL_law_216 (by decide) ?_
        refine lv_iadd hx hb dL_law_217 ?_
        refine lv_topi (fun y29 ey29 => ?_)
        obtain rfl : y29 = 5 := ey29.trans (by decide)
        refine va_sld hx hb hX hbl hbA hS (vp_in_iff.mpr ⟨by decide, by decide⟩) dL_law_218 ?_
        refine W.eq (g2 := F0 m 219 ls [.int (xs 5), .int (bz (xs 4)), .int (xs 3), .int (xs 2), .int (xs 1), .ref q3, .int (an_type (xs 1).toInt (xs 2).toInt (xs 3).toInt)]) rfl ?_
        refine lw_b hx hb dL_law_219 dL_law_222 dL_law_223 dL_law_226 ?_
        refine clW (wr := []) [0, 1, 2, 3, 4, 5, 6, 7, 8, 9, 10, 11, 12, 13, 14, 15, 16, 17, 18, 19, 20, 21, 22, 23, 24, 25, 26, 27, 28, 29, 30, 31] [] (va_runV (As := [.int (xs 1), .int (xs 2), .int (xs 3), .int (bz (xs 4)), .int (bz (xs 5))]) (rest := [.int (an_type (xs 1).toInt (xs 2).toInt (xs 3).toInt)]) ⟨hx, hb, hml, hown, hts⟩ (c9_type l dC dI q3 qb cb (xs 1) (xs 2) (xs 3) (bz (xs 4)) (bz (xs 5)) _ (bz_01 _) (bz_01 _)) (cwV 5 hts gL_law_X9_type rfl rfl rfl (by decide +kernel) ⟨Nat.le_of_ble_eq_true rfl, Nat.le_of_ble_eq_true rfl⟩) ⟨pz_blind, va_recv hK hP (ci := 8) (q0 := 0) rfl rfl, pz_of hP hK hD hN [0, 1, 2, 3, 4, 5, 6, 7, 8, 9, 10, 11, 12, 13, 14, 15, 16, 17, 18, 19, 20, 21, 22, 23, 24, 25, 26, 27, 28, 29, 30, 31] [5, 6, 7, 8, 9, 10, 11, 12, 13, 14, 15, 16, 17, 18, 19, 20, 21, 22, 23, 24, 25, 26, 27, 28, 29, 30, 31, 32, 33, 34, 35] rfl (by decide) rfl⟩ rfl rfl hl.1 rfl (lv_room (Nat.le_of_ble_eq_true rfl)) dL_law_227 ⟨Nat.le_of_ble_eq_true rfl, Nat.le_of_ble_eq_true rfl⟩) hS hP hD hK hA rfl rfl (by decide) (by decide) (fun v w1 ty1 H locs w30 hP hD hK hS => ?_)
        obtain ⟨rfl, rfl, rfl⟩ := w30
        refine W.eq (g2 := F0 m 230 ls [.int (an_type (xs 1).toInt (xs 2).toInt (xs 3).toInt), .int (an_type (xs 1).toInt (xs 2).toInt (xs 3).toInt)]) rfl ?_
        have hP : va_P (dC, dI) vwCl [] H := hP
        have hD : va_D (fun q : Nat => s.heap.size ≤ q) [] := hD
        have hK : va_K (dC, dI) vwCl [((ca 0), .object "ReflectModels$ClassModel"), ((ca 1), .object "ReflectModels$Member"), ((ca 2), .object "ReflectModels$Handle"), ((ca 3), .object "ReflectModels$Thing"), ((ca 4), .object "ReflectModels$Value"), ((cb 0), .int), ((cb 1), .int), ((cb 2), .int), ((cb 3), .boolean), ((cb 4), .boolean), ((cb 5), .int), ((cb 6), .int), ((cb 7), .int), ((cb 8), .int), ((cb 9), .boolean), ((cb 10), .int), ((cb 11), .int), ((cb 12), .int), ((cb 13), .int), ((cb 14), .boolean), ((cb 15), .boolean), ((cb 16), .boolean), ((cb 17), .boolean), ((cb 18), .int), ((cb 19), .int), ((cb 20), .int), ((cb 21), .boolean), ((cb 22), .int), ((cb 23), .int), ((cb 24), .int), ((cb 25), .int), ((cb 26), .int), ((cb 27), .long), ((cb 28), .int), ((cb 29), .long), ((cb 30), .int)] s := hK
        refine W.cs (cells' := 44) (slots' := 12122) rfl rfl ?_
        refine lv_icmp_eq (tgt := 1154) hx hb dL_law_230 (by decide) (fun _ => ?_) (fun h => absurd rfl h)
        refine lv_iinc (v := 10) (lv' := [(3, .int 10), (2, .ref q3), (1, .ref q1), (0, .ref b)]) hx hb dL_law_1154 hl (k := 0) rfl (by decide) (by decide) rfl (fun ls hl => ?_)
        refine lv_goto (tgt := 18) hx hb dL_law_1157 (by decide) ?_
        refine lv_iload_n hx hb dL_law_18 rfl (lv_at hl 0 rfl) ?_
        refine lv_aload_n hx hb dL_law_19 rfl (lv_at hl 3 rfl) ?_
        refine va_slen hx hb hX hbl hbA hS dL_law_20 ?_
        refine W.eq (g2 := F0 m 21 ls [.int 10, .int 10]) rfl ?_
        refine lv_bipush (v := 10) hx hb dL_law_21 (by decide) ?_
        refine lv_isub hx hb dL_law_23 ?_
        refine lv_topi (fun y31 ey31 => ?_)
        obtain rfl : y31 = 0 := ey31.trans (by decide)
        refine lv_icmp_gt (tgt := 1160) hx hb dL_law_24 (by decide) (fun _ => ?_) (fun h => absurd (by decide) h)
        refine lv_iconst (v := 1) hx hb dL_law_1160 (by decide) ?_
        refine va_forget (fun z hz => hS.2.2 z hz) ?_
        refine W.widen (k := 600000) (n := 7302250) (by omega) (by omega) ?_
        exact lw_ret hx hb hr hlocks dL_law_1161
      · refine lv_tableIn (tgt := 235) (off := 202) hx hb dL_law_33 (by decide) (by decide) (by decide) (by decide) ?_
        refine lv_aload_n hx hb dL_law_235 rfl (lv_at hl 2 rfl) ?_
        refine lv_aload_n hx hb dL_law_236 rfl (lv_at hl 3 rfl) ?_
        refine lv_iload_n hx hb dL_law_237 rfl (lv_at hl 0 rfl) ?_
        refine lv_iconst (v := 1) hx hb dL_law_238 (by decide) ?_
        refine lv_iadd hx hb dL_law_239 ?_
        refine lv_topi (fun y32 ey32 => ?_)
        obtain rfl : y32 = 1 := ey32.trans (by decide)
        refine va_sld hx hb hX hbl hbA hS (vp_in_iff.mpr ⟨by decide, by decide⟩) dL_law_240 ?_
        refine W.eq (g2 := F0 m 241 ls [.int (xs 1), .ref q1]) rfl ?_
        refine lv_aload_n hx hb dL_law_241 rfl (lv_at hl 3 rfl) ?_
        refine lv_iload_n hx hb dL_law_242 rfl (lv_at hl 0 rfl) ?_
        refine lv_iconst (v := 2) hx hb dL_law_243 (by decide) ?_
        refine lv_iadd hx hb dL_law_244 ?_
        refine lv_topi (fun y33 ey33 => ?_)
        obtain rfl : y33 = 2 := ey33.trans (by decide)
        refine va_sld hx hb hX hbl hbA hS (vp_in_iff.mpr ⟨by decide, by decide⟩) dL_law_245 ?_
        refine W.eq (g2 := F0 m 246 ls [.int (xs 2), .int (xs 1), .ref q1]) rfl ?_
        refine clW (wr := [(q3, .inr (8, [.int 0, .int 1, .ref (qb 0), .ref (qb 1), .ref (qb 2), .ref (qb 3), .ref (qb 4), .ref (qb 5), .ref (qb 6), .ref (qb 7), .int 0, .ref (qb 8), .ref (qb 9), .ref (qb 10), .ref (qb 11), .ref (qb 12), .ref (qb 13), .ref (qb 14), .ref (qb 15), .ref (qb 16), .ref (qb 17), .ref (qb 18), .ref (qb 19), .int 0, .int 0, .ref (qb 20), .ref (qb 21), .int 0, .ref (qb 22), .ref (qb 23), .ref (qb 24), .ref (qb 25), .ref (qb 26), .ref (qb 27), .int 0, .ref (qb 28), .ref (qb 29), .int 0, .long 0, .int 0, .int 0, .ref (qb 30)])), ((qb 0), .inl ((cb 0), 16, .inl (upd (fun _ => 0) 0 (-1)))), ((qb 1), .inl ((cb 1), 16, .inl (fun _ => 0))), ((qb 2), .inl ((cb 2), 16, .inl (upd (fun _ => 0) 0 (-1)))), ((qb 3), .inl ((cb 3), 16, .inl (fun _ => 0))), ((qb 4), .inl ((cb 4), 16, .inl (fun _ => 0))), ((qb 5), .inl ((cb 5), 16, .inl (fun _ => 0))), ((qb 6), .inl ((cb 6), 16, .inl (fun _ => 0))), ((qb 7), .inl ((cb 7), 16, .inl (fun _ => 0))), ((qb 8), .inl ((cb 8), 40, .inl (fun _ => 0))), ((qb 9), .inl ((cb 9), 40, .inl (fun _ => 0))), ((qb 10), .inl ((cb 10), 40, .inl (fun _ => 0))), ((qb 11), .inl ((cb 11), 40, .inl (fun _ => 0))), ((qb 12), .inl ((cb 12), 40, .inl (fun _ => 0))), ((qb 13), .inl ((cb 13), 80, .inl (fun _ => 0))), ((qb 14), .inl ((cb 14), 40, .inl (fun _ => 0))), ((qb 15), .inl ((cb 15), 40, .inl (fun _ => 0))), ((qb 16), .inl ((cb 16), 40, .inl (fun _ => 0))), ((qb 17), .inl ((cb 17), 40, .inl (fun _ => 0))), ((qb 18), .inl ((cb 18), 40, .inl (fun _ => 0))), ((qb 19), .inl ((cb 19), 40, .inl (fun _ => 0))), ((qb 20), .inl ((cb 20), 60, .inl (fun _ => 0))), ((qb 21), .inl ((cb 21), 60, .inl (fun _ => 0))), ((qb 22), .inl ((cb 22), 130, .inl (fun _ => 0))), ((qb 23), .inl ((cb 23), 130, .inl (fun _ => 0))), ((qb 24), .inl ((cb 24), 130, .inl (fun _ => 0))), ((qb 25), .inl ((cb 25), 130, .inl (fun _ => 0))), ((qb 26), .inl ((cb 26), 5240, .inl (fun _ => 0))), ((qb 27), .inl ((cb 27), 5240, .inr (.inl (fun _ => 0)))), ((qb 28), .inl ((cb 28), 3, .inl (fun _ => 0))), ((qb 29), .inl ((cb 29), 3, .inr (.inl (fun _ => 0)))), ((qb 30), .inl ((cb 30), 16, .inl (fun _ => 0)))]) [0, 1, 2, 3, 4, 5, 6, 7, 8, 9, 10] [11, 12, 13, 14, 15, 16, 17, 18, 19, 20, 21, 22, 23, 24, 25, 26, 27, 28, 29, 30, 31, 32, 33, 34, 35, 36, 37, 38, 39, 40, 41, 42] (va_runV (As := [.int (xs 1), .int (xs 2)]) (rest := []) ⟨hx, hb, hml, hown, hts⟩ (c8_constants l dC dI q1 qa ca (xs 1) (xs 2) _ ) (cwV 2 hts gL_law_X8_constants rfl rfl rfl (by decide +kernel) ⟨Nat.le_of_ble_eq_true rfl, Nat.le_of_ble_eq_true rfl⟩) ⟨pz_blind, va_recv hK hP (ci := 7) (q0 := 0) rfl rfl, pz_of hP hK hD hN [0, 1, 2, 3, 4, 5, 6, 7, 8, 9, 10] [0, 1, 2, 3, 4] rfl (by decide) rfl⟩ rfl rfl hl.1 rfl (lv_room (Nat.le_of_ble_eq_true rfl)) dL_law_246 ⟨Nat.le_of_ble_eq_true rfl, Nat.le_of_ble_eq_true rfl⟩) hS hP hD hK hA rfl rfl (by decide) (by decide) (fun v w1 ty1 H locs w34 hP hD hK hS => ?_)
        obtain ⟨rfl, rfl, rfl⟩ := w34
        refine W.eq (g2 := F0 m 249 ls [.int (an_constants (xs 1).toInt (xs 2).toInt)]) rfl ?_
        have hP : va_P (dC, dI) vwCl [(q3, .inr (8, [.int 0, .int 1, .ref (qb 0), .ref (qb 1), .ref (qb 2), .ref (qb 3), .ref (qb 4), .ref (qb 5), .ref (qb 6), .ref (qb 7), .int 0, .ref (qb 8), .ref (qb 9), .ref (qb 10), .ref (qb 11), .ref (qb 12), .ref (qb 13), .ref (qb 14), .ref (qb 15), .ref (qb 16), .ref (qb 17), .ref (qb 18), .ref (qb 19), .int 0, .int 0, .ref (qb 20), .ref (qb 21), .int 0, .ref (qb 22), .ref (qb 23), .ref (qb 24), .ref (qb 25), .ref (qb 26), .ref (qb 27), .int 0, .ref (qb 28), .ref (qb 29), .int 0, .long 0, .int 0, .int 0, .ref (qb 30)])), ((qb 0), .inl ((cb 0), 16, .inl (upd (fun _ => 0) 0 (-1)))), ((qb 1), .inl ((cb 1), 16, .inl (fun _ => 0))), ((qb 2), .inl ((cb 2), 16, .inl (upd (fun _ => 0) 0 (-1)))), ((qb 3), .inl ((cb 3), 16, .inl (fun _ => 0))), ((qb 4), .inl ((cb 4), 16, .inl (fun _ => 0))), ((qb 5), .inl ((cb 5), 16, .inl (fun _ => 0))), ((qb 6), .inl ((cb 6), 16, .inl (fun _ => 0))), ((qb 7), .inl ((cb 7), 16, .inl (fun _ => 0))), ((qb 8), .inl ((cb 8), 40, .inl (fun _ => 0))), ((qb 9), .inl ((cb 9), 40, .inl (fun _ => 0))), ((qb 10), .inl ((cb 10), 40, .inl (fun _ => 0))), ((qb 11), .inl ((cb 11), 40, .inl (fun _ => 0))), ((qb 12), .inl ((cb 12), 40, .inl (fun _ => 0))), ((qb 13), .inl ((cb 13), 80, .inl (fun _ => 0))), ((qb 14), .inl ((cb 14), 40, .inl (fun _ => 0))), ((qb 15), .inl ((cb 15), 40, .inl (fun _ => 0))), ((qb 16), .inl ((cb 16), 40, .inl (fun _ => 0))), ((qb 17), .inl ((cb 17), 40, .inl (fun _ => 0))), ((qb 18), .inl ((cb 18), 40, .inl (fun _ => 0))), ((qb 19), .inl ((cb 19), 40, .inl (fun _ => 0))), ((qb 20), .inl ((cb 20), 60, .inl (fun _ => 0))), ((qb 21), .inl ((cb 21), 60, .inl (fun _ => 0))), ((qb 22), .inl ((cb 22), 130, .inl (fun _ => 0))), ((qb 23), .inl ((cb 23), 130, .inl (fun _ => 0))), ((qb 24), .inl ((cb 24), 130, .inl (fun _ => 0))), ((qb 25), .inl ((cb 25), 130, .inl (fun _ => 0))), ((qb 26), .inl ((cb 26), 5240, .inl (fun _ => 0))), ((qb 27), .inl ((cb 27), 5240, .inr (.inl (fun _ => 0)))), ((qb 28), .inl ((cb 28), 3, .inl (fun _ => 0))), ((qb 29), .inl ((cb 29), 3, .inr (.inl (fun _ => 0)))), ((qb 30), .inl ((cb 30), 16, .inl (fun _ => 0)))] H := hP
        have hD : va_D (fun q : Nat => s.heap.size ≤ q) [(q3, .inr (8, [.int 0, .int 1, .ref (qb 0), .ref (qb 1), .ref (qb 2), .ref (qb 3), .ref (qb 4), .ref (qb 5), .ref (qb 6), .ref (qb 7), .int 0, .ref (qb 8), .ref (qb 9), .ref (qb 10), .ref (qb 11), .ref (qb 12), .ref (qb 13), .ref (qb 14), .ref (qb 15), .ref (qb 16), .ref (qb 17), .ref (qb 18), .ref (qb 19), .int 0, .int 0, .ref (qb 20), .ref (qb 21), .int 0, .ref (qb 22), .ref (qb 23), .ref (qb 24), .ref (qb 25), .ref (qb 26), .ref (qb 27), .int 0, .ref (qb 28), .ref (qb 29), .int 0, .long 0, .int 0, .int 0, .ref (qb 30)])), ((qb 0), .inl ((cb 0), 16, .inl (upd (fun _ => 0) 0 (-1)))), ((qb 1), .inl ((cb 1), 16, .inl (fun _ => 0))), ((qb 2), .inl ((cb 2), 16, .inl (upd (fun _ => 0) 0 (-1)))), ((qb 3), .inl ((cb 3), 16, .inl (fun _ => 0))), ((qb 4), .inl ((cb 4), 16, .inl (fun _ => 0))), ((qb 5), .inl ((cb 5), 16, .inl (fun _ => 0))), ((qb 6), .inl ((cb 6), 16, .inl (fun _ => 0))), ((qb 7), .inl ((cb 7), 16, .inl (fun _ => 0))), ((qb 8), .inl ((cb 8), 40, .inl (fun _ => 0))), ((qb 9), .inl ((cb 9), 40, .inl (fun _ => 0))), ((qb 10), .inl ((cb 10), 40, .inl (fun _ => 0))), ((qb 11), .inl ((cb 11), 40, .inl (fun _ => 0))), ((qb 12), .inl ((cb 12), 40, .inl (fun _ => 0))), ((qb 13), .inl ((cb 13), 80, .inl (fun _ => 0))), ((qb 14), .inl ((cb 14), 40, .inl (fun _ => 0))), ((qb 15), .inl ((cb 15), 40, .inl (fun _ => 0))), ((qb 16), .inl ((cb 16), 40, .inl (fun _ => 0))), ((qb 17), .inl ((cb 17), 40, .inl (fun _ => 0))), ((qb 18), .inl ((cb 18), 40, .inl (fun _ => 0))), ((qb 19), .inl ((cb 19), 40, .inl (fun _ => 0))), ((qb 20), .inl ((cb 20), 60, .inl (fun _ => 0))), ((qb 21), .inl ((cb 21), 60, .inl (fun _ => 0))), ((qb 22), .inl ((cb 22), 130, .inl (fun _ => 0))), ((qb 23), .inl ((cb 23), 130, .inl (fun _ => 0))), ((qb 24), .inl ((cb 24), 130, .inl (fun _ => 0))), ((qb 25), .inl ((cb 25), 130, .inl (fun _ => 0))), ((qb 26), .inl ((cb 26), 5240, .inl (fun _ => 0))), ((qb 27), .inl ((cb 27), 5240, .inr (.inl (fun _ => 0)))), ((qb 28), .inl ((cb 28), 3, .inl (fun _ => 0))), ((qb 29), .inl ((cb 29), 3, .inr (.inl (fun _ => 0)))), ((qb 30), .inl ((cb 30), 16, .inl (fun _ => 0)))] := hD
        have hK : va_K (dC, dI) vwCl [((ca 0), .object "ReflectModels$ClassModel"), ((ca 1), .object "ReflectModels$Member"), ((ca 2), .object "ReflectModels$Handle"), ((ca 3), .object "ReflectModels$Thing"), ((ca 4), .object "ReflectModels$Value"), ((cb 0), .int), ((cb 1), .int), ((cb 2), .int), ((cb 3), .boolean), ((cb 4), .boolean), ((cb 5), .int), ((cb 6), .int), ((cb 7), .int), ((cb 8), .int), ((cb 9), .boolean), ((cb 10), .int), ((cb 11), .int), ((cb 12), .int), ((cb 13), .int), ((cb 14), .boolean), ((cb 15), .boolean), ((cb 16), .boolean), ((cb 17), .boolean), ((cb 18), .int), ((cb 19), .int), ((cb 20), .int), ((cb 21), .boolean), ((cb 22), .int), ((cb 23), .int), ((cb 24), .int), ((cb 25), .int), ((cb 26), .int), ((cb 27), .long), ((cb 28), .int), ((cb 29), .long), ((cb 30), .int)] s := hK
        refine W.cs (cells' := 43) (slots' := 12110) rfl rfl ?_
        refine lv_aload_n hx hb dL_law_249 rfl (lv_at hl 1 rfl) ?_
        refine lv_aload_n hx hb dL_law_250 rfl (lv_at hl 3 rfl) ?_
        refine lv_iload_n hx hb dL_law_251 rfl (lv_at hl 0 rfl) ?_
        refine lv_iconst (v := 1) hx hb dL_law_252 (by decide) ?_
        refine lv_iadd hx hb dL_law_253 ?_
        refine lv_topi (fun y35 ey35 => ?_)
        obtain rfl : y35 = 1 := ey35.trans (by decide)
        refine va_sld hx hb hX hbl hbA hS (vp_in_iff.mpr ⟨by decide, by decide⟩) dL_law_254 ?_
        refine W.eq (g2 := F0 m 255 ls [.int (xs 1), .ref q3, .int (an_constants (xs 1).toInt (xs 2).toInt)]) rfl ?_
        refine lv_aload_n hx hb dL_law_255 rfl (lv_at hl 3 rfl) ?_
        refine lv_iload_n hx hb dL_law_256 rfl (lv_at hl 0 rfl) ?_
        refine lv_iconst (v := 2) hx hb dL_law_257 (by decide) ?_
        refine lv_iadd hx hb dL_law_258 ?_
        refine lv_topi (fun y36 ey36 => ?_)
        obtain rfl : y36 = 2 := ey36.trans (by decide)
        refine va_sld hx hb hX hbl hbA hS (vp_in_iff.mpr ⟨by decide, by decide⟩) dL_law_259 ?_
        refine W.eq (g2 := F0 m 260 ls [.int (xs 2), .int (xs 1), .ref q3, .int (an_constants (xs 1).toInt (xs 2).toInt)]) rfl ?_
        refine clW (wr := []) [0, 1, 2, 3, 4, 5, 6, 7, 8, 9, 10, 11, 12, 13, 14, 15, 16, 17, 18, 19, 20, 21, 22, 23, 24, 25, 26, 27, 28, 29, 30, 31] [] (va_runV (As := [.int (xs 1), .int (xs 2)]) (rest := [.int (an_constants (xs 1).toInt (xs 2).toInt)]) ⟨hx, hb, hml, hown, hts⟩ (c9_constants l dC dI q3 qb cb (xs 1) (xs 2) _ ) (cwV 2 hts gL_law_X9_constants rfl rfl rfl (by decide +kernel) ⟨Nat.le_of_ble_eq_true rfl, Nat.le_of_ble_eq_true rfl⟩) ⟨pz_blind, va_recv hK hP (ci := 8) (q0 := 0) rfl rfl, pz_of hP hK hD hN [0, 1, 2, 3, 4, 5, 6, 7, 8, 9, 10, 11, 12, 13, 14, 15, 16, 17, 18, 19, 20, 21, 22, 23, 24, 25, 26, 27, 28, 29, 30, 31] [5, 6, 7, 8, 9, 10, 11, 12, 13, 14, 15, 16, 17, 18, 19, 20, 21, 22, 23, 24, 25, 26, 27, 28, 29, 30, 31, 32, 33, 34, 35] rfl (by decide) rfl⟩ rfl rfl hl.1 rfl (lv_room (Nat.le_of_ble_eq_true rfl)) dL_law_260 ⟨Nat.le_of_ble_eq_true rfl, Nat.le_of_ble_eq_true rfl⟩) hS hP hD hK hA rfl rfl (by decide) (by decide) (fun v w1 ty1 H locs w37 hP hD hK hS => ?_)
        obtain ⟨rfl, rfl, rfl⟩ := w37
        refine W.eq (g2 := F0 m 263 ls [.int (an_constants (xs 1).toInt (xs 2).toInt), .int (an_constants (xs 1).toInt (xs 2).toInt)]) rfl ?_
        have hP : va_P (dC, dI) vwCl [] H := hP
        have hD : va_D (fun q : Nat => s.heap.size ≤ q) [] := hD
        have hK : va_K (dC, dI) vwCl [((ca 0), .object "ReflectModels$ClassModel"), ((ca 1), .object "ReflectModels$Member"), ((ca 2), .object "ReflectModels$Handle"), ((ca 3), .object "ReflectModels$Thing"), ((ca 4), .object "ReflectModels$Value"), ((cb 0), .int), ((cb 1), .int), ((cb 2), .int), ((cb 3), .boolean), ((cb 4), .boolean), ((cb 5), .int), ((cb 6), .int), ((cb 7), .int), ((cb 8), .int), ((cb 9), .boolean), ((cb 10), .int), ((cb 11), .int), ((cb 12), .int), ((cb 13), .int), ((cb 14), .boolean), ((cb 15), .boolean), ((cb 16), .boolean), ((cb 17), .boolean), ((cb 18), .int), ((cb 19), .int), ((cb 20), .int), ((cb 21), .boolean), ((cb 22), .int), ((cb 23), .int), ((cb 24), .int), ((cb 25), .int), ((cb 26), .int), ((cb 27), .long), ((cb 28), .int), ((cb 29), .long), ((cb 30), .int)] s := hK
        refine W.cs (cells' := 43) (slots' := 12110) rfl rfl ?_
        refine lv_icmp_eq (tgt := 1154) hx hb dL_law_263 (by decide) (fun _ => ?_) (fun h => absurd rfl h)
        refine lv_iinc (v := 10) (lv' := [(3, .int 10), (2, .ref q3), (1, .ref q1), (0, .ref b)]) hx hb dL_law_1154 hl (k := 0) rfl (by decide) (by decide) rfl (fun ls hl => ?_)
        refine lv_goto (tgt := 18) hx hb dL_law_1157 (by decide) ?_
        refine lv_iload_n hx hb dL_law_18 rfl (lv_at hl 0 rfl) ?_
        refine lv_aload_n hx hb dL_law_19 rfl (lv_at hl 3 rfl) ?_
        refine va_slen hx hb hX hbl hbA hS dL_law_20 ?_
        refine W.eq (g2 := F0 m 21 ls [.int 10, .int 10]) rfl ?_
        refine lv_bipush (v := 10) hx hb dL_law_21 (by decide) ?_
        refine lv_isub hx hb dL_law_23 ?_
        refine lv_topi (fun y38 ey38 => ?_)
        obtain rfl : y38 = 0 := ey38.trans (by decide)
        refine lv_icmp_gt (tgt := 1160) hx hb dL_law_24 (by decide) (fun _ => ?_) (fun h => absurd (by decide) h)
        refine lv_iconst (v := 1) hx hb dL_law_1160 (by decide) ?_
        refine va_forget (fun z hz => hS.2.2 z hz) ?_
        refine W.widen (k := 600000) (n := 7302250) (by omega) (by omega) ?_
        exact lw_ret hx hb hr hlocks dL_law_1161
      · refine lv_tableIn (tgt := 268) (off := 235) hx hb dL_law_33 (by decide) (by decide) (by decide) (by decide) ?_
        refine lv_aload_n hx hb dL_law_268 rfl (lv_at hl 2 rfl) ?_
        refine lv_aload_n hx hb dL_law_269 rfl (lv_at hl 3 rfl) ?_
        refine lv_iload_n hx hb dL_law_270 rfl (lv_at hl 0 rfl) ?_
        refine lv_iconst (v := 1) hx hb dL_law_271 (by decide) ?_
        refine lv_iadd hx hb dL_law_272 ?_
        refine lv_topi (fun y39 ey39 => ?_)
        obtain rfl : y39 = 1 := ey39.trans (by decide)
        refine va_sld hx hb hX hbl hbA hS (vp_in_iff.mpr ⟨by decide, by decide⟩) dL_law_273 ?_
        refine W.eq (g2 := F0 m 274 ls [.int (xs 1), .ref q1]) rfl ?_
        refine lv_aload_n hx hb dL_law_274 rfl (lv_at hl 3 rfl) ?_
        refine lv_iload_n hx hb dL_law_275 rfl (lv_at hl 0 rfl) ?_
        refine lv_iconst (v := 2) hx hb dL_law_276 (by decide) ?_
        refine lv_iadd hx hb dL_law_277 ?_
        refine lv_topi (fun y40 ey40 => ?_)
        obtain rfl : y40 = 2 := ey40.trans (by decide)
        refine va_sld hx hb hX hbl hbA hS (vp_in_iff.mpr ⟨by decide, by decide⟩) dL_law_278 ?_
        refine W.eq (g2 := F0 m 279 ls [.int (xs 2), .int (xs 1), .ref q1]) rfl ?_
        refine lv_aload_n hx hb dL_law_279 rfl (lv_at hl 3 rfl) ?_
        refine lv_iload_n hx hb dL_law_280 rfl (lv_at hl 0 rfl) ?_
        refine lv_iconst (v := 3) hx hb dL_law_281 (by decide) ?_
        refine lv_iadd hx hb dL_law_282 ?_
        refine lv_topi (fun y41 ey41 => ?_)
        obtain rfl : y41 = 3 := ey41.trans (by decide)
        refine va_sld hx hb hX hbl hbA hS (vp_in_iff.mpr ⟨by decide, by decide⟩) dL_law_283 ?_
        refine W.eq (g2 := F0 m 284 ls [.int (xs 3), .int (xs 2), .int (xs 1), .ref q1]) rfl ?_
        refine lv_aload_n hx hb dL_law_284 rfl (lv_at hl 3 rfl) ?_
        refine lv_iload_n hx hb dL_law_285 rfl (lv_at hl 0 rfl) ?_
        refine lv_iconst (v := 4) hx hb dL_law_286 (by decide) ?_
        refine lv_iadd hx hb dL_law_287 ?_
        refine lv_topi (fun y42 ey42 => ?_)
        obtain rfl : y42 = 4 := ey42.trans (by decide)
        refine va_sld hx hb hX hbl hbA hS (vp_in_iff.mpr ⟨by decide, by decide⟩) dL_law_288 ?_
        refine W.eq (g2 := F0 m 289 ls [.int (xs 4), .int (xs 3), .int (xs 2), .int (xs 1), .ref q1]) rfl ?_
        refine lw_b hx hb dL_law_289 dL_law_292 dL_law_293 dL_law_296 ?_
        refine lv_aload_n hx hb dL_law_297 rfl (lv_at hl 3 rfl) ?_
        refine lv_iload_n hx hb dL_law_298 rfl (lv_at hl 0 rfl) ?_
        refine lv_iconst (v := 5) hx hb dL_law_299 (by decide) ?_
        refine lv_iadd hx hb dL_law_300 ?_
        refine lv_topi (fun y43 ey43 => ?_)
        obtain rfl : y43 = 5 := ey43.trans (by decide)
        refine va_sld hx hb hX hbl hbA hS (vp_in_iff.mpr ⟨by decide, by decide⟩) dL_law_301 ?_
        refine W.eq (g2 := F0 m 302 ls [.int (xs 5), .int (bz (xs 4)), .int (xs 3), .int (xs 2), .int (xs 1), .ref q1]) rfl ?_
        refine lw_b hx hb dL_law_302 dL_law_305 dL_law_306 dL_law_309 ?_
        refine lv_aload_n hx hb dL_law_310 rfl (lv_at hl 3 rfl) ?_
        refine lv_iload_n hx hb dL_law_311 rfl (lv_at hl 0 rfl) ?_
        refine lv_bipush (v := 6) hx hb dL_law_312 (by decide) ?_
        refine lv_iadd hx hb dL_law_314 ?_
        refine lv_topi (fun y44 ey44 => ?_)
        obtain rfl : y44 = 6 := ey44.trans (by decide)
        refine va_sld hx hb hX hbl hbA hS (vp_in_iff.mpr ⟨by decide, by decide⟩) dL_law_315 ?_
        refine W.eq (g2 := F0 m 316 ls [.int (xs 6), .int (bz (xs 5)), .int (bz (xs 4)), .int (xs 3), .int (xs 2), .int (xs 1), .ref q1]) rfl ?_
        refine lw_b hx hb dL_law_316 dL_law_319 dL_law_320 dL_law_323 ?_
        refine clW (wr := [(q3, .inr (8, [.int 0, .int 1, .ref (qb 0), .ref (qb 1), .ref (qb 2), .ref (qb 3), .ref (qb 4), .ref (qb 5), .ref (qb 6), .ref (qb 7), .int 0, .ref (qb 8), .ref (qb 9), .ref (qb 10), .ref (qb 11), .ref (qb 12), .ref (qb 13), .ref (qb 14), .ref (qb 15), .ref (qb 16), .ref (qb 17), .ref (qb 18), .ref (qb 19), .int 0, .int 0, .ref (qb 20), .ref (qb 21), .int 0, .ref (qb 22), .ref (qb 23), .ref (qb 24), .ref (qb 25), .ref (qb 26), .ref (qb 27), .int 0, .ref (qb 28), .ref (qb 29), .int 0, .long 0, .int 0, .int 0, .ref (qb 30)])), ((qb 0), .inl ((cb 0), 16, .inl (upd (fun _ => 0) 0 (-1)))), ((qb 1), .inl ((cb 1), 16, .inl (fun _ => 0))), ((qb 2), .inl ((cb 2), 16, .inl (upd (fun _ => 0) 0 (-1)))), ((qb 3), .inl ((cb 3), 16, .inl (fun _ => 0))), ((qb 4), .inl ((cb 4), 16, .inl (fun _ => 0))), ((qb 5), .inl ((cb 5), 16, .inl (fun _ => 0))), ((qb 6), .inl ((cb 6), 16, .inl (fun _ => 0))), ((qb 7), .inl ((cb 7), 16, .inl (fun _ => 0))), ((qb 8), .inl ((cb 8), 40, .inl (fun _ => 0))), ((qb 9), .inl ((cb 9), 40, .inl (fun _ => 0))), ((qb 10), .inl ((cb 10), 40, .inl (fun _ => 0))), ((qb 11), .inl ((cb 11), 40, .inl (fun _ => 0))), ((qb 12), .inl ((cb 12), 40, .inl (fun _ => 0))), ((qb 13), .inl ((cb 13), 80, .inl (fun _ => 0))), ((qb 14), .inl ((cb 14), 40, .inl (fun _ => 0))), ((qb 15), .inl ((cb 15), 40, .inl (fun _ => 0))), ((qb 16), .inl ((cb 16), 40, .inl (fun _ => 0))), ((qb 17), .inl ((cb 17), 40, .inl (fun _ => 0))), ((qb 18), .inl ((cb 18), 40, .inl (fun _ => 0))), ((qb 19), .inl ((cb 19), 40, .inl (fun _ => 0))), ((qb 20), .inl ((cb 20), 60, .inl (fun _ => 0))), ((qb 21), .inl ((cb 21), 60, .inl (fun _ => 0))), ((qb 22), .inl ((cb 22), 130, .inl (fun _ => 0))), ((qb 23), .inl ((cb 23), 130, .inl (fun _ => 0))), ((qb 24), .inl ((cb 24), 130, .inl (fun _ => 0))), ((qb 25), .inl ((cb 25), 130, .inl (fun _ => 0))), ((qb 26), .inl ((cb 26), 5240, .inl (fun _ => 0))), ((qb 27), .inl ((cb 27), 5240, .inr (.inl (fun _ => 0)))), ((qb 28), .inl ((cb 28), 3, .inl (fun _ => 0))), ((qb 29), .inl ((cb 29), 3, .inr (.inl (fun _ => 0)))), ((qb 30), .inl ((cb 30), 16, .inl (fun _ => 0)))]) [0, 1, 2, 3, 4, 5, 6, 7, 8, 9, 10] [11, 12, 13, 14, 15, 16, 17, 18, 19, 20, 21, 22, 23, 24, 25, 26, 27, 28, 29, 30, 31, 32, 33, 34, 35, 36, 37, 38, 39, 40, 41, 42] (va_runV (As := [.int (xs 1), .int (xs 2), .int (xs 3), .int (bz (xs 4)), .int (bz (xs 5)), .int (bz (xs 6))]) (rest := []) ⟨hx, hb, hml, hown, hts⟩ (c8_field l dC dI q1 qa ca (xs 1) (xs 2) (xs 3) (bz (xs 4)) (bz (xs 5)) (bz (xs 6)) _ (bz_01 _) (bz_01 _) (bz_01 _)) (cwV 6 hts gL_law_X8_field rfl rfl rfl (by decide +kernel) ⟨Nat.le_of_ble_eq_true rfl, Nat.le_of_ble_eq_true rfl⟩) ⟨pz_blind, va_recv hK hP (ci := 7) (q0 := 0) rfl rfl, pz_of hP hK hD hN [0, 1, 2, 3, 4, 5, 6, 7, 8, 9, 10] [0, 1, 2, 3, 4] rfl (by decide) rfl⟩ rfl rfl hl.1 rfl (lv_room (Nat.le_of_ble_eq_true rfl)) dL_law_324 ⟨Nat.le_of_ble_eq_true rfl, Nat.le_of_ble_eq_true rfl⟩) hS hP hD hK hA rfl rfl (by decide) (by decide) (fun v w1 ty1 H locs w45 hP hD hK hS => ?_)
        obtain ⟨rfl, rfl, rfl⟩ := w45
        refine W.eq (g2 := F0 m 327 ls [.int (an_field (xs 1).toInt (xs 2).toInt (xs 3).toInt (bz (xs 4)).toInt)]) rfl ?_
        have hP : va_P (dC, dI) vwCl [(q3, .inr (8, [.int 0, .int 1, .ref (qb 0), .ref (qb 1), .ref (qb 2), .ref (qb 3), .ref (qb 4), .ref (qb 5), .ref (qb 6), .ref (qb 7), .int 0, .ref (qb 8), .ref (qb 9), .ref (qb 10), .ref (qb 11), .ref (qb 12), .ref (qb 13), .ref (qb 14), .ref (qb 15), .ref (qb 16), .ref (qb 17), .ref (qb 18), .ref (qb 19), .int 0, .int 0, .ref (qb 20), .ref (qb 21), .int 0, .ref (qb 22), .ref (qb 23), .ref (qb 24), .ref (qb 25), .ref (qb 26), .ref (qb 27), .int 0, .ref (qb 28), .ref (qb 29), .int 0, .long 0, .int 0, .int 0, .ref (qb 30)])), ((qb 0), .inl ((cb 0), 16, .inl (upd (fun _ => 0) 0 (-1)))), ((qb 1), .inl ((cb 1), 16, .inl (fun _ => 0))), ((qb 2), .inl ((cb 2), 16, .inl (upd (fun _ => 0) 0 (-1)))), ((qb 3), .inl ((cb 3), 16, .inl (fun _ => 0))), ((qb 4), .inl ((cb 4), 16, .inl (fun _ => 0))), ((qb 5), .inl ((cb 5), 16, .inl (fun _ => 0))), ((qb 6), .inl ((cb 6), 16, .inl (fun _ => 0))), ((qb 7), .inl ((cb 7), 16, .inl (fun _ => 0))), ((qb 8), .inl ((cb 8), 40, .inl (fun _ => 0))), ((qb 9), .inl ((cb 9), 40, .inl (fun _ => 0))), ((qb 10), .inl ((cb 10), 40, .inl (fun _ => 0))), ((qb 11), .inl ((cb 11), 40, .inl (fun _ => 0))), ((qb 12), .inl ((cb 12), 40, .inl (fun _ => 0))), ((qb 13), .inl ((cb 13), 80, .inl (fun _ => 0))), ((qb 14), .inl ((cb 14), 40, .inl (fun _ => 0))), ((qb 15), .inl ((cb 15), 40, .inl (fun _ => 0))), ((qb 16), .inl ((cb 16), 40, .inl (fun _ => 0))), ((qb 17), .inl ((cb 17), 40, .inl (fun _ => 0))), ((qb 18), .inl ((cb 18), 40, .inl (fun _ => 0))), ((qb 19), .inl ((cb 19), 40, .inl (fun _ => 0))), ((qb 20), .inl ((cb 20), 60, .inl (fun _ => 0))), ((qb 21), .inl ((cb 21), 60, .inl (fun _ => 0))), ((qb 22), .inl ((cb 22), 130, .inl (fun _ => 0))), ((qb 23), .inl ((cb 23), 130, .inl (fun _ => 0))), ((qb 24), .inl ((cb 24), 130, .inl (fun _ => 0))), ((qb 25), .inl ((cb 25), 130, .inl (fun _ => 0))), ((qb 26), .inl ((cb 26), 5240, .inl (fun _ => 0))), ((qb 27), .inl ((cb 27), 5240, .inr (.inl (fun _ => 0)))), ((qb 28), .inl ((cb 28), 3, .inl (fun _ => 0))), ((qb 29), .inl ((cb 29), 3, .inr (.inl (fun _ => 0)))), ((qb 30), .inl ((cb 30), 16, .inl (fun _ => 0)))] H := hP
        have hD : va_D (fun q : Nat => s.heap.size ≤ q) [(q3, .inr (8, [.int 0, .int 1, .ref (qb 0), .ref (qb 1), .ref (qb 2), .ref (qb 3), .ref (qb 4), .ref (qb 5), .ref (qb 6), .ref (qb 7), .int 0, .ref (qb 8), .ref (qb 9), .ref (qb 10), .ref (qb 11), .ref (qb 12), .ref (qb 13), .ref (qb 14), .ref (qb 15), .ref (qb 16), .ref (qb 17), .ref (qb 18), .ref (qb 19), .int 0, .int 0, .ref (qb 20), .ref (qb 21), .int 0, .ref (qb 22), .ref (qb 23), .ref (qb 24), .ref (qb 25), .ref (qb 26), .ref (qb 27), .int 0, .ref (qb 28), .ref (qb 29), .int 0, .long 0, .int 0, .int 0, .ref (qb 30)])), ((qb 0), .inl ((cb 0), 16, .inl (upd (fun _ => 0) 0 (-1)))), ((qb 1), .inl ((cb 1), 16, .inl (fun _ => 0))), ((qb 2), .inl ((cb 2), 16, .inl (upd (fun _ => 0) 0 (-1)))), ((qb 3), .inl ((cb 3), 16, .inl (fun _ => 0))), ((qb 4), .inl ((cb 4), 16, .inl (fun _ => 0))), ((qb 5), .inl ((cb 5), 16, .inl (fun _ => 0))), ((qb 6), .inl ((cb 6), 16, .inl (fun _ => 0))), ((qb 7), .inl ((cb 7), 16, .inl (fun _ => 0))), ((qb 8), .inl ((cb 8), 40, .inl (fun _ => 0))), ((qb 9), .inl ((cb 9), 40, .inl (fun _ => 0))), ((qb 10), .inl ((cb 10), 40, .inl (fun _ => 0))), ((qb 11), .inl ((cb 11), 40, .inl (fun _ => 0))), ((qb 12), .inl ((cb 12), 40, .inl (fun _ => 0))), ((qb 13), .inl ((cb 13), 80, .inl (fun _ => 0))), ((qb 14), .inl ((cb 14), 40, .inl (fun _ => 0))), ((qb 15), .inl ((cb 15), 40, .inl (fun _ => 0))), ((qb 16), .inl ((cb 16), 40, .inl (fun _ => 0))), ((qb 17), .inl ((cb 17), 40, .inl (fun _ => 0))), ((qb 18), .inl ((cb 18), 40, .inl (fun _ => 0))), ((qb 19), .inl ((cb 19), 40, .inl (fun _ => 0))), ((qb 20), .inl ((cb 20), 60, .inl (fun _ => 0))), ((qb 21), .inl ((cb 21), 60, .inl (fun _ => 0))), ((qb 22), .inl ((cb 22), 130, .inl (fun _ => 0))), ((qb 23), .inl ((cb 23), 130, .inl (fun _ => 0))), ((qb 24), .inl ((cb 24), 130, .inl (fun _ => 0))), ((qb 25), .inl ((cb 25), 130, .inl (fun _ => 0))), ((qb 26), .inl ((cb 26), 5240, .inl (fun _ => 0))), ((qb 27), .inl ((cb 27), 5240, .inr (.inl (fun _ => 0)))), ((qb 28), .inl ((cb 28), 3, .inl (fun _ => 0))), ((qb 29), .inl ((cb 29), 3, .inr (.inl (fun _ => 0)))), ((qb 30), .inl ((cb 30), 16, .inl (fun _ => 0)))] := hD
        have hK : va_K (dC, dI) vwCl [((ca 0), .object "ReflectModels$ClassModel"), ((ca 1), .object "ReflectModels$Member"), ((ca 2), .object "ReflectModels$Handle"), ((ca 3), .object "ReflectModels$Thing"), ((ca 4), .object "ReflectModels$Value"), ((cb 0), .int), ((cb 1), .int), ((cb 2), .int), ((cb 3), .boolean), ((cb 4), .boolean), ((cb 5), .int), ((cb 6), .int), ((cb 7), .int), ((cb 8), .int), ((cb 9), .boolean), ((cb 10), .int), ((cb 11), .int), ((cb 12), .int), ((cb 13), .int), ((cb 14), .boolean), ((cb 15), .boolean), ((cb 16), .boolean), ((cb 17), .boolean), ((cb 18), .int), ((cb 19), .int), ((cb 20), .int), ((cb 21), .boolean), ((cb 22), .int), ((cb 23), .int), ((cb 24), .int), ((cb 25), .int), ((cb 26), .int), ((cb 27), .long), ((cb 28), .int), ((cb 29), .long), ((cb 30), .int)] s := hK
        refine W.cs (cells' := 44) (slots' := 12119) rfl rfl ?_
        refine lv_aload_n hx hb dL_law_327 rfl (lv_at hl 1 rfl) ?_
        refine lv_aload_n hx hb dL_law_328 rfl (lv_at hl 3 rfl) ?_
        refine lv_iload_n hx hb dL_law_329 rfl (lv_at hl 0 rfl) ?_
        refine lv_iconst (v := 1) hx hb dL_law_330 (by decide) ?_
        refine lv_iadd hx hb dL_law_331 ?_
        refine lv_topi (fun y46 ey46 => ?_)
        obtain rfl : y46 = 1 := ey46.trans (by decide)
        refine va_sld hx hb hX hbl hbA hS (vp_in_iff.mpr ⟨by decide, by decide⟩) dL_law_332 ?_
        refine W.eq (g2 := F0 m 333 ls [.int (xs 1), .ref q3, .int (an_field (xs 1).toInt (xs 2).toInt (xs 3).toInt (bz (xs 4)).toInt)]) rfl ?_
        refine lv_aload_n hx hb dL_law_333 rfl (lv_at hl 3 rfl) ?_
        refine lv_iload_n hx hb dL_law_334 rfl (lv_at hl 0 rfl) ?_
        refine lv_iconst (v := 2) hx hb dL_law_335 (by decide) ?_
        refine lv_iadd hx hb dL_law_336 ?_
        refine lv_topi (fun y47 ey47 => ?_)
        obtain rfl : y47 = 2 := ey47.trans (by decide)
        refine va_sld hx hb hX hbl hbA hS (vp_in_iff.mpr ⟨by decide, by decide⟩) dL_law_337 ?_
        refine W.eq (g2 := F0 m 338 ls [.int (xs 2), .int (xs 1), .ref q3, .int (an_field (xs 1).toInt (xs 2).toInt (xs 3).toInt (bz (xs 4)).toInt)]) rfl ?_
        refine lv_aload_n hx hb dL_law_338 rfl (lv_at hl 3 rfl) ?_
        refine lv_iload_n hx hb dL_law_339 rfl (lv_at hl 0 rfl) ?_
        refine lv_iconst (v := 3) hx hb dL_law_340 (by decide) ?_
        refine lv_iadd hx hb dL_law_341 ?_
        refine lv_topi (fun y48 ey48 => ?_)
        obtain rfl : y48 = 3 := ey48.trans (by decide)
        refine va_sld hx hb hX hbl hbA hS (vp_in_iff.mpr ⟨by decide, by decide⟩) dL_law_342 ?_
        refine W.eq (g2 := F0 m 343 ls [.int (xs 3), .int (xs 2), .int (xs 1), .ref q3, .int (an_field (xs 1).toInt (xs 2).toInt (xs 3).toInt (bz (xs 4)).toInt)]) rfl ?_
        refine lv_aload_n hx hb dL_law_343 rfl (lv_at hl 3 rfl) ?_
        refine lv_iload_n hx hb dL_law_344 rfl (lv_at hl 0 rfl) ?_
        refine lv_iconst (v := 4) hx hb dL_law_345 (by decide) ?_
        refine lv_iadd hx hb dL_law_346 ?_
        refine lv_topi (fun y49 ey49 => ?_)
        obtain rfl : y49 = 4 := ey49.trans (by decide)
        refine va_sld hx hb hX hbl hbA hS (vp_in_iff.mpr ⟨by decide, by decide⟩) dL_law_347 ?_
        refine W.eq (g2 := F0 m 348 ls [.int (xs 4), .int (xs 3), .int (xs 2), .int (xs 1), .ref q3, .int (an_field (xs 1).toInt (xs 2).toInt (xs 3).toInt (bz (xs 4)).toInt)]) rfl ?_
        refine lw_b hx hb dL_law_348 dL_law_351 dL_law_352 dL_law_355 ?_
        refine lv_aload_n hx hb dL_law_356 rfl (lv_at hl 3 rfl) ?_
        refine lv_iload_n hx hb dL_law_357 rfl (lv_at hl 0 rfl) ?_
        refine lv_iconst (v := 5) hx hb dL_law_358 (by decide) ?_
        refine lv_iadd hx hb dL_law_359 ?_
        refine lv_topi (fun y50 ey50 => ?_)
        obtain rfl : y50 = 5 := ey50.trans (by decide)
        refine va_sld hx hb hX hbl hbA hS (vp_in_iff.mpr ⟨by decide, by decide⟩) dL_law_360 ?_
        refine W.eq (g2 := F0 m 361 ls [.int (xs 5), .int (bz (xs 4)), .int (xs 3), .int (xs 2), .int (xs 1), .ref q3, .int (an_field (xs 1).toInt (xs 2).toInt (xs 3).toInt (bz (xs 4)).toInt)]) rfl ?_
        refine lw_b hx hb dL_law_361 dL_law_364 dL_law_365 dL_law_368 ?_
        refine lv_aload_n hx hb dL_law_369 rfl (lv_at hl 3 rfl) ?_
        refine lv_iload_n hx hb dL_law_370 rfl (lv_at hl 0 rfl) ?_
        refine lv_bipush (v := 6) hx hb dL_law_371 (by decide) ?_
        refine lv_iadd hx hb dL_law_373 ?_
        refine lv_topi (fun y51 ey51 => ?_)
        obtain rfl : y51 = 6 := ey51.trans (by decide)
        refine va_sld hx hb hX hbl hbA hS (vp_in_iff.mpr ⟨by decide, by decide⟩) dL_law_374 ?_
        refine W.eq (g2 := F0 m 375 ls [.int (xs 6), .int (bz (xs 5)), .int (bz (xs 4)), .int (xs 3), .int (xs 2), .int (xs 1), .ref q3, .int (an_field (xs 1).toInt (xs 2).toInt (xs 3).toInt (bz (xs 4)).toInt)]) rfl ?_
        refine lw_b hx hb dL_law_375 dL_law_378 dL_law_379 dL_law_382 ?_
        refine clW (wr := []) [0, 1, 2, 3, 4, 5, 6, 7, 8, 9, 10, 11, 12, 13, 14, 15, 16, 17, 18, 19, 20, 21, 22, 23, 24, 25, 26, 27, 28, 29, 30, 31] [] (va_runV (As := [.int (xs 1), .int (xs 2), .int (xs 3), .int (bz (xs 4)), .int (bz (xs 5)), .int (bz (xs 6))]) (rest := [.int (an_field (xs 1).toInt (xs 2).toInt (xs 3).toInt (bz (xs 4)).toInt)]) ⟨hx, hb, hml, hown, hts⟩ (c9_field l dC dI q3 qb cb (xs 1) (xs 2) (xs 3) (bz (xs 4)) (bz (xs 5)) (bz (xs 6)) _ (bz_01 _) (bz_01 _) (bz_01 _)) (cwV 6 hts gL_law_X9_field rfl rfl rfl (by decide +kernel) ⟨Nat.le_of_ble_eq_true rfl, Nat.le_of_ble_eq_true rfl⟩) ⟨pz_blind, va_recv hK hP (ci := 8) (q0 := 0) rfl rfl, pz_of hP hK hD hN [0, 1, 2, 3, 4, 5, 6, 7, 8, 9, 10, 11, 12, 13, 14, 15, 16, 17, 18, 19, 20, 21, 22, 23, 24, 25, 26, 27, 28, 29, 30, 31] [5, 6, 7, 8, 9, 10, 11, 12, 13, 14, 15, 16, 17, 18, 19, 20, 21, 22, 23, 24, 25, 26, 27, 28, 29, 30, 31, 32, 33, 34, 35] rfl (by decide) rfl⟩ rfl rfl hl.1 rfl (lv_room (Nat.le_of_ble_eq_true rfl)) dL_law_383 ⟨Nat.le_of_ble_eq_true rfl, Nat.le_of_ble_eq_true rfl⟩) hS hP hD hK hA rfl rfl (by decide) (by decide) (fun v w1 ty1 H locs w52 hP hD hK hS => ?_)
        obtain ⟨rfl, rfl, rfl⟩ := w52
        refine W.eq (g2 := F0 m 386 ls [.int (an_field (xs 1).toInt (xs 2).toInt (xs 3).toInt (bz (xs 4)).toInt), .int (an_field (xs 1).toInt (xs 2).toInt (xs 3).toInt (bz (xs 4)).toInt)]) rfl ?_
        have hP : va_P (dC, dI) vwCl [] H := hP
        have hD : va_D (fun q : Nat => s.heap.size ≤ q) [] := hD
        have hK : va_K (dC, dI) vwCl [((ca 0), .object "ReflectModels$ClassModel"), ((ca 1), .object "ReflectModels$Member"), ((ca 2), .object "ReflectModels$Handle"), ((ca 3), .object "ReflectModels$Thing"), ((ca 4), .object "ReflectModels$Value"), ((cb 0), .int), ((cb 1), .int), ((cb 2), .int), ((cb 3), .boolean), ((cb 4), .boolean), ((cb 5), .int), ((cb 6), .int), ((cb 7), .int), ((cb 8), .int), ((cb 9), .boolean), ((cb 10), .int), ((cb 11), .int), ((cb 12), .int), ((cb 13), .int), ((cb 14), .boolean), ((cb 15), .boolean), ((cb 16), .boolean), ((cb 17), .boolean), ((cb 18), .int), ((cb 19), .int), ((cb 20), .int), ((cb 21), .boolean), ((cb 22), .int), ((cb 23), .int), ((cb 24), .int), ((cb 25), .int), ((cb 26), .int), ((cb 27), .long), ((cb 28), .int), ((cb 29), .long), ((cb 30), .int)] s := hK
        refine W.cs (cells' := 44) (slots' := 12119) rfl rfl ?_
        refine lv_icmp_eq (tgt := 1154) hx hb dL_law_386 (by decide) (fun _ => ?_) (fun h => absurd rfl h)
        refine lv_iinc (v := 10) (lv' := [(3, .int 10), (2, .ref q3), (1, .ref q1), (0, .ref b)]) hx hb dL_law_1154 hl (k := 0) rfl (by decide) (by decide) rfl (fun ls hl => ?_)
        refine lv_goto (tgt := 18) hx hb dL_law_1157 (by decide) ?_
        refine lv_iload_n hx hb dL_law_18 rfl (lv_at hl 0 rfl) ?_
        refine lv_aload_n hx hb dL_law_19 rfl (lv_at hl 3 rfl) ?_
        refine va_slen hx hb hX hbl hbA hS dL_law_20 ?_
        refine W.eq (g2 := F0 m 21 ls [.int 10, .int 10]) rfl ?_
        refine lv_bipush (v := 10) hx hb dL_law_21 (by decide) ?_
        refine lv_isub hx hb dL_law_23 ?_
        refine lv_topi (fun y53 ey53 => ?_)
        obtain rfl : y53 = 0 := ey53.trans (by decide)
        refine lv_icmp_gt (tgt := 1160) hx hb dL_law_24 (by decide) (fun _ => ?_) (fun h => absurd (by decide) h)
        refine lv_iconst (v := 1) hx hb dL_law_1160 (by decide) ?_
        refine va_forget (fun z hz => hS.2.2 z hz) ?_
        refine W.widen (k := 600000) (n := 7302250) (by omega) (by omega) ?_
        exact lw_ret hx hb hr hlocks dL_law_1161
      · refine lv_tableIn (tgt := 391) (off := 358) hx hb dL_law_33 (by decide) (by decide) (by decide) (by decide) ?_
        refine lv_aload_n hx hb dL_law_391 rfl (lv_at hl 2 rfl) ?_
        refine lv_aload_n hx hb dL_law_392 rfl (lv_at hl 3 rfl) ?_
        refine lv_iload_n hx hb dL_law_393 rfl (lv_at hl 0 rfl) ?_
        refine lv_iconst (v := 1) hx hb dL_law_394 (by decide) ?_
        refine lv_iadd hx hb dL_law_395 ?_
        refine lv_topi (fun y54 ey54 => ?_)
        obtain rfl : y54 = 1 := ey54.trans (by decide)
        refine va_sld hx hb hX hbl hbA hS (vp_in_iff.mpr ⟨by decide, by decide⟩) dL_law_396 ?_
        refine W.eq (g2 := F0 m 397 ls [.int (xs 1), .ref q1]) rfl ?_
        refine lv_aload_n hx hb dL_law_397 rfl (lv_at hl 3 rfl) ?_
        refine lv_iload_n hx hb dL_law_398 rfl (lv_at hl 0 rfl) ?_
        refine lv_iconst (v := 2) hx hb dL_law_399 (by decide) ?_
        refine lv_iadd hx hb dL_law_400 ?_
        refine lv_topi (fun y55 ey55 => ?_)
        obtain rfl : y55 = 2 := ey55.trans (by decide)
        refine va_sld hx hb hX hbl hbA hS (vp_in_iff.mpr ⟨by decide, by decide⟩) dL_law_401 ?_
        refine W.eq (g2 := F0 m 402 ls [.int (xs 2), .int (xs 1), .ref q1]) rfl ?_
        refine lv_aload_n hx hb dL_law_402 rfl (lv_at hl 3 rfl) ?_
        refine lv_iload_n hx hb dL_law_403 rfl (lv_at hl 0 rfl) ?_
        refine lv_iconst (v := 3) hx hb dL_law_404 (by decide) ?_
        refine lv_iadd hx hb dL_law_405 ?_
        refine lv_topi (fun y56 ey56 => ?_)
        obtain rfl : y56 = 3 := ey56.trans (by decide)
        refine va_sld hx hb hX hbl hbA hS (vp_in_iff.mpr ⟨by decide, by decide⟩) dL_law_406 ?_
        refine W.eq (g2 := F0 m 407 ls [.int (xs 3), .int (xs 2), .int (xs 1), .ref q1]) rfl ?_
        refine lv_aload_n hx hb dL_law_407 rfl (lv_at hl 3 rfl) ?_
        refine lv_iload_n hx hb dL_law_408 rfl (lv_at hl 0 rfl) ?_
        refine lv_iconst (v := 4) hx hb dL_law_409 (by decide) ?_
        refine lv_iadd hx hb dL_law_410 ?_
        refine lv_topi (fun y57 ey57 => ?_)
        obtain rfl : y57 = 4 := ey57.trans (by decide)
        refine va_sld hx hb hX hbl hbA hS (vp_in_iff.mpr ⟨by decide, by decide⟩) dL_law_411 ?_
        refine W.eq (g2 := F0 m 412 ls [.int (xs 4), .int (xs 3), .int (xs 2), .int (xs 1), .ref q1]) rfl ?_
        refine lv_aload_n hx hb dL_law_412 rfl (lv_at hl 3 rfl) ?_
        refine lv_iload_n hx hb dL_law_413 rfl (lv_at hl 0 rfl) ?_
        refine lv_iconst (v := 5) hx hb dL_law_414 (by decide) ?_
        refine lv_iadd hx hb dL_law_415 ?_
        refine lv_topi (fun y58 ey58 => ?_)
        obtain rfl : y58 = 5 := ey58.trans (by decide)
        refine va_sld hx hb hX hbl hbA hS (vp_in_iff.mpr ⟨by decide, by decide⟩) dL_law_416 ?_
        refine W.eq (g2 := F0 m 417 ls [.int (xs 5), .int (xs 4), .int (xs 3), .int (xs 2), .int (xs 1), .ref q1]) rfl ?_
        refine lv_aload_n hx hb dL_law_417 rfl (lv_at hl 3 rfl) ?_
        refine lv_iload_n hx hb dL_law_418 rfl (lv_at hl 0 rfl) ?_
        refine lv_bipush (v := 6) hx hb dL_law_419 (by decide) ?_
        refine lv_iadd hx hb dL_law_421 ?_
        refine lv_topi (fun y59 ey59 => ?_)
        obtain rfl : y59 = 6 := ey59.trans (by decide)
        refine va_sld hx hb hX hbl hbA hS (vp_in_iff.mpr ⟨by decide, by decide⟩) dL_law_422 ?_
        refine W.eq (g2 := F0 m 423 ls [.int (xs 6), .int (xs 5), .int (xs 4), .int (xs 3), .int (xs 2), .int (xs 1), .ref q1]) rfl ?_
        refine lv_aload_n hx hb dL_law_423 rfl (lv_at hl 3 rfl) ?_
        refine lv_iload_n hx hb dL_law_424 rfl (lv_at hl 0 rfl) ?_
        refine lv_bipush (v := 7) hx hb dL_law_425 (by decide) ?_
        refine lv_iadd hx hb dL_law_427 ?_
        refine lv_topi (fun y60 ey60 => ?_)
        obtain rfl : y60 = 7 := ey60.trans (by decide)
        refine va_sld hx hb hX hbl hbA hS (vp_in_iff.mpr ⟨by decide, by decide⟩) dL_law_428 ?_
        refine W.eq (g2 := F0 m 429 ls [.int (xs 7), .int (xs 6), .int (xs 5), .int (xs 4), .int (xs 3), .int (xs 2), .int (xs 1), .ref q1]) rfl ?_
        refine lv_aload_n hx hb dL_law_429 rfl (lv_at hl 3 rfl) ?_
        refine lv_iload_n hx hb dL_law_430 rfl (lv_at hl 0 rfl) ?_
        refine lv_bipush (v := 8) hx hb dL_law_431 (by decide) ?_
        refine lv_iadd hx hb dL_law_433 ?_
        refine lv_topi (fun y61 ey61 => ?_)
        obtain rfl : y61 = 8 := ey61.trans (by decide)
        refine va_sld hx hb hX hbl hbA hS (vp_in_iff.mpr ⟨by decide, by decide⟩) dL_law_434 ?_
        refine W.eq (g2 := F0 m 435 ls [.int (xs 8), .int (xs 7), .int (xs 6), .int (xs 5), .int (xs 4), .int (xs 3), .int (xs 2), .int (xs 1), .ref q1]) rfl ?_
        refine lv_aload_n hx hb dL_law_435 rfl (lv_at hl 3 rfl) ?_
        refine lv_iload_n hx hb dL_law_436 rfl (lv_at hl 0 rfl) ?_
        refine lv_bipush (v := 9) hx hb dL_law_437 (by decide) ?_
        refine lv_iadd hx hb dL_law_439 ?_
        refine lv_topi (fun y62 ey62 => ?_)
        obtain rfl : y62 = 9 := ey62.trans (by decide)
        refine va_sld hx hb hX hbl hbA hS (vp_in_iff.mpr ⟨by decide, by decide⟩) dL_law_440 ?_
        refine W.eq (g2 := F0 m 441 ls [.int (xs 9), .int (xs 8), .int (xs 7), .int (xs 6), .int (xs 5), .int (xs 4), .int (xs 3), .int (xs 2), .int (xs 1), .ref q1]) rfl ?_
        refine clW (wr := [(q3, .inr (8, [.int 0, .int 1, .ref (qb 0), .ref (qb 1), .ref (qb 2), .ref (qb 3), .ref (qb 4), .ref (qb 5), .ref (qb 6), .ref (qb 7), .int 0, .ref (qb 8), .ref (qb 9), .ref (qb 10), .ref (qb 11), .ref (qb 12), .ref (qb 13), .ref (qb 14), .ref (qb 15), .ref (qb 16), .ref (qb 17), .ref (qb 18), .ref (qb 19), .int 0, .int 0, .ref (qb 20), .ref (qb 21), .int 0, .ref (qb 22), .ref (qb 23), .ref (qb 24), .ref (qb 25), .ref (qb 26), .ref (qb 27), .int 0, .ref (qb 28), .ref (qb 29), .int 0, .long 0, .int 0, .int 0, .ref (qb 30)])), ((qb 0), .inl ((cb 0), 16, .inl (upd (fun _ => 0) 0 (-1)))), ((qb 1), .inl ((cb 1), 16, .inl (fun _ => 0))), ((qb 2), .inl ((cb 2), 16, .inl (upd (fun _ => 0) 0 (-1)))), ((qb 3), .inl ((cb 3), 16, .inl (fun _ => 0))), ((qb 4), .inl ((cb 4), 16, .inl (fun _ => 0))), ((qb 5), .inl ((cb 5), 16, .inl (fun _ => 0))), ((qb 6), .inl ((cb 6), 16, .inl (fun _ => 0))), ((qb 7), .inl ((cb 7), 16, .inl (fun _ => 0))), ((qb 8), .inl ((cb 8), 40, .inl (fun _ => 0))), ((qb 9), .inl ((cb 9), 40, .inl (fun _ => 0))), ((qb 10), .inl ((cb 10), 40, .inl (fun _ => 0))), ((qb 11), .inl ((cb 11), 40, .inl (fun _ => 0))), ((qb 12), .inl ((cb 12), 40, .inl (fun _ => 0))), ((qb 13), .inl ((cb 13), 80, .inl (fun _ => 0))), ((qb 14), .inl ((cb 14), 40, .inl (fun _ => 0))), ((qb 15), .inl ((cb 15), 40, .inl (fun _ => 0))), ((qb 16), .inl ((cb 16), 40, .inl (fun _ => 0))), ((qb 17), .inl ((cb 17), 40, .inl (fun _ => 0))), ((qb 18), .inl ((cb 18), 40, .inl (fun _ => 0))), ((qb 19), .inl ((cb 19), 40, .inl (fun _ => 0))), ((qb 20), .inl ((cb 20), 60, .inl (fun _ => 0))), ((qb 21), .inl ((cb 21), 60, .inl (fun _ => 0))), ((qb 22), .inl ((cb 22), 130, .inl (fun _ => 0))), ((qb 23), .inl ((cb 23), 130, .inl (fun _ => 0))), ((qb 24), .inl ((cb 24), 130, .inl (fun _ => 0))), ((qb 25), .inl ((cb 25), 130, .inl (fun _ => 0))), ((qb 26), .inl ((cb 26), 5240, .inl (fun _ => 0))), ((qb 27), .inl ((cb 27), 5240, .inr (.inl (fun _ => 0)))), ((qb 28), .inl ((cb 28), 3, .inl (fun _ => 0))), ((qb 29), .inl ((cb 29), 3, .inr (.inl (fun _ => 0)))), ((qb 30), .inl ((cb 30), 16, .inl (fun _ => 0)))]) [0, 1, 2, 3, 4, 5, 6, 7, 8, 9, 10] [11, 12, 13, 14, 15, 16, 17, 18, 19, 20, 21, 22, 23, 24, 25, 26, 27, 28, 29, 30, 31, 32, 33, 34, 35, 36, 37, 38, 39, 40, 41, 42] (va_runV (As := [.int (xs 1), .int (xs 2), .int (xs 3), .int (xs 4), .int (xs 5), .int (xs 6), .int (xs 7), .int (xs 8), .int (xs 9)]) (rest := []) ⟨hx, hb, hml, hown, hts⟩ (c8_method l dC dI q1 qa ca (xs 1) (xs 2) (xs 3) (xs 4) (xs 5) (xs 6) (xs 7) (xs 8) (xs 9) _ ) (cwV 9 hts gL_law_X8_method rfl rfl rfl (by decide +kernel) ⟨Nat.le_of_ble_eq_true rfl, Nat.le_of_ble_eq_true rfl⟩) ⟨pz_blind, va_recv hK hP (ci := 7) (q0 := 0) rfl rfl, pz_of hP hK hD hN [0, 1, 2, 3, 4, 5, 6, 7, 8, 9, 10] [0, 1, 2, 3, 4] rfl (by decide) rfl⟩ rfl rfl hl.1 rfl (lv_room (Nat.le_of_ble_eq_true rfl)) dL_law_441 ⟨Nat.le_of_ble_eq_true rfl, Nat.le_of_ble_eq_true rfl⟩) hS hP hD hK hA rfl rfl (by decide) (by decide) (fun v w1 ty1 H locs w63 hP hD hK hS => ?_)
        obtain ⟨rfl, rfl, rfl⟩ := w63
        refine W.eq (g2 := F0 m 444 ls [.int (an_method (xs 1).toInt (xs 2).toInt (xs 3).toInt (xs 4).toInt (xs 5).toInt (xs 6).toInt (xs 7).toInt (xs 8).toInt (xs 9).toInt)]) rfl ?_
        have hP : va_P (dC, dI) vwCl [(q3, .inr (8, [.int 0, .int 1, .ref (qb 0), .ref (qb 1), .ref (qb 2), .ref (qb 3), .ref (qb 4), .ref (qb 5), .ref (qb 6), .ref (qb 7), .int 0, .ref (qb 8), .ref (qb 9), .ref (qb 10), .ref (qb 11), .ref (qb 12), .ref (qb 13), .ref (qb 14), .ref (qb 15), .ref (qb 16), .ref (qb 17), .ref (qb 18), .ref (qb 19), .int 0, .int 0, .ref (qb 20), .ref (qb 21), .int 0, .ref (qb 22), .ref (qb 23), .ref (qb 24), .ref (qb 25), .ref (qb 26), .ref (qb 27), .int 0, .ref (qb 28), .ref (qb 29), .int 0, .long 0, .int 0, .int 0, .ref (qb 30)])), ((qb 0), .inl ((cb 0), 16, .inl (upd (fun _ => 0) 0 (-1)))), ((qb 1), .inl ((cb 1), 16, .inl (fun _ => 0))), ((qb 2), .inl ((cb 2), 16, .inl (upd (fun _ => 0) 0 (-1)))), ((qb 3), .inl ((cb 3), 16, .inl (fun _ => 0))), ((qb 4), .inl ((cb 4), 16, .inl (fun _ => 0))), ((qb 5), .inl ((cb 5), 16, .inl (fun _ => 0))), ((qb 6), .inl ((cb 6), 16, .inl (fun _ => 0))), ((qb 7), .inl ((cb 7), 16, .inl (fun _ => 0))), ((qb 8), .inl ((cb 8), 40, .inl (fun _ => 0))), ((qb 9), .inl ((cb 9), 40, .inl (fun _ => 0))), ((qb 10), .inl ((cb 10), 40, .inl (fun _ => 0))), ((qb 11), .inl ((cb 11), 40, .inl (fun _ => 0))), ((qb 12), .inl ((cb 12), 40, .inl (fun _ => 0))), ((qb 13), .inl ((cb 13), 80, .inl (fun _ => 0))), ((qb 14), .inl ((cb 14), 40, .inl (fun _ => 0))), ((qb 15), .inl ((cb 15), 40, .inl (fun _ => 0))), ((qb 16), .inl ((cb 16), 40, .inl (fun _ => 0))), ((qb 17), .inl ((cb 17), 40, .inl (fun _ => 0))), ((qb 18), .inl ((cb 18), 40, .inl (fun _ => 0))), ((qb 19), .inl ((cb 19), 40, .inl (fun _ => 0))), ((qb 20), .inl ((cb 20), 60, .inl (fun _ => 0))), ((qb 21), .inl ((cb 21), 60, .inl (fun _ => 0))), ((qb 22), .inl ((cb 22), 130, .inl (fun _ => 0))), ((qb 23), .inl ((cb 23), 130, .inl (fun _ => 0))), ((qb 24), .inl ((cb 24), 130, .inl (fun _ => 0))), ((qb 25), .inl ((cb 25), 130, .inl (fun _ => 0))), ((qb 26), .inl ((cb 26), 5240, .inl (fun _ => 0))), ((qb 27), .inl ((cb 27), 5240, .inr (.inl (fun _ => 0)))), ((qb 28), .inl ((cb 28), 3, .inl (fun _ => 0))), ((qb 29), .inl ((cb 29), 3, .inr (.inl (fun _ => 0)))), ((qb 30), .inl ((cb 30), 16, .inl (fun _ => 0)))] H := hP
        have hD : va_D (fun q : Nat => s.heap.size ≤ q) [(q3, .inr (8, [.int 0, .int 1, .ref (qb 0), .ref (qb 1), .ref (qb 2), .ref (qb 3), .ref (qb 4), .ref (qb 5), .ref (qb 6), .ref (qb 7), .int 0, .ref (qb 8), .ref (qb 9), .ref (qb 10), .ref (qb 11), .ref (qb 12), .ref (qb 13), .ref (qb 14), .ref (qb 15), .ref (qb 16), .ref (qb 17), .ref (qb 18), .ref (qb 19), .int 0, .int 0, .ref (qb 20), .ref (qb 21), .int 0, .ref (qb 22), .ref (qb 23), .ref (qb 24), .ref (qb 25), .ref (qb 26), .ref (qb 27), .int 0, .ref (qb 28), .ref (qb 29), .int 0, .long 0, .int 0, .int 0, .ref (qb 30)])), ((qb 0), .inl ((cb 0), 16, .inl (upd (fun _ => 0) 0 (-1)))), ((qb 1), .inl ((cb 1), 16, .inl (fun _ => 0))), ((qb 2), .inl ((cb 2), 16, .inl (upd (fun _ => 0) 0 (-1)))), ((qb 3), .inl ((cb 3), 16, .inl (fun _ => 0))), ((qb 4), .inl ((cb 4), 16, .inl (fun _ => 0))), ((qb 5), .inl ((cb 5), 16, .inl (fun _ => 0))), ((qb 6), .inl ((cb 6), 16, .inl (fun _ => 0))), ((qb 7), .inl ((cb 7), 16, .inl (fun _ => 0))), ((qb 8), .inl ((cb 8), 40, .inl (fun _ => 0))), ((qb 9), .inl ((cb 9), 40, .inl (fun _ => 0))), ((qb 10), .inl ((cb 10), 40, .inl (fun _ => 0))), ((qb 11), .inl ((cb 11), 40, .inl (fun _ => 0))), ((qb 12), .inl ((cb 12), 40, .inl (fun _ => 0))), ((qb 13), .inl ((cb 13), 80, .inl (fun _ => 0))), ((qb 14), .inl ((cb 14), 40, .inl (fun _ => 0))), ((qb 15), .inl ((cb 15), 40, .inl (fun _ => 0))), ((qb 16), .inl ((cb 16), 40, .inl (fun _ => 0))), ((qb 17), .inl ((cb 17), 40, .inl (fun _ => 0))), ((qb 18), .inl ((cb 18), 40, .inl (fun _ => 0))), ((qb 19), .inl ((cb 19), 40, .inl (fun _ => 0))), ((qb 20), .inl ((cb 20), 60, .inl (fun _ => 0))), ((qb 21), .inl ((cb 21), 60, .inl (fun _ => 0))), ((qb 22), .inl ((cb 22), 130, .inl (fun _ => 0))), ((qb 23), .inl ((cb 23), 130, .inl (fun _ => 0))), ((qb 24), .inl ((cb 24), 130, .inl (fun _ => 0))), ((qb 25), .inl ((cb 25), 130, .inl (fun _ => 0))), ((qb 26), .inl ((cb 26), 5240, .inl (fun _ => 0))), ((qb 27), .inl ((cb 27), 5240, .inr (.inl (fun _ => 0)))), ((qb 28), .inl ((cb 28), 3, .inl (fun _ => 0))), ((qb 29), .inl ((cb 29), 3, .inr (.inl (fun _ => 0)))), ((qb 30), .inl ((cb 30), 16, .inl (fun _ => 0)))] := hD
        have hK : va_K (dC, dI) vwCl [((ca 0), .object "ReflectModels$ClassModel"), ((ca 1), .object "ReflectModels$Member"), ((ca 2), .object "ReflectModels$Handle"), ((ca 3), .object "ReflectModels$Thing"), ((ca 4), .object "ReflectModels$Value"), ((cb 0), .int), ((cb 1), .int), ((cb 2), .int), ((cb 3), .boolean), ((cb 4), .boolean), ((cb 5), .int), ((cb 6), .int), ((cb 7), .int), ((cb 8), .int), ((cb 9), .boolean), ((cb 10), .int), ((cb 11), .int), ((cb 12), .int), ((cb 13), .int), ((cb 14), .boolean), ((cb 15), .boolean), ((cb 16), .boolean), ((cb 17), .boolean), ((cb 18), .int), ((cb 19), .int), ((cb 20), .int), ((cb 21), .boolean), ((cb 22), .int), ((cb 23), .int), ((cb 24), .int), ((cb 25), .int), ((cb 26), .int), ((cb 27), .long), ((cb 28), .int), ((cb 29), .long), ((cb 30), .int)] s := hK
        refine W.cs (cells' := 45) (slots' := 12122) rfl rfl ?_
        refine lv_aload_n hx hb dL_law_444 rfl (lv_at hl 1 rfl) ?_
        refine lv_aload_n hx hb dL_law_445 rfl (lv_at hl 3 rfl) ?_
        refine lv_iload_n hx hb dL_law_446 rfl (lv_at hl 0 rfl) ?_
        refine lv_iconst (v := 1) hx hb dL_law_447 (by decide) ?_
        refine lv_iadd hx hb dL_law_448 ?_
        refine lv_topi (fun y64 ey64 => ?_)
        obtain rfl : y64 = 1 := ey64.trans (by decide)
        refine va_sld hx hb hX hbl hbA hS (vp_in_iff.mpr ⟨by decide, by decide⟩) dL_law_449 ?_
        refine W.eq (g2 := F0 m 450 ls [.int (xs 1), .ref q3, .int (an_method (xs 1).toInt (xs 2).toInt (xs 3).toInt (xs 4).toInt (xs 5).toInt (xs 6).toInt (xs 7).toInt (xs 8).toInt (xs 9).toInt)]) rfl ?_
        refine lv_aload_n hx hb dL_law_450 rfl (lv_at hl 3 rfl) ?_
        refine lv_iload_n hx hb dL_law_451 rfl (lv_at hl 0 rfl) ?_
        refine lv_iconst (v := 2) hx hb dL_law_452 (by decide) ?_
        refine lv_iadd hx hb dL_law_453 ?_
        refine lv_topi (fun y65 ey65 => ?_)
        obtain rfl : y65 = 2 := ey65.trans (by decide)
        refine va_sld hx hb hX hbl hbA hS (vp_in_iff.mpr ⟨by decide, by decide⟩) dL_law_454 ?_
        refine W.eq (g2 := F0 m 455 ls [.int (xs 2), .int (xs 1), .ref q3, .int (an_method (xs 1).toInt (xs 2).toInt (xs 3).toInt (xs 4).toInt (xs 5).toInt (xs 6).toInt (xs 7).toInt (xs 8).toInt (xs 9).toInt)]) rfl ?_
        refine lv_aload_n hx hb dL_law_455 rfl (lv_at hl 3 rfl) ?_
        refine lv_iload_n hx hb dL_law_456 rfl (lv_at hl 0 rfl) ?_
        refine lv_iconst (v := 3) hx hb dL_law_457 (by decide) ?_
        refine lv_iadd hx hb dL_law_458 ?_
        refine lv_topi (fun y66 ey66 => ?_)
        obtain rfl : y66 = 3 := ey66.trans (by decide)
        refine va_sld hx hb hX hbl hbA hS (vp_in_iff.mpr ⟨by decide, by decide⟩) dL_law_459 ?_
        refine W.eq (g2 := F0 m 460 ls [.int (xs 3), .int (xs 2), .int (xs 1), .ref q3, .int (an_method (xs 1).toInt (xs 2).toInt (xs 3).toInt (xs 4).toInt (xs 5).toInt (xs 6).toInt (xs 7).toInt (xs 8).toInt (xs 9).toInt)]) rfl ?_
        refine lv_aload_n hx hb dL_law_460 rfl (lv_at hl 3 rfl) ?_
        refine lv_iload_n hx hb dL_law_461 rfl (lv_at hl 0 rfl) ?_
        refine lv_iconst (v := 4) hx hb dL_law_462 (by decide) ?_
        refine lv_iadd hx hb dL_law_463 ?_
        refine lv_topi (fun y67 ey67 => ?_)
        obtain rfl : y67 = 4 := ey67.trans (by decide)
        refine va_sld hx hb hX hbl hbA hS (vp_in_iff.mpr ⟨by decide, by decide⟩) dL_law_464 ?_
        refine W.eq (g2 := F0 m 465 ls [.int (xs 4), .int (xs 3), .int (xs 2), .int (xs 1), .ref q3, .int (an_method (xs 1).toInt (xs 2).toInt (xs 3).toInt (xs 4).toInt (xs 5).toInt (xs 6).toInt (xs 7).toInt (xs 8).toInt (xs 9).toInt)]) rfl ?_
        refine lv_aload_n hx hb dL_law_465 rfl (lv_at hl 3 rfl) ?_
        refine lv_iload_n hx hb dL_law_466 rfl (lv_at hl 0 rfl) ?_
        refine lv_iconst (v := 5) hx hb dL_law_467 (by decide) ?_
        refine lv_iadd hx hb dL_law_468 ?_
        refine lv_topi (fun y68 ey68 => ?_)
        obtain rfl : y68 = 5 := ey68.trans (by decide)
        refine va_sld hx hb hX hbl hbA hS (vp_in_iff.mpr ⟨by decide, by decide⟩) dL_law_469 ?_
        refine W.eq (g2 := F0 m 470 ls [.int (xs 5), .int (xs 4), .int (xs 3), .int (xs 2), .int (xs 1), .ref q3, .int (an_method (xs 1).toInt (xs 2).toInt (xs 3).toInt (xs 4).toInt (xs 5).toInt (xs 6).toInt (xs 7).toInt (xs 8).toInt (xs 9).toInt)]) rfl ?_
        refine lv_aload_n hx hb dL_law_470 rfl (lv_at hl 3 rfl) ?_
        refine lv_iload_n hx hb dL_law_471 rfl (lv_at hl 0 rfl) ?_
        refine lv_bipush (v := 6) hx hb dL_law_472 (by decide) ?_
        refine lv_iadd hx hb dL_law_474 ?_
        refine lv_topi (fun y69 ey69 => ?_)
        obtain rfl : y69 = 6 := ey69.trans (by decide)
        refine va_sld hx hb hX hbl hbA hS (vp_in_iff.mpr ⟨by decide, by decide⟩) dL_law_475 ?_
        refine W.eq (g2 := F0 m 476 ls [.int (xs 6), .int (xs 5), .int (xs 4), .int (xs 3), .int (xs 2), .int (xs 1), .ref q3, .int (an_method (xs 1).toInt (xs 2).toInt (xs 3).toInt (xs 4).toInt (xs 5).toInt (xs 6).toInt (xs 7).toInt (xs 8).toInt (xs 9).toInt)]) rfl ?_
        refine lv_aload_n hx hb dL_law_476 rfl (lv_at hl 3 rfl) ?_
        refine lv_iload_n hx hb dL_law_477 rfl (lv_at hl 0 rfl) ?_
        refine lv_bipush (v := 7) hx hb dL_law_478 (by decide) ?_
        refine lv_iadd hx hb dL_law_480 ?_
        refine lv_topi (fun y70 ey70 => ?_)
        obtain rfl : y70 = 7 := ey70.trans (by decide)
        refine va_sld hx hb hX hbl hbA hS (vp_in_iff.mpr ⟨by decide, by decide⟩) dL_law_481 ?_
        refine W.eq (g2 := F0 m 482 ls [.int (xs 7), .int (xs 6), .int (xs 5), .int (xs 4), .int (xs 3), .int (xs 2), .int (xs 1), .ref q3, .int (an_method (xs 1).toInt (xs 2).toInt (xs 3).toInt (xs 4).toInt (xs 5).toInt (xs 6).toInt (xs 7).toInt (xs 8).toInt (xs 9).toInt)]) rfl ?_
        refine lv_aload_n hx hb dL_law_482 rfl (lv_at hl 3 rfl) ?_
        refine lv_iload_n hx hb dL_law_483 rfl (lv_at hl 0 rfl) ?_
        refine lv_bipush (v := 8) hx hb dL_law_484 (by decide) ?_
        refine lv_iadd hx hb dL_law_486 ?_
        refine lv_topi (fun y71 ey71 => ?_)
        obtain rfl : y71 = 8 := ey71.trans (by decide)
        refine va_sld hx hb hX hbl hbA hS (vp_in_iff.mpr ⟨by decide, by decide⟩) dL_law_487 ?_
        refine W.eq (g2 := F0 m 488 ls [.int (xs 8), .int (xs 7), .int (xs 6), .int (xs 5), .int (xs 4), .int (xs 3), .int (xs 2), .int (xs 1), .ref q3, .int (an_method (xs 1).toInt (xs 2).toInt (xs 3).toInt (xs 4).toInt (xs 5).toInt (xs 6).toInt (xs 7).toInt (xs 8).toInt (xs 9).toInt)]) rfl ?_
        refine lv_aload_n hx hb dL_law_488 rfl (lv_at hl 3 rfl) ?_
        refine lv_iload_n hx hb dL_law_489 rfl (lv_at hl 0 rfl) ?_
        refine lv_bipush (v := 9) hx hb dL_law_490 (by decide) ?_
        refine lv_iadd hx hb dL_law_492 ?_
        refine lv_topi (fun y72 ey72 => ?_)
        obtain rfl : y72 = 9 := ey72.trans (by decide)
        refine va_sld hx hb hX hbl hbA hS (vp_in_iff.mpr ⟨by decide, by decide⟩) dL_law_493 ?_
        refine W.eq (g2 := F0 m 494 ls [.int (xs 9), .int (xs 8), .int (xs 7), .int (xs 6), .int (xs 5), .int (xs 4), .int (xs 3), .int (xs 2), .int (xs 1), .ref q3, .int (an_method (xs 1).toInt (xs 2).toInt (xs 3).toInt (xs 4).toInt (xs 5).toInt (xs 6).toInt (xs 7).toInt (xs 8).toInt (xs 9).toInt)]) rfl ?_
        refine clW (wr := []) [0, 1, 2, 3, 4, 5, 6, 7, 8, 9, 10, 11, 12, 13, 14, 15, 16, 17, 18, 19, 20, 21, 22, 23, 24, 25, 26, 27, 28, 29, 30, 31] [] (va_runV (As := [.int (xs 1), .int (xs 2), .int (xs 3), .int (xs 4), .int (xs 5), .int (xs 6), .int (xs 7), .int (xs 8), .int (xs 9)]) (rest := [.int (an_method (xs 1).toInt (xs 2).toInt (xs 3).toInt (xs 4).toInt (xs 5).toInt (xs 6).toInt (xs 7).toInt (xs 8).toInt (xs 9).toInt)]) ⟨hx, hb, hml, hown, hts⟩ (c9_method l dC dI q3 qb cb (xs 1) (xs 2) (xs 3) (xs 4) (xs 5) (xs 6) (xs 7) (xs 8) (xs 9) _ ) (cwV 9 hts gL_law_X9_method rfl rfl rfl (by decide +kernel) ⟨Nat.le_of_ble_eq_true rfl, Nat.le_of_ble_eq_true rfl⟩) ⟨pz_blind, va_recv hK hP (ci := 8) (q0 := 0) rfl rfl, pz_of hP hK hD hN [0, 1, 2, 3, 4, 5, 6, 7, 8, 9, 10, 11, 12, 13, 14, 15, 16, 17, 18, 19, 20, 21, 22, 23, 24, 25, 26, 27, 28, 29, 30, 31] [5, 6, 7, 8, 9, 10, 11, 12, 13, 14, 15, 16, 17, 18, 19, 20, 21, 22, 23, 24, 25, 26, 27, 28, 29, 30, 31, 32, 33, 34, 35] rfl (by decide) rfl⟩ rfl rfl hl.1 rfl (lv_room (Nat.le_of_ble_eq_true rfl)) dL_law_494 ⟨Nat.le_of_ble_eq_true rfl, Nat.le_of_ble_eq_true rfl⟩) hS hP hD hK hA rfl rfl (by decide) (by decide) (fun v w1 ty1 H locs w73 hP hD hK hS => ?_)
        obtain ⟨rfl, rfl, rfl⟩ := w73
        refine W.eq (g2 := F0 m 497 ls [.int (an_method (xs 1).toInt (xs 2).toInt (xs 3).toInt (xs 4).toInt (xs 5).toInt (xs 6).toInt (xs 7).toInt (xs 8).toInt (xs 9).toInt), .int (an_method (xs 1).toInt (xs 2).toInt (xs 3).toInt (xs 4).toInt (xs 5).toInt (xs 6).toInt (xs 7).toInt (xs 8).toInt (xs 9).toInt)]) rfl ?_
        have hP : va_P (dC, dI) vwCl [] H := hP
        have hD : va_D (fun q : Nat => s.heap.size ≤ q) [] := hD
        have hK : va_K (dC, dI) vwCl [((ca 0), .object "ReflectModels$ClassModel"), ((ca 1), .object "ReflectModels$Member"), ((ca 2), .object "ReflectModels$Handle"), ((ca 3), .object "ReflectModels$Thing"), ((ca 4), .object "ReflectModels$Value"), ((cb 0), .int), ((cb 1), .int), ((cb 2), .int), ((cb 3), .boolean), ((cb 4), .boolean), ((cb 5), .int), ((cb 6), .int), ((cb 7), .int), ((cb 8), .int), ((cb 9), .boolean), ((cb 10), .int), ((cb 11), .int), ((cb 12), .int), ((cb 13), .int), ((cb 14), .boolean), ((cb 15), .boolean), ((cb 16), .boolean), ((cb 17), .boolean), ((cb 18), .int), ((cb 19), .int), ((cb 20), .int), ((cb 21), .boolean), ((cb 22), .int), ((cb 23), .int), ((cb 24), .int), ((cb 25), .int), ((cb 26), .int), ((cb 27), .long), ((cb 28), .int), ((cb 29), .long), ((cb 30), .int)] s := hK
        refine W.cs (cells' := 45) (slots' := 12122) rfl rfl ?_
        refine lv_icmp_eq (tgt := 1154) hx hb dL_law_497 (by decide) (fun _ => ?_) (fun h => absurd rfl h)
        refine lv_iinc (v := 10) (lv' := [(3, .int 10), (2, .ref q3), (1, .ref q1), (0, .ref b)]) hx hb dL_law_1154 hl (k := 0) rfl (by decide) (by decide) rfl (fun ls hl => ?_)
        refine lv_goto (tgt := 18) hx hb dL_law_1157 (by decide) ?_
        refine lv_iload_n hx hb dL_law_18 rfl (lv_at hl 0 rfl) ?_
        refine lv_aload_n hx hb dL_law_19 rfl (lv_at hl 3 rfl) ?_
        refine va_slen hx hb hX hbl hbA hS dL_law_20 ?_
        refine W.eq (g2 := F0 m 21 ls [.int 10, .int 10]) rfl ?_
        refine lv_bipush (v := 10) hx hb dL_law_21 (by decide) ?_
        refine lv_isub hx hb dL_law_23 ?_
        refine lv_topi (fun y74 ey74 => ?_)
        obtain rfl : y74 = 0 := ey74.trans (by decide)
        refine lv_icmp_gt (tgt := 1160) hx hb dL_law_24 (by decide) (fun _ => ?_) (fun h => absurd (by decide) h)
        refine lv_iconst (v := 1) hx hb dL_law_1160 (by decide) ?_
        refine va_forget (fun z hz => hS.2.2 z hz) ?_
        refine W.widen (k := 600000) (n := 7302250) (by omega) (by omega) ?_
        exact lw_ret hx hb hr hlocks dL_law_1161
      · refine lv_tableIn (tgt := 502) (off := 469) hx hb dL_law_33 (by decide) (by decide) (by decide) (by decide) ?_
        refine lv_aload_n hx hb dL_law_502 rfl (lv_at hl 2 rfl) ?_
        refine lv_aload_n hx hb dL_law_503 rfl (lv_at hl 3 rfl) ?_
        refine lv_iload_n hx hb dL_law_504 rfl (lv_at hl 0 rfl) ?_
        refine lv_iconst (v := 1) hx hb dL_law_505 (by decide) ?_
        refine lv_iadd hx hb dL_law_506 ?_
        refine lv_topi (fun y75 ey75 => ?_)
        obtain rfl : y75 = 1 := ey75.trans (by decide)
        refine va_sld hx hb hX hbl hbA hS (vp_in_iff.mpr ⟨by decide, by decide⟩) dL_law_507 ?_
        refine W.eq (g2 := F0 m 508 ls [.int (xs 1), .ref q1]) rfl ?_
        refine clW (wr := [(q3, .inr (8, [.int 0, .int 1, .ref (qb 0), .ref (qb 1), .ref (qb 2), .ref (qb 3), .ref (qb 4), .ref (qb 5), .ref (qb 6), .ref (qb 7), .int 0, .ref (qb 8), .ref (qb 9), .ref (qb 10), .ref (qb 11), .ref (qb 12), .ref (qb 13), .ref (qb 14), .ref (qb 15), .ref (qb 16), .ref (qb 17), .ref (qb 18), .ref (qb 19), .int 0, .int 0, .ref (qb 20), .ref (qb 21), .int 0, .ref (qb 22), .ref (qb 23), .ref (qb 24), .ref (qb 25), .ref (qb 26), .ref (qb 27), .int 0, .ref (qb 28), .ref (qb 29), .int 0, .long 0, .int 0, .int 0, .ref (qb 30)])), ((qb 0), .inl ((cb 0), 16, .inl (upd (fun _ => 0) 0 (-1)))), ((qb 1), .inl ((cb 1), 16, .inl (fun _ => 0))), ((qb 2), .inl ((cb 2), 16, .inl (upd (fun _ => 0) 0 (-1)))), ((qb 3), .inl ((cb 3), 16, .inl (fun _ => 0))), ((qb 4), .inl ((cb 4), 16, .inl (fun _ => 0))), ((qb 5), .inl ((cb 5), 16, .inl (fun _ => 0))), ((qb 6), .inl ((cb 6), 16, .inl (fun _ => 0))), ((qb 7), .inl ((cb 7), 16, .inl (fun _ => 0))), ((qb 8), .inl ((cb 8), 40, .inl (fun _ => 0))), ((qb 9), .inl ((cb 9), 40, .inl (fun _ => 0))), ((qb 10), .inl ((cb 10), 40, .inl (fun _ => 0))), ((qb 11), .inl ((cb 11), 40, .inl (fun _ => 0))), ((qb 12), .inl ((cb 12), 40, .inl (fun _ => 0))), ((qb 13), .inl ((cb 13), 80, .inl (fun _ => 0))), ((qb 14), .inl ((cb 14), 40, .inl (fun _ => 0))), ((qb 15), .inl ((cb 15), 40, .inl (fun _ => 0))), ((qb 16), .inl ((cb 16), 40, .inl (fun _ => 0))), ((qb 17), .inl ((cb 17), 40, .inl (fun _ => 0))), ((qb 18), .inl ((cb 18), 40, .inl (fun _ => 0))), ((qb 19), .inl ((cb 19), 40, .inl (fun _ => 0))), ((qb 20), .inl ((cb 20), 60, .inl (fun _ => 0))), ((qb 21), .inl ((cb 21), 60, .inl (fun _ => 0))), ((qb 22), .inl ((cb 22), 130, .inl (fun _ => 0))), ((qb 23), .inl ((cb 23), 130, .inl (fun _ => 0))), ((qb 24), .inl ((cb 24), 130, .inl (fun _ => 0))), ((qb 25), .inl ((cb 25), 130, .inl (fun _ => 0))), ((qb 26), .inl ((cb 26), 5240, .inl (fun _ => 0))), ((qb 27), .inl ((cb 27), 5240, .inr (.inl (fun _ => 0)))), ((qb 28), .inl ((cb 28), 3, .inl (fun _ => 0))), ((qb 29), .inl ((cb 29), 3, .inr (.inl (fun _ => 0)))), ((qb 30), .inl ((cb 30), 16, .inl (fun _ => 0)))]) [0, 1, 2, 3, 4, 5, 6, 7, 8, 9, 10] [11, 12, 13, 14, 15, 16, 17, 18, 19, 20, 21, 22, 23, 24, 25, 26, 27, 28, 29, 30, 31, 32, 33, 34, 35, 36, 37, 38, 39, 40, 41, 42] (va_runV (As := [.int (xs 1)]) (rest := []) ⟨hx, hb, hml, hown, hts⟩ (c8_caller l dC dI q1 qa ca (xs 1) _ ) (cwV 1 hts gL_law_X8_caller rfl rfl rfl (by decide +kernel) ⟨Nat.le_of_ble_eq_true rfl, Nat.le_of_ble_eq_true rfl⟩) ⟨pz_blind, va_recv hK hP (ci := 7) (q0 := 0) rfl rfl, pz_of hP hK hD hN [0, 1, 2, 3, 4, 5, 6, 7, 8, 9, 10] [0, 1, 2, 3, 4] rfl (by decide) rfl⟩ rfl rfl hl.1 rfl (lv_room (Nat.le_of_ble_eq_true rfl)) dL_law_508 ⟨Nat.le_of_ble_eq_true rfl, Nat.le_of_ble_eq_true rfl⟩) hS hP hD hK hA rfl rfl (by decide) (by decide) (fun v w1 ty1 H locs w76 hP hD hK hS => ?_)
        obtain ⟨rfl, rfl, rfl⟩ := w76
        refine W.eq (g2 := F0 m 511 ls [.int (an_caller (xs 1).toInt)]) rfl ?_
        have hP : va_P (dC, dI) vwCl [(q3, .inr (8, [.int 0, .int 1, .ref (qb 0), .ref (qb 1), .ref (qb 2), .ref (qb 3), .ref (qb 4), .ref (qb 5), .ref (qb 6), .ref (qb 7), .int 0, .ref (qb 8), .ref (qb 9), .ref (qb 10), .ref (qb 11), .ref (qb 12), .ref (qb 13), .ref (qb 14), .ref (qb 15), .ref (qb 16), .ref (qb 17), .ref (qb 18), .ref (qb 19), .int 0, .int 0, .ref (qb 20), .ref (qb 21), .int 0, .ref (qb 22), .ref (qb 23), .ref (qb 24), .ref (qb 25), .ref (qb 26), .ref (qb 27), .int 0, .ref (qb 28), .ref (qb 29), .int 0, .long 0, .int 0, .int 0, .ref (qb 30)])), ((qb 0), .inl ((cb 0), 16, .inl (upd (fun _ => 0) 0 (-1)))), ((qb 1), .inl ((cb 1), 16, .inl (fun _ => 0))), ((qb 2), .inl ((cb 2), 16, .inl (upd (fun _ => 0) 0 (-1)))), ((qb 3), .inl ((cb 3), 16, .inl (fun _ => 0))), ((qb 4), .inl ((cb 4), 16, .inl (fun _ => 0))), ((qb 5), .inl ((cb 5), 16, .inl (fun _ => 0))), ((qb 6), .inl ((cb 6), 16, .inl (fun _ => 0))), ((qb 7), .inl ((cb 7), 16, .inl (fun _ => 0))), ((qb 8), .inl ((cb 8), 40, .inl (fun _ => 0))), ((qb 9), .inl ((cb 9), 40, .inl (fun _ => 0))), ((qb 10), .inl ((cb 10), 40, .inl (fun _ => 0))), ((qb 11), .inl ((cb 11), 40, .inl (fun _ => 0))), ((qb 12), .inl ((cb 12), 40, .inl (fun _ => 0))), ((qb 13), .inl ((cb 13), 80, .inl (fun _ => 0))), ((qb 14), .inl ((cb 14), 40, .inl (fun _ => 0))), ((qb 15), .inl ((cb 15), 40, .inl (fun _ => 0))), ((qb 16), .inl ((cb 16), 40, .inl (fun _ => 0))), ((qb 17), .inl ((cb 17), 40, .inl (fun _ => 0))), ((qb 18), .inl ((cb 18), 40, .inl (fun _ => 0))), ((qb 19), .inl ((cb 19), 40, .inl (fun _ => 0))), ((qb 20), .inl ((cb 20), 60, .inl (fun _ => 0))), ((qb 21), .inl ((cb 21), 60, .inl (fun _ => 0))), ((qb 22), .inl ((cb 22), 130, .inl (fun _ => 0))), ((qb 23), .inl ((cb 23), 130, .inl (fun _ => 0))), ((qb 24), .inl ((cb 24), 130, .inl (fun _ => 0))), ((qb 25), .inl ((cb 25), 130, .inl (fun _ => 0))), ((qb 26), .inl ((cb 26), 5240, .inl (fun _ => 0))), ((qb 27), .inl ((cb 27), 5240, .inr (.inl (fun _ => 0)))), ((qb 28), .inl ((cb 28), 3, .inl (fun _ => 0))), ((qb 29), .inl ((cb 29), 3, .inr (.inl (fun _ => 0)))), ((qb 30), .inl ((cb 30), 16, .inl (fun _ => 0)))] H := hP
        have hD : va_D (fun q : Nat => s.heap.size ≤ q) [(q3, .inr (8, [.int 0, .int 1, .ref (qb 0), .ref (qb 1), .ref (qb 2), .ref (qb 3), .ref (qb 4), .ref (qb 5), .ref (qb 6), .ref (qb 7), .int 0, .ref (qb 8), .ref (qb 9), .ref (qb 10), .ref (qb 11), .ref (qb 12), .ref (qb 13), .ref (qb 14), .ref (qb 15), .ref (qb 16), .ref (qb 17), .ref (qb 18), .ref (qb 19), .int 0, .int 0, .ref (qb 20), .ref (qb 21), .int 0, .ref (qb 22), .ref (qb 23), .ref (qb 24), .ref (qb 25), .ref (qb 26), .ref (qb 27), .int 0, .ref (qb 28), .ref (qb 29), .int 0, .long 0, .int 0, .int 0, .ref (qb 30)])), ((qb 0), .inl ((cb 0), 16, .inl (upd (fun _ => 0) 0 (-1)))), ((qb 1), .inl ((cb 1), 16, .inl (fun _ => 0))), ((qb 2), .inl ((cb 2), 16, .inl (upd (fun _ => 0) 0 (-1)))), ((qb 3), .inl ((cb 3), 16, .inl (fun _ => 0))), ((qb 4), .inl ((cb 4), 16, .inl (fun _ => 0))), ((qb 5), .inl ((cb 5), 16, .inl (fun _ => 0))), ((qb 6), .inl ((cb 6), 16, .inl (fun _ => 0))), ((qb 7), .inl ((cb 7), 16, .inl (fun _ => 0))), ((qb 8), .inl ((cb 8), 40, .inl (fun _ => 0))), ((qb 9), .inl ((cb 9), 40, .inl (fun _ => 0))), ((qb 10), .inl ((cb 10), 40, .inl (fun _ => 0))), ((qb 11), .inl ((cb 11), 40, .inl (fun _ => 0))), ((qb 12), .inl ((cb 12), 40, .inl (fun _ => 0))), ((qb 13), .inl ((cb 13), 80, .inl (fun _ => 0))), ((qb 14), .inl ((cb 14), 40, .inl (fun _ => 0))), ((qb 15), .inl ((cb 15), 40, .inl (fun _ => 0))), ((qb 16), .inl ((cb 16), 40, .inl (fun _ => 0))), ((qb 17), .inl ((cb 17), 40, .inl (fun _ => 0))), ((qb 18), .inl ((cb 18), 40, .inl (fun _ => 0))), ((qb 19), .inl ((cb 19), 40, .inl (fun _ => 0))), ((qb 20), .inl ((cb 20), 60, .inl (fun _ => 0))), ((qb 21), .inl ((cb 21), 60, .inl (fun _ => 0))), ((qb 22), .inl ((cb 22), 130, .inl (fun _ => 0))), ((qb 23), .inl ((cb 23), 130, .inl (fun _ => 0))), ((qb 24), .inl ((cb 24), 130, .inl (fun _ => 0))), ((qb 25), .inl ((cb 25), 130, .inl (fun _ => 0))), ((qb 26), .inl ((cb 26), 5240, .inl (fun _ => 0))), ((qb 27), .inl ((cb 27), 5240, .inr (.inl (fun _ => 0)))), ((qb 28), .inl ((cb 28), 3, .inl (fun _ => 0))), ((qb 29), .inl ((cb 29), 3, .inr (.inl (fun _ => 0)))), ((qb 30), .inl ((cb 30), 16, .inl (fun _ => 0)))] := hD
        have hK : va_K (dC, dI) vwCl [((ca 0), .object "ReflectModels$ClassModel"), ((ca 1), .object "ReflectModels$Member"), ((ca 2), .object "ReflectModels$Handle"), ((ca 3), .object "ReflectModels$Thing"), ((ca 4), .object "ReflectModels$Value"), ((cb 0), .int), ((cb 1), .int), ((cb 2), .int), ((cb 3), .boolean), ((cb 4), .boolean), ((cb 5), .int), ((cb 6), .int), ((cb 7), .int), ((cb 8), .int), ((cb 9), .boolean), ((cb 10), .int), ((cb 11), .int), ((cb 12), .int), ((cb 13), .int), ((cb 14), .boolean), ((cb 15), .boolean), ((cb 16), .boolean), ((cb 17), .boolean), ((cb 18), .int), ((cb 19), .int), ((cb 20), .int), ((cb 21), .boolean), ((cb 22), .int), ((cb 23), .int), ((cb 24), .int), ((cb 25), .int), ((cb 26), .int), ((cb 27), .long), ((cb 28), .int), ((cb 29), .long), ((cb 30), .int)] s := hK
        refine W.cs (cells' := 43) (slots' := 12110) rfl rfl ?_
        refine lv_aload_n hx hb dL_law_511 rfl (lv_at hl 1 rfl) ?_
        refine lv_aload_n hx hb dL_law_512 rfl (lv_at hl 3 rfl) ?_
        refine lv_iload_n hx hb dL_law_513 rfl (lv_at hl 0 rfl) ?_
        refine lv_iconst (v := 1) hx hb dL_law_514 (by decide) ?_
        refine lv_iadd hx hb dL_law_515 ?_
        refine lv_topi (fun y77 ey77 => ?_)
        obtain rfl : y77 = 1 := ey77.trans (by decide)
        refine va_sld hx hb hX hbl hbA hS (vp_in_iff.mpr ⟨by decide, by decide⟩) dL_law_516 ?_
        refine W.eq (g2 := F0 m 517 ls [.int (xs 1), .ref q3, .int (an_caller (xs 1).toInt)]) rfl ?_
        refine clW (wr := []) [0, 1, 2, 3, 4, 5, 6, 7, 8, 9, 10, 11, 12, 13, 14, 15, 16, 17, 18, 19, 20, 21, 22, 23, 24, 25, 26, 27, 28, 29, 30, 31] [] (va_runV (As := [.int (xs 1)]) (rest := [.int (an_caller (xs 1).toInt)]) ⟨hx, hb, hml, hown, hts⟩ (c9_caller l dC dI q3 qb cb (xs 1) _ ) (cwV 1 hts gL_law_X9_caller rfl rfl rfl (by decide +kernel) ⟨Nat.le_of_ble_eq_true rfl, Nat.le_of_ble_eq_true rfl⟩) ⟨pz_blind, va_recv hK hP (ci := 8) (q0 := 0) rfl rfl, pz_of hP hK hD hN [0, 1, 2, 3, 4, 5, 6, 7, 8, 9, 10, 11, 12, 13, 14, 15, 16, 17, 18, 19, 20, 21, 22, 23, 24, 25, 26, 27, 28, 29, 30, 31] [5, 6, 7, 8, 9, 10, 11, 12, 13, 14, 15, 16, 17, 18, 19, 20, 21, 22, 23, 24, 25, 26, 27, 28, 29, 30, 31, 32, 33, 34, 35] rfl (by decide) rfl⟩ rfl rfl hl.1 rfl (lv_room (Nat.le_of_ble_eq_true rfl)) dL_law_517 ⟨Nat.le_of_ble_eq_true rfl, Nat.le_of_ble_eq_true rfl⟩) hS hP hD hK hA rfl rfl (by decide) (by decide) (fun v w1 ty1 H locs w78 hP hD hK hS => ?_)
        obtain ⟨rfl, rfl, rfl⟩ := w78
        refine W.eq (g2 := F0 m 520 ls [.int (an_caller (xs 1).toInt), .int (an_caller (xs 1).toInt)]) rfl ?_
        have hP : va_P (dC, dI) vwCl [] H := hP
        have hD : va_D (fun q : Nat => s.heap.size ≤ q) [] := hD
        have hK : va_K (dC, dI) vwCl [((ca 0), .object "ReflectModels$ClassModel"), ((ca 1), .object "ReflectModels$Member"), ((ca 2), .object "ReflectModels$Handle"), ((ca 3), .object "ReflectModels$Thing"), ((ca 4), .object "ReflectModels$Value"), ((cb 0), .int), ((cb 1), .int), ((cb 2), .int), ((cb 3), .boolean), ((cb 4), .boolean), ((cb 5), .int), ((cb 6), .int), ((cb 7), .int), ((cb 8), .int), ((cb 9), .boolean), ((cb 10), .int), ((cb 11), .int), ((cb 12), .int), ((cb 13), .int), ((cb 14), .boolean), ((cb 15), .boolean), ((cb 16), .boolean), ((cb 17), .boolean), ((cb 18), .int), ((cb 19), .int), ((cb 20), .int), ((cb 21), .boolean), ((cb 22), .int), ((cb 23), .int), ((cb 24), .int), ((cb 25), .int), ((cb 26), .int), ((cb 27), .long), ((cb 28), .int), ((cb 29), .long), ((cb 30), .int)] s := hK
        refine W.cs (cells' := 43) (slots' := 12110) rfl rfl ?_
        refine lv_icmp_eq (tgt := 1154) hx hb dL_law_520 (by decide) (fun _ => ?_) (fun h => absurd rfl h)
        refine lv_iinc (v := 10) (lv' := [(3, .int 10), (2, .ref q3), (1, .ref q1), (0, .ref b)]) hx hb dL_law_1154 hl (k := 0) rfl (by decide) (by decide) rfl (fun ls hl => ?_)
        refine lv_goto (tgt := 18) hx hb dL_law_1157 (by decide) ?_
        refine lv_iload_n hx hb dL_law_18 rfl (lv_at hl 0 rfl) ?_
        refine lv_aload_n hx hb dL_law_19 rfl (lv_at hl 3 rfl) ?_
        refine va_slen hx hb hX hbl hbA hS dL_law_20 ?_
        refine W.eq (g2 := F0 m 21 ls [.int 10, .int 10]) rfl ?_
        refine lv_bipush (v := 10) hx hb dL_law_21 (by decide) ?_
        refine lv_isub hx hb dL_law_23 ?_
        refine lv_topi (fun y79 ey79 => ?_)
        obtain rfl : y79 = 0 := ey79.trans (by decide)
        refine lv_icmp_gt (tgt := 1160) hx hb dL_law_24 (by decide) (fun _ => ?_) (fun h => absurd (by decide) h)
        refine lv_iconst (v := 1) hx hb dL_law_1160 (by decide) ?_
        refine va_forget (fun z hz => hS.2.2 z hz) ?_
        refine W.widen (k := 600000) (n := 7302250) (by omega) (by omega) ?_
        exact lw_ret hx hb hr hlocks dL_law_1161
      · refine lv_tableIn (tgt := 525) (off := 492) hx hb dL_law_33 (by decide) (by decide) (by decide) (by decide) ?_
        refine lv_aload_n hx hb dL_law_525 rfl (lv_at hl 2 rfl) ?_
        refine lv_aload_n hx hb dL_law_526 rfl (lv_at hl 3 rfl) ?_
        refine lv_iload_n hx hb dL_law_527 rfl (lv_at hl 0 rfl) ?_
        refine lv_iconst (v := 1) hx hb dL_law_528 (by decide) ?_
        refine lv_iadd hx hb dL_law_529 ?_
        refine lv_topi (fun y80 ey80 => ?_)
        obtain rfl : y80 = 1 := ey80.trans (by decide)
        refine va_sld hx hb hX hbl hbA hS (vp_in_iff.mpr ⟨by decide, by decide⟩) dL_law_530 ?_
        refine W.eq (g2 := F0 m 531 ls [.int (xs 1), .ref q1]) rfl ?_
        refine lv_aload_n hx hb dL_law_531 rfl (lv_at hl 3 rfl) ?_
        refine lv_iload_n hx hb dL_law_532 rfl (lv_at hl 0 rfl) ?_
        refine lv_iconst (v := 2) hx hb dL_law_533 (by decide) ?_
        refine lv_iadd hx hb dL_law_534 ?_
        refine lv_topi (fun y81 ey81 => ?_)
        obtain rfl : y81 = 2 := ey81.trans (by decide)
        refine va_sld hx hb hX hbl hbA hS (vp_in_iff.mpr ⟨by decide, by decide⟩) dL_law_535 ?_
        refine W.eq (g2 := F0 m 536 ls [.int (xs 2), .int (xs 1), .ref q1]) rfl ?_
        refine lv_aload_n hx hb dL_law_536 rfl (lv_at hl 3 rfl) ?_
        refine lv_iload_n hx hb dL_law_537 rfl (lv_at hl 0 rfl) ?_
        refine lv_iconst (v := 3) hx hb dL_law_538 (by decide) ?_
        refine lv_iadd hx hb dL_law_539 ?_
        refine lv_topi (fun y82 ey82 => ?_)
        obtain rfl : y82 = 3 := ey82.trans (by decide)
        refine va_sld hx hb hX hbl hbA hS (vp_in_iff.mpr ⟨by decide, by decide⟩) dL_law_540 ?_
        refine W.eq (g2 := F0 m 541 ls [.int (xs 3), .int (xs 2), .int (xs 1), .ref q1]) rfl ?_
        refine lw_b hx hb dL_law_541 dL_law_544 dL_law_545 dL_law_548 ?_
        refine clW (wr := [(q3, .inr (8, [.int 0, .int 1, .ref (qb 0), .ref (qb 1), .ref (qb 2), .ref (qb 3), .ref (qb 4), .ref (qb 5), .ref (qb 6), .ref (qb 7), .int 0, .ref (qb 8), .ref (qb 9), .ref (qb 10), .ref (qb 11), .ref (qb 12), .ref (qb 13), .ref (qb 14), .ref (qb 15), .ref (qb 16), .ref (qb 17), .ref (qb 18), .ref (qb 19), .int 0, .int 0, .ref (qb 20), .ref (qb 21), .int 0, .ref (qb 22), .ref (qb 23), .ref (qb 24), .ref (qb 25), .ref (qb 26), .ref (qb 27), .int 0, .ref (qb 28), .ref (qb 29), .int 0, .long 0, .int 0, .int 0, .ref (qb 30)])), ((qb 0), .inl ((cb 0), 16, .inl (upd (fun _ => 0) 0 (-1)))), ((qb 1), .inl ((cb 1), 16, .inl (fun _ => 0))), ((qb 2), .inl ((cb 2), 16, .inl (upd (fun _ => 0) 0 (-1)))), ((qb 3), .inl ((cb 3), 16, .inl (fun _ => 0))), ((qb 4), .inl ((cb 4), 16, .inl (fun _ => 0))), ((qb 5), .inl ((cb 5), 16, .inl (fun _ => 0))), ((qb 6), .inl ((cb 6), 16, .inl (fun _ => 0))), ((qb 7), .inl ((cb 7), 16, .inl (fun _ => 0))), ((qb 8), .inl ((cb 8), 40, .inl (fun _ => 0))), ((qb 9), .inl ((cb 9), 40, .inl (fun _ => 0))), ((qb 10), .inl ((cb 10), 40, .inl (fun _ => 0))), ((qb 11), .inl ((cb 11), 40, .inl (fun _ => 0))), ((qb 12), .inl ((cb 12), 40, .inl (fun _ => 0))), ((qb 13), .inl ((cb 13), 80, .inl (fun _ => 0))), ((qb 14), .inl ((cb 14), 40, .inl (fun _ => 0))), ((qb 15), .inl ((cb 15), 40, .inl (fun _ => 0))), ((qb 16), .inl ((cb 16), 40, .inl (fun _ => 0))), ((qb 17), .inl ((cb 17), 40, .inl (fun _ => 0))), ((qb 18), .inl ((cb 18), 40, .inl (fun _ => 0))), ((qb 19), .inl ((cb 19), 40, .inl (fun _ => 0))), ((qb 20), .inl ((cb 20), 60, .inl (fun _ => 0))), ((qb 21), .inl ((cb 21), 60, .inl (fun _ => 0))), ((qb 22), .inl ((cb 22), 130, .inl (fun _ => 0))), ((qb 23), .inl ((cb 23), 130, .inl (fun _ => 0))), ((qb 24), .inl ((cb 24), 130, .inl (fun _ => 0))), ((qb 25), .inl ((cb 25), 130, .inl (fun _ => 0))), ((qb 26), .inl ((cb 26), 5240, .inl (fun _ => 0))), ((qb 27), .inl ((cb 27), 5240, .inr (.inl (fun _ => 0)))), ((qb 28), .inl ((cb 28), 3, .inl (fun _ => 0))), ((qb 29), .inl ((cb 29), 3, .inr (.inl (fun _ => 0)))), ((qb 30), .inl ((cb 30), 16, .inl (fun _ => 0)))]) [0, 1, 2, 3, 4, 5, 6, 7, 8, 9, 10] [11, 12, 13, 14, 15, 16, 17, 18, 19, 20, 21, 22, 23, 24, 25, 26, 27, 28, 29, 30, 31, 32, 33, 34, 35, 36, 37, 38, 39, 40, 41, 42] (va_runV (As := [.int (xs 1), .int (xs 2), .int (bz (xs 3))]) (rest := []) ⟨hx, hb, hml, hown, hts⟩ (c8_findField l dC dI q1 qa ca (xs 1) (xs 2) (bz (xs 3)) _ ) (cwV 3 hts gL_law_X8_findField rfl rfl rfl (by decide +kernel) ⟨Nat.le_of_ble_eq_true rfl, Nat.le_of_ble_eq_true rfl⟩) ⟨pz_blind, va_recv hK hP (ci := 7) (q0 := 0) rfl rfl, pz_of hP hK hD hN [0, 1, 2, 3, 4, 5, 6, 7, 8, 9, 10] [0, 1, 2, 3, 4] rfl (by decide) rfl⟩ rfl rfl hl.1 rfl (lv_room (Nat.le_of_ble_eq_true rfl)) dL_law_549 ⟨Nat.le_of_ble_eq_true rfl, Nat.le_of_ble_eq_true rfl⟩) hS hP hD hK hA rfl rfl (by decide) (by decide) (fun v w1 ty1 H locs w83 hP hD hK hS => ?_)
        obtain ⟨rfl, rfl, rfl⟩ := w83
        refine W.eq (g2 := F0 m 552 ls [.int (an_findField (xs 1).toInt (xs 2).toInt)]) rfl ?_
        have hP : va_P (dC, dI) vwCl [(q3, .inr (8, [.int 0, .int 1, .ref (qb 0), .ref (qb 1), .ref (qb 2), .ref (qb 3), .ref (qb 4), .ref (qb 5), .ref (qb 6), .ref (qb 7), .int 0, .ref (qb 8), .ref (qb 9), .ref (qb 10), .ref (qb 11), .ref (qb 12), .ref (qb 13), .ref (qb 14), .ref (qb 15), .ref (qb 16), .ref (qb 17), .ref (qb 18), .ref (qb 19), .int 0, .int 0, .ref (qb 20), .ref (qb 21), .int 0, .ref (qb 22), .ref (qb 23), .ref (qb 24), .ref (qb 25), .ref (qb 26), .ref (qb 27), .int 0, .ref (qb 28), .ref (qb 29), .int 0, .long 0, .int 0, .int 0, .ref (qb 30)])), ((qb 0), .inl ((cb 0), 16, .inl (upd (fun _ => 0) 0 (-1)))), ((qb 1), .inl ((cb 1), 16, .inl (fun _ => 0))), ((qb 2), .inl ((cb 2), 16, .inl (upd (fun _ => 0) 0 (-1)))), ((qb 3), .inl ((cb 3), 16, .inl (fun _ => 0))), ((qb 4), .inl ((cb 4), 16, .inl (fun _ => 0))), ((qb 5), .inl ((cb 5), 16, .inl (fun _ => 0))), ((qb 6), .inl ((cb 6), 16, .inl (fun _ => 0))), ((qb 7), .inl ((cb 7), 16, .inl (fun _ => 0))), ((qb 8), .inl ((cb 8), 40, .inl (fun _ => 0))), ((qb 9), .inl ((cb 9), 40, .inl (fun _ => 0))), ((qb 10), .inl ((cb 10), 40, .inl (fun _ => 0))), ((qb 11), .inl ((cb 11), 40, .inl (fun _ => 0))), ((qb 12), .inl ((cb 12), 40, .inl (fun _ => 0))), ((qb 13), .inl ((cb 13), 80, .inl (fun _ => 0))), ((qb 14), .inl ((cb 14), 40, .inl (fun _ => 0))), ((qb 15), .inl ((cb 15), 40, .inl (fun _ => 0))), ((qb 16), .inl ((cb 16), 40, .inl (fun _ => 0))), ((qb 17), .inl ((cb 17), 40, .inl (fun _ => 0))), ((qb 18), .inl ((cb 18), 40, .inl (fun _ => 0))), ((qb 19), .inl ((cb 19), 40, .inl (fun _ => 0))), ((qb 20), .inl ((cb 20), 60, .inl (fun _ => 0))), ((qb 21), .inl ((cb 21), 60, .inl (fun _ => 0))), ((qb 22), .inl ((cb 22), 130, .inl (fun _ => 0))), ((qb 23), .inl ((cb 23), 130, .inl (fun _ => 0))), ((qb 24), .inl ((cb 24), 130, .inl (fun _ => 0))), ((qb 25), .inl ((cb 25), 130, .inl (fun _ => 0))), ((qb 26), .inl ((cb 26), 5240, .inl (fun _ => 0))), ((qb 27), .inl ((cb 27), 5240, .inr (.inl (fun _ => 0)))), ((qb 28), .inl ((cb 28), 3, .inl (fun _ => 0))), ((qb 29), .inl ((cb 29), 3, .inr (.inl (fun _ => 0)))), ((qb 30), .inl ((cb 30), 16, .inl (fun _ => 0)))] H := hP
        have hD : va_D (fun q : Nat => s.heap.size ≤ q) [(q3, .inr (8, [.int 0, .int 1, .ref (qb 0), .ref (qb 1), .ref (qb 2), .ref (qb 3), .ref (qb 4), .ref (qb 5), .ref (qb 6), .ref (qb 7), .int 0, .ref (qb 8), .ref (qb 9), .ref (qb 10), .ref (qb 11), .ref (qb 12), .ref (qb 13), .ref (qb 14), .ref (qb 15), .ref (qb 16), .ref (qb 17), .ref (qb 18), .ref (qb 19), .int 0, .int 0, .ref (qb 20), .ref (qb 21), .int 0, .ref (qb 22), .ref (qb 23), .ref (qb 24), .ref (qb 25), .ref (qb 26), .ref (qb 27), .int 0, .ref (qb 28), .ref (qb 29), .int 0, .long 0, .int 0, .int 0, .ref (qb 30)])), ((qb 0), .inl ((cb 0), 16, .inl (upd (fun _ => 0) 0 (-1)))), ((qb 1), .inl ((cb 1), 16, .inl (fun _ => 0))), ((qb 2), .inl ((cb 2), 16, .inl (upd (fun _ => 0) 0 (-1)))), ((qb 3), .inl ((cb 3), 16, .inl (fun _ => 0))), ((qb 4), .inl ((cb 4), 16, .inl (fun _ => 0))), ((qb 5), .inl ((cb 5), 16, .inl (fun _ => 0))), ((qb 6), .inl ((cb 6), 16, .inl (fun _ => 0))), ((qb 7), .inl ((cb 7), 16, .inl (fun _ => 0))), ((qb 8), .inl ((cb 8), 40, .inl (fun _ => 0))), ((qb 9), .inl ((cb 9), 40, .inl (fun _ => 0))), ((qb 10), .inl ((cb 10), 40, .inl (fun _ => 0))), ((qb 11), .inl ((cb 11), 40, .inl (fun _ => 0))), ((qb 12), .inl ((cb 12), 40, .inl (fun _ => 0))), ((qb 13), .inl ((cb 13), 80, .inl (fun _ => 0))), ((qb 14), .inl ((cb 14), 40, .inl (fun _ => 0))), ((qb 15), .inl ((cb 15), 40, .inl (fun _ => 0))), ((qb 16), .inl ((cb 16), 40, .inl (fun _ => 0))), ((qb 17), .inl ((cb 17), 40, .inl (fun _ => 0))), ((qb 18), .inl ((cb 18), 40, .inl (fun _ => 0))), ((qb 19), .inl ((cb 19), 40, .inl (fun _ => 0))), ((qb 20), .inl ((cb 20), 60, .inl (fun _ => 0))), ((qb 21), .inl ((cb 21), 60, .inl (fun _ => 0))), ((qb 22), .inl ((cb 22), 130, .inl (fun _ => 0))), ((qb 23), .inl ((cb 23), 130, .inl (fun _ => 0))), ((qb 24), .inl ((cb 24), 130, .inl (fun _ => 0))), ((qb 25), .inl ((cb 25), 130, .inl (fun _ => 0))), ((qb 26), .inl ((cb 26), 5240, .inl (fun _ => 0))), ((qb 27), .inl ((cb 27), 5240, .inr (.inl (fun _ => 0)))), ((qb 28), .inl ((cb 28), 3, .inl (fun _ => 0))), ((qb 29), .inl ((cb 29), 3, .inr (.inl (fun _ => 0)))), ((qb 30), .inl ((cb 30), 16, .inl (fun _ => 0)))] := hD
        have hK : va_K (dC, dI) vwCl [((ca 0), .object "ReflectModels$ClassModel"), ((ca 1), .object "ReflectModels$Member"), ((ca 2), .object "ReflectModels$Handle"), ((ca 3), .object "ReflectModels$Thing"), ((ca 4), .object "ReflectModels$Value"), ((cb 0), .int), ((cb 1), .int), ((cb 2), .int), ((cb 3), .boolean), ((cb 4), .boolean), ((cb 5), .int), ((cb 6), .int), ((cb 7), .int), ((cb 8), .int), ((cb 9), .boolean), ((cb 10), .int), ((cb 11), .int), ((cb 12), .int), ((cb 13), .int), ((cb 14), .boolean), ((cb 15), .boolean), ((cb 16), .boolean), ((cb 17), .boolean), ((cb 18), .int), ((cb 19), .int), ((cb 20), .int), ((cb 21), .boolean), ((cb 22), .int), ((cb 23), .int), ((cb 24), .int), ((cb 25), .int), ((cb 26), .int), ((cb 27), .long), ((cb 28), .int), ((cb 29), .long), ((cb 30), .int)] s := hK
        refine W.cs (cells' := 43) (slots' := 12110) rfl rfl ?_
        refine lv_aload_n hx hb dL_law_552 rfl (lv_at hl 1 rfl) ?_
        refine lv_aload_n hx hb dL_law_553 rfl (lv_at hl 3 rfl) ?_
        refine lv_iload_n hx hb dL_law_554 rfl (lv_at hl 0 rfl) ?_
        refine lv_iconst (v := 1) hx hb dL_law_555 (by decide) ?_
        refine lv_iadd hx hb dL_law_556 ?_
        refine lv_topi (fun y84 ey84 => ?_)
        obtain rfl : y84 = 1 := ey84.trans (by decide)
        refine va_sld hx hb hX hbl hbA hS (vp_in_iff.mpr ⟨by decide, by decide⟩) dL_law_557 ?_
        refine W.eq (g2 := F0 m 558 ls [.int (xs 1), .ref q3, .int (an_findField (xs 1).toInt (xs 2).toInt)]) rfl ?_
        refine lv_aload_n hx hb dL_law_558 rfl (lv_at hl 3 rfl) ?_
        refine lv_iload_n hx hb dL_law_559 rfl (lv_at hl 0 rfl) ?_
        refine lv_iconst (v := 2) hx hb dL_law_560 (by decide) ?_
        refine lv_iadd hx hb dL_law_561 ?_
        refine lv_topi (fun y85 ey85 => ?_)
        obtain rfl : y85 = 2 := ey85.trans (by decide)
        refine va_sld hx hb hX hbl hbA hS (vp_in_iff.mpr ⟨by decide, by decide⟩) dL_law_562 ?_
        refine W.eq (g2 := F0 m 563 ls [.int (xs 2), .int (xs 1), .ref q3, .int (an_findField (xs 1).toInt (xs 2).toInt)]) rfl ?_
        refine lv_aload_n hx hb dL_law_563 rfl (lv_at hl 3 rfl) ?_
        refine lv_iload_n hx hb dL_law_564 rfl (lv_at hl 0 rfl) ?_
        refine lv_iconst (v := 3) hx hb dL_law_565 (by decide) ?_
        refine lv_iadd hx hb dL_law_566 ?_
        refine lv_topi (fun y86 ey86 => ?_)
        obtain rfl : y86 = 3 := ey86.trans (by decide)
        refine va_sld hx hb hX hbl hbA hS (vp_in_iff.mpr ⟨by decide, by decide⟩) dL_law_567 ?_
        refine W.eq (g2 := F0 m 568 ls [.int (xs 3), .int (xs 2), .int (xs 1), .ref q3, .int (an_findField (xs 1).toInt (xs 2).toInt)]) rfl ?_
        refine lw_b hx hb dL_law_568 dL_law_571 dL_law_572 dL_law_575 ?_
        refine clW (wr := []) [0, 1, 2, 3, 4, 5, 6, 7, 8, 9, 10, 11, 12, 13, 14, 15, 16, 17, 18, 19, 20, 21, 22, 23, 24, 25, 26, 27, 28, 29, 30, 31] [] (va_runV (As := [.int (xs 1), .int (xs 2), .int (bz (xs 3))]) (rest := [.int (an_findField (xs 1).toInt (xs 2).toInt)]) ⟨hx, hb, hml, hown, hts⟩ (c9_findField l dC dI q3 qb cb (xs 1) (xs 2) (bz (xs 3)) _ ) (cwV 3 hts gL_law_X9_findField rfl rfl rfl (by decide +kernel) ⟨Nat.le_of_ble_eq_true rfl, Nat.le_of_ble_eq_true rfl⟩) ⟨pz_blind, va_recv hK hP (ci := 8) (q0 := 0) rfl rfl, pz_of hP hK hD hN [0, 1, 2, 3, 4, 5, 6, 7, 8, 9, 10, 11, 12, 13, 14, 15, 16, 17, 18, 19, 20, 21, 22, 23, 24, 25, 26, 27, 28, 29, 30, 31] [5, 6, 7, 8, 9, 10, 11, 12, 13, 14, 15, 16, 17, 18, 19, 20, 21, 22, 23, 24, 25, 26, 27, 28, 29, 30, 31, 32, 33, 34, 35] rfl (by decide) rfl⟩ rfl rfl hl.1 rfl (lv_room (Nat.le_of_ble_eq_true rfl)) dL_law_576 ⟨Nat.le_of_ble_eq_true rfl, Nat.le_of_ble_eq_true rfl⟩) hS hP hD hK hA rfl rfl (by decide) (by decide) (fun v w1 ty1 H locs w87 hP hD hK hS => ?_)
        obtain ⟨rfl, rfl, rfl⟩ := w87
        refine W.eq (g2 := F0 m 579 ls [.int (an_findField (xs 1).toInt (xs 2).toInt), .int (an_findField (xs 1).toInt (xs 2).toInt)]) rfl ?_
        have hP : va_P (dC, dI) vwCl [] H := hP
        have hD : va_D (fun q : Nat => s.heap.size ≤ q) [] := hD
        have hK : va_K (dC, dI) vwCl [((ca 0), .object "ReflectModels$ClassModel"), ((ca 1), .object "ReflectModels$Member"), ((ca 2), .object "ReflectModels$Handle"), ((ca 3), .object "ReflectModels$Thing"), ((ca 4), .object "ReflectModels$Value"), ((cb 0), .int), ((cb 1), .int), ((cb 2), .int), ((cb 3), .boolean), ((cb 4), .boolean), ((cb 5), .int), ((cb 6), .int), ((cb 7), .int), ((cb 8), .int), ((cb 9), .boolean), ((cb 10), .int), ((cb 11), .int), ((cb 12), .int), ((cb 13), .int), ((cb 14), .boolean), ((cb 15), .boolean), ((cb 16), .boolean), ((cb 17), .boolean), ((cb 18), .int), ((cb 19), .int), ((cb 20), .int), ((cb 21), .boolean), ((cb 22), .int), ((cb 23), .int), ((cb 24), .int), ((cb 25), .int), ((cb 26), .int), ((cb 27), .long), ((cb 28), .int), ((cb 29), .long), ((cb 30), .int)] s := hK
        refine W.cs (cells' := 43) (slots' := 12110) rfl rfl ?_
        refine lv_icmp_eq (tgt := 1154) hx hb dL_law_579 (by decide) (fun _ => ?_) (fun h => absurd rfl h)
        refine lv_iinc (v := 10) (lv' := [(3, .int 10), (2, .ref q3), (1, .ref q1), (0, .ref b)]) hx hb dL_law_1154 hl (k := 0) rfl (by decide) (by decide) rfl (fun ls hl => ?_)
        refine lv_goto (tgt := 18) hx hb dL_law_1157 (by decide) ?_
        refine lv_iload_n hx hb dL_law_18 rfl (lv_at hl 0 rfl) ?_
        refine lv_aload_n hx hb dL_law_19 rfl (lv_at hl 3 rfl) ?_
        refine va_slen hx hb hX hbl hbA hS dL_law_20 ?_
        refine W.eq (g2 := F0 m 21 ls [.int 10, .int 10]) rfl ?_
        refine lv_bipush (v := 10) hx hb dL_law_21 (by decide) ?_
        refine lv_isub hx hb dL_law_23 ?_
        refine lv_topi (fun y88 ey88 => ?_)
        obtain rfl : y88 = 0 := ey88.trans (by decide)
        refine lv_icmp_gt (tgt := 1160) hx hb dL_law_24 (by decide) (fun _ => ?_) (fun h => absurd (by decide) h)
        refine lv_iconst (v := 1) hx hb dL_law_1160 (by decide) ?_
        refine va_forget (fun z hz => hS.2.2 z hz) ?_
        refine W.widen (k := 600000) (n := 7302250) (by omega) (by omega) ?_
        exact lw_ret hx hb hr hlocks dL_law_1161
      · refine lv_tableIn (tgt := 584) (off := 551) hx hb dL_law_33 (by decide) (by decide) (by decide) (by decide) ?_
        refine lv_aload_n hx hb dL_law_584 rfl (lv_at hl 2 rfl) ?_
        refine lv_aload_n hx hb dL_law_585 rfl (lv_at hl 3 rfl) ?_
        refine lv_iload_n hx hb dL_law_586 rfl (lv_at hl 0 rfl) ?_
        refine lv_iconst (v := 1) hx hb dL_law_587 (by decide) ?_
        refine lv_iadd hx hb dL_law_588 ?_
        refine lv_topi (fun y89 ey89 => ?_)
        obtain rfl : y89 = 1 := ey89.trans (by decide)
        refine va_sld hx hb hX hbl hbA hS (vp_in_iff.mpr ⟨by decide, by decide⟩) dL_law_589 ?_
        refine W.eq (g2 := F0 m 590 ls [.int (xs 1), .ref q1]) rfl ?_
        refine lv_aload_n hx hb dL_law_590 rfl (lv_at hl 3 rfl) ?_
        refine lv_iload_n hx hb dL_law_591 rfl (lv_at hl 0 rfl) ?_
        refine lv_iconst (v := 2) hx hb dL_law_592 (by decide) ?_
        refine lv_iadd hx hb dL_law_593 ?_
        refine lv_topi (fun y90 ey90 => ?_)
        obtain rfl : y90 = 2 := ey90.trans (by decide)
        refine va_sld hx hb hX hbl hbA hS (vp_in_iff.mpr ⟨by decide, by decide⟩) dL_law_594 ?_
        refine W.eq (g2 := F0 m 595 ls [.int (xs 2), .int (xs 1), .ref q1]) rfl ?_
        refine lv_aload_n hx hb dL_law_595 rfl (lv_at hl 3 rfl) ?_
        refine lv_iload_n hx hb dL_law_596 rfl (lv_at hl 0 rfl) ?_
        refine lv_iconst (v := 3) hx hb dL_law_597 (by decide) ?_
        refine lv_iadd hx hb dL_law_598 ?_
        refine lv_topi (fun y91 ey91 => ?_)
        obtain rfl : y91 = 3 := ey91.trans (by decide)
        refine va_sld hx hb hX hbl hbA hS (vp_in_iff.mpr ⟨by decide, by decide⟩) dL_law_599 ?_
        refine W.eq (g2 := F0 m 600 ls [.int (xs 3), .int (xs 2), .int (xs 1), .ref q1]) rfl ?_
        refine lv_aload_n hx hb dL_law_600 rfl (lv_at hl 3 rfl) ?_
        refine lv_iload_n hx hb dL_law_601 rfl (lv_at hl 0 rfl) ?_
        refine lv_iconst (v := 4) hx hb dL_law_602 (by decide) ?_
        refine lv_iadd hx hb dL_law_603 ?_
        refine lv_topi (fun y92 ey92 => ?_)
        obtain rfl : y92 = 4 := ey92.trans (by decide)
        refine va_sld hx hb hX hbl hbA hS (vp_in_iff.mpr ⟨by decide, by decide⟩) dL_law_604 ?_
        refine W.eq (g2 := F0 m 605 ls [.int (xs 4), .int (xs 3), .int (xs 2), .int (xs 1), .ref q1]) rfl ?_
        refine lv_aload_n hx hb dL_law_605 rfl (lv_at hl 3 rfl) ?_
        refine lv_iload_n hx hb dL_law_606 rfl (lv_at hl 0 rfl) ?_
        refine lv_iconst (v := 5) hx hb dL_law_607 (by decide) ?_
        refine lv_iadd hx hb dL_law_608 ?_
        refine lv_topi (fun y93 ey93 => ?_)
        obtain rfl : y93 = 5 := ey93.trans (by decide)
        refine va_sld hx hb hX hbl hbA hS (vp_in_iff.mpr ⟨by decide, by decide⟩) dL_law_609 ?_
        refine W.eq (g2 := F0 m 610 ls [.int (xs 5), .int (xs 4), .int (xs 3), .int (xs 2), .int (xs 1), .ref q1]) rfl ?_
        refine lv_aload_n hx hb dL_law_610 rfl (lv_at hl 3 rfl) ?_
        refine lv_iload_n hx hb dL_law_611 rfl (lv_at hl 0 rfl) ?_
        refine lv_bipush (v := 6) hx hb dL_law_612 (by decide) ?_
        refine lv_iadd hx hb dL_law_614 ?_
        refine lv_topi (fun y94 ey94 => ?_)
        obtain rfl : y94 = 6 := ey94.trans (by decide)
        refine va_sld hx hb hX hbl hbA hS (vp_in_iff.mpr ⟨by decide, by decide⟩) dL_law_615 ?_
        refine W.eq (g2 := F0 m 616 ls [.int (xs 6), .int (xs 5), .int (xs 4), .int (xs 3), .int (xs 2), .int (xs 1), .ref q1]) rfl ?_
        refine lw_b hx hb dL_law_616 dL_law_619 dL_law_620 dL_law_623 ?_
        refine clW (wr := [(q3, .inr (8, [.int 0, .int 1, .ref (qb 0), .ref (qb 1), .ref (qb 2), .ref (qb 3), .ref (qb 4), .ref (qb 5), .ref (qb 6), .ref (qb 7), .int 0, .ref (qb 8), .ref (qb 9), .ref (qb 10), .ref (qb 11), .ref (qb 12), .ref (qb 13), .ref (qb 14), .ref (qb 15), .ref (qb 16), .ref (qb 17), .ref (qb 18), .ref (qb 19), .int 0, .int 0, .ref (qb 20), .ref (qb 21), .int 0, .ref (qb 22), .ref (qb 23), .ref (qb 24), .ref (qb 25), .ref (qb 26), .ref (qb 27), .int 0, .ref (qb 28), .ref (qb 29), .int 0, .long 0, .int 0, .int 0, .ref (qb 30)])), ((qb 0), .inl ((cb 0), 16, .inl (upd (fun _ => 0) 0 (-1)))), ((qb 1), .inl ((cb 1), 16, .inl (fun _ => 0))), ((qb 2), .inl ((cb 2), 16, .inl (upd (fun _ => 0) 0 (-1)))), ((qb 3), .inl ((cb 3), 16, .inl (fun _ => 0))), ((qb 4), .inl ((cb 4), 16, .inl (fun _ => 0))), ((qb 5), .inl ((cb 5), 16, .inl (fun _ => 0))), ((qb 6), .inl ((cb 6), 16, .inl (fun _ => 0))), ((qb 7), .inl ((cb 7), 16, .inl (fun _ => 0))), ((qb 8), .inl ((cb 8), 40, .inl (fun _ => 0))), ((qb 9), .inl ((cb 9), 40, .inl (fun _ => 0))), ((qb 10), .inl ((cb 10), 40, .inl (fun _ => 0))), ((qb 11), .inl ((cb 11), 40, .inl (fun _ => 0))), ((qb 12), .inl ((cb 12), 40, .inl (fun _ => 0))), ((qb 13), .inl ((cb 13), 80, .inl (fun _ => 0))), ((qb 14), .inl ((cb 14), 40, .inl (fun _ => 0))), ((qb 15), .inl ((cb 15), 40, .inl (fun _ => 0))), ((qb 16), .inl ((cb 16), 40, .inl (fun _ => 0))), ((qb 17), .inl ((cb 17), 40, .inl (fun _ => 0))), ((qb 18), .inl ((cb 18), 40, .inl (fun _ => 0))), ((qb 19), .inl ((cb 19), 40, .inl (fun _ => 0))), ((qb 20), .inl ((cb 20), 60, .inl (fun _ => 0))), ((qb 21), .inl ((cb 21), 60, .inl (fun _ => 0))), ((qb 22), .inl ((cb 22), 130, .inl (fun _ => 0))), ((qb 23), .inl ((cb 23), 130, .inl (fun _ => 0))), ((qb 24), .inl ((cb 24), 130, .inl (fun _ => 0))), ((qb 25), .inl ((cb 25), 130, .inl (fun _ => 0))), ((qb 26), .inl ((cb 26), 5240, .inl (fun _ => 0))), ((qb 27), .inl ((cb 27), 5240, .inr (.inl (fun _ => 0)))), ((qb 28), .inl ((cb 28), 3, .inl (fun _ => 0))), ((qb 29), .inl ((cb 29), 3, .inr (.inl (fun _ => 0)))), ((qb 30), .inl ((cb 30), 16, .inl (fun _ => 0)))]) [0, 1, 2, 3, 4, 5, 6, 7, 8, 9, 10] [11, 12, 13, 14, 15, 16, 17, 18, 19, 20, 21, 22, 23, 24, 25, 26, 27, 28, 29, 30, 31, 32, 33, 34, 35, 36, 37, 38, 39, 40, 41, 42] (va_runV (As := [.int (xs 1), .int (xs 2), .int (xs 3), .int (xs 4), .int (xs 5), .int (bz (xs 6))]) (rest := []) ⟨hx, hb, hml, hown, hts⟩ (c8_findMethod l dC dI q1 qa ca (xs 1) (xs 2) (xs 3) (xs 4) (xs 5) (bz (xs 6)) _ ) (cwV 6 hts gL_law_X8_findMethod rfl rfl rfl (by decide +kernel) ⟨Nat.le_of_ble_eq_true rfl, Nat.le_of_ble_eq_true rfl⟩) ⟨pz_blind, va_recv hK hP (ci := 7) (q0 := 0) rfl rfl, pz_of hP hK hD hN [0, 1, 2, 3, 4, 5, 6, 7, 8, 9, 10] [0, 1, 2, 3, 4] rfl (by decide) rfl⟩ rfl rfl hl.1 rfl (lv_room (Nat.le_of_ble_eq_true rfl)) dL_law_624 ⟨Nat.le_of_ble_eq_true rfl, Nat.le_of_ble_eq_true rfl⟩) hS hP hD hK hA rfl rfl (by decide) (by decide) (fun v w1 ty1 H locs w95 hP hD hK hS => ?_)
        obtain ⟨rfl, rfl, rfl⟩ := w95
        refine W.eq (g2 := F0 m 627 ls [.int (an_findMethod (xs 1).toInt (xs 2).toInt (xs 3).toInt (xs 4).toInt (xs 5).toInt)]) rfl ?_
        have hP : va_P (dC, dI) vwCl [(q3, .inr (8, [.int 0, .int 1, .ref (qb 0), .ref (qb 1), .ref (qb 2), .ref (qb 3), .ref (qb 4), .ref (qb 5), .ref (qb 6), .ref (qb 7), .int 0, .ref (qb 8), .ref (qb 9), .ref (qb 10), .ref (qb 11), .ref (qb 12), .ref (qb 13), .ref (qb 14), .ref (qb 15), .ref (qb 16), .ref (qb 17), .ref (qb 18), .ref (qb 19), .int 0, .int 0, .ref (qb 20), .ref (qb 21), .int 0, .ref (qb 22), .ref (qb 23), .ref (qb 24), .ref (qb 25), .ref (qb 26), .ref (qb 27), .int 0, .ref (qb 28), .ref (qb 29), .int 0, .long 0, .int 0, .int 0, .ref (qb 30)])), ((qb 0), .inl ((cb 0), 16, .inl (upd (fun _ => 0) 0 (-1)))), ((qb 1), .inl ((cb 1), 16, .inl (fun _ => 0))), ((qb 2), .inl ((cb 2), 16, .inl (upd (fun _ => 0) 0 (-1)))), ((qb 3), .inl ((cb 3), 16, .inl (fun _ => 0))), ((qb 4), .inl ((cb 4), 16, .inl (fun _ => 0))), ((qb 5), .inl ((cb 5), 16, .inl (fun _ => 0))), ((qb 6), .inl ((cb 6), 16, .inl (fun _ => 0))), ((qb 7), .inl ((cb 7), 16, .inl (fun _ => 0))), ((qb 8), .inl ((cb 8), 40, .inl (fun _ => 0))), ((qb 9), .inl ((cb 9), 40, .inl (fun _ => 0))), ((qb 10), .inl ((cb 10), 40, .inl (fun _ => 0))), ((qb 11), .inl ((cb 11), 40, .inl (fun _ => 0))), ((qb 12), .inl ((cb 12), 40, .inl (fun _ => 0))), ((qb 13), .inl ((cb 13), 80, .inl (fun _ => 0))), ((qb 14), .inl ((cb 14), 40, .inl (fun _ => 0))), ((qb 15), .inl ((cb 15), 40, .inl (fun _ => 0))), ((qb 16), .inl ((cb 16), 40, .inl (fun _ => 0))), ((qb 17), .inl ((cb 17), 40, .inl (fun _ => 0))), ((qb 18), .inl ((cb 18), 40, .inl (fun _ => 0))), ((qb 19), .inl ((cb 19), 40, .inl (fun _ => 0))), ((qb 20), .inl ((cb 20), 60, .inl (fun _ => 0))), ((qb 21), .inl ((cb 21), 60, .inl (fun _ => 0))), ((qb 22), .inl ((cb 22), 130, .inl (fun _ => 0))), ((qb 23), .inl ((cb 23), 130, .inl (fun _ => 0))), ((qb 24), .inl ((cb 24), 130, .inl (fun _ => 0))), ((qb 25), .inl ((cb 25), 130, .inl (fun _ => 0))), ((qb 26), .inl ((cb 26), 5240, .inl (fun _ => 0))), ((qb 27), .inl ((cb 27), 5240, .inr (.inl (fun _ => 0)))), ((qb 28), .inl ((cb 28), 3, .inl (fun _ => 0))), ((qb 29), .inl ((cb 29), 3, .inr (.inl (fun _ => 0)))), ((qb 30), .inl ((cb 30), 16, .inl (fun _ => 0)))] H := hP
        have hD : va_D (fun q : Nat => s.heap.size ≤ q) [(q3, .inr (8, [.int 0, .int 1, .ref (qb 0), .ref (qb 1), .ref (qb 2), .ref (qb 3), .ref (qb 4), .ref (qb 5), .ref (qb 6), .ref (qb 7), .int 0, .ref (qb 8), .ref (qb 9), .ref (qb 10), .ref (qb 11), .ref (qb 12), .ref (qb 13), .ref (qb 14), .ref (qb 15), .ref (qb 16), .ref (qb 17), .ref (qb 18), .ref (qb 19), .int 0, .int 0, .ref (qb 20), .ref (qb 21), .int 0, .ref (qb 22), .ref (qb 23), .ref (qb 24), .ref (qb 25), .ref (qb 26), .ref (qb 27), .int 0, .ref (qb 28), .ref (qb 29), .int 0, .long 0, .int 0, .int 0, .ref (qb 30)])), ((qb 0), .inl ((cb 0), 16, .inl (upd (fun _ => 0) 0 (-1)))), ((qb 1), .inl ((cb 1), 16, .inl (fun _ => 0))), ((qb 2), .inl ((cb 2), 16, .inl (upd (fun _ => 0) 0 (-1)))), ((qb 3), .inl ((cb 3), 16, .inl (fun _ => 0))), ((qb 4), .inl ((cb 4), 16, .inl (fun _ => 0))), ((qb 5), .inl ((cb 5), 16, .inl (fun _ => 0))), ((qb 6), .inl ((cb 6), 16, .inl (fun _ => 0))), ((qb 7), .inl ((cb 7), 16, .inl (fun _ => 0))), ((qb 8), .inl ((cb 8), 40, .inl (fun _ => 0))), ((qb 9), .inl ((cb 9), 40, .inl (fun _ => 0))), ((qb 10), .inl ((cb 10), 40, .inl (fun _ => 0))), ((qb 11), .inl ((cb 11), 40, .inl (fun _ => 0))), ((qb 12), .inl ((cb 12), 40, .inl (fun _ => 0))), ((qb 13), .inl ((cb 13), 80, .inl (fun _ => 0))), ((qb 14), .inl ((cb 14), 40, .inl (fun _ => 0))), ((qb 15), .inl ((cb 15), 40, .inl (fun _ => 0))), ((qb 16), .inl ((cb 16), 40, .inl (fun _ => 0))), ((qb 17), .inl ((cb 17), 40, .inl (fun _ => 0))), ((qb 18), .inl ((cb 18), 40, .inl (fun _ => 0))), ((qb 19), .inl ((cb 19), 40, .inl (fun _ => 0))), ((qb 20), .inl ((cb 20), 60, .inl (fun _ => 0))), ((qb 21), .inl ((cb 21), 60, .inl (fun _ => 0))), ((qb 22), .inl ((cb 22), 130, .inl (fun _ => 0))), ((qb 23), .inl ((cb 23), 130, .inl (fun _ => 0))), ((qb 24), .inl ((cb 24), 130, .inl (fun _ => 0))), ((qb 25), .inl ((cb 25), 130, .inl (fun _ => 0))), ((qb 26), .inl ((cb 26), 5240, .inl (fun _ => 0))), ((qb 27), .inl ((cb 27), 5240, .inr (.inl (fun _ => 0)))), ((qb 28), .inl ((cb 28), 3, .inl (fun _ => 0))), ((qb 29), .inl ((cb 29), 3, .inr (.inl (fun _ => 0)))), ((qb 30), .inl ((cb 30), 16, .inl (fun _ => 0)))] := hD
        have hK : va_K (dC, dI) vwCl [((ca 0), .object "ReflectModels$ClassModel"), ((ca 1), .object "ReflectModels$Member"), ((ca 2), .object "ReflectModels$Handle"), ((ca 3), .object "ReflectModels$Thing"), ((ca 4), .object "ReflectModels$Value"), ((cb 0), .int), ((cb 1), .int), ((cb 2), .int), ((cb 3), .boolean), ((cb 4), .boolean), ((cb 5), .int), ((cb 6), .int), ((cb 7), .int), ((cb 8), .int), ((cb 9), .boolean), ((cb 10), .int), ((cb 11), .int), ((cb 12), .int), ((cb 13), .int), ((cb 14), .boolean), ((cb 15), .boolean), ((cb 16), .boolean), ((cb 17), .boolean), ((cb 18), .int), ((cb 19), .int), ((cb 20), .int), ((cb 21), .boolean), ((cb 22), .int), ((cb 23), .int), ((cb 24), .int), ((cb 25), .int), ((cb 26), .int), ((cb 27), .long), ((cb 28), .int), ((cb 29), .long), ((cb 30), .int)] s := hK
        refine W.cs (cells' := 44) (slots' := 12114) rfl rfl ?_
        refine lv_aload_n hx hb dL_law_627 rfl (lv_at hl 1 rfl) ?_
        refine lv_aload_n hx hb dL_law_628 rfl (lv_at hl 3 rfl) ?_
        refine lv_iload_n hx hb dL_law_629 rfl (lv_at hl 0 rfl) ?_
        refine lv_iconst (v := 1) hx hb dL_law_630 (by decide) ?_
        refine lv_iadd hx hb dL_law_631 ?_
        refine lv_topi (fun y96 ey96 => ?_)
        obtain rfl : y96 = 1 := ey96.trans (by decide)
        refine va_sld hx hb hX hbl hbA hS (vp_in_iff.mpr ⟨by decide, by decide⟩) dL_law_632 ?_
        refine W.eq (g2 := F0 m 633 ls [.int (xs 1), .ref q3, .int (an_findMethod (xs 1).toInt (xs 2).toInt (xs 3).toInt (xs 4).toInt (xs 5).toInt)]) rfl ?_
        refine lv_aload_n hx hb dL_law_633 rfl (lv_at hl 3 rfl) ?_
        refine lv_iload_n hx hb dL_law_634 rfl (lv_at hl 0 rfl) ?_
        refine lv_iconst (v := 2) hx hb dL_law_635 (by decide) ?_
        refine lv_iadd hx hb dL_law_636 ?_
        refine lv_topi (fun y97 ey97 => ?_)
        obtain rfl : y97 = 2 := ey97.trans (by decide)
        refine va_sld hx hb hX hbl hbA hS (vp_in_iff.mpr ⟨by decide, by decide⟩) dL_law_637 ?_
        refine W.eq (g2 := F0 m 638 ls [.int (xs 2), .int (xs 1), .ref q3, .int (an_findMethod (xs 1).toInt (xs 2).toInt (xs 3).toInt (xs 4).toInt (xs 5).toInt)]) rfl ?_
        refine lv_aload_n hx hb dL_law_638 rfl (lv_at hl 3 rfl) ?_
        refine lv_iload_n hx hb dL_law_639 rfl (lv_at hl 0 rfl) ?_
        refine lv_iconst (v := 3) hx hb dL_law_640 (by decide) ?_
        refine lv_iadd hx hb dL_law_641 ?_
        refine lv_topi (fun y98 ey98 => ?_)
        obtain rfl : y98 = 3 := ey98.trans (by decide)
        refine va_sld hx hb hX hbl hbA hS (vp_in_iff.mpr ⟨by decide, by decide⟩) dL_law_642 ?_
        refine W.eq (g2 := F0 m 643 ls [.int (xs 3), .int (xs 2), .int (xs 1), .ref q3, .int (an_findMethod (xs 1).toInt (xs 2).toInt (xs 3).toInt (xs 4).toInt (xs 5).toInt)]) rfl ?_
        refine lv_aload_n hx hb dL_law_643 rfl (lv_at hl 3 rfl) ?_
        refine lv_iload_n hx hb dL_law_644 rfl (lv_at hl 0 rfl) ?_
        refine lv_iconst (v := 4) hx hb dL_law_645 (by decide) ?_
        refine lv_iadd hx hb dL_law_646 ?_
        refine lv_topi (fun y99 ey99 => ?_)
        obtain rfl : y99 = 4 := ey99.trans (by decide)
        refine va_sld hx hb hX hbl hbA hS (vp_in_iff.mpr ⟨by decide, by decide⟩) dL_law_647 ?_
        refine W.eq (g2 := F0 m 648 ls [.int (xs 4), .int (xs 3), .int (xs 2), .int (xs 1), .ref q3, .int (an_findMethod (xs 1).toInt (xs 2).toInt (xs 3).toInt (xs 4).toInt (xs 5).toInt)]) rfl ?_
        refine lv_aload_n hx hb dL_law_648 rfl (lv_at hl 3 rfl) ?_
        refine lv_iload_n hx hb dL_law_649 rfl (lv_at hl 0 rfl) ?_
        refine lv_iconst (v := 5) hx hb dL_law_650 (by decide) ?_
        refine lv_iadd hx hb dL_law_651 ?_
        refine lv_topi (fun y100 ey100 => ?_)
        obtain rfl : y100 = 5 := ey100.trans (by decide)
        refine va_sld hx hb hX hbl hbA hS (vp_in_iff.mpr ⟨by decide, by decide⟩) dL_law_652 ?_
        refine W.eq (g2 := F0 m 653 ls [.int (xs 5), .int (xs 4), .int (xs 3), .int (xs 2), .int (xs 1), .ref q3, .int (an_findMethod (xs 1).toInt (xs 2).toInt (xs 3).toInt (xs 4).toInt (xs 5).toInt)]) rfl ?_
        refine lv_aload_n hx hb dL_law_653 rfl (lv_at hl 3 rfl) ?_
        refine lv_iload_n hx hb dL_law_654 rfl (lv_at hl 0 rfl) ?_
        refine lv_bipush (v := 6) hx hb dL_law_655 (by decide) ?_
        refine lv_iadd hx hb dL_law_657 ?_
        refine lv_topi (fun y101 ey101 => ?_)
        obtain rfl : y101 = 6 := ey101.trans (by decide)
        refine va_sld hx hb hX hbl hbA hS (vp_in_iff.mpr ⟨by decide, by decide⟩) dL_law_658 ?_
        refine W.eq (g2 := F0 m 659 ls [.int (xs 6), .int (xs 5), .int (xs 4), .int (xs 3), .int (xs 2), .int (xs 1), .ref q3, .int (an_findMethod (xs 1).toInt (xs 2).toInt (xs 3).toInt (xs 4).toInt (xs 5).toInt)]) rfl ?_
        refine lw_b hx hb dL_law_659 dL_law_662 dL_law_663 dL_law_666 ?_
        refine clW (wr := []) [0, 1, 2, 3, 4, 5, 6, 7, 8, 9, 10, 11, 12, 13, 14, 15, 16, 17, 18, 19, 20, 21, 22, 23, 24, 25, 26, 27, 28, 29, 30, 31] [] (va_runV (As := [.int (xs 1), .int (xs 2), .int (xs 3), .int (xs 4), .int (xs 5), .int (bz (xs 6))]) (rest := [.int (an_findMethod (xs 1).toInt (xs 2).toInt (xs 3).toInt (xs 4).toInt (xs 5).toInt)]) ⟨hx, hb, hml, hown, hts⟩ (c9_findMethod l dC dI q3 qb cb (xs 1) (xs 2) (xs 3) (xs 4) (xs 5) (bz (xs 6)) _ ) (cwV 6 hts gL_law_X9_findMethod rfl rfl rfl (by decide +kernel) ⟨Nat.le_of_ble_eq_true rfl, Nat.le_of_ble_eq_true rfl⟩) ⟨pz_blind, va_recv hK hP (ci := 8) (q0 := 0) rfl rfl, pz_of hP hK hD hN [0, 1, 2, 3, 4, 5, 6, 7, 8, 9, 10, 11, 12, 13, 14, 15, 16, 17, 18, 19, 20, 21, 22, 23, 24, 25, 26, 27, 28, 29, 30, 31] [5, 6, 7, 8, 9, 10, 11, 12, 13, 14, 15, 16, 17, 18, 19, 20, 21, 22, 23, 24, 25, 26, 27, 28, 29, 30, 31, 32, 33, 34, 35] rfl (by decide) rfl⟩ rfl rfl hl.1 rfl (lv_room (Nat.le_of_ble_eq_true rfl)) dL_law_667 ⟨Nat.le_of_ble_eq_true rfl, Nat.le_of_ble_eq_true rfl⟩) hS hP hD hK hA rfl rfl (by decide) (by decide) (fun v w1 ty1 H locs w102 hP hD hK hS => ?_)
        obtain ⟨rfl, rfl, rfl⟩ := w102
        refine W.eq (g2 := F0 m 670 ls [.int (an_findMethod (xs 1).toInt (xs 2).toInt (xs 3).toInt (xs 4).toInt (xs 5).toInt), .int (an_findMethod (xs 1).toInt (xs 2).toInt (xs 3).toInt (xs 4).toInt (xs 5).toInt)]) rfl ?_
        have hP : va_P (dC, dI) vwCl [] H := hP
        have hD : va_D (fun q : Nat => s.heap.size ≤ q) [] := hD
        have hK : va_K (dC, dI) vwCl [((ca 0), .object "ReflectModels$ClassModel"), ((ca 1), .object "ReflectModels$Member"), ((ca 2), .object "ReflectModels$Handle"), ((ca 3), .object "ReflectModels$Thing"), ((ca 4), .object "ReflectModels$Value"), ((cb 0), .int), ((cb 1), .int), ((cb 2), .int), ((cb 3), .boolean), ((cb 4), .boolean), ((cb 5), .int), ((cb 6), .int), ((cb 7), .int), ((cb 8), .int), ((cb 9), .boolean), ((cb 10), .int), ((cb 11), .int), ((cb 12), .int), ((cb 13), .int), ((cb 14), .boolean), ((cb 15), .boolean), ((cb 16), .boolean), ((cb 17), .boolean), ((cb 18), .int), ((cb 19), .int), ((cb 20), .int), ((cb 21), .boolean), ((cb 22), .int), ((cb 23), .int), ((cb 24), .int), ((cb 25), .int), ((cb 26), .int), ((cb 27), .long), ((cb 28), .int), ((cb 29), .long), ((cb 30), .int)] s := hK
        refine W.cs (cells' := 44) (slots' := 12114) rfl rfl ?_
        refine lv_icmp_eq (tgt := 1154) hx hb dL_law_670 (by decide) (fun _ => ?_) (fun h => absurd rfl h)
        refine lv_iinc (v := 10) (lv' := [(3, .int 10), (2, .ref q3), (1, .ref q1), (0, .ref b)]) hx hb dL_law_1154 hl (k := 0) rfl (by decide) (by decide) rfl (fun ls hl => ?_)
        refine lv_goto (tgt := 18) hx hb dL_law_1157 (by decide) ?_
        refine lv_iload_n hx hb dL_law_18 rfl (lv_at hl 0 rfl) ?_
        refine lv_aload_n hx hb dL_law_19 rfl (lv_at hl 3 rfl) ?_
        refine va_slen hx hb hX hbl hbA hS dL_law_20 ?_
        refine W.eq (g2 := F0 m 21 ls [.int 10, .int 10]) rfl ?_
        refine lv_bipush (v := 10) hx hb dL_law_21 (by decide) ?_
        refine lv_isub hx hb dL_law_23 ?_
        refine lv_topi (fun y103 ey103 => ?_)
        obtain rfl : y103 = 0 := ey103.trans (by decide)
        refine lv_icmp_gt (tgt := 1160) hx hb dL_law_24 (by decide) (fun _ => ?_) (fun h => absurd (by decide) h)
        refine lv_iconst (v := 1) hx hb dL_law_1160 (by decide) ?_
        refine va_forget (fun z hz => hS.2.2 z hz) ?_
        refine W.widen (k := 600000) (n := 7302250) (by omega) (by omega) ?_
        exact lw_ret hx hb hr hlocks dL_law_1161
      · refine lv_tableIn (tgt := 675) (off := 642) hx hb dL_law_33 (by decide) (by decide) (by decide) (by decide) ?_
        refine lv_aload_n hx hb dL_law_675 rfl (lv_at hl 2 rfl) ?_
        refine lv_aload_n hx hb dL_law_676 rfl (lv_at hl 3 rfl) ?_
        refine lv_iload_n hx hb dL_law_677 rfl (lv_at hl 0 rfl) ?_
        refine lv_iconst (v := 1) hx hb dL_law_678 (by decide) ?_
        refine lv_iadd hx hb dL_law_679 ?_
        refine lv_topi (fun y104 ey104 => ?_)
        obtain rfl : y104 = 1 := ey104.trans (by decide)
        refine va_sld hx hb hX hbl hbA hS (vp_in_iff.mpr ⟨by decide, by decide⟩) dL_law_680 ?_
        refine W.eq (g2 := F0 m 681 ls [.int (xs 1), .ref q1]) rfl ?_
        refine clW (wr := [(q3, .inr (8, [.int 0, .int 1, .ref (qb 0), .ref (qb 1), .ref (qb 2), .ref (qb 3), .ref (qb 4), .ref (qb 5), .ref (qb 6), .ref (qb 7), .int 0, .ref (qb 8), .ref (qb 9), .ref (qb 10), .ref (qb 11), .ref (qb 12), .ref (qb 13), .ref (qb 14), .ref (qb 15), .ref (qb 16), .ref (qb 17), .ref (qb 18), .ref (qb 19), .int 0, .int 0, .ref (qb 20), .ref (qb 21), .int 0, .ref (qb 22), .ref (qb 23), .ref (qb 24), .ref (qb 25), .ref (qb 26), .ref (qb 27), .int 0, .ref (qb 28), .ref (qb 29), .int 0, .long 0, .int 0, .int 0, .ref (qb 30)])), ((qb 0), .inl ((cb 0), 16, .inl (upd (fun _ => 0) 0 (-1)))), ((qb 1), .inl ((cb 1), 16, .inl (fun _ => 0))), ((qb 2), .inl ((cb 2), 16, .inl (upd (fun _ => 0) 0 (-1)))), ((qb 3), .inl ((cb 3), 16, .inl (fun _ => 0))), ((qb 4), .inl ((cb 4), 16, .inl (fun _ => 0))), ((qb 5), .inl ((cb 5), 16, .inl (fun _ => 0))), ((qb 6), .inl ((cb 6), 16, .inl (fun _ => 0))), ((qb 7), .inl ((cb 7), 16, .inl (fun _ => 0))), ((qb 8), .inl ((cb 8), 40, .inl (fun _ => 0))), ((qb 9), .inl ((cb 9), 40, .inl (fun _ => 0))), ((qb 10), .inl ((cb 10), 40, .inl (fun _ => 0))), ((qb 11), .inl ((cb 11), 40, .inl (fun _ => 0))), ((qb 12), .inl ((cb 12), 40, .inl (fun _ => 0))), ((qb 13), .inl ((cb 13), 80, .inl (fun _ => 0))), ((qb 14), .inl ((cb 14), 40, .inl (fun _ => 0))), ((qb 15), .inl ((cb 15), 40, .inl (fun _ => 0))), ((qb 16), .inl ((cb 16), 40, .inl (fun _ => 0))), ((qb 17), .inl ((cb 17), 40, .inl (fun _ => 0))), ((qb 18), .inl ((cb 18), 40, .inl (fun _ => 0))), ((qb 19), .inl ((cb 19), 40, .inl (fun _ => 0))), ((qb 20), .inl ((cb 20), 60, .inl (fun _ => 0))), ((qb 21), .inl ((cb 21), 60, .inl (fun _ => 0))), ((qb 22), .inl ((cb 22), 130, .inl (fun _ => 0))), ((qb 23), .inl ((cb 23), 130, .inl (fun _ => 0))), ((qb 24), .inl ((cb 24), 130, .inl (fun _ => 0))), ((qb 25), .inl ((cb 25), 130, .inl (fun _ => 0))), ((qb 26), .inl ((cb 26), 5240, .inl (fun _ => 0))), ((qb 27), .inl ((cb 27), 5240, .inr (.inl (fun _ => 0)))), ((qb 28), .inl ((cb 28), 3, .inl (fun _ => 0))), ((qb 29), .inl ((cb 29), 3, .inr (.inl (fun _ => 0)))), ((qb 30), .inl ((cb 30), 16, .inl (fun _ => 0)))]) [0, 1, 2, 3, 4, 5, 6, 7, 8, 9, 10] [11, 12, 13, 14, 15, 16, 17, 18, 19, 20, 21, 22, 23, 24, 25, 26, 27, 28, 29, 30, 31, 32, 33, 34, 35, 36, 37, 38, 39, 40, 41, 42] (va_runV (As := [.int (xs 1)]) (rest := []) ⟨hx, hb, hml, hown, hts⟩ (c8_leave l dC dI q1 qa ca (xs 1) _ ) (cwV 1 hts gL_law_X8_leave rfl rfl rfl (by decide +kernel) ⟨Nat.le_of_ble_eq_true rfl, Nat.le_of_ble_eq_true rfl⟩) ⟨pz_blind, va_recv hK hP (ci := 7) (q0 := 0) rfl rfl, pz_of hP hK hD hN [0, 1, 2, 3, 4, 5, 6, 7, 8, 9, 10] [0, 1, 2, 3, 4] rfl (by decide) rfl⟩ rfl rfl hl.1 rfl (lv_room (Nat.le_of_ble_eq_true rfl)) dL_law_681 ⟨Nat.le_of_ble_eq_true rfl, Nat.le_of_ble_eq_true rfl⟩) hS hP hD hK hA rfl rfl (by decide) (by decide) (fun v w1 ty1 H locs w105 hP hD hK hS => ?_)
        obtain ⟨rfl, rfl, rfl⟩ := w105
        refine W.eq (g2 := F0 m 684 ls [.int (an_leave (xs 1).toInt)]) rfl ?_
        have hP : va_P (dC, dI) vwCl [(q3, .inr (8, [.int 0, .int 1, .ref (qb 0), .ref (qb 1), .ref (qb 2), .ref (qb 3), .ref (qb 4), .ref (qb 5), .ref (qb 6), .ref (qb 7), .int 0, .ref (qb 8), .ref (qb 9), .ref (qb 10), .ref (qb 11), .ref (qb 12), .ref (qb 13), .ref (qb 14), .ref (qb 15), .ref (qb 16), .ref (qb 17), .ref (qb 18), .ref (qb 19), .int 0, .int 0, .ref (qb 20), .ref (qb 21), .int 0, .ref (qb 22), .ref (qb 23), .ref (qb 24), .ref (qb 25), .ref (qb 26), .ref (qb 27), .int 0, .ref (qb 28), .ref (qb 29), .int 0, .long 0, .int 0, .int 0, .ref (qb 30)])), ((qb 0), .inl ((cb 0), 16, .inl (upd (fun _ => 0) 0 (-1)))), ((qb 1), .inl ((cb 1), 16, .inl (fun _ => 0))), ((qb 2), .inl ((cb 2), 16, .inl (upd (fun _ => 0) 0 (-1)))), ((qb 3), .inl ((cb 3), 16, .inl (fun _ => 0))), ((qb 4), .inl ((cb 4), 16, .inl (fun _ => 0))), ((qb 5), .inl ((cb 5), 16, .inl (fun _ => 0))), ((qb 6), .inl ((cb 6), 16, .inl (fun _ => 0))), ((qb 7), .inl ((cb 7), 16, .inl (fun _ => 0))), ((qb 8), .inl ((cb 8), 40, .inl (fun _ => 0))), ((qb 9), .inl ((cb 9), 40, .inl (fun _ => 0))), ((qb 10), .inl ((cb 10), 40, .inl (fun _ => 0))), ((qb 11), .inl ((cb 11), 40, .inl (fun _ => 0))), ((qb 12), .inl ((cb 12), 40, .inl (fun _ => 0))), ((qb 13), .inl ((cb 13), 80, .inl (fun _ => 0))), ((qb 14), .inl ((cb 14), 40, .inl (fun _ => 0))), ((qb 15), .inl ((cb 15), 40, .inl (fun _ => 0))), ((qb 16), .inl ((cb 16), 40, .inl (fun _ => 0))), ((qb 17), .inl ((cb 17), 40, .inl (fun _ => 0))), ((qb 18), .inl ((cb 18), 40, .inl (fun _ => 0))), ((qb 19), .inl ((cb 19), 40, .inl (fun _ => 0))), ((qb 20), .inl ((cb 20), 60, .inl (fun _ => 0))), ((qb 21), .inl ((cb 21), 60, .inl (fun _ => 0))), ((qb 22), .inl ((cb 22), 130, .inl (fun _ => 0))), ((qb 23), .inl ((cb 23), 130, .inl (fun _ => 0))), ((qb 24), .inl ((cb 24), 130, .inl (fun _ => 0))), ((qb 25), .inl ((cb 25), 130, .inl (fun _ => 0))), ((qb 26), .inl ((cb 26), 5240, .inl (fun _ => 0))), ((qb 27), .inl ((cb 27), 5240, .inr (.inl (fun _ => 0)))), ((qb 28), .inl ((cb 28), 3, .inl (fun _ => 0))), ((qb 29), .inl ((cb 29), 3, .inr (.inl (fun _ => 0)))), ((qb 30), .inl ((cb 30), 16, .inl (fun _ => 0)))] H := hP
        have hD : va_D (fun q : Nat => s.heap.size ≤ q) [(q3, .inr (8, [.int 0, .int 1, .ref (qb 0), .ref (qb 1), .ref (qb 2), .ref (qb 3), .ref (qb 4), .ref (qb 5), .ref (qb 6), .ref (qb 7), .int 0, .ref (qb 8), .ref (qb 9), .ref (qb 10), .ref (qb 11), .ref (qb 12), .ref (qb 13), .ref (qb 14), .ref (qb 15), .ref (qb 16), .ref (qb 17), .ref (qb 18), .ref (qb 19), .int 0, .int 0, .ref (qb 20), .ref (qb 21), .int 0, .ref (qb 22), .ref (qb 23), .ref (qb 24), .ref (qb 25), .ref (qb 26), .ref (qb 27), .int 0, .ref (qb 28), .ref (qb 29), .int 0, .long 0, .int 0, .int 0, .ref (qb 30)])), ((qb 0), .inl ((cb 0), 16, .inl (upd (fun _ => 0) 0 (-1)))), ((qb 1), .inl ((cb 1), 16, .inl (fun _ => 0))), ((qb 2), .inl ((cb 2), 16, .inl (upd (fun _ => 0) 0 (-1)))), ((qb 3), .inl ((cb 3), 16, .inl (fun _ => 0))), ((qb 4), .inl ((cb 4), 16, .inl (fun _ => 0))), ((qb 5), .inl ((cb 5), 16, .inl (fun _ => 0))), ((qb 6), .inl ((cb 6), 16, .inl (fun _ => 0))), ((qb 7), .inl ((cb 7), 16, .inl (fun _ => 0))), ((qb 8), .inl ((cb 8), 40, .inl (fun _ => 0))), ((qb 9), .inl ((cb 9), 40, .inl (fun _ => 0))), ((qb 10), .inl ((cb 10), 40, .inl (fun _ => 0))), ((qb 11), .inl ((cb 11), 40, .inl (fun _ => 0))), ((qb 12), .inl ((cb 12), 40, .inl (fun _ => 0))), ((qb 13), .inl ((cb 13), 80, .inl (fun _ => 0))), ((qb 14), .inl ((cb 14), 40, .inl (fun _ => 0))), ((qb 15), .inl ((cb 15), 40, .inl (fun _ => 0))), ((qb 16), .inl ((cb 16), 40, .inl (fun _ => 0))), ((qb 17), .inl ((cb 17), 40, .inl (fun _ => 0))), ((qb 18), .inl ((cb 18), 40, .inl (fun _ => 0))), ((qb 19), .inl ((cb 19), 40, .inl (fun _ => 0))), ((qb 20), .inl ((cb 20), 60, .inl (fun _ => 0))), ((qb 21), .inl ((cb 21), 60, .inl (fun _ => 0))), ((qb 22), .inl ((cb 22), 130, .inl (fun _ => 0))), ((qb 23), .inl ((cb 23), 130, .inl (fun _ => 0))), ((qb 24), .inl ((cb 24), 130, .inl (fun _ => 0))), ((qb 25), .inl ((cb 25), 130, .inl (fun _ => 0))), ((qb 26), .inl ((cb 26), 5240, .inl (fun _ => 0))), ((qb 27), .inl ((cb 27), 5240, .inr (.inl (fun _ => 0)))), ((qb 28), .inl ((cb 28), 3, .inl (fun _ => 0))), ((qb 29), .inl ((cb 29), 3, .inr (.inl (fun _ => 0)))), ((qb 30), .inl ((cb 30), 16, .inl (fun _ => 0)))] := hD
        have hK : va_K (dC, dI) vwCl [((ca 0), .object "ReflectModels$ClassModel"), ((ca 1), .object "ReflectModels$Member"), ((ca 2), .object "ReflectModels$Handle"), ((ca 3), .object "ReflectModels$Thing"), ((ca 4), .object "ReflectModels$Value"), ((cb 0), .int), ((cb 1), .int), ((cb 2), .int), ((cb 3), .boolean), ((cb 4), .boolean), ((cb 5), .int), ((cb 6), .int), ((cb 7), .int), ((cb 8), .int), ((cb 9), .boolean), ((cb 10), .int), ((cb 11), .int), ((cb 12), .int), ((cb 13), .int), ((cb 14), .boolean), ((cb 15), .boolean), ((cb 16), .boolean), ((cb 17), .boolean), ((cb 18), .int), ((cb 19), .int), ((cb 20), .int), ((cb 21), .boolean), ((cb 22), .int), ((cb 23), .int), ((cb 24), .int), ((cb 25), .int), ((cb 26), .int), ((cb 27), .long), ((cb 28), .int), ((cb 29), .long), ((cb 30), .int)] s := hK
        refine W.cs (cells' := 43) (slots' := 12110) rfl rfl ?_
        refine lv_aload_n hx hb dL_law_684 rfl (lv_at hl 1 rfl) ?_
        refine lv_aload_n hx hb dL_law_685 rfl (lv_at hl 3 rfl) ?_
        refine lv_iload_n hx hb dL_law_686 rfl (lv_at hl 0 rfl) ?_
        refine lv_iconst (v := 1) hx hb dL_law_687 (by decide) ?_
        refine lv_iadd hx hb dL_law_688 ?_
        refine lv_topi (fun y106 ey106 => ?_)
        obtain rfl : y106 = 1 := ey106.trans (by decide)
        refine va_sld hx hb hX hbl hbA hS (vp_in_iff.mpr ⟨by decide, by decide⟩) dL_law_689 ?_
        refine W.eq (g2 := F0 m 690 ls [.int (xs 1), .ref q3, .int (an_leave (xs 1).toInt)]) rfl ?_
        refine clW (wr := []) [0, 1, 2, 3, 4, 5, 6, 7, 8, 9, 10, 11, 12, 13, 14, 15, 16, 17, 18, 19, 20, 21, 22, 23, 24, 25, 26, 27, 28, 29, 30, 31] [] (va_runV (As := [.int (xs 1)]) (rest := [.int (an_leave (xs 1).toInt)]) ⟨hx, hb, hml, hown, hts⟩ (c9_leave l dC dI q3 qb cb (xs 1) _ ) (cwV 1 hts gL_law_X9_leave rfl rfl rfl (by decide +kernel) ⟨Nat.le_of_ble_eq_true rfl, Nat.le_of_ble_eq_true rfl⟩) ⟨pz_blind, va_recv hK hP (ci := 8) (q0 := 0) rfl rfl, pz_of hP hK hD hN [0, 1, 2, 3, 4, 5, 6, 7, 8, 9, 10, 11, 12, 13, 14, 15, 16, 17, 18, 19, 20, 21, 22, 23, 24, 25, 26, 27, 28, 29, 30, 31] [5, 6, 7, 8, 9, 10, 11, 12, 13, 14, 15, 16, 17, 18, 19, 20, 21, 22, 23, 24, 25, 26, 27, 28, 29, 30, 31, 32, 33, 34, 35] rfl (by decide) rfl⟩ rfl rfl hl.1 rfl (lv_room (Nat.le_of_ble_eq_true rfl)) dL_law_690 ⟨Nat.le_of_ble_eq_true rfl, Nat.le_of_ble_eq_true rfl⟩) hS hP hD hK hA rfl rfl (by decide) (by decide) (fun v w1 ty1 H locs w107 hP hD hK hS => ?_)
        obtain ⟨rfl, rfl, rfl⟩ := w107
        refine W.eq (g2 := F0 m 693 ls [.int (an_leave (xs 1).toInt), .int (an_leave (xs 1).toInt)]) rfl ?_
        have hP : va_P (dC, dI) vwCl [] H := hP
        have hD : va_D (fun q : Nat => s.heap.size ≤ q) [] := hD
        have hK : va_K (dC, dI) vwCl [((ca 0), .object "ReflectModels$ClassModel"), ((ca 1), .object "ReflectModels$Member"), ((ca 2), .object "ReflectModels$Handle"), ((ca 3), .object "ReflectModels$Thing"), ((ca 4), .object "ReflectModels$Value"), ((cb 0), .int), ((cb 1), .int), ((cb 2), .int), ((cb 3), .boolean), ((cb 4), .boolean), ((cb 5), .int), ((cb 6), .int), ((cb 7), .int), ((cb 8), .int), ((cb 9), .boolean), ((cb 10), .int), ((cb 11), .int), ((cb 12), .int), ((cb 13), .int), ((cb 14), .boolean), ((cb 15), .boolean), ((cb 16), .boolean), ((cb 17), .boolean), ((cb 18), .int), ((cb 19), .int), ((cb 20), .int), ((cb 21), .boolean), ((cb 22), .int), ((cb 23), .int), ((cb 24), .int), ((cb 25), .int), ((cb 26), .int), ((cb 27), .long), ((cb 28), .int), ((cb 29), .long), ((cb 30), .int)] s := hK
        refine W.cs (cells' := 43) (slots' := 12110) rfl rfl ?_
        refine lv_icmp_eq (tgt := 1154) hx hb dL_law_693 (by decide) (fun _ => ?_) (fun h => absurd rfl h)
        refine lv_iinc (v := 10) (lv' := [(3, .int 10), (2, .ref q3), (1, .ref q1), (0, .ref b)]) hx hb dL_law_1154 hl (k := 0) rfl (by decide) (by decide) rfl (fun ls hl => ?_)
        refine lv_goto (tgt := 18) hx hb dL_law_1157 (by decide) ?_
        refine lv_iload_n hx hb dL_law_18 rfl (lv_at hl 0 rfl) ?_
        refine lv_aload_n hx hb dL_law_19 rfl (lv_at hl 3 rfl) ?_
        refine va_slen hx hb hX hbl hbA hS dL_law_20 ?_
        refine W.eq (g2 := F0 m 21 ls [.int 10, .int 10]) rfl ?_
        refine lv_bipush (v := 10) hx hb dL_law_21 (by decide) ?_
        refine lv_isub hx hb dL_law_23 ?_
        refine lv_topi (fun y108 ey108 => ?_)
        obtain rfl : y108 = 0 := ey108.trans (by decide)
        refine lv_icmp_gt (tgt := 1160) hx hb dL_law_24 (by decide) (fun _ => ?_) (fun h => absurd (by decide) h)
        refine lv_iconst (v := 1) hx hb dL_law_1160 (by decide) ?_
        refine va_forget (fun z hz => hS.2.2 z hz) ?_
        refine W.widen (k := 600000) (n := 7302250) (by omega) (by omega) ?_
        exact lw_ret hx hb hr hlocks dL_law_1161
      · refine lv_tableIn (tgt := 698) (off := 665) hx hb dL_law_33 (by decide) (by decide) (by decide) (by decide) ?_
        refine lv_aload_n hx hb dL_law_698 rfl (lv_at hl 2 rfl) ?_
        refine lv_aload_n hx hb dL_law_699 rfl (lv_at hl 3 rfl) ?_
        refine lv_iload_n hx hb dL_law_700 rfl (lv_at hl 0 rfl) ?_
        refine lv_iconst (v := 1) hx hb dL_law_701 (by decide) ?_
        refine lv_iadd hx hb dL_law_702 ?_
        refine lv_topi (fun y109 ey109 => ?_)
        obtain rfl : y109 = 1 := ey109.trans (by decide)
        refine va_sld hx hb hX hbl hbA hS (vp_in_iff.mpr ⟨by decide, by decide⟩) dL_law_703 ?_
        refine W.eq (g2 := F0 m 704 ls [.int (xs 1), .ref q1]) rfl ?_
        refine lv_aload_n hx hb dL_law_704 rfl (lv_at hl 3 rfl) ?_
        refine lv_iload_n hx hb dL_law_705 rfl (lv_at hl 0 rfl) ?_
        refine lv_iconst (v := 2) hx hb dL_law_706 (by decide) ?_
        refine lv_iadd hx hb dL_law_707 ?_
        refine lv_topi (fun y110 ey110 => ?_)
        obtain rfl : y110 = 2 := ey110.trans (by decide)
        refine va_sld hx hb hX hbl hbA hS (vp_in_iff.mpr ⟨by decide, by decide⟩) dL_law_708 ?_
        refine W.eq (g2 := F0 m 709 ls [.int (xs 2), .int (xs 1), .ref q1]) rfl ?_
        refine lv_aload_n hx hb dL_law_709 rfl (lv_at hl 3 rfl) ?_
        refine lv_iload_n hx hb dL_law_710 rfl (lv_at hl 0 rfl) ?_
        refine lv_iconst (v := 3) hx hb dL_law_711 (by decide) ?_
        refine lv_iadd hx hb dL_law_712 ?_
        refine lv_topi (fun y111 ey111 => ?_)
        obtain rfl : y111 = 3 := ey111.trans (by decide)
        refine va_sld hx hb hX hbl hbA hS (vp_in_iff.mpr ⟨by decide, by decide⟩) dL_law_713 ?_
        refine W.eq (g2 := F0 m 714 ls [.int (xs 3), .int (xs 2), .int (xs 1), .ref q1]) rfl ?_
        refine lv_i2l (v := (xs 3).toInt64) hx hb dL_law_714 rfl ?_
        refine lv_bipush (v := 32) hx hb dL_law_715 (by decide) ?_
        refine lv_lshl (v := ((xs 3).toInt64 <<< ((32 : Int32).toInt64 &&& 63))) hx hb dL_law_717 rfl ?_
        refine lv_aload_n hx hb dL_law_718 rfl (lv_at hl 3 rfl) ?_
        refine lv_iload_n hx hb dL_law_719 rfl (lv_at hl 0 rfl) ?_
        refine lv_iconst (v := 4) hx hb dL_law_720 (by decide) ?_
        refine lv_iadd hx hb dL_law_721 ?_
        refine lv_topi (fun y112 ey112 => ?_)
        obtain rfl : y112 = 4 := ey112.trans (by decide)
        refine va_sld hx hb hX hbl hbA hS (vp_in_iff.mpr ⟨by decide, by decide⟩) dL_law_722 ?_
        refine W.eq (g2 := F0 m 723 ls [.int (xs 4), .long ((xs 3).toInt64 <<< ((32 : Int32).toInt64 &&& 63)), .int (xs 2), .int (xs 1), .ref q1]) rfl ?_
        refine lv_i2l (v := (xs 4).toInt64) hx hb dL_law_723 rfl ?_
        refine lv_ldc2 (v := 4294967295) hx hb hown (hts (.constantLong RL 52 4294967295) (by decide +kernel)) dL_law_724 ?_
        refine lv_land hx hb dL_law_727 ?_
        refine lv_lor hx hb dL_law_728 ?_
        refine clW (wr := [(q3, .inr (8, [.int 0, .int 1, .ref (qb 0), .ref (qb 1), .ref (qb 2), .ref (qb 3), .ref (qb 4), .ref (qb 5), .ref (qb 6), .ref (qb 7), .int 0, .ref (qb 8), .ref (qb 9), .ref (qb 10), .ref (qb 11), .ref (qb 12), .ref (qb 13), .ref (qb 14), .ref (qb 15), .ref (qb 16), .ref (qb 17), .ref (qb 18), .ref (qb 19), .int 0, .int 0, .ref (qb 20), .ref (qb 21), .int 0, .ref (qb 22), .ref (qb 23), .ref (qb 24), .ref (qb 25), .ref (qb 26), .ref (qb 27), .int 0, .ref (qb 28), .ref (qb 29), .int 0, .long 0, .int 0, .int 0, .ref (qb 30)])), ((qb 0), .inl ((cb 0), 16, .inl (upd (fun _ => 0) 0 (-1)))), ((qb 1), .inl ((cb 1), 16, .inl (fun _ => 0))), ((qb 2), .inl ((cb 2), 16, .inl (upd (fun _ => 0) 0 (-1)))), ((qb 3), .inl ((cb 3), 16, .inl (fun _ => 0))), ((qb 4), .inl ((cb 4), 16, .inl (fun _ => 0))), ((qb 5), .inl ((cb 5), 16, .inl (fun _ => 0))), ((qb 6), .inl ((cb 6), 16, .inl (fun _ => 0))), ((qb 7), .inl ((cb 7), 16, .inl (fun _ => 0))), ((qb 8), .inl ((cb 8), 40, .inl (fun _ => 0))), ((qb 9), .inl ((cb 9), 40, .inl (fun _ => 0))), ((qb 10), .inl ((cb 10), 40, .inl (fun _ => 0))), ((qb 11), .inl ((cb 11), 40, .inl (fun _ => 0))), ((qb 12), .inl ((cb 12), 40, .inl (fun _ => 0))), ((qb 13), .inl ((cb 13), 80, .inl (fun _ => 0))), ((qb 14), .inl ((cb 14), 40, .inl (fun _ => 0))), ((qb 15), .inl ((cb 15), 40, .inl (fun _ => 0))), ((qb 16), .inl ((cb 16), 40, .inl (fun _ => 0))), ((qb 17), .inl ((cb 17), 40, .inl (fun _ => 0))), ((qb 18), .inl ((cb 18), 40, .inl (fun _ => 0))), ((qb 19), .inl ((cb 19), 40, .inl (fun _ => 0))), ((qb 20), .inl ((cb 20), 60, .inl (fun _ => 0))), ((qb 21), .inl ((cb 21), 60, .inl (fun _ => 0))), ((qb 22), .inl ((cb 22), 130, .inl (fun _ => 0))), ((qb 23), .inl ((cb 23), 130, .inl (fun _ => 0))), ((qb 24), .inl ((cb 24), 130, .inl (fun _ => 0))), ((qb 25), .inl ((cb 25), 130, .inl (fun _ => 0))), ((qb 26), .inl ((cb 26), 5240, .inl (fun _ => 0))), ((qb 27), .inl ((cb 27), 5240, .inr (.inl (fun _ => 0)))), ((qb 28), .inl ((cb 28), 3, .inl (fun _ => 0))), ((qb 29), .inl ((cb 29), 3, .inr (.inl (fun _ => 0)))), ((qb 30), .inl ((cb 30), 16, .inl (fun _ => 0)))]) [0, 1, 2, 3, 4, 5, 6, 7, 8, 9, 10] [11, 12, 13, 14, 15, 16, 17, 18, 19, 20, 21, 22, 23, 24, 25, 26, 27, 28, 29, 30, 31, 32, 33, 34, 35, 36, 37, 38, 39, 40, 41, 42] (va_runV (As := [.int (xs 1), .int (xs 2), .long (((xs 3).toInt64 <<< ((32 : Int32).toInt64 &&& 63)) ||| (((xs 4).toInt64) &&& 4294967295))]) (rest := []) ⟨hx, hb, hml, hown, hts⟩ (c8_value l dC dI q1 qa ca (xs 1) (xs 2) (((xs 3).toInt64 <<< ((32 : Int32).toInt64 &&& 63)) ||| (((xs 4).toInt64) &&& 4294967295)) _ ) (cwV 3 hts gL_law_X8_value rfl rfl rfl (by decide +kernel) ⟨Nat.le_of_ble_eq_true rfl, Nat.le_of_ble_eq_true rfl⟩) ⟨pz_blind, va_recv hK hP (ci := 7) (q0 := 0) rfl rfl, pz_of hP hK hD hN [0, 1, 2, 3, 4, 5, 6, 7, 8, 9, 10] [0, 1, 2, 3, 4] rfl (by decide) rfl⟩ rfl rfl hl.1 rfl (lv_room (Nat.le_of_ble_eq_true rfl)) dL_law_729 ⟨Nat.le_of_ble_eq_true rfl, Nat.le_of_ble_eq_true rfl⟩) hS hP hD hK hA rfl rfl (by decide) (by decide) (fun v w1 ty1 H locs w113 hP hD hK hS => ?_)
        obtain ⟨rfl, rfl, rfl⟩ := w113
        refine W.eq (g2 := F0 m 732 ls [.int (an_value (xs 1).toInt (xs 2).toInt (((xs 3).toInt64 <<< ((32 : Int32).toInt64 &&& 63)) ||| (((xs 4).toInt64) &&& 4294967295)).toInt)]) rfl ?_
        have hP : va_P (dC, dI) vwCl [(q3, .inr (8, [.int 0, .int 1, .ref (qb 0), .ref (qb 1), .ref (qb 2), .ref (qb 3), .ref (qb 4), .ref (qb 5), .ref (qb 6), .ref (qb 7), .int 0, .ref (qb 8), .ref (qb 9), .ref (qb 10), .ref (qb 11), .ref (qb 12), .ref (qb 13), .ref (qb 14), .ref (qb 15), .ref (qb 16), .ref (qb 17), .ref (qb 18), .ref (qb 19), .int 0, .int 0, .ref (qb 20), .ref (qb 21), .int 0, .ref (qb 22), .ref (qb 23), .ref (qb 24), .ref (qb 25), .ref (qb 26), .ref (qb 27), .int 0, .ref (qb 28), .ref (qb 29), .int 0, .long 0, .int 0, .int 0, .ref (qb 30)])), ((qb 0), .inl ((cb 0), 16, .inl (upd (fun _ => 0) 0 (-1)))), ((qb 1), .inl ((cb 1), 16, .inl (fun _ => 0))), ((qb 2), .inl ((cb 2), 16, .inl (upd (fun _ => 0) 0 (-1)))), ((qb 3), .inl ((cb 3), 16, .inl (fun _ => 0))), ((qb 4), .inl ((cb 4), 16, .inl (fun _ => 0))), ((qb 5), .inl ((cb 5), 16, .inl (fun _ => 0))), ((qb 6), .inl ((cb 6), 16, .inl (fun _ => 0))), ((qb 7), .inl ((cb 7), 16, .inl (fun _ => 0))), ((qb 8), .inl ((cb 8), 40, .inl (fun _ => 0))), ((qb 9), .inl ((cb 9), 40, .inl (fun _ => 0))), ((qb 10), .inl ((cb 10), 40, .inl (fun _ => 0))), ((qb 11), .inl ((cb 11), 40, .inl (fun _ => 0))), ((qb 12), .inl ((cb 12), 40, .inl (fun _ => 0))), ((qb 13), .inl ((cb 13), 80, .inl (fun _ => 0))), ((qb 14), .inl ((cb 14), 40, .inl (fun _ => 0))), ((qb 15), .inl ((cb 15), 40, .inl (fun _ => 0))), ((qb 16), .inl ((cb 16), 40, .inl (fun _ => 0))), ((qb 17), .inl ((cb 17), 40, .inl (fun _ => 0))), ((qb 18), .inl ((cb 18), 40, .inl (fun _ => 0))), ((qb 19), .inl ((cb 19), 40, .inl (fun _ => 0))), ((qb 20), .inl ((cb 20), 60, .inl (fun _ => 0))), ((qb 21), .inl ((cb 21), 60, .inl (fun _ => 0))), ((qb 22), .inl ((cb 22), 130, .inl (fun _ => 0))), ((qb 23), .inl ((cb 23), 130, .inl (fun _ => 0))), ((qb 24), .inl ((cb 24), 130, .inl (fun _ => 0))), ((qb 25), .inl ((cb 25), 130, .inl (fun _ => 0))), ((qb 26), .inl ((cb 26), 5240, .inl (fun _ => 0))), ((qb 27), .inl ((cb 27), 5240, .inr (.inl (fun _ => 0)))), ((qb 28), .inl ((cb 28), 3, .inl (fun _ => 0))), ((qb 29), .inl ((cb 29), 3, .inr (.inl (fun _ => 0)))), ((qb 30), .inl ((cb 30), 16, .inl (fun _ => 0)))] H := hP
        have hD : va_D (fun q : Nat => s.heap.size ≤ q) [(q3, .inr (8, [.int 0, .int 1, .ref (qb 0), .ref (qb 1), .ref (qb 2), .ref (qb 3), .ref (qb 4), .ref (qb 5), .ref (qb 6), .ref (qb 7), .int 0, .ref (qb 8), .ref (qb 9), .ref (qb 10), .ref (qb 11), .ref (qb 12), .ref (qb 13), .ref (qb 14), .ref (qb 15), .ref (qb 16), .ref (qb 17), .ref (qb 18), .ref (qb 19), .int 0, .int 0, .ref (qb 20), .ref (qb 21), .int 0, .ref (qb 22), .ref (qb 23), .ref (qb 24), .ref (qb 25), .ref (qb 26), .ref (qb 27), .int 0, .ref (qb 28), .ref (qb 29), .int 0, .long 0, .int 0, .int 0, .ref (qb 30)])), ((qb 0), .inl ((cb 0), 16, .inl (upd (fun _ => 0) 0 (-1)))), ((qb 1), .inl ((cb 1), 16, .inl (fun _ => 0))), ((qb 2), .inl ((cb 2), 16, .inl (upd (fun _ => 0) 0 (-1)))), ((qb 3), .inl ((cb 3), 16, .inl (fun _ => 0))), ((qb 4), .inl ((cb 4), 16, .inl (fun _ => 0))), ((qb 5), .inl ((cb 5), 16, .inl (fun _ => 0))), ((qb 6), .inl ((cb 6), 16, .inl (fun _ => 0))), ((qb 7), .inl ((cb 7), 16, .inl (fun _ => 0))), ((qb 8), .inl ((cb 8), 40, .inl (fun _ => 0))), ((qb 9), .inl ((cb 9), 40, .inl (fun _ => 0))), ((qb 10), .inl ((cb 10), 40, .inl (fun _ => 0))), ((qb 11), .inl ((cb 11), 40, .inl (fun _ => 0))), ((qb 12), .inl ((cb 12), 40, .inl (fun _ => 0))), ((qb 13), .inl ((cb 13), 80, .inl (fun _ => 0))), ((qb 14), .inl ((cb 14), 40, .inl (fun _ => 0))), ((qb 15), .inl ((cb 15), 40, .inl (fun _ => 0))), ((qb 16), .inl ((cb 16), 40, .inl (fun _ => 0))), ((qb 17), .inl ((cb 17), 40, .inl (fun _ => 0))), ((qb 18), .inl ((cb 18), 40, .inl (fun _ => 0))), ((qb 19), .inl ((cb 19), 40, .inl (fun _ => 0))), ((qb 20), .inl ((cb 20), 60, .inl (fun _ => 0))), ((qb 21), .inl ((cb 21), 60, .inl (fun _ => 0))), ((qb 22), .inl ((cb 22), 130, .inl (fun _ => 0))), ((qb 23), .inl ((cb 23), 130, .inl (fun _ => 0))), ((qb 24), .inl ((cb 24), 130, .inl (fun _ => 0))), ((qb 25), .inl ((cb 25), 130, .inl (fun _ => 0))), ((qb 26), .inl ((cb 26), 5240, .inl (fun _ => 0))), ((qb 27), .inl ((cb 27), 5240, .inr (.inl (fun _ => 0)))), ((qb 28), .inl ((cb 28), 3, .inl (fun _ => 0))), ((qb 29), .inl ((cb 29), 3, .inr (.inl (fun _ => 0)))), ((qb 30), .inl ((cb 30), 16, .inl (fun _ => 0)))] := hD
        have hK : va_K (dC, dI) vwCl [((ca 0), .object "ReflectModels$ClassModel"), ((ca 1), .object "ReflectModels$Member"), ((ca 2), .object "ReflectModels$Handle"), ((ca 3), .object "ReflectModels$Thing"), ((ca 4), .object "ReflectModels$Value"), ((cb 0), .int), ((cb 1), .int), ((cb 2), .int), ((cb 3), .boolean), ((cb 4), .boolean), ((cb 5), .int), ((cb 6), .int), ((cb 7), .int), ((cb 8), .int), ((cb 9), .boolean), ((cb 10), .int), ((cb 11), .int), ((cb 12), .int), ((cb 13), .int), ((cb 14), .boolean), ((cb 15), .boolean), ((cb 16), .boolean), ((cb 17), .boolean), ((cb 18), .int), ((cb 19), .int), ((cb 20), .int), ((cb 21), .boolean), ((cb 22), .int), ((cb 23), .int), ((cb 24), .int), ((cb 25), .int), ((cb 26), .int), ((cb 27), .long), ((cb 28), .int), ((cb 29), .long), ((cb 30), .int)] s := hK
        refine W.cs (cells' := 43) (slots' := 12110) rfl rfl ?_
        refine lv_aload_n hx hb dL_law_732 rfl (lv_at hl 1 rfl) ?_
        refine lv_aload_n hx hb dL_law_733 rfl (lv_at hl 3 rfl) ?_
        refine lv_iload_n hx hb dL_law_734 rfl (lv_at hl 0 rfl) ?_
        refine lv_iconst (v := 1) hx hb dL_law_735 (by decide) ?_
        refine lv_iadd hx hb dL_law_736 ?_
        refine lv_topi (fun y114 ey114 => ?_)
        obtain rfl : y114 = 1 := ey114.trans (by decide)
        refine va_sld hx hb hX hbl hbA hS (vp_in_iff.mpr ⟨by decide, by decide⟩) dL_law_737 ?_
        refine W.eq (g2 := F0 m 738 ls [.int (xs 1), .ref q3, .int (an_value (xs 1).toInt (xs 2).toInt (((xs 3).toInt64 <<< ((32 : Int32).toInt64 &&& 63)) ||| (((xs 4).toInt64) &&& 4294967295)).toInt)]) rfl ?_
        refine lv_aload_n hx hb dL_law_738 rfl (lv_at hl 3 rfl) ?_
        refine lv_iload_n hx hb dL_law_739 rfl (lv_at hl 0 rfl) ?_
        refine lv_iconst (v := 2) hx hb dL_law_740 (by decide) ?_
        refine lv_iadd hx hb dL_law_741 ?_
        refine lv_topi (fun y115 ey115 => ?_)
        obtain rfl : y115 = 2 := ey115.trans (by decide)
        refine va_sld hx hb hX hbl hbA hS (vp_in_iff.mpr ⟨by decide, by decide⟩) dL_law_742 ?_
        refine W.eq (g2 := F0 m 743 ls [.int (xs 2), .int (xs 1), .ref q3, .int (an_value (xs 1).toInt (xs 2).toInt (((xs 3).toInt64 <<< ((32 : Int32).toInt64 &&& 63)) ||| (((xs 4).toInt64) &&& 4294967295)).toInt)]) rfl ?_
        refine lv_aload_n hx hb dL_law_743 rfl (lv_at hl 3 rfl) ?_
        refine lv_iload_n hx hb dL_law_744 rfl (lv_at hl 0 rfl) ?_
        refine lv_iconst (v := 3) hx hb dL_law_745 (by decide) ?_
        refine lv_iadd hx hb dL_law_746 ?_
        refine lv_topi (fun y116 ey116 => ?_)
        obtain rfl : y116 = 3 := ey116.trans (by decide)
        refine va_sld hx hb hX hbl hbA hS (vp_in_iff.mpr ⟨by decide, by decide⟩) dL_law_747 ?_
        refine W.eq (g2 := F0 m 748 ls [.int (xs 3), .int (xs 2), .int (xs 1), .ref q3, .int (an_value (xs 1).toInt (xs 2).toInt (((xs 3).toInt64 <<< ((32 : Int32).toInt64 &&& 63)) ||| (((xs 4).toInt64) &&& 4294967295)).toInt)]) rfl ?_
        refine lv_i2l (v := (xs 3).toInt64) hx hb dL_law_748 rfl ?_
        refine lv_bipush (v := 32) hx hb dL_law_749 (by decide) ?_
        refine lv_lshl (v := ((xs 3).toInt64 <<< ((32 : Int32).toInt64 &&& 63))) hx hb dL_law_751 rfl ?_
        refine lv_aload_n hx hb dL_law_752 rfl (lv_at hl 3 rfl) ?_
        refine lv_iload_n hx hb dL_law_753 rfl (lv_at hl 0 rfl) ?_
        refine lv_iconst (v := 4) hx hb dL_law_754 (by decide) ?_
        refine lv_iadd hx hb dL_law_755 ?_
        refine lv_topi (fun y117 ey117 => ?_)
        obtain rfl : y117 = 4 := ey117.trans (by decide)
        refine va_sld hx hb hX hbl hbA hS (vp_in_iff.mpr ⟨by decide, by decide⟩) dL_law_756 ?_
        refine W.eq (g2 := F0 m 757 ls [.int (xs 4), .long ((xs 3).toInt64 <<< ((32 : Int32).toInt64 &&& 63)), .int (xs 2), .int (xs 1), .ref q3, .int (an_value (xs 1).toInt (xs 2).toInt (((xs 3).toInt64 <<< ((32 : Int32).toInt64 &&& 63)) ||| (((xs 4).toInt64) &&& 4294967295)).toInt)]) rfl ?_
        refine lv_i2l (v := (xs 4).toInt64) hx hb dL_law_757 rfl ?_
        refine lv_ldc2 (v := 4294967295) hx hb hown (hts (.constantLong RL 52 4294967295) (by decide +kernel)) dL_law_758 ?_
        refine lv_land hx hb dL_law_761 ?_
        refine lv_lor hx hb dL_law_762 ?_
        refine clW (wr := []) [0, 1, 2, 3, 4, 5, 6, 7, 8, 9, 10, 11, 12, 13, 14, 15, 16, 17, 18, 19, 20, 21, 22, 23, 24, 25, 26, 27, 28, 29, 30, 31] [] (va_runV (As := [.int (xs 1), .int (xs 2), .long (((xs 3).toInt64 <<< ((32 : Int32).toInt64 &&& 63)) ||| (((xs 4).toInt64) &&& 4294967295))]) (rest := [.int (an_value (xs 1).toInt (xs 2).toInt (((xs 3).toInt64 <<< ((32 : Int32).toInt64 &&& 63)) ||| (((xs 4).toInt64) &&& 4294967295)).toInt)]) ⟨hx, hb, hml, hown, hts⟩ (c9_value l dC dI q3 qb cb (xs 1) (xs 2) (((xs 3).toInt64 <<< ((32 : Int32).toInt64 &&& 63)) ||| (((xs 4).toInt64) &&& 4294967295)) _ ) (cwV 3 hts gL_law_X9_value rfl rfl rfl (by decide +kernel) ⟨Nat.le_of_ble_eq_true rfl, Nat.le_of_ble_eq_true rfl⟩) ⟨pz_blind, va_recv hK hP (ci := 8) (q0 := 0) rfl rfl, pz_of hP hK hD hN [0, 1, 2, 3, 4, 5, 6, 7, 8, 9, 10, 11, 12, 13, 14, 15, 16, 17, 18, 19, 20, 21, 22, 23, 24, 25, 26, 27, 28, 29, 30, 31] [5, 6, 7, 8, 9, 10, 11, 12, 13, 14, 15, 16, 17, 18, 19, 20, 21, 22, 23, 24, 25, 26, 27, 28, 29, 30, 31, 32, 33, 34, 35] rfl (by decide) rfl⟩ rfl rfl hl.1 rfl (lv_room (Nat.le_of_ble_eq_true rfl)) dL_law_763 ⟨Nat.le_of_ble_eq_true rfl, Nat.le_of_ble_eq_true rfl⟩) hS hP hD hK hA rfl rfl (by decide) (by decide) (fun v w1 ty1 H locs w118 hP hD hK hS => ?_)
        obtain ⟨rfl, rfl, rfl⟩ := w118
        refine W.eq (g2 := F0 m 766 ls [.int (an_value (xs 1).toInt (xs 2).toInt (((xs 3).toInt64 <<< ((32 : Int32).toInt64 &&& 63)) ||| (((xs 4).toInt64) &&& 4294967295)).toInt), .int (an_value (xs 1).toInt (xs 2).toInt (((xs 3).toInt64 <<< ((32 : Int32).toInt64 &&& 63)) ||| (((xs 4).toInt64) &&& 4294967295)).toInt)]) rfl ?_
        have hP : va_P (dC, dI) vwCl [] H := hP
        have hD : va_D (fun q : Nat => s.heap.size ≤ q) [] := hD
        have hK : va_K (dC, dI) vwCl [((ca 0), .object "ReflectModels$ClassModel"), ((ca 1), .object "ReflectModels$Member"), ((ca 2), .object "ReflectModels$Handle"), ((ca 3), .object "ReflectModels$Thing"), ((ca 4), .object "ReflectModels$Value"), ((cb 0), .int), ((cb 1), .int), ((cb 2), .int), ((cb 3), .boolean), ((cb 4), .boolean), ((cb 5), .int), ((cb 6), .int), ((cb 7), .int), ((cb 8), .int), ((cb 9), .boolean), ((cb 10), .int), ((cb 11), .int), ((cb 12), .int), ((cb 13), .int), ((cb 14), .boolean), ((cb 15), .boolean), ((cb 16), .boolean), ((cb 17), .boolean), ((cb 18), .int), ((cb 19), .int), ((cb 20), .int), ((cb 21), .boolean), ((cb 22), .int), ((cb 23), .int), ((cb 24), .int), ((cb 25), .int), ((cb 26), .int), ((cb 27), .long), ((cb 28), .int), ((cb 29), .long), ((cb 30), .int)] s := hK
        refine W.cs (cells' := 43) (slots' := 12110) rfl rfl ?_
        refine lv_icmp_eq (tgt := 1154) hx hb dL_law_766 (by decide) (fun _ => ?_) (fun h => absurd rfl h)
        refine lv_iinc (v := 10) (lv' := [(3, .int 10), (2, .ref q3), (1, .ref q1), (0, .ref b)]) hx hb dL_law_1154 hl (k := 0) rfl (by decide) (by decide) rfl (fun ls hl => ?_)
        refine lv_goto (tgt := 18) hx hb dL_law_1157 (by decide) ?_
        refine lv_iload_n hx hb dL_law_18 rfl (lv_at hl 0 rfl) ?_
        refine lv_aload_n hx hb dL_law_19 rfl (lv_at hl 3 rfl) ?_
        refine va_slen hx hb hX hbl hbA hS dL_law_20 ?_
        refine W.eq (g2 := F0 m 21 ls [.int 10, .int 10]) rfl ?_
        refine lv_bipush (v := 10) hx hb dL_law_21 (by decide) ?_
        refine lv_isub hx hb dL_law_23 ?_
        refine lv_topi (fun y119 ey119 => ?_)
        obtain rfl : y119 = 0 := ey119.trans (by decide)
        refine lv_icmp_gt (tgt := 1160) hx hb dL_law_24 (by decide) (fun _ => ?_) (fun h => absurd (by decide) h)
        refine lv_iconst (v := 1) hx hb dL_law_1160 (by decide) ?_
        refine va_forget (fun z hz => hS.2.2 z hz) ?_
        refine W.widen (k := 600000) (n := 7302250) (by omega) (by omega) ?_
        exact lw_ret hx hb hr hlocks dL_law_1161
      · refine lv_tableIn (tgt := 771) (off := 738) hx hb dL_law_33 (by decide) (by decide) (by decide) (by decide) ?_
        refine lv_aload_n hx hb dL_law_771 rfl (lv_at hl 2 rfl) ?_
        refine lv_aload_n hx hb dL_law_772 rfl (lv_at hl 3 rfl) ?_
        refine lv_iload_n hx hb dL_law_773 rfl (lv_at hl 0 rfl) ?_
        refine lv_iconst (v := 1) hx hb dL_law_774 (by decide) ?_
        refine lv_iadd hx hb dL_law_775 ?_
        refine lv_topi (fun y120 ey120 => ?_)
        obtain rfl : y120 = 1 := ey120.trans (by decide)
        refine va_sld hx hb hX hbl hbA hS (vp_in_iff.mpr ⟨by decide, by decide⟩) dL_law_776 ?_
        refine W.eq (g2 := F0 m 777 ls [.int (xs 1), .ref q1]) rfl ?_
        refine lv_aload_n hx hb dL_law_777 rfl (lv_at hl 3 rfl) ?_
        refine lv_iload_n hx hb dL_law_778 rfl (lv_at hl 0 rfl) ?_
        refine lv_iconst (v := 2) hx hb dL_law_779 (by decide) ?_
        refine lv_iadd hx hb dL_law_780 ?_
        refine lv_topi (fun y121 ey121 => ?_)
        obtain rfl : y121 = 2 := ey121.trans (by decide)
        refine va_sld hx hb hX hbl hbA hS (vp_in_iff.mpr ⟨by decide, by decide⟩) dL_law_781 ?_
        refine W.eq (g2 := F0 m 782 ls [.int (xs 2), .int (xs 1), .ref q1]) rfl ?_
        refine lv_aload_n hx hb dL_law_782 rfl (lv_at hl 3 rfl) ?_
        refine lv_iload_n hx hb dL_law_783 rfl (lv_at hl 0 rfl) ?_
        refine lv_iconst (v := 3) hx hb dL_law_784 (by decide) ?_
        refine lv_iadd hx hb dL_law_785 ?_
        refine lv_topi (fun y122 ey122 => ?_)
        obtain rfl : y122 = 3 := ey122.trans (by decide)
        refine va_sld hx hb hX hbl hbA hS (vp_in_iff.mpr ⟨by decide, by decide⟩) dL_law_786 ?_
        refine W.eq (g2 := F0 m 787 ls [.int (xs 3), .int (xs 2), .int (xs 1), .ref q1]) rfl ?_
        refine clW (wr := [(q3, .inr (8, [.int 0, .int 1, .ref (qb 0), .ref (qb 1), .ref (qb 2), .ref (qb 3), .ref (qb 4), .ref (qb 5), .ref (qb 6), .ref (qb 7), .int 0, .ref (qb 8), .ref (qb 9), .ref (qb 10), .ref (qb 11), .ref (qb 12), .ref (qb 13), .ref (qb 14), .ref (qb 15), .ref (qb 16), .ref (qb 17), .ref (qb 18), .ref (qb 19), .int 0, .int 0, .ref (qb 20), .ref (qb 21), .int 0, .ref (qb 22), .ref (qb 23), .ref (qb 24), .ref (qb 25), .ref (qb 26), .ref (qb 27), .int 0, .ref (qb 28), .ref (qb 29), .int 0, .long 0, .int 0, .int 0, .ref (qb 30)])), ((qb 0), .inl ((cb 0), 16, .inl (upd (fun _ => 0) 0 (-1)))), ((qb 1), .inl ((cb 1), 16, .inl (fun _ => 0))), ((qb 2), .inl ((cb 2), 16, .inl (upd (fun _ => 0) 0 (-1)))), ((qb 3), .inl ((cb 3), 16, .inl (fun _ => 0))), ((qb 4), .inl ((cb 4), 16, .inl (fun _ => 0))), ((qb 5), .inl ((cb 5), 16, .inl (fun _ => 0))), ((qb 6), .inl ((cb 6), 16, .inl (fun _ => 0))), ((qb 7), .inl ((cb 7), 16, .inl (fun _ => 0))), ((qb 8), .inl ((cb 8), 40, .inl (fun _ => 0))), ((qb 9), .inl ((cb 9), 40, .inl (fun _ => 0))), ((qb 10), .inl ((cb 10), 40, .inl (fun _ => 0))), ((qb 11), .inl ((cb 11), 40, .inl (fun _ => 0))), ((qb 12), .inl ((cb 12), 40, .inl (fun _ => 0))), ((qb 13), .inl ((cb 13), 80, .inl (fun _ => 0))), ((qb 14), .inl ((cb 14), 40, .inl (fun _ => 0))), ((qb 15), .inl ((cb 15), 40, .inl (fun _ => 0))), ((qb 16), .inl ((cb 16), 40, .inl (fun _ => 0))), ((qb 17), .inl ((cb 17), 40, .inl (fun _ => 0))), ((qb 18), .inl ((cb 18), 40, .inl (fun _ => 0))), ((qb 19), .inl ((cb 19), 40, .inl (fun _ => 0))), ((qb 20), .inl ((cb 20), 60, .inl (fun _ => 0))), ((qb 21), .inl ((cb 21), 60, .inl (fun _ => 0))), ((qb 22), .inl ((cb 22), 130, .inl (fun _ => 0))), ((qb 23), .inl ((cb 23), 130, .inl (fun _ => 0))), ((qb 24), .inl ((cb 24), 130, .inl (fun _ => 0))), ((qb 25), .inl ((cb 25), 130, .inl (fun _ => 0))), ((qb 26), .inl ((cb 26), 5240, .inl (fun _ => 0))), ((qb 27), .inl ((cb 27), 5240, .inr (.inl (fun _ => 0)))), ((qb 28), .inl ((cb 28), 3, .inl (fun _ => 0))), ((qb 29), .inl ((cb 29), 3, .inr (.inl (fun _ => 0)))), ((qb 30), .inl ((cb 30), 16, .inl (fun _ => 0)))]) [0, 1, 2, 3, 4, 5, 6, 7, 8, 9, 10] [11, 12, 13, 14, 15, 16, 17, 18, 19, 20, 21, 22, 23, 24, 25, 26, 27, 28, 29, 30, 31, 32, 33, 34, 35, 36, 37, 38, 39, 40, 41, 42] (va_runV (As := [.int (xs 1), .int (xs 2), .int (xs 3)]) (rest := []) ⟨hx, hb, hml, hown, hts⟩ (c8_get l dC dI q1 qa ca (xs 1) (xs 2) (xs 3) _ ) (cwV 3 hts gL_law_X8_get rfl rfl rfl (by decide +kernel) ⟨Nat.le_of_ble_eq_true rfl, Nat.le_of_ble_eq_true rfl⟩) ⟨pz_blind, va_recv hK hP (ci := 7) (q0 := 0) rfl rfl, pz_of hP hK hD hN [0, 1, 2, 3, 4, 5, 6, 7, 8, 9, 10] [0, 1, 2, 3, 4] rfl (by decide) rfl⟩ rfl rfl hl.1 rfl (lv_room (Nat.le_of_ble_eq_true rfl)) dL_law_787 ⟨Nat.le_of_ble_eq_true rfl, Nat.le_of_ble_eq_true rfl⟩) hS hP hD hK hA rfl rfl (by decide) (by decide) (fun v w1 ty1 H locs w123 hP hD hK hS => ?_)
        obtain ⟨rfl, rfl, rfl⟩ := w123
        refine W.eq (g2 := F0 m 790 ls [.int (an_get (xs 1).toInt (xs 2).toInt (xs 3).toInt)]) rfl ?_
        have hP : va_P (dC, dI) vwCl [(q3, .inr (8, [.int 0, .int 1, .ref (qb 0), .ref (qb 1), .ref (qb 2), .ref (qb 3), .ref (qb 4), .ref (qb 5), .ref (qb 6), .ref (qb 7), .int 0, .ref (qb 8), .ref (qb 9), .ref (qb 10), .ref (qb 11), .ref (qb 12), .ref (qb 13), .ref (qb 14), .ref (qb 15), .ref (qb 16), .ref (qb 17), .ref (qb 18), .ref (qb 19), .int 0, .int 0, .ref (qb 20), .ref (qb 21), .int 0, .ref (qb 22), .ref (qb 23), .ref (qb 24), .ref (qb 25), .ref (qb 26), .ref (qb 27), .int 0, .ref (qb 28), .ref (qb 29), .int 0, .long 0, .int 0, .int 0, .ref (qb 30)])), ((qb 0), .inl ((cb 0), 16, .inl (upd (fun _ => 0) 0 (-1)))), ((qb 1), .inl ((cb 1), 16, .inl (fun _ => 0))), ((qb 2), .inl ((cb 2), 16, .inl (upd (fun _ => 0) 0 (-1)))), ((qb 3), .inl ((cb 3), 16, .inl (fun _ => 0))), ((qb 4), .inl ((cb 4), 16, .inl (fun _ => 0))), ((qb 5), .inl ((cb 5), 16, .inl (fun _ => 0))), ((qb 6), .inl ((cb 6), 16, .inl (fun _ => 0))), ((qb 7), .inl ((cb 7), 16, .inl (fun _ => 0))), ((qb 8), .inl ((cb 8), 40, .inl (fun _ => 0))), ((qb 9), .inl ((cb 9), 40, .inl (fun _ => 0))), ((qb 10), .inl ((cb 10), 40, .inl (fun _ => 0))), ((qb 11), .inl ((cb 11), 40, .inl (fun _ => 0))), ((qb 12), .inl ((cb 12), 40, .inl (fun _ => 0))), ((qb 13), .inl ((cb 13), 80, .inl (fun _ => 0))), ((qb 14), .inl ((cb 14), 40, .inl (fun _ => 0))), ((qb 15), .inl ((cb 15), 40, .inl (fun _ => 0))), ((qb 16), .inl ((cb 16), 40, .inl (fun _ => 0))), ((qb 17), .inl ((cb 17), 40, .inl (fun _ => 0))), ((qb 18), .inl ((cb 18), 40, .inl (fun _ => 0))), ((qb 19), .inl ((cb 19), 40, .inl (fun _ => 0))), ((qb 20), .inl ((cb 20), 60, .inl (fun _ => 0))), ((qb 21), .inl ((cb 21), 60, .inl (fun _ => 0))), ((qb 22), .inl ((cb 22), 130, .inl (fun _ => 0))), ((qb 23), .inl ((cb 23), 130, .inl (fun _ => 0))), ((qb 24), .inl ((cb 24), 130, .inl (fun _ => 0))), ((qb 25), .inl ((cb 25), 130, .inl (fun _ => 0))), ((qb 26), .inl ((cb 26), 5240, .inl (fun _ => 0))), ((qb 27), .inl ((cb 27), 5240, .inr (.inl (fun _ => 0)))), ((qb 28), .inl ((cb 28), 3, .inl (fun _ => 0))), ((qb 29), .inl ((cb 29), 3, .inr (.inl (fun _ => 0)))), ((qb 30), .inl ((cb 30), 16, .inl (fun _ => 0)))] H := hP
        have hD : va_D (fun q : Nat => s.heap.size ≤ q) [(q3, .inr (8, [.int 0, .int 1, .ref (qb 0), .ref (qb 1), .ref (qb 2), .ref (qb 3), .ref (qb 4), .ref (qb 5), .ref (qb 6), .ref (qb 7), .int 0, .ref (qb 8), .ref (qb 9), .ref (qb 10), .ref (qb 11), .ref (qb 12), .ref (qb 13), .ref (qb 14), .ref (qb 15), .ref (qb 16), .ref (qb 17), .ref (qb 18), .ref (qb 19), .int 0, .int 0, .ref (qb 20), .ref (qb 21), .int 0, .ref (qb 22), .ref (qb 23), .ref (qb 24), .ref (qb 25), .ref (qb 26), .ref (qb 27), .int 0, .ref (qb 28), .ref (qb 29), .int 0, .long 0, .int 0, .int 0, .ref (qb 30)])), ((qb 0), .inl ((cb 0), 16, .inl (upd (fun _ => 0) 0 (-1)))), ((qb 1), .inl ((cb 1), 16, .inl (fun _ => 0))), ((qb 2), .inl ((cb 2), 16, .inl (upd (fun _ => 0) 0 (-1)))), ((qb 3), .inl ((cb 3), 16, .inl (fun _ => 0))), ((qb 4), .inl ((cb 4), 16, .inl (fun _ => 0))), ((qb 5), .inl ((cb 5), 16, .inl (fun _ => 0))), ((qb 6), .inl ((cb 6), 16, .inl (fun _ => 0))), ((qb 7), .inl ((cb 7), 16, .inl (fun _ => 0))), ((qb 8), .inl ((cb 8), 40, .inl (fun _ => 0))), ((qb 9), .inl ((cb 9), 40, .inl (fun _ => 0))), ((qb 10), .inl ((cb 10), 40, .inl (fun _ => 0))), ((qb 11), .inl ((cb 11), 40, .inl (fun _ => 0))), ((qb 12), .inl ((cb 12), 40, .inl (fun _ => 0))), ((qb 13), .inl ((cb 13), 80, .inl (fun _ => 0))), ((qb 14), .inl ((cb 14), 40, .inl (fun _ => 0))), ((qb 15), .inl ((cb 15), 40, .inl (fun _ => 0))), ((qb 16), .inl ((cb 16), 40, .inl (fun _ => 0))), ((qb 17), .inl ((cb 17), 40, .inl (fun _ => 0))), ((qb 18), .inl ((cb 18), 40, .inl (fun _ => 0))), ((qb 19), .inl ((cb 19), 40, .inl (fun _ => 0))), ((qb 20), .inl ((cb 20), 60, .inl (fun _ => 0))), ((qb 21), .inl ((cb 21), 60, .inl (fun _ => 0))), ((qb 22), .inl ((cb 22), 130, .inl (fun _ => 0))), ((qb 23), .inl ((cb 23), 130, .inl (fun _ => 0))), ((qb 24), .inl ((cb 24), 130, .inl (fun _ => 0))), ((qb 25), .inl ((cb 25), 130, .inl (fun _ => 0))), ((qb 26), .inl ((cb 26), 5240, .inl (fun _ => 0))), ((qb 27), .inl ((cb 27), 5240, .inr (.inl (fun _ => 0)))), ((qb 28), .inl ((cb 28), 3, .inl (fun _ => 0))), ((qb 29), .inl ((cb 29), 3, .inr (.inl (fun _ => 0)))), ((qb 30), .inl ((cb 30), 16, .inl (fun _ => 0)))] := hD
        have hK : va_K (dC, dI) vwCl [((ca 0), .object "ReflectModels$ClassModel"), ((ca 1), .object "ReflectModels$Member"), ((ca 2), .object "ReflectModels$Handle"), ((ca 3), .object "ReflectModels$Thing"), ((ca 4), .object "ReflectModels$Value"), ((cb 0), .int), ((cb 1), .int), ((cb 2), .int), ((cb 3), .boolean), ((cb 4), .boolean), ((cb 5), .int), ((cb 6), .int), ((cb 7), .int), ((cb 8), .int), ((cb 9), .boolean), ((cb 10), .int), ((cb 11), .int), ((cb 12), .int), ((cb 13), .int), ((cb 14), .boolean), ((cb 15), .boolean), ((cb 16), .boolean), ((cb 17), .boolean), ((cb 18), .int), ((cb 19), .int), ((cb 20), .int), ((cb 21), .boolean), ((cb 22), .int), ((cb 23), .int), ((cb 24), .int), ((cb 25), .int), ((cb 26), .int), ((cb 27), .long), ((cb 28), .int), ((cb 29), .long), ((cb 30), .int)] s := hK
        refine W.cs (cells' := 43) (slots' := 12110) rfl rfl ?_
        refine lv_aload_n hx hb dL_law_790 rfl (lv_at hl 1 rfl) ?_
        refine lv_aload_n hx hb dL_law_791 rfl (lv_at hl 3 rfl) ?_
        refine lv_iload_n hx hb dL_law_792 rfl (lv_at hl 0 rfl) ?_
        refine lv_iconst (v := 1) hx hb dL_law_793 (by decide) ?_
        refine lv_iadd hx hb dL_law_794 ?_
        refine lv_topi (fun y124 ey124 => ?_)
        obtain rfl : y124 = 1 := ey124.trans (by decide)
        refine va_sld hx hb hX hbl hbA hS (vp_in_iff.mpr ⟨by decide, by decide⟩) dL_law_795 ?_
        refine W.eq (g2 := F0 m 796 ls [.int (xs 1), .ref q3, .int (an_get (xs 1).toInt (xs 2).toInt (xs 3).toInt)]) rfl ?_
        refine lv_aload_n hx hb dL_law_796 rfl (lv_at hl 3 rfl) ?_
        refine lv_iload_n hx hb dL_law_797 rfl (lv_at hl 0 rfl) ?_
        refine lv_iconst (v := 2) hx hb dL_law_798 (by decide) ?_
        refine lv_iadd hx hb dL_law_799 ?_
        refine lv_topi (fun y125 ey125 => ?_)
        obtain rfl : y125 = 2 := ey125.trans (by decide)
        refine va_sld hx hb hX hbl hbA hS (vp_in_iff.mpr ⟨by decide, by decide⟩) dL_law_800 ?_
        refine W.eq (g2 := F0 m 801 ls [.int (xs 2), .int (xs 1), .ref q3, .int (an_get (xs 1).toInt (xs 2).toInt (xs 3).toInt)]) rfl ?_
        refine lv_aload_n hx hb dL_law_801 rfl (lv_at hl 3 rfl) ?_
        refine lv_iload_n hx hb dL_law_802 rfl (lv_at hl 0 rfl) ?_
        refine lv_iconst (v := 3) hx hb dL_law_803 (by decide) ?_
        refine lv_iadd hx hb dL_law_804 ?_
        refine lv_topi (fun y126 ey126 => ?_)
        obtain rfl : y126 = 3 := ey126.trans (by decide)
        refine va_sld hx hb hX hbl hbA hS (vp_in_iff.mpr ⟨by decide, by decide⟩) dL_law_805 ?_
        refine W.eq (g2 := F0 m 806 ls [.int (xs 3), .int (xs 2), .int (xs 1), .ref q3, .int (an_get (xs 1).toInt (xs 2).toInt (xs 3).toInt)]) rfl ?_
        refine clW (wr := []) [0, 1, 2, 3, 4, 5, 6, 7, 8, 9, 10, 11, 12, 13, 14, 15, 16, 17, 18, 19, 20, 21, 22, 23, 24, 25, 26, 27, 28, 29, 30, 31] [] (va_runV (As := [.int (xs 1), .int (xs 2), .int (xs 3)]) (rest := [.int (an_get (xs 1).toInt (xs 2).toInt (xs 3).toInt)]) ⟨hx, hb, hml, hown, hts⟩ (c9_get l dC dI q3 qb cb (xs 1) (xs 2) (xs 3) _ ) (cwV 3 hts gL_law_X9_get rfl rfl rfl (by decide +kernel) ⟨Nat.le_of_ble_eq_true rfl, Nat.le_of_ble_eq_true rfl⟩) ⟨pz_blind, va_recv hK hP (ci := 8) (q0 := 0) rfl rfl, pz_of hP hK hD hN [0, 1, 2, 3, 4, 5, 6, 7, 8, 9, 10, 11, 12, 13, 14, 15, 16, 17, 18, 19, 20, 21, 22, 23, 24, 25, 26, 27, 28, 29, 30, 31] [5, 6, 7, 8, 9, 10, 11, 12, 13, 14, 15, 16, 17, 18, 19, 20, 21, 22, 23, 24, 25, 26, 27, 28, 29, 30, 31, 32, 33, 34, 35] rfl (by decide) rfl⟩ rfl rfl hl.1 rfl (lv_room (Nat.le_of_ble_eq_true rfl)) dL_law_806 ⟨Nat.le_of_ble_eq_true rfl, Nat.le_of_ble_eq_true rfl⟩) hS hP hD hK hA rfl rfl (by decide) (by decide) (fun v w1 ty1 H locs w127 hP hD hK hS => ?_)
        obtain ⟨rfl, rfl, rfl⟩ := w127
        refine W.eq (g2 := F0 m 809 ls [.int (an_get (xs 1).toInt (xs 2).toInt (xs 3).toInt), .int (an_get (xs 1).toInt (xs 2).toInt (xs 3).toInt)]) rfl ?_
        have hP : va_P (dC, dI) vwCl [] H := hP
        have hD : va_D (fun q : Nat => s.heap.size ≤ q) [] := hD
        have hK : va_K (dC, dI) vwCl [((ca 0), .object "ReflectModels$ClassModel"), ((ca 1), .object "ReflectModels$Member"), ((ca 2), .object "ReflectModels$Handle"), ((ca 3), .object "ReflectModels$Thing"), ((ca 4), .object "ReflectModels$Value"), ((cb 0), .int), ((cb 1), .int), ((cb 2), .int), ((cb 3), .boolean), ((cb 4), .boolean), ((cb 5), .int), ((cb 6), .int), ((cb 7), .int), ((cb 8), .int), ((cb 9), .boolean), ((cb 10), .int), ((cb 11), .int), ((cb 12), .int), ((cb 13), .int), ((cb 14), .boolean), ((cb 15), .boolean), ((cb 16), .boolean), ((cb 17), .boolean), ((cb 18), .int), ((cb 19), .int), ((cb 20), .int), ((cb 21), .boolean), ((cb 22), .int), ((cb 23), .int), ((cb 24), .int), ((cb 25), .int), ((cb 26), .int), ((cb 27), .long), ((cb 28), .int), ((cb 29), .long), ((cb 30), .int)] s := hK
        refine W.cs (cells' := 43) (slots' := 12110) rfl rfl ?_
        refine lv_icmp_eq (tgt := 1154) hx hb dL_law_809 (by decide) (fun _ => ?_) (fun h => absurd rfl h)
        refine lv_iinc (v := 10) (lv' := [(3, .int 10), (2, .ref q3), (1, .ref q1), (0, .ref b)]) hx hb dL_law_1154 hl (k := 0) rfl (by decide) (by decide) rfl (fun ls hl => ?_)
        refine lv_goto (tgt := 18) hx hb dL_law_1157 (by decide) ?_
        refine lv_iload_n hx hb dL_law_18 rfl (lv_at hl 0 rfl) ?_
        refine lv_aload_n hx hb dL_law_19 rfl (lv_at hl 3 rfl) ?_
        refine va_slen hx hb hX hbl hbA hS dL_law_20 ?_
        refine W.eq (g2 := F0 m 21 ls [.int 10, .int 10]) rfl ?_
        refine lv_bipush (v := 10) hx hb dL_law_21 (by decide) ?_
        refine lv_isub hx hb dL_law_23 ?_
        refine lv_topi (fun y128 ey128 => ?_)
        obtain rfl : y128 = 0 := ey128.trans (by decide)
        refine lv_icmp_gt (tgt := 1160) hx hb dL_law_24 (by decide) (fun _ => ?_) (fun h => absurd (by decide) h)
        refine lv_iconst (v := 1) hx hb dL_law_1160 (by decide) ?_
        refine va_forget (fun z hz => hS.2.2 z hz) ?_
        refine W.widen (k := 600000) (n := 7302250) (by omega) (by omega) ?_
        exact lw_ret hx hb hr hlocks dL_law_1161
      · refine lv_tableIn (tgt := 814) (off := 781) hx hb dL_law_33 (by decide) (by decide) (by decide) (by decide) ?_
        refine lv_aload_n hx hb dL_law_814 rfl (lv_at hl 2 rfl) ?_
        refine lv_aload_n hx hb dL_law_815 rfl (lv_at hl 3 rfl) ?_
        refine lv_iload_n hx hb dL_law_816 rfl (lv_at hl 0 rfl) ?_
        refine lv_iconst (v := 1) hx hb dL_law_817 (by decide) ?_
        refine lv_iadd hx hb dL_law_818 ?_
        refine lv_topi (fun y129 ey129 => ?_)
        obtain rfl : y129 = 1 := ey129.trans (by decide)
        refine va_sld hx hb hX hbl hbA hS (vp_in_iff.mpr ⟨by decide, by decide⟩) dL_law_819 ?_
        refine W.eq (g2 := F0 m 820 ls [.int (xs 1), .ref q1]) rfl ?_
        refine lv_aload_n hx hb dL_law_820 rfl (lv_at hl 3 rfl) ?_
        refine lv_iload_n hx hb dL_law_821 rfl (lv_at hl 0 rfl) ?_
        refine lv_iconst (v := 2) hx hb dL_law_822 (by decide) ?_
        refine lv_iadd hx hb dL_law_823 ?_
        refine lv_topi (fun y130 ey130 => ?_)
        obtain rfl : y130 = 2 := ey130.trans (by decide)
        refine va_sld hx hb hX hbl hbA hS (vp_in_iff.mpr ⟨by decide, by decide⟩) dL_law_824 ?_
        refine W.eq (g2 := F0 m 825 ls [.int (xs 2), .int (xs 1), .ref q1]) rfl ?_
        refine clW (wr := [(q3, .inr (8, [.int 0, .int 1, .ref (qb 0), .ref (qb 1), .ref (qb 2), .ref (qb 3), .ref (qb 4), .ref (qb 5), .ref (qb 6), .ref (qb 7), .int 0, .ref (qb 8), .ref (qb 9), .ref (qb 10), .ref (qb 11), .ref (qb 12), .ref (qb 13), .ref (qb 14), .ref (qb 15), .ref (qb 16), .ref (qb 17), .ref (qb 18), .ref (qb 19), .int 0, .int 0, .ref (qb 20), .ref (qb 21), .int 0, .ref (qb 22), .ref (qb 23), .ref (qb 24), .ref (qb 25), .ref (qb 26), .ref (qb 27), .int 0, .ref (qb 28), .ref (qb 29), .int 0, .long 0, .int 0, .int 0, .ref (qb 30)])), ((qb 0), .inl ((cb 0), 16, .inl (upd (fun _ => 0) 0 (-1)))), ((qb 1), .inl ((cb 1), 16, .inl (fun _ => 0))), ((qb 2), .inl ((cb 2), 16, .inl (upd (fun _ => 0) 0 (-1)))), ((qb 3), .inl ((cb 3), 16, .inl (fun _ => 0))), ((qb 4), .inl ((cb 4), 16, .inl (fun _ => 0))), ((qb 5), .inl ((cb 5), 16, .inl (fun _ => 0))), ((qb 6), .inl ((cb 6), 16, .inl (fun _ => 0))), ((qb 7), .inl ((cb 7), 16, .inl (fun _ => 0))), ((qb 8), .inl ((cb 8), 40, .inl (fun _ => 0))), ((qb 9), .inl ((cb 9), 40, .inl (fun _ => 0))), ((qb 10), .inl ((cb 10), 40, .inl (fun _ => 0))), ((qb 11), .inl ((cb 11), 40, .inl (fun _ => 0))), ((qb 12), .inl ((cb 12), 40, .inl (fun _ => 0))), ((qb 13), .inl ((cb 13), 80, .inl (fun _ => 0))), ((qb 14), .inl ((cb 14), 40, .inl (fun _ => 0))), ((qb 15), .inl ((cb 15), 40, .inl (fun _ => 0))), ((qb 16), .inl ((cb 16), 40, .inl (fun _ => 0))), ((qb 17), .inl ((cb 17), 40, .inl (fun _ => 0))), ((qb 18), .inl ((cb 18), 40, .inl (fun _ => 0))), ((qb 19), .inl ((cb 19), 40, .inl (fun _ => 0))), ((qb 20), .inl ((cb 20), 60, .inl (fun _ => 0))), ((qb 21), .inl ((cb 21), 60, .inl (fun _ => 0))), ((qb 22), .inl ((cb 22), 130, .inl (fun _ => 0))), ((qb 23), .inl ((cb 23), 130, .inl (fun _ => 0))), ((qb 24), .inl ((cb 24), 130, .inl (fun _ => 0))), ((qb 25), .inl ((cb 25), 130, .inl (fun _ => 0))), ((qb 26), .inl ((cb 26), 5240, .inl (fun _ => 0))), ((qb 27), .inl ((cb 27), 5240, .inr (.inl (fun _ => 0)))), ((qb 28), .inl ((cb 28), 3, .inl (fun _ => 0))), ((qb 29), .inl ((cb 29), 3, .inr (.inl (fun _ => 0)))), ((qb 30), .inl ((cb 30), 16, .inl (fun _ => 0)))]) [0, 1, 2, 3, 4, 5, 6, 7, 8, 9, 10] [11, 12, 13, 14, 15, 16, 17, 18, 19, 20, 21, 22, 23, 24, 25, 26, 27, 28, 29, 30, 31, 32, 33, 34, 35, 36, 37, 38, 39, 40, 41, 42] (va_runV (As := [.int (xs 1), .int (xs 2)]) (rest := []) ⟨hx, hb, hml, hown, hts⟩ (c8_set l dC dI q1 qa ca (xs 1) (xs 2) _ ) (cwV 2 hts gL_law_X8_set rfl rfl rfl (by decide +kernel) ⟨Nat.le_of_ble_eq_true rfl, Nat.le_of_ble_eq_true rfl⟩) ⟨pz_blind, va_recv hK hP (ci := 7) (q0 := 0) rfl rfl, pz_of hP hK hD hN [0, 1, 2, 3, 4, 5, 6, 7, 8, 9, 10] [0, 1, 2, 3, 4] rfl (by decide) rfl⟩ rfl rfl hl.1 rfl (lv_room (Nat.le_of_ble_eq_true rfl)) dL_law_825 ⟨Nat.le_of_ble_eq_true rfl, Nat.le_of_ble_eq_true rfl⟩) hS hP hD hK hA rfl rfl (by decide) (by decide) (fun v w1 ty1 H locs w131 hP hD hK hS => ?_)
        obtain ⟨rfl, rfl, rfl⟩ := w131
        refine W.eq (g2 := F0 m 828 ls [.int (an_set (xs 1).toInt (xs 2).toInt)]) rfl ?_
        have hP : va_P (dC, dI) vwCl [(q3, .inr (8, [.int 0, .int 1, .ref (qb 0), .ref (qb 1), .ref (qb 2), .ref (qb 3), .ref (qb 4), .ref (qb 5), .ref (qb 6), .ref (qb 7), .int 0, .ref (qb 8), .ref (qb 9), .ref (qb 10), .ref (qb 11), .ref (qb 12), .ref (qb 13), .ref (qb 14), .ref (qb 15), .ref (qb 16), .ref (qb 17), .ref (qb 18), .ref (qb 19), .int 0, .int 0, .ref (qb 20), .ref (qb 21), .int 0, .ref (qb 22), .ref (qb 23), .ref (qb 24), .ref (qb 25), .ref (qb 26), .ref (qb 27), .int 0, .ref (qb 28), .ref (qb 29), .int 0, .long 0, .int 0, .int 0, .ref (qb 30)])), ((qb 0), .inl ((cb 0), 16, .inl (upd (fun _ => 0) 0 (-1)))), ((qb 1), .inl ((cb 1), 16, .inl (fun _ => 0))), ((qb 2), .inl ((cb 2), 16, .inl (upd (fun _ => 0) 0 (-1)))), ((qb 3), .inl ((cb 3), 16, .inl (fun _ => 0))), ((qb 4), .inl ((cb 4), 16, .inl (fun _ => 0))), ((qb 5), .inl ((cb 5), 16, .inl (fun _ => 0))), ((qb 6), .inl ((cb 6), 16, .inl (fun _ => 0))), ((qb 7), .inl ((cb 7), 16, .inl (fun _ => 0))), ((qb 8), .inl ((cb 8), 40, .inl (fun _ => 0))), ((qb 9), .inl ((cb 9), 40, .inl (fun _ => 0))), ((qb 10), .inl ((cb 10), 40, .inl (fun _ => 0))), ((qb 11), .inl ((cb 11), 40, .inl (fun _ => 0))), ((qb 12), .inl ((cb 12), 40, .inl (fun _ => 0))), ((qb 13), .inl ((cb 13), 80, .inl (fun _ => 0))), ((qb 14), .inl ((cb 14), 40, .inl (fun _ => 0))), ((qb 15), .inl ((cb 15), 40, .inl (fun _ => 0))), ((qb 16), .inl ((cb 16), 40, .inl (fun _ => 0))), ((qb 17), .inl ((cb 17), 40, .inl (fun _ => 0))), ((qb 18), .inl ((cb 18), 40, .inl (fun _ => 0))), ((qb 19), .inl ((cb 19), 40, .inl (fun _ => 0))), ((qb 20), .inl ((cb 20), 60, .inl (fun _ => 0))), ((qb 21), .inl ((cb 21), 60, .inl (fun _ => 0))), ((qb 22), .inl ((cb 22), 130, .inl (fun _ => 0))), ((qb 23), .inl ((cb 23), 130, .inl (fun _ => 0))), ((qb 24), .inl ((cb 24), 130, .inl (fun _ => 0))), ((qb 25), .inl ((cb 25), 130, .inl (fun _ => 0))), ((qb 26), .inl ((cb 26), 5240, .inl (fun _ => 0))), ((qb 27), .inl ((cb 27), 5240, .inr (.inl (fun _ => 0)))), ((qb 28), .inl ((cb 28), 3, .inl (fun _ => 0))), ((qb 29), .inl ((cb 29), 3, .inr (.inl (fun _ => 0)))), ((qb 30), .inl ((cb 30), 16, .inl (fun _ => 0)))] H := hP
        have hD : va_D (fun q : Nat => s.heap.size ≤ q) [(q3, .inr (8, [.int 0, .int 1, .ref (qb 0), .ref (qb 1), .ref (qb 2), .ref (qb 3), .ref (qb 4), .ref (qb 5), .ref (qb 6), .ref (qb 7), .int 0, .ref (qb 8), .ref (qb 9), .ref (qb 10), .ref (qb 11), .ref (qb 12), .ref (qb 13), .ref (qb 14), .ref (qb 15), .ref (qb 16), .ref (qb 17), .ref (qb 18), .ref (qb 19), .int 0, .int 0, .ref (qb 20), .ref (qb 21), .int 0, .ref (qb 22), .ref (qb 23), .ref (qb 24), .ref (qb 25), .ref (qb 26), .ref (qb 27), .int 0, .ref (qb 28), .ref (qb 29), .int 0, .long 0, .int 0, .int 0, .ref (qb 30)])), ((qb 0), .inl ((cb 0), 16, .inl (upd (fun _ => 0) 0 (-1)))), ((qb 1), .inl ((cb 1), 16, .inl (fun _ => 0))), ((qb 2), .inl ((cb 2), 16, .inl (upd (fun _ => 0) 0 (-1)))), ((qb 3), .inl ((cb 3), 16, .inl (fun _ => 0))), ((qb 4), .inl ((cb 4), 16, .inl (fun _ => 0))), ((qb 5), .inl ((cb 5), 16, .inl (fun _ => 0))), ((qb 6), .inl ((cb 6), 16, .inl (fun _ => 0))), ((qb 7), .inl ((cb 7), 16, .inl (fun _ => 0))), ((qb 8), .inl ((cb 8), 40, .inl (fun _ => 0))), ((qb 9), .inl ((cb 9), 40, .inl (fun _ => 0))), ((qb 10), .inl ((cb 10), 40, .inl (fun _ => 0))), ((qb 11), .inl ((cb 11), 40, .inl (fun _ => 0))), ((qb 12), .inl ((cb 12), 40, .inl (fun _ => 0))), ((qb 13), .inl ((cb 13), 80, .inl (fun _ => 0))), ((qb 14), .inl ((cb 14), 40, .inl (fun _ => 0))), ((qb 15), .inl ((cb 15), 40, .inl (fun _ => 0))), ((qb 16), .inl ((cb 16), 40, .inl (fun _ => 0))), ((qb 17), .inl ((cb 17), 40, .inl (fun _ => 0))), ((qb 18), .inl ((cb 18), 40, .inl (fun _ => 0))), ((qb 19), .inl ((cb 19), 40, .inl (fun _ => 0))), ((qb 20), .inl ((cb 20), 60, .inl (fun _ => 0))), ((qb 21), .inl ((cb 21), 60, .inl (fun _ => 0))), ((qb 22), .inl ((cb 22), 130, .inl (fun _ => 0))), ((qb 23), .inl ((cb 23), 130, .inl (fun _ => 0))), ((qb 24), .inl ((cb 24), 130, .inl (fun _ => 0))), ((qb 25), .inl ((cb 25), 130, .inl (fun _ => 0))), ((qb 26), .inl ((cb 26), 5240, .inl (fun _ => 0))), ((qb 27), .inl ((cb 27), 5240, .inr (.inl (fun _ => 0)))), ((qb 28), .inl ((cb 28), 3, .inl (fun _ => 0))), ((qb 29), .inl ((cb 29), 3, .inr (.inl (fun _ => 0)))), ((qb 30), .inl ((cb 30), 16, .inl (fun _ => 0)))] := hD
        have hK : va_K (dC, dI) vwCl [((ca 0), .object "ReflectModels$ClassModel"), ((ca 1), .object "ReflectModels$Member"), ((ca 2), .object "ReflectModels$Handle"), ((ca 3), .object "ReflectModels$Thing"), ((ca 4), .object "ReflectModels$Value"), ((cb 0), .int), ((cb 1), .int), ((cb 2), .int), ((cb 3), .boolean), ((cb 4), .boolean), ((cb 5), .int), ((cb 6), .int), ((cb 7), .int), ((cb 8), .int), ((cb 9), .boolean), ((cb 10), .int), ((cb 11), .int), ((cb 12), .int), ((cb 13), .int), ((cb 14), .boolean), ((cb 15), .boolean), ((cb 16), .boolean), ((cb 17), .boolean), ((cb 18), .int), ((cb 19), .int), ((cb 20), .int), ((cb 21), .boolean), ((cb 22), .int), ((cb 23), .int), ((cb 24), .int), ((cb 25), .int), ((cb 26), .int), ((cb 27), .long), ((cb 28), .int), ((cb 29), .long), ((cb 30), .int)] s := hK
        refine W.cs (cells' := 43) (slots' := 12110) rfl rfl ?_
        refine lv_aload_n hx hb dL_law_828 rfl (lv_at hl 1 rfl) ?_
        refine lv_aload_n hx hb dL_law_829 rfl (lv_at hl 3 rfl) ?_
        refine lv_iload_n hx hb dL_law_830 rfl (lv_at hl 0 rfl) ?_
        refine lv_iconst (v := 1) hx hb dL_law_831 (by decide) ?_
        refine lv_iadd hx hb dL_law_832 ?_
        refine lv_topi (fun y132 ey132 => ?_)
        obtain rfl : y132 = 1 := ey132.trans (by decide)
        refine va_sld hx hb hX hbl hbA hS (vp_in_iff.mpr ⟨by decide, by decide⟩) dL_law_833 ?_
        refine W.eq (g2 := F0 m 834 ls [.int (xs 1), .ref q3, .int (an_set (xs 1).toInt (xs 2).toInt)]) rfl ?_
        refine lv_aload_n hx hb dL_law_834 rfl (lv_at hl 3 rfl) ?_
        refine lv_iload_n hx hb dL_law_835 rfl (lv_at hl 0 rfl) ?_
        refine lv_iconst (v := 2) hx hb dL_law_836 (by decide) ?_
        refine lv_iadd hx hb dL_law_837 ?_
        refine lv_topi (fun y133 ey133 => ?_)
        obtain rfl : y133 = 2 := ey133.trans (by decide)
        refine va_sld hx hb hX hbl hbA hS (vp_in_iff.mpr ⟨by decide, by decide⟩) dL_law_838 ?_
        refine W.eq (g2 := F0 m 839 ls [.int (xs 2), .int (xs 1), .ref q3, .int (an_set (xs 1).toInt (xs 2).toInt)]) rfl ?_
        refine clW (wr := []) [0, 1, 2, 3, 4, 5, 6, 7, 8, 9, 10, 11, 12, 13, 14, 15, 16, 17, 18, 19, 20, 21, 22, 23, 24, 25, 26, 27, 28, 29, 30, 31] [] (va_runV (As := [.int (xs 1), .int (xs 2)]) (rest := [.int (an_set (xs 1).toInt (xs 2).toInt)]) ⟨hx, hb, hml, hown, hts⟩ (c9_set l dC dI q3 qb cb (xs 1) (xs 2) _ ) (cwV 2 hts gL_law_X9_set rfl rfl rfl (by decide +kernel) ⟨Nat.le_of_ble_eq_true rfl, Nat.le_of_ble_eq_true rfl⟩) ⟨pz_blind, va_recv hK hP (ci := 8) (q0 := 0) rfl rfl, pz_of hP hK hD hN [0, 1, 2, 3, 4, 5, 6, 7, 8, 9, 10, 11, 12, 13, 14, 15, 16, 17, 18, 19, 20, 21, 22, 23, 24, 25, 26, 27, 28, 29, 30, 31] [5, 6, 7, 8, 9, 10, 11, 12, 13, 14, 15, 16, 17, 18, 19, 20, 21, 22, 23, 24, 25, 26, 27, 28, 29, 30, 31, 32, 33, 34, 35] rfl (by decide) rfl⟩ rfl rfl hl.1 rfl (lv_room (Nat.le_of_ble_eq_true rfl)) dL_law_839 ⟨Nat.le_of_ble_eq_true rfl, Nat.le_of_ble_eq_true rfl⟩) hS hP hD hK hA rfl rfl (by decide) (by decide) (fun v w1 ty1 H locs w134 hP hD hK hS => ?_)
        obtain ⟨rfl, rfl, rfl⟩ := w134
        refine W.eq (g2 := F0 m 842 ls [.int (an_set (xs 1).toInt (xs 2).toInt), .int (an_set (xs 1).toInt (xs 2).toInt)]) rfl ?_
        have hP : va_P (dC, dI) vwCl [] H := hP
        have hD : va_D (fun q : Nat => s.heap.size ≤ q) [] := hD
        have hK : va_K (dC, dI) vwCl [((ca 0), .object "ReflectModels$ClassModel"), ((ca 1), .object "ReflectModels$Member"), ((ca 2), .object "ReflectModels$Handle"), ((ca 3), .object "ReflectModels$Thing"), ((ca 4), .object "ReflectModels$Value"), ((cb 0), .int), ((cb 1), .int), ((cb 2), .int), ((cb 3), .boolean), ((cb 4), .boolean), ((cb 5), .int), ((cb 6), .int), ((cb 7), .int), ((cb 8), .int), ((cb 9), .boolean), ((cb 10), .int), ((cb 11), .int), ((cb 12), .int), ((cb 13), .int), ((cb 14), .boolean), ((cb 15), .boolean), ((cb 16), .boolean), ((cb 17), .boolean), ((cb 18), .int), ((cb 19), .int), ((cb 20), .int), ((cb 21), .boolean), ((cb 22), .int), ((cb 23), .int), ((cb 24), .int), ((cb 25), .int), ((cb 26), .int), ((cb 27), .long), ((cb 28), .int), ((cb 29), .long), ((cb 30), .int)] s := hK
        refine W.cs (cells' := 43) (slots' := 12110) rfl rfl ?_
        refine lv_icmp_eq (tgt := 1154) hx hb dL_law_842 (by decide) (fun _ => ?_) (fun h => absurd rfl h)
        refine lv_iinc (v := 10) (lv' := [(3, .int 10), (2, .ref q3), (1, .ref q1), (0, .ref b)]) hx hb dL_law_1154 hl (k := 0) rfl (by decide) (by decide) rfl (fun ls hl => ?_)
        refine lv_goto (tgt := 18) hx hb dL_law_1157 (by decide) ?_
        refine lv_iload_n hx hb dL_law_18 rfl (lv_at hl 0 rfl) ?_
        refine lv_aload_n hx hb dL_law_19 rfl (lv_at hl 3 rfl) ?_
        refine va_slen hx hb hX hbl hbA hS dL_law_20 ?_
        refine W.eq (g2 := F0 m 21 ls [.int 10, .int 10]) rfl ?_
        refine lv_bipush (v := 10) hx hb dL_law_21 (by decide) ?_
        refine lv_isub hx hb dL_law_23 ?_
        refine lv_topi (fun y135 ey135 => ?_)
        obtain rfl : y135 = 0 := ey135.trans (by decide)
        refine lv_icmp_gt (tgt := 1160) hx hb dL_law_24 (by decide) (fun _ => ?_) (fun h => absurd (by decide) h)
        refine lv_iconst (v := 1) hx hb dL_law_1160 (by decide) ?_
        refine va_forget (fun z hz => hS.2.2 z hz) ?_
        refine W.widen (k := 600000) (n := 7302250) (by omega) (by omega) ?_
        exact lw_ret hx hb hr hlocks dL_law_1161
      · refine lv_tableIn (tgt := 847) (off := 814) hx hb dL_law_33 (by decide) (by decide) (by decide) (by decide) ?_
        refine lv_aload_n hx hb dL_law_847 rfl (lv_at hl 2 rfl) ?_
        refine lv_aload_n hx hb dL_law_848 rfl (lv_at hl 3 rfl) ?_
        refine lv_iload_n hx hb dL_law_849 rfl (lv_at hl 0 rfl) ?_
        refine lv_iconst (v := 1) hx hb dL_law_850 (by decide) ?_
        refine lv_iadd hx hb dL_law_851 ?_
        refine lv_topi (fun y136 ey136 => ?_)
        obtain rfl : y136 = 1 := ey136.trans (by decide)
        refine va_sld hx hb hX hbl hbA hS (vp_in_iff.mpr ⟨by decide, by decide⟩) dL_law_852 ?_
        refine W.eq (g2 := F0 m 853 ls [.int (xs 1), .ref q1]) rfl ?_
        refine lv_aload_n hx hb dL_law_853 rfl (lv_at hl 3 rfl) ?_
        refine lv_iload_n hx hb dL_law_854 rfl (lv_at hl 0 rfl) ?_
        refine lv_iconst (v := 2) hx hb dL_law_855 (by decide) ?_
        refine lv_iadd hx hb dL_law_856 ?_
        refine lv_topi (fun y137 ey137 => ?_)
        obtain rfl : y137 = 2 := ey137.trans (by decide)
        refine va_sld hx hb hX hbl hbA hS (vp_in_iff.mpr ⟨by decide, by decide⟩) dL_law_857 ?_
        refine W.eq (g2 := F0 m 858 ls [.int (xs 2), .int (xs 1), .ref q1]) rfl ?_
        refine clW (wr := [(q3, .inr (8, [.int 0, .int 1, .ref (qb 0), .ref (qb 1), .ref (qb 2), .ref (qb 3), .ref (qb 4), .ref (qb 5), .ref (qb 6), .ref (qb 7), .int 0, .ref (qb 8), .ref (qb 9), .ref (qb 10), .ref (qb 11), .ref (qb 12), .ref (qb 13), .ref (qb 14), .ref (qb 15), .ref (qb 16), .ref (qb 17), .ref (qb 18), .ref (qb 19), .int 0, .int 0, .ref (qb 20), .ref (qb 21), .int 0, .ref (qb 22), .ref (qb 23), .ref (qb 24), .ref (qb 25), .ref (qb 26), .ref (qb 27), .int 0, .ref (qb 28), .ref (qb 29), .int 0, .long 0, .int 0, .int 0, .ref (qb 30)])), ((qb 0), .inl ((cb 0), 16, .inl (upd (fun _ => 0) 0 (-1)))), ((qb 1), .inl ((cb 1), 16, .inl (fun _ => 0))), ((qb 2), .inl ((cb 2), 16, .inl (upd (fun _ => 0) 0 (-1)))), ((qb 3), .inl ((cb 3), 16, .inl (fun _ => 0))), ((qb 4), .inl ((cb 4), 16, .inl (fun _ => 0))), ((qb 5), .inl ((cb 5), 16, .inl (fun _ => 0))), ((qb 6), .inl ((cb 6), 16, .inl (fun _ => 0))), ((qb 7), .inl ((cb 7), 16, .inl (fun _ => 0))), ((qb 8), .inl ((cb 8), 40, .inl (fun _ => 0))), ((qb 9), .inl ((cb 9), 40, .inl (fun _ => 0))), ((qb 10), .inl ((cb 10), 40, .inl (fun _ => 0))), ((qb 11), .inl ((cb 11), 40, .inl (fun _ => 0))), ((qb 12), .inl ((cb 12), 40, .inl (fun _ => 0))), ((qb 13), .inl ((cb 13), 80, .inl (fun _ => 0))), ((qb 14), .inl ((cb 14), 40, .inl (fun _ => 0))), ((qb 15), .inl ((cb 15), 40, .inl (fun _ => 0))), ((qb 16), .inl ((cb 16), 40, .inl (fun _ => 0))), ((qb 17), .inl ((cb 17), 40, .inl (fun _ => 0))), ((qb 18), .inl ((cb 18), 40, .inl (fun _ => 0))), ((qb 19), .inl ((cb 19), 40, .inl (fun _ => 0))), ((qb 20), .inl ((cb 20), 60, .inl (fun _ => 0))), ((qb 21), .inl ((cb 21), 60, .inl (fun _ => 0))), ((qb 22), .inl ((cb 22), 130, .inl (fun _ => 0))), ((qb 23), .inl ((cb 23), 130, .inl (fun _ => 0))), ((qb 24), .inl ((cb 24), 130, .inl (fun _ => 0))), ((qb 25), .inl ((cb 25), 130, .inl (fun _ => 0))), ((qb 26), .inl ((cb 26), 5240, .inl (fun _ => 0))), ((qb 27), .inl ((cb 27), 5240, .inr (.inl (fun _ => 0)))), ((qb 28), .inl ((cb 28), 3, .inl (fun _ => 0))), ((qb 29), .inl ((cb 29), 3, .inr (.inl (fun _ => 0)))), ((qb 30), .inl ((cb 30), 16, .inl (fun _ => 0)))]) [0, 1, 2, 3, 4, 5, 6, 7, 8, 9, 10] [11, 12, 13, 14, 15, 16, 17, 18, 19, 20, 21, 22, 23, 24, 25, 26, 27, 28, 29, 30, 31, 32, 33, 34, 35, 36, 37, 38, 39, 40, 41, 42] (va_runV (As := [.int (xs 1), .int (xs 2)]) (rest := []) ⟨hx, hb, hml, hown, hts⟩ (c8_call l dC dI q1 qa ca (xs 1) (xs 2) _ ) (cwV 2 hts gL_law_X8_call rfl rfl rfl (by decide +kernel) ⟨Nat.le_of_ble_eq_true rfl, Nat.le_of_ble_eq_true rfl⟩) ⟨pz_blind, va_recv hK hP (ci := 7) (q0 := 0) rfl rfl, pz_of hP hK hD hN [0, 1, 2, 3, 4, 5, 6, 7, 8, 9, 10] [0, 1, 2, 3, 4] rfl (by decide) rfl⟩ rfl rfl hl.1 rfl (lv_room (Nat.le_of_ble_eq_true rfl)) dL_law_858 ⟨Nat.le_of_ble_eq_true rfl, Nat.le_of_ble_eq_true rfl⟩) hS hP hD hK hA rfl rfl (by decide) (by decide) (fun v w1 ty1 H locs w138 hP hD hK hS => ?_)
        obtain ⟨rfl, rfl, rfl⟩ := w138
        refine W.eq (g2 := F0 m 861 ls [.int (an_call (xs 1).toInt (xs 2).toInt)]) rfl ?_
        have hP : va_P (dC, dI) vwCl [(q3, .inr (8, [.int 0, .int 1, .ref (qb 0), .ref (qb 1), .ref (qb 2), .ref (qb 3), .ref (qb 4), .ref (qb 5), .ref (qb 6), .ref (qb 7), .int 0, .ref (qb 8), .ref (qb 9), .ref (qb 10), .ref (qb 11), .ref (qb 12), .ref (qb 13), .ref (qb 14), .ref (qb 15), .ref (qb 16), .ref (qb 17), .ref (qb 18), .ref (qb 19), .int 0, .int 0, .ref (qb 20), .ref (qb 21), .int 0, .ref (qb 22), .ref (qb 23), .ref (qb 24), .ref (qb 25), .ref (qb 26), .ref (qb 27), .int 0, .ref (qb 28), .ref (qb 29), .int 0, .long 0, .int 0, .int 0, .ref (qb 30)])), ((qb 0), .inl ((cb 0), 16, .inl (upd (fun _ => 0) 0 (-1)))), ((qb 1), .inl ((cb 1), 16, .inl (fun _ => 0))), ((qb 2), .inl ((cb 2), 16, .inl (upd (fun _ => 0) 0 (-1)))), ((qb 3), .inl ((cb 3), 16, .inl (fun _ => 0))), ((qb 4), .inl ((cb 4), 16, .inl (fun _ => 0))), ((qb 5), .inl ((cb 5), 16, .inl (fun _ => 0))), ((qb 6), .inl ((cb 6), 16, .inl (fun _ => 0))), ((qb 7), .inl ((cb 7), 16, .inl (fun _ => 0))), ((qb 8), .inl ((cb 8), 40, .inl (fun _ => 0))), ((qb 9), .inl ((cb 9), 40, .inl (fun _ => 0))), ((qb 10), .inl ((cb 10), 40, .inl (fun _ => 0))), ((qb 11), .inl ((cb 11), 40, .inl (fun _ => 0))), ((qb 12), .inl ((cb 12), 40, .inl (fun _ => 0))), ((qb 13), .inl ((cb 13), 80, .inl (fun _ => 0))), ((qb 14), .inl ((cb 14), 40, .inl (fun _ => 0))), ((qb 15), .inl ((cb 15), 40, .inl (fun _ => 0))), ((qb 16), .inl ((cb 16), 40, .inl (fun _ => 0))), ((qb 17), .inl ((cb 17), 40, .inl (fun _ => 0))), ((qb 18), .inl ((cb 18), 40, .inl (fun _ => 0))), ((qb 19), .inl ((cb 19), 40, .inl (fun _ => 0))), ((qb 20), .inl ((cb 20), 60, .inl (fun _ => 0))), ((qb 21), .inl ((cb 21), 60, .inl (fun _ => 0))), ((qb 22), .inl ((cb 22), 130, .inl (fun _ => 0))), ((qb 23), .inl ((cb 23), 130, .inl (fun _ => 0))), ((qb 24), .inl ((cb 24), 130, .inl (fun _ => 0))), ((qb 25), .inl ((cb 25), 130, .inl (fun _ => 0))), ((qb 26), .inl ((cb 26), 5240, .inl (fun _ => 0))), ((qb 27), .inl ((cb 27), 5240, .inr (.inl (fun _ => 0)))), ((qb 28), .inl ((cb 28), 3, .inl (fun _ => 0))), ((qb 29), .inl ((cb 29), 3, .inr (.inl (fun _ => 0)))), ((qb 30), .inl ((cb 30), 16, .inl (fun _ => 0)))] H := hP
        have hD : va_D (fun q : Nat => s.heap.size ≤ q) [(q3, .inr (8, [.int 0, .int 1, .ref (qb 0), .ref (qb 1), .ref (qb 2), .ref (qb 3), .ref (qb 4), .ref (qb 5), .ref (qb 6), .ref (qb 7), .int 0, .ref (qb 8), .ref (qb 9), .ref (qb 10), .ref (qb 11), .ref (qb 12), .ref (qb 13), .ref (qb 14), .ref (qb 15), .ref (qb 16), .ref (qb 17), .ref (qb 18), .ref (qb 19), .int 0, .int 0, .ref (qb 20), .ref (qb 21), .int 0, .ref (qb 22), .ref (qb 23), .ref (qb 24), .ref (qb 25), .ref (qb 26), .ref (qb 27), .int 0, .ref (qb 28), .ref (qb 29), .int 0, .long 0, .int 0, .int 0, .ref (qb 30)])), ((qb 0), .inl ((cb 0), 16, .inl (upd (fun _ => 0) 0 (-1)))), ((qb 1), .inl ((cb 1), 16, .inl (fun _ => 0))), ((qb 2), .inl ((cb 2), 16, .inl (upd (fun _ => 0) 0 (-1)))), ((qb 3), .inl ((cb 3), 16, .inl (fun _ => 0))), ((qb 4), .inl ((cb 4), 16, .inl (fun _ => 0))), ((qb 5), .inl ((cb 5), 16, .inl (fun _ => 0))), ((qb 6), .inl ((cb 6), 16, .inl (fun _ => 0))), ((qb 7), .inl ((cb 7), 16, .inl (fun _ => 0))), ((qb 8), .inl ((cb 8), 40, .inl (fun _ => 0))), ((qb 9), .inl ((cb 9), 40, .inl (fun _ => 0))), ((qb 10), .inl ((cb 10), 40, .inl (fun _ => 0))), ((qb 11), .inl ((cb 11), 40, .inl (fun _ => 0))), ((qb 12), .inl ((cb 12), 40, .inl (fun _ => 0))), ((qb 13), .inl ((cb 13), 80, .inl (fun _ => 0))), ((qb 14), .inl ((cb 14), 40, .inl (fun _ => 0))), ((qb 15), .inl ((cb 15), 40, .inl (fun _ => 0))), ((qb 16), .inl ((cb 16), 40, .inl (fun _ => 0))), ((qb 17), .inl ((cb 17), 40, .inl (fun _ => 0))), ((qb 18), .inl ((cb 18), 40, .inl (fun _ => 0))), ((qb 19), .inl ((cb 19), 40, .inl (fun _ => 0))), ((qb 20), .inl ((cb 20), 60, .inl (fun _ => 0))), ((qb 21), .inl ((cb 21), 60, .inl (fun _ => 0))), ((qb 22), .inl ((cb 22), 130, .inl (fun _ => 0))), ((qb 23), .inl ((cb 23), 130, .inl (fun _ => 0))), ((qb 24), .inl ((cb 24), 130, .inl (fun _ => 0))), ((qb 25), .inl ((cb 25), 130, .inl (fun _ => 0))), ((qb 26), .inl ((cb 26), 5240, .inl (fun _ => 0))), ((qb 27), .inl ((cb 27), 5240, .inr (.inl (fun _ => 0)))), ((qb 28), .inl ((cb 28), 3, .inl (fun _ => 0))), ((qb 29), .inl ((cb 29), 3, .inr (.inl (fun _ => 0)))), ((qb 30), .inl ((cb 30), 16, .inl (fun _ => 0)))] := hD
        have hK : va_K (dC, dI) vwCl [((ca 0), .object "ReflectModels$ClassModel"), ((ca 1), .object "ReflectModels$Member"), ((ca 2), .object "ReflectModels$Handle"), ((ca 3), .object "ReflectModels$Thing"), ((ca 4), .object "ReflectModels$Value"), ((cb 0), .int), ((cb 1), .int), ((cb 2), .int), ((cb 3), .boolean), ((cb 4), .boolean), ((cb 5), .int), ((cb 6), .int), ((cb 7), .int), ((cb 8), .int), ((cb 9), .boolean), ((cb 10), .int), ((cb 11), .int), ((cb 12), .int), ((cb 13), .int), ((cb 14), .boolean), ((cb 15), .boolean), ((cb 16), .boolean), ((cb 17), .boolean), ((cb 18), .int), ((cb 19), .int), ((cb 20), .int), ((cb 21), .boolean), ((cb 22), .int), ((cb 23), .int), ((cb 24), .int), ((cb 25), .int), ((cb 26), .int), ((cb 27), .long), ((cb 28), .int), ((cb 29), .long), ((cb 30), .int)] s := hK
        refine W.cs (cells' := 43) (slots' := 12110) rfl rfl ?_
        refine lv_aload_n hx hb dL_law_861 rfl (lv_at hl 1 rfl) ?_
        refine lv_aload_n hx hb dL_law_862 rfl (lv_at hl 3 rfl) ?_
        refine lv_iload_n hx hb dL_law_863 rfl (lv_at hl 0 rfl) ?_
        refine lv_iconst (v := 1) hx hb dL_law_864 (by decide) ?_
        refine lv_iadd hx hb dL_law_865 ?_
        refine lv_topi (fun y139 ey139 => ?_)
        obtain rfl : y139 = 1 := ey139.trans (by decide)
        refine va_sld hx hb hX hbl hbA hS (vp_in_iff.mpr ⟨by decide, by decide⟩) dL_law_866 ?_
        refine W.eq (g2 := F0 m 867 ls [.int (xs 1), .ref q3, .int (an_call (xs 1).toInt (xs 2).toInt)]) rfl ?_
        refine lv_aload_n hx hb dL_law_867 rfl (lv_at hl 3 rfl) ?_
        refine lv_iload_n hx hb dL_law_868 rfl (lv_at hl 0 rfl) ?_
        refine lv_iconst (v := 2) hx hb dL_law_869 (by decide) ?_
        refine lv_iadd hx hb dL_law_870 ?_
        refine lv_topi (fun y140 ey140 => ?_)
        obtain rfl : y140 = 2 := ey140.trans (by decide)
        refine va_sld hx hb hX hbl hbA hS (vp_in_iff.mpr ⟨by decide, by decide⟩) dL_law_871 ?_
        refine W.eq (g2 := F0 m 872 ls [.int (xs 2), .int (xs 1), .ref q3, .int (an_call (xs 1).toInt (xs 2).toInt)]) rfl ?_
        refine clW (wr := []) [0, 1, 2, 3, 4, 5, 6, 7, 8, 9, 10, 11, 12, 13, 14, 15, 16, 17, 18, 19, 20, 21, 22, 23, 24, 25, 26, 27, 28, 29, 30, 31] [] (va_runV (As := [.int (xs 1), .int (xs 2)]) (rest := [.int (an_call (xs 1).toInt (xs 2).toInt)]) ⟨hx, hb, hml, hown, hts⟩ (c9_call l dC dI q3 qb cb (xs 1) (xs 2) _ ) (cwV 2 hts gL_law_X9_call rfl rfl rfl (by decide +kernel) ⟨Nat.le_of_ble_eq_true rfl, Nat.le_of_ble_eq_true rfl⟩) ⟨pz_blind, va_recv hK hP (ci := 8) (q0 := 0) rfl rfl, pz_of hP hK hD hN [0, 1, 2, 3, 4, 5, 6, 7, 8, 9, 10, 11, 12, 13, 14, 15, 16, 17, 18, 19, 20, 21, 22, 23, 24, 25, 26, 27, 28, 29, 30, 31] [5, 6, 7, 8, 9, 10, 11, 12, 13, 14, 15, 16, 17, 18, 19, 20, 21, 22, 23, 24, 25, 26, 27, 28, 29, 30, 31, 32, 33, 34, 35] rfl (by decide) rfl⟩ rfl rfl hl.1 rfl (lv_room (Nat.le_of_ble_eq_true rfl)) dL_law_872 ⟨Nat.le_of_ble_eq_true rfl, Nat.le_of_ble_eq_true rfl⟩) hS hP hD hK hA rfl rfl (by decide) (by decide) (fun v w1 ty1 H locs w141 hP hD hK hS => ?_)
        obtain ⟨rfl, rfl, rfl⟩ := w141
        refine W.eq (g2 := F0 m 875 ls [.int (an_call (xs 1).toInt (xs 2).toInt), .int (an_call (xs 1).toInt (xs 2).toInt)]) rfl ?_
        have hP : va_P (dC, dI) vwCl [] H := hP
        have hD : va_D (fun q : Nat => s.heap.size ≤ q) [] := hD
        have hK : va_K (dC, dI) vwCl [((ca 0), .object "ReflectModels$ClassModel"), ((ca 1), .object "ReflectModels$Member"), ((ca 2), .object "ReflectModels$Handle"), ((ca 3), .object "ReflectModels$Thing"), ((ca 4), .object "ReflectModels$Value"), ((cb 0), .int), ((cb 1), .int), ((cb 2), .int), ((cb 3), .boolean), ((cb 4), .boolean), ((cb 5), .int), ((cb 6), .int), ((cb 7), .int), ((cb 8), .int), ((cb 9), .boolean), ((cb 10), .int), ((cb 11), .int), ((cb 12), .int), ((cb 13), .int), ((cb 14), .boolean), ((cb 15), .boolean), ((cb 16), .boolean), ((cb 17), .boolean), ((cb 18), .int), ((cb 19), .int), ((cb 20), .int), ((cb 21), .boolean), ((cb 22), .int), ((cb 23), .int), ((cb 24), .int), ((cb 25), .int), ((cb 26), .int), ((cb 27), .long), ((cb 28), .int), ((cb 29), .long), ((cb 30), .int)] s := hK
        refine W.cs (cells' := 43) (slots' := 12110) rfl rfl ?_
        refine lv_icmp_eq (tgt := 1154) hx hb dL_law_875 (by decide) (fun _ => ?_) (fun h => absurd rfl h)
        refine lv_iinc (v := 10) (lv' := [(3, .int 10), (2, .ref q3), (1, .ref q1), (0, .ref b)]) hx hb dL_law_1154 hl (k := 0) rfl (by decide) (by decide) rfl (fun ls hl => ?_)
        refine lv_goto (tgt := 18) hx hb dL_law_1157 (by decide) ?_
        refine lv_iload_n hx hb dL_law_18 rfl (lv_at hl 0 rfl) ?_
        refine lv_aload_n hx hb dL_law_19 rfl (lv_at hl 3 rfl) ?_
        refine va_slen hx hb hX hbl hbA hS dL_law_20 ?_
        refine W.eq (g2 := F0 m 21 ls [.int 10, .int 10]) rfl ?_
        refine lv_bipush (v := 10) hx hb dL_law_21 (by decide) ?_
        refine lv_isub hx hb dL_law_23 ?_
        refine lv_topi (fun y142 ey142 => ?_)
        obtain rfl : y142 = 0 := ey142.trans (by decide)
        refine lv_icmp_gt (tgt := 1160) hx hb dL_law_24 (by decide) (fun _ => ?_) (fun h => absurd (by decide) h)
        refine lv_iconst (v := 1) hx hb dL_law_1160 (by decide) ?_
        refine va_forget (fun z hz => hS.2.2 z hz) ?_
        refine W.widen (k := 600000) (n := 7302250) (by omega) (by omega) ?_
        exact lw_ret hx hb hr hlocks dL_law_1161
      · refine lv_tableIn (tgt := 880) (off := 847) hx hb dL_law_33 (by decide) (by decide) (by decide) (by decide) ?_
        refine lv_aload_n hx hb dL_law_880 rfl (lv_at hl 2 rfl) ?_
        refine lv_aload_n hx hb dL_law_881 rfl (lv_at hl 3 rfl) ?_
        refine lv_iload_n hx hb dL_law_882 rfl (lv_at hl 0 rfl) ?_
        refine lv_iconst (v := 1) hx hb dL_law_883 (by decide) ?_
        refine lv_iadd hx hb dL_law_884 ?_
        refine lv_topi (fun y143 ey143 => ?_)
        obtain rfl : y143 = 1 := ey143.trans (by decide)
        refine va_sld hx hb hX hbl hbA hS (vp_in_iff.mpr ⟨by decide, by decide⟩) dL_law_885 ?_
        refine W.eq (g2 := F0 m 886 ls [.int (xs 1), .ref q1]) rfl ?_
        refine clW (wr := [(q3, .inr (8, [.int 0, .int 1, .ref (qb 0), .ref (qb 1), .ref (qb 2), .ref (qb 3), .ref (qb 4), .ref (qb 5), .ref (qb 6), .ref (qb 7), .int 0, .ref (qb 8), .ref (qb 9), .ref (qb 10), .ref (qb 11), .ref (qb 12), .ref (qb 13), .ref (qb 14), .ref (qb 15), .ref (qb 16), .ref (qb 17), .ref (qb 18), .ref (qb 19), .int 0, .int 0, .ref (qb 20), .ref (qb 21), .int 0, .ref (qb 22), .ref (qb 23), .ref (qb 24), .ref (qb 25), .ref (qb 26), .ref (qb 27), .int 0, .ref (qb 28), .ref (qb 29), .int 0, .long 0, .int 0, .int 0, .ref (qb 30)])), ((qb 0), .inl ((cb 0), 16, .inl (upd (fun _ => 0) 0 (-1)))), ((qb 1), .inl ((cb 1), 16, .inl (fun _ => 0))), ((qb 2), .inl ((cb 2), 16, .inl (upd (fun _ => 0) 0 (-1)))), ((qb 3), .inl ((cb 3), 16, .inl (fun _ => 0))), ((qb 4), .inl ((cb 4), 16, .inl (fun _ => 0))), ((qb 5), .inl ((cb 5), 16, .inl (fun _ => 0))), ((qb 6), .inl ((cb 6), 16, .inl (fun _ => 0))), ((qb 7), .inl ((cb 7), 16, .inl (fun _ => 0))), ((qb 8), .inl ((cb 8), 40, .inl (fun _ => 0))), ((qb 9), .inl ((cb 9), 40, .inl (fun _ => 0))), ((qb 10), .inl ((cb 10), 40, .inl (fun _ => 0))), ((qb 11), .inl ((cb 11), 40, .inl (fun _ => 0))), ((qb 12), .inl ((cb 12), 40, .inl (fun _ => 0))), ((qb 13), .inl ((cb 13), 80, .inl (fun _ => 0))), ((qb 14), .inl ((cb 14), 40, .inl (fun _ => 0))), ((qb 15), .inl ((cb 15), 40, .inl (fun _ => 0))), ((qb 16), .inl ((cb 16), 40, .inl (fun _ => 0))), ((qb 17), .inl ((cb 17), 40, .inl (fun _ => 0))), ((qb 18), .inl ((cb 18), 40, .inl (fun _ => 0))), ((qb 19), .inl ((cb 19), 40, .inl (fun _ => 0))), ((qb 20), .inl ((cb 20), 60, .inl (fun _ => 0))), ((qb 21), .inl ((cb 21), 60, .inl (fun _ => 0))), ((qb 22), .inl ((cb 22), 130, .inl (fun _ => 0))), ((qb 23), .inl ((cb 23), 130, .inl (fun _ => 0))), ((qb 24), .inl ((cb 24), 130, .inl (fun _ => 0))), ((qb 25), .inl ((cb 25), 130, .inl (fun _ => 0))), ((qb 26), .inl ((cb 26), 5240, .inl (fun _ => 0))), ((qb 27), .inl ((cb 27), 5240, .inr (.inl (fun _ => 0)))), ((qb 28), .inl ((cb 28), 3, .inl (fun _ => 0))), ((qb 29), .inl ((cb 29), 3, .inr (.inl (fun _ => 0)))), ((qb 30), .inl ((cb 30), 16, .inl (fun _ => 0)))]) [0, 1, 2, 3, 4, 5, 6, 7, 8, 9, 10] [11, 12, 13, 14, 15, 16, 17, 18, 19, 20, 21, 22, 23, 24, 25, 26, 27, 28, 29, 30, 31, 32, 33, 34, 35, 36, 37, 38, 39, 40, 41, 42] (va_runV (As := [.int (xs 1)]) (rest := []) ⟨hx, hb, hml, hown, hts⟩ (c8_make l dC dI q1 qa ca (xs 1) _ ) (cwV 1 hts gL_law_X8_make rfl rfl rfl (by decide +kernel) ⟨Nat.le_of_ble_eq_true rfl, Nat.le_of_ble_eq_true rfl⟩) ⟨pz_blind, va_recv hK hP (ci := 7) (q0 := 0) rfl rfl, pz_of hP hK hD hN [0, 1, 2, 3, 4, 5, 6, 7, 8, 9, 10] [0, 1, 2, 3, 4] rfl (by decide) rfl⟩ rfl rfl hl.1 rfl (lv_room (Nat.le_of_ble_eq_true rfl)) dL_law_886 ⟨Nat.le_of_ble_eq_true rfl, Nat.le_of_ble_eq_true rfl⟩) hS hP hD hK hA rfl rfl (by decide) (by decide) (fun v w1 ty1 H locs w144 hP hD hK hS => ?_)
        obtain ⟨rfl, rfl, rfl⟩ := w144
        refine W.eq (g2 := F0 m 889 ls [.int (an_make (xs 1).toInt)]) rfl ?_
        have hP : va_P (dC, dI) vwCl [(q3, .inr (8, [.int 0, .int 1, .ref (qb 0), .ref (qb 1), .ref (qb 2), .ref (qb 3), .ref (qb 4), .ref (qb 5), .ref (qb 6), .ref (qb 7), .int 0, .ref (qb 8), .ref (qb 9), .ref (qb 10), .ref (qb 11), .ref (qb 12), .ref (qb 13), .ref (qb 14), .ref (qb 15), .ref (qb 16), .ref (qb 17), .ref (qb 18), .ref (qb 19), .int 0, .int 0, .ref (qb 20), .ref (qb 21), .int 0, .ref (qb 22), .ref (qb 23), .ref (qb 24), .ref (qb 25), .ref (qb 26), .ref (qb 27), .int 0, .ref (qb 28), .ref (qb 29), .int 0, .long 0, .int 0, .int 0, .ref (qb 30)])), ((qb 0), .inl ((cb 0), 16, .inl (upd (fun _ => 0) 0 (-1)))), ((qb 1), .inl ((cb 1), 16, .inl (fun _ => 0))), ((qb 2), .inl ((cb 2), 16, .inl (upd (fun _ => 0) 0 (-1)))), ((qb 3), .inl ((cb 3), 16, .inl (fun _ => 0))), ((qb 4), .inl ((cb 4), 16, .inl (fun _ => 0))), ((qb 5), .inl ((cb 5), 16, .inl (fun _ => 0))), ((qb 6), .inl ((cb 6), 16, .inl (fun _ => 0))), ((qb 7), .inl ((cb 7), 16, .inl (fun _ => 0))), ((qb 8), .inl ((cb 8), 40, .inl (fun _ => 0))), ((qb 9), .inl ((cb 9), 40, .inl (fun _ => 0))), ((qb 10), .inl ((cb 10), 40, .inl (fun _ => 0))), ((qb 11), .inl ((cb 11), 40, .inl (fun _ => 0))), ((qb 12), .inl ((cb 12), 40, .inl (fun _ => 0))), ((qb 13), .inl ((cb 13), 80, .inl (fun _ => 0))), ((qb 14), .inl ((cb 14), 40, .inl (fun _ => 0))), ((qb 15), .inl ((cb 15), 40, .inl (fun _ => 0))), ((qb 16), .inl ((cb 16), 40, .inl (fun _ => 0))), ((qb 17), .inl ((cb 17), 40, .inl (fun _ => 0))), ((qb 18), .inl ((cb 18), 40, .inl (fun _ => 0))), ((qb 19), .inl ((cb 19), 40, .inl (fun _ => 0))), ((qb 20), .inl ((cb 20), 60, .inl (fun _ => 0))), ((qb 21), .inl ((cb 21), 60, .inl (fun _ => 0))), ((qb 22), .inl ((cb 22), 130, .inl (fun _ => 0))), ((qb 23), .inl ((cb 23), 130, .inl (fun _ => 0))), ((qb 24), .inl ((cb 24), 130, .inl (fun _ => 0))), ((qb 25), .inl ((cb 25), 130, .inl (fun _ => 0))), ((qb 26), .inl ((cb 26), 5240, .inl (fun _ => 0))), ((qb 27), .inl ((cb 27), 5240, .inr (.inl (fun _ => 0)))), ((qb 28), .inl ((cb 28), 3, .inl (fun _ => 0))), ((qb 29), .inl ((cb 29), 3, .inr (.inl (fun _ => 0)))), ((qb 30), .inl ((cb 30), 16, .inl (fun _ => 0)))] H := hP
        have hD : va_D (fun q : Nat => s.heap.size ≤ q) [(q3, .inr (8, [.int 0, .int 1, .ref (qb 0), .ref (qb 1), .ref (qb 2), .ref (qb 3), .ref (qb 4), .ref (qb 5), .ref (qb 6), .ref (qb 7), .int 0, .ref (qb 8), .ref (qb 9), .ref (qb 10), .ref (qb 11), .ref (qb 12), .ref (qb 13), .ref (qb 14), .ref (qb 15), .ref (qb 16), .ref (qb 17), .ref (qb 18), .ref (qb 19), .int 0, .int 0, .ref (qb 20), .ref (qb 21), .int 0, .ref (qb 22), .ref (qb 23), .ref (qb 24), .ref (qb 25), .ref (qb 26), .ref (qb 27), .int 0, .ref (qb 28), .ref (qb 29), .int 0, .long 0, .int 0, .int 0, .ref (qb 30)])), ((qb 0), .inl ((cb 0), 16, .inl (upd (fun _ => 0) 0 (-1)))), ((qb 1), .inl ((cb 1), 16, .inl (fun _ => 0))), ((qb 2), .inl ((cb 2), 16, .inl (upd (fun _ => 0) 0 (-1)))), ((qb 3), .inl ((cb 3), 16, .inl (fun _ => 0))), ((qb 4), .inl ((cb 4), 16, .inl (fun _ => 0))), ((qb 5), .inl ((cb 5), 16, .inl (fun _ => 0))), ((qb 6), .inl ((cb 6), 16, .inl (fun _ => 0))), ((qb 7), .inl ((cb 7), 16, .inl (fun _ => 0))), ((qb 8), .inl ((cb 8), 40, .inl (fun _ => 0))), ((qb 9), .inl ((cb 9), 40, .inl (fun _ => 0))), ((qb 10), .inl ((cb 10), 40, .inl (fun _ => 0))), ((qb 11), .inl ((cb 11), 40, .inl (fun _ => 0))), ((qb 12), .inl ((cb 12), 40, .inl (fun _ => 0))), ((qb 13), .inl ((cb 13), 80, .inl (fun _ => 0))), ((qb 14), .inl ((cb 14), 40, .inl (fun _ => 0))), ((qb 15), .inl ((cb 15), 40, .inl (fun _ => 0))), ((qb 16), .inl ((cb 16), 40, .inl (fun _ => 0))), ((qb 17), .inl ((cb 17), 40, .inl (fun _ => 0))), ((qb 18), .inl ((cb 18), 40, .inl (fun _ => 0))), ((qb 19), .inl ((cb 19), 40, .inl (fun _ => 0))), ((qb 20), .inl ((cb 20), 60, .inl (fun _ => 0))), ((qb 21), .inl ((cb 21), 60, .inl (fun _ => 0))), ((qb 22), .inl ((cb 22), 130, .inl (fun _ => 0))), ((qb 23), .inl ((cb 23), 130, .inl (fun _ => 0))), ((qb 24), .inl ((cb 24), 130, .inl (fun _ => 0))), ((qb 25), .inl ((cb 25), 130, .inl (fun _ => 0))), ((qb 26), .inl ((cb 26), 5240, .inl (fun _ => 0))), ((qb 27), .inl ((cb 27), 5240, .inr (.inl (fun _ => 0)))), ((qb 28), .inl ((cb 28), 3, .inl (fun _ => 0))), ((qb 29), .inl ((cb 29), 3, .inr (.inl (fun _ => 0)))), ((qb 30), .inl ((cb 30), 16, .inl (fun _ => 0)))] := hD
        have hK : va_K (dC, dI) vwCl [((ca 0), .object "ReflectModels$ClassModel"), ((ca 1), .object "ReflectModels$Member"), ((ca 2), .object "ReflectModels$Handle"), ((ca 3), .object "ReflectModels$Thing"), ((ca 4), .object "ReflectModels$Value"), ((cb 0), .int), ((cb 1), .int), ((cb 2), .int), ((cb 3), .boolean), ((cb 4), .boolean), ((cb 5), .int), ((cb 6), .int), ((cb 7), .int), ((cb 8), .int), ((cb 9), .boolean), ((cb 10), .int), ((cb 11), .int), ((cb 12), .int), ((cb 13), .int), ((cb 14), .boolean), ((cb 15), .boolean), ((cb 16), .boolean), ((cb 17), .boolean), ((cb 18), .int), ((cb 19), .int), ((cb 20), .int), ((cb 21), .boolean), ((cb 22), .int), ((cb 23), .int), ((cb 24), .int), ((cb 25), .int), ((cb 26), .int), ((cb 27), .long), ((cb 28), .int), ((cb 29), .long), ((cb 30), .int)] s := hK
        refine W.cs (cells' := 45) (slots' := 12115) rfl rfl ?_
        refine lv_aload_n hx hb dL_law_889 rfl (lv_at hl 1 rfl) ?_
        refine lv_aload_n hx hb dL_law_890 rfl (lv_at hl 3 rfl) ?_
        refine lv_iload_n hx hb dL_law_891 rfl (lv_at hl 0 rfl) ?_
        refine lv_iconst (v := 1) hx hb dL_law_892 (by decide) ?_
        refine lv_iadd hx hb dL_law_893 ?_
        refine lv_topi (fun y145 ey145 => ?_)
        obtain rfl : y145 = 1 := ey145.trans (by decide)
        refine va_sld hx hb hX hbl hbA hS (vp_in_iff.mpr ⟨by decide, by decide⟩) dL_law_894 ?_
        refine W.eq (g2 := F0 m 895 ls [.int (xs 1), .ref q3, .int (an_make (xs 1).toInt)]) rfl ?_
        refine clW (wr := []) [0, 1, 2, 3, 4, 5, 6, 7, 8, 9, 10, 11, 12, 13, 14, 15, 16, 17, 18, 19, 20, 21, 22, 23, 24, 25, 26, 27, 28, 29, 30, 31] [] (va_runV (As := [.int (xs 1)]) (rest := [.int (an_make (xs 1).toInt)]) ⟨hx, hb, hml, hown, hts⟩ (c9_make l dC dI q3 qb cb (xs 1) _ ) (cwV 1 hts gL_law_X9_make rfl rfl rfl (by decide +kernel) ⟨Nat.le_of_ble_eq_true rfl, Nat.le_of_ble_eq_true rfl⟩) ⟨pz_blind, va_recv hK hP (ci := 8) (q0 := 0) rfl rfl, pz_of hP hK hD hN [0, 1, 2, 3, 4, 5, 6, 7, 8, 9, 10, 11, 12, 13, 14, 15, 16, 17, 18, 19, 20, 21, 22, 23, 24, 25, 26, 27, 28, 29, 30, 31] [5, 6, 7, 8, 9, 10, 11, 12, 13, 14, 15, 16, 17, 18, 19, 20, 21, 22, 23, 24, 25, 26, 27, 28, 29, 30, 31, 32, 33, 34, 35] rfl (by decide) rfl⟩ rfl rfl hl.1 rfl (lv_room (Nat.le_of_ble_eq_true rfl)) dL_law_895 ⟨Nat.le_of_ble_eq_true rfl, Nat.le_of_ble_eq_true rfl⟩) hS hP hD hK hA rfl rfl (by decide) (by decide) (fun v w1 ty1 H locs w146 hP hD hK hS => ?_)
        obtain ⟨rfl, rfl, rfl⟩ := w146
        refine W.eq (g2 := F0 m 898 ls [.int (an_make (xs 1).toInt), .int (an_make (xs 1).toInt)]) rfl ?_
        have hP : va_P (dC, dI) vwCl [] H := hP
        have hD : va_D (fun q : Nat => s.heap.size ≤ q) [] := hD
        have hK : va_K (dC, dI) vwCl [((ca 0), .object "ReflectModels$ClassModel"), ((ca 1), .object "ReflectModels$Member"), ((ca 2), .object "ReflectModels$Handle"), ((ca 3), .object "ReflectModels$Thing"), ((ca 4), .object "ReflectModels$Value"), ((cb 0), .int), ((cb 1), .int), ((cb 2), .int), ((cb 3), .boolean), ((cb 4), .boolean), ((cb 5), .int), ((cb 6), .int), ((cb 7), .int), ((cb 8), .int), ((cb 9), .boolean), ((cb 10), .int), ((cb 11), .int), ((cb 12), .int), ((cb 13), .int), ((cb 14), .boolean), ((cb 15), .boolean), ((cb 16), .boolean), ((cb 17), .boolean), ((cb 18), .int), ((cb 19), .int), ((cb 20), .int), ((cb 21), .boolean), ((cb 22), .int), ((cb 23), .int), ((cb 24), .int), ((cb 25), .int), ((cb 26), .int), ((cb 27), .long), ((cb 28), .int), ((cb 29), .long), ((cb 30), .int)] s := hK
        refine W.cs (cells' := 45) (slots' := 12115) rfl rfl ?_
        refine lv_icmp_eq (tgt := 1154) hx hb dL_law_898 (by decide) (fun _ => ?_) (fun h => absurd rfl h)
        refine lv_iinc (v := 10) (lv' := [(3, .int 10), (2, .ref q3), (1, .ref q1), (0, .ref b)]) hx hb dL_law_1154 hl (k := 0) rfl (by decide) (by decide) rfl (fun ls hl => ?_)
        refine lv_goto (tgt := 18) hx hb dL_law_1157 (by decide) ?_
        refine lv_iload_n hx hb dL_law_18 rfl (lv_at hl 0 rfl) ?_
        refine lv_aload_n hx hb dL_law_19 rfl (lv_at hl 3 rfl) ?_
        refine va_slen hx hb hX hbl hbA hS dL_law_20 ?_
        refine W.eq (g2 := F0 m 21 ls [.int 10, .int 10]) rfl ?_
        refine lv_bipush (v := 10) hx hb dL_law_21 (by decide) ?_
        refine lv_isub hx hb dL_law_23 ?_
        refine lv_topi (fun y147 ey147 => ?_)
        obtain rfl : y147 = 0 := ey147.trans (by decide)
        refine lv_icmp_gt (tgt := 1160) hx hb dL_law_24 (by decide) (fun _ => ?_) (fun h => absurd (by decide) h)
        refine lv_iconst (v := 1) hx hb dL_law_1160 (by decide) ?_
        refine va_forget (fun z hz => hS.2.2 z hz) ?_
        refine W.widen (k := 600000) (n := 7302250) (by omega) (by omega) ?_
        exact lw_ret hx hb hr hlocks dL_law_1161
      · refine lv_tableIn (tgt := 903) (off := 870) hx hb dL_law_33 (by decide) (by decide) (by decide) (by decide) ?_
        refine lv_aload_n hx hb dL_law_903 rfl (lv_at hl 2 rfl) ?_
        refine lv_aload_n hx hb dL_law_904 rfl (lv_at hl 3 rfl) ?_
        refine lv_iload_n hx hb dL_law_905 rfl (lv_at hl 0 rfl) ?_
        refine lv_iconst (v := 1) hx hb dL_law_906 (by decide) ?_
        refine lv_iadd hx hb dL_law_907 ?_
        refine lv_topi (fun y148 ey148 => ?_)
        obtain rfl : y148 = 1 := ey148.trans (by decide)
        refine va_sld hx hb hX hbl hbA hS (vp_in_iff.mpr ⟨by decide, by decide⟩) dL_law_908 ?_
        refine W.eq (g2 := F0 m 909 ls [.int (xs 1), .ref q1]) rfl ?_
        refine lv_aload_n hx hb dL_law_909 rfl (lv_at hl 3 rfl) ?_
        refine lv_iload_n hx hb dL_law_910 rfl (lv_at hl 0 rfl) ?_
        refine lv_iconst (v := 2) hx hb dL_law_911 (by decide) ?_
        refine lv_iadd hx hb dL_law_912 ?_
        refine lv_topi (fun y149 ey149 => ?_)
        obtain rfl : y149 = 2 := ey149.trans (by decide)
        refine va_sld hx hb hX hbl hbA hS (vp_in_iff.mpr ⟨by decide, by decide⟩) dL_law_913 ?_
        refine W.eq (g2 := F0 m 914 ls [.int (xs 2), .int (xs 1), .ref q1]) rfl ?_
        refine clW (wr := [(q3, .inr (8, [.int 0, .int 1, .ref (qb 0), .ref (qb 1), .ref (qb 2), .ref (qb 3), .ref (qb 4), .ref (qb 5), .ref (qb 6), .ref (qb 7), .int 0, .ref (qb 8), .ref (qb 9), .ref (qb 10), .ref (qb 11), .ref (qb 12), .ref (qb 13), .ref (qb 14), .ref (qb 15), .ref (qb 16), .ref (qb 17), .ref (qb 18), .ref (qb 19), .int 0, .int 0, .ref (qb 20), .ref (qb 21), .int 0, .ref (qb 22), .ref (qb 23), .ref (qb 24), .ref (qb 25), .ref (qb 26), .ref (qb 27), .int 0, .ref (qb 28), .ref (qb 29), .int 0, .long 0, .int 0, .int 0, .ref (qb 30)])), ((qb 0), .inl ((cb 0), 16, .inl (upd (fun _ => 0) 0 (-1)))), ((qb 1), .inl ((cb 1), 16, .inl (fun _ => 0))), ((qb 2), .inl ((cb 2), 16, .inl (upd (fun _ => 0) 0 (-1)))), ((qb 3), .inl ((cb 3), 16, .inl (fun _ => 0))), ((qb 4), .inl ((cb 4), 16, .inl (fun _ => 0))), ((qb 5), .inl ((cb 5), 16, .inl (fun _ => 0))), ((qb 6), .inl ((cb 6), 16, .inl (fun _ => 0))), ((qb 7), .inl ((cb 7), 16, .inl (fun _ => 0))), ((qb 8), .inl ((cb 8), 40, .inl (fun _ => 0))), ((qb 9), .inl ((cb 9), 40, .inl (fun _ => 0))), ((qb 10), .inl ((cb 10), 40, .inl (fun _ => 0))), ((qb 11), .inl ((cb 11), 40, .inl (fun _ => 0))), ((qb 12), .inl ((cb 12), 40, .inl (fun _ => 0))), ((qb 13), .inl ((cb 13), 80, .inl (fun _ => 0))), ((qb 14), .inl ((cb 14), 40, .inl (fun _ => 0))), ((qb 15), .inl ((cb 15), 40, .inl (fun _ => 0))), ((qb 16), .inl ((cb 16), 40, .inl (fun _ => 0))), ((qb 17), .inl ((cb 17), 40, .inl (fun _ => 0))), ((qb 18), .inl ((cb 18), 40, .inl (fun _ => 0))), ((qb 19), .inl ((cb 19), 40, .inl (fun _ => 0))), ((qb 20), .inl ((cb 20), 60, .inl (fun _ => 0))), ((qb 21), .inl ((cb 21), 60, .inl (fun _ => 0))), ((qb 22), .inl ((cb 22), 130, .inl (fun _ => 0))), ((qb 23), .inl ((cb 23), 130, .inl (fun _ => 0))), ((qb 24), .inl ((cb 24), 130, .inl (fun _ => 0))), ((qb 25), .inl ((cb 25), 130, .inl (fun _ => 0))), ((qb 26), .inl ((cb 26), 5240, .inl (fun _ => 0))), ((qb 27), .inl ((cb 27), 5240, .inr (.inl (fun _ => 0)))), ((qb 28), .inl ((cb 28), 3, .inl (fun _ => 0))), ((qb 29), .inl ((cb 29), 3, .inr (.inl (fun _ => 0)))), ((qb 30), .inl ((cb 30), 16, .inl (fun _ => 0)))]) [0, 1, 2, 3, 4, 5, 6, 7, 8, 9, 10] [11, 12, 13, 14, 15, 16, 17, 18, 19, 20, 21, 22, 23, 24, 25, 26, 27, 28, 29, 30, 31, 32, 33, 34, 35, 36, 37, 38, 39, 40, 41, 42] (va_runV (As := [.int (xs 1), .int (xs 2)]) (rest := []) ⟨hx, hb, hml, hown, hts⟩ (c8_proxy l dC dI q1 qa ca (xs 1) (xs 2) _ ) (cwV 2 hts gL_law_X8_proxy rfl rfl rfl (by decide +kernel) ⟨Nat.le_of_ble_eq_true rfl, Nat.le_of_ble_eq_true rfl⟩) ⟨pz_blind, va_recv hK hP (ci := 7) (q0 := 0) rfl rfl, pz_of hP hK hD hN [0, 1, 2, 3, 4, 5, 6, 7, 8, 9, 10] [0, 1, 2, 3, 4] rfl (by decide) rfl⟩ rfl rfl hl.1 rfl (lv_room (Nat.le_of_ble_eq_true rfl)) dL_law_914 ⟨Nat.le_of_ble_eq_true rfl, Nat.le_of_ble_eq_true rfl⟩) hS hP hD hK hA rfl rfl (by decide) (by decide) (fun v w1 ty1 H locs w150 hP hD hK hS => ?_)
        obtain ⟨rfl, rfl, rfl⟩ := w150
        refine W.eq (g2 := F0 m 917 ls [.int (an_proxy (xs 1).toInt (xs 2).toInt)]) rfl ?_
        have hP : va_P (dC, dI) vwCl [(q3, .inr (8, [.int 0, .int 1, .ref (qb 0), .ref (qb 1), .ref (qb 2), .ref (qb 3), .ref (qb 4), .ref (qb 5), .ref (qb 6), .ref (qb 7), .int 0, .ref (qb 8), .ref (qb 9), .ref (qb 10), .ref (qb 11), .ref (qb 12), .ref (qb 13), .ref (qb 14), .ref (qb 15), .ref (qb 16), .ref (qb 17), .ref (qb 18), .ref (qb 19), .int 0, .int 0, .ref (qb 20), .ref (qb 21), .int 0, .ref (qb 22), .ref (qb 23), .ref (qb 24), .ref (qb 25), .ref (qb 26), .ref (qb 27), .int 0, .ref (qb 28), .ref (qb 29), .int 0, .long 0, .int 0, .int 0, .ref (qb 30)])), ((qb 0), .inl ((cb 0), 16, .inl (upd (fun _ => 0) 0 (-1)))), ((qb 1), .inl ((cb 1), 16, .inl (fun _ => 0))), ((qb 2), .inl ((cb 2), 16, .inl (upd (fun _ => 0) 0 (-1)))), ((qb 3), .inl ((cb 3), 16, .inl (fun _ => 0))), ((qb 4), .inl ((cb 4), 16, .inl (fun _ => 0))), ((qb 5), .inl ((cb 5), 16, .inl (fun _ => 0))), ((qb 6), .inl ((cb 6), 16, .inl (fun _ => 0))), ((qb 7), .inl ((cb 7), 16, .inl (fun _ => 0))), ((qb 8), .inl ((cb 8), 40, .inl (fun _ => 0))), ((qb 9), .inl ((cb 9), 40, .inl (fun _ => 0))), ((qb 10), .inl ((cb 10), 40, .inl (fun _ => 0))), ((qb 11), .inl ((cb 11), 40, .inl (fun _ => 0))), ((qb 12), .inl ((cb 12), 40, .inl (fun _ => 0))), ((qb 13), .inl ((cb 13), 80, .inl (fun _ => 0))), ((qb 14), .inl ((cb 14), 40, .inl (fun _ => 0))), ((qb 15), .inl ((cb 15), 40, .inl (fun _ => 0))), ((qb 16), .inl ((cb 16), 40, .inl (fun _ => 0))), ((qb 17), .inl ((cb 17), 40, .inl (fun _ => 0))), ((qb 18), .inl ((cb 18), 40, .inl (fun _ => 0))), ((qb 19), .inl ((cb 19), 40, .inl (fun _ => 0))), ((qb 20), .inl ((cb 20), 60, .inl (fun _ => 0))), ((qb 21), .inl ((cb 21), 60, .inl (fun _ => 0))), ((qb 22), .inl ((cb 22), 130, .inl (fun _ => 0))), ((qb 23), .inl ((cb 23), 130, .inl (fun _ => 0))), ((qb 24), .inl ((cb 24), 130, .inl (fun _ => 0))), ((qb 25), .inl ((cb 25), 130, .inl (fun _ => 0))), ((qb 26), .inl ((cb 26), 5240, .inl (fun _ => 0))), ((qb 27), .inl ((cb 27), 5240, .inr (.inl (fun _ => 0)))), ((qb 28), .inl ((cb 28), 3, .inl (fun _ => 0))), ((qb 29), .inl ((cb 29), 3, .inr (.inl (fun _ => 0)))), ((qb 30), .inl ((cb 30), 16, .inl (fun _ => 0)))] H := hP
        have hD : va_D (fun q : Nat => s.heap.size ≤ q) [(q3, .inr (8, [.int 0, .int 1, .ref (qb 0), .ref (qb 1), .ref (qb 2), .ref (qb 3), .ref (qb 4), .ref (qb 5), .ref (qb 6), .ref (qb 7), .int 0, .ref (qb 8), .ref (qb 9), .ref (qb 10), .ref (qb 11), .ref (qb 12), .ref (qb 13), .ref (qb 14), .ref (qb 15), .ref (qb 16), .ref (qb 17), .ref (qb 18), .ref (qb 19), .int 0, .int 0, .ref (qb 20), .ref (qb 21), .int 0, .ref (qb 22), .ref (qb 23), .ref (qb 24), .ref (qb 25), .ref (qb 26), .ref (qb 27), .int 0, .ref (qb 28), .ref (qb 29), .int 0, .long 0, .int 0, .int 0, .ref (qb 30)])), ((qb 0), .inl ((cb 0), 16, .inl (upd (fun _ => 0) 0 (-1)))), ((qb 1), .inl ((cb 1), 16, .inl (fun _ => 0))), ((qb 2), .inl ((cb 2), 16, .inl (upd (fun _ => 0) 0 (-1)))), ((qb 3), .inl ((cb 3), 16, .inl (fun _ => 0))), ((qb 4), .inl ((cb 4), 16, .inl (fun _ => 0))), ((qb 5), .inl ((cb 5), 16, .inl (fun _ => 0))), ((qb 6), .inl ((cb 6), 16, .inl (fun _ => 0))), ((qb 7), .inl ((cb 7), 16, .inl (fun _ => 0))), ((qb 8), .inl ((cb 8), 40, .inl (fun _ => 0))), ((qb 9), .inl ((cb 9), 40, .inl (fun _ => 0))), ((qb 10), .inl ((cb 10), 40, .inl (fun _ => 0))), ((qb 11), .inl ((cb 11), 40, .inl (fun _ => 0))), ((qb 12), .inl ((cb 12), 40, .inl (fun _ => 0))), ((qb 13), .inl ((cb 13), 80, .inl (fun _ => 0))), ((qb 14), .inl ((cb 14), 40, .inl (fun _ => 0))), ((qb 15), .inl ((cb 15), 40, .inl (fun _ => 0))), ((qb 16), .inl ((cb 16), 40, .inl (fun _ => 0))), ((qb 17), .inl ((cb 17), 40, .inl (fun _ => 0))), ((qb 18), .inl ((cb 18), 40, .inl (fun _ => 0))), ((qb 19), .inl ((cb 19), 40, .inl (fun _ => 0))), ((qb 20), .inl ((cb 20), 60, .inl (fun _ => 0))), ((qb 21), .inl ((cb 21), 60, .inl (fun _ => 0))), ((qb 22), .inl ((cb 22), 130, .inl (fun _ => 0))), ((qb 23), .inl ((cb 23), 130, .inl (fun _ => 0))), ((qb 24), .inl ((cb 24), 130, .inl (fun _ => 0))), ((qb 25), .inl ((cb 25), 130, .inl (fun _ => 0))), ((qb 26), .inl ((cb 26), 5240, .inl (fun _ => 0))), ((qb 27), .inl ((cb 27), 5240, .inr (.inl (fun _ => 0)))), ((qb 28), .inl ((cb 28), 3, .inl (fun _ => 0))), ((qb 29), .inl ((cb 29), 3, .inr (.inl (fun _ => 0)))), ((qb 30), .inl ((cb 30), 16, .inl (fun _ => 0)))] := hD
        have hK : va_K (dC, dI) vwCl [((ca 0), .object "ReflectModels$ClassModel"), ((ca 1), .object "ReflectModels$Member"), ((ca 2), .object "ReflectModels$Handle"), ((ca 3), .object "ReflectModels$Thing"), ((ca 4), .object "ReflectModels$Value"), ((cb 0), .int), ((cb 1), .int), ((cb 2), .int), ((cb 3), .boolean), ((cb 4), .boolean), ((cb 5), .int), ((cb 6), .int), ((cb 7), .int), ((cb 8), .int), ((cb 9), .boolean), ((cb 10), .int), ((cb 11), .int), ((cb 12), .int), ((cb 13), .int), ((cb 14), .boolean), ((cb 15), .boolean), ((cb 16), .boolean), ((cb 17), .boolean), ((cb 18), .int), ((cb 19), .int), ((cb 20), .int), ((cb 21), .boolean), ((cb 22), .int), ((cb 23), .int), ((cb 24), .int), ((cb 25), .int), ((cb 26), .int), ((cb 27), .long), ((cb 28), .int), ((cb 29), .long), ((cb 30), .int)] s := hK
        refine W.cs (cells' := 43) (slots' := 12110) rfl rfl ?_
        refine lv_aload_n hx hb dL_law_917 rfl (lv_at hl 1 rfl) ?_
        refine lv_aload_n hx hb dL_law_918 rfl (lv_at hl 3 rfl) ?_
        refine lv_iload_n hx hb dL_law_919 rfl (lv_at hl 0 rfl) ?_
        refine lv_iconst (v := 1) hx hb dL_law_920 (by decide) ?_
        refine lv_iadd hx hb dL_law_921 ?_
        refine lv_topi (fun y151 ey151 => ?_)
        obtain rfl : y151 = 1 := ey151.trans (by decide)
        refine va_sld hx hb hX hbl hbA hS (vp_in_iff.mpr ⟨by decide, by decide⟩) dL_law_922 ?_
        refine W.eq (g2 := F0 m 923 ls [.int (xs 1), .ref q3, .int (an_proxy (xs 1).toInt (xs 2).toInt)]) rfl ?_
        refine lv_aload_n hx hb dL_law_923 rfl (lv_at hl 3 rfl) ?_
        refine lv_iload_n hx hb dL_law_924 rfl (lv_at hl 0 rfl) ?_
        refine lv_iconst (v := 2) hx hb dL_law_925 (by decide) ?_
        refine lv_iadd hx hb dL_law_926 ?_
        refine lv_topi (fun y152 ey152 => ?_)
        obtain rfl : y152 = 2 := ey152.trans (by decide)
        refine va_sld hx hb hX hbl hbA hS (vp_in_iff.mpr ⟨by decide, by decide⟩) dL_law_927 ?_
        refine W.eq (g2 := F0 m 928 ls [.int (xs 2), .int (xs 1), .ref q3, .int (an_proxy (xs 1).toInt (xs 2).toInt)]) rfl ?_
        refine clW (wr := []) [0, 1, 2, 3, 4, 5, 6, 7, 8, 9, 10, 11, 12, 13, 14, 15, 16, 17, 18, 19, 20, 21, 22, 23, 24, 25, 26, 27, 28, 29, 30, 31] [] (va_runV (As := [.int (xs 1), .int (xs 2)]) (rest := [.int (an_proxy (xs 1).toInt (xs 2).toInt)]) ⟨hx, hb, hml, hown, hts⟩ (c9_proxy l dC dI q3 qb cb (xs 1) (xs 2) _ ) (cwV 2 hts gL_law_X9_proxy rfl rfl rfl (by decide +kernel) ⟨Nat.le_of_ble_eq_true rfl, Nat.le_of_ble_eq_true rfl⟩) ⟨pz_blind, va_recv hK hP (ci := 8) (q0 := 0) rfl rfl, pz_of hP hK hD hN [0, 1, 2, 3, 4, 5, 6, 7, 8, 9, 10, 11, 12, 13, 14, 15, 16, 17, 18, 19, 20, 21, 22, 23, 24, 25, 26, 27, 28, 29, 30, 31] [5, 6, 7, 8, 9, 10, 11, 12, 13, 14, 15, 16, 17, 18, 19, 20, 21, 22, 23, 24, 25, 26, 27, 28, 29, 30, 31, 32, 33, 34, 35] rfl (by decide) rfl⟩ rfl rfl hl.1 rfl (lv_room (Nat.le_of_ble_eq_true rfl)) dL_law_928 ⟨Nat.le_of_ble_eq_true rfl, Nat.le_of_ble_eq_true rfl⟩) hS hP hD hK hA rfl rfl (by decide) (by decide) (fun v w1 ty1 H locs w153 hP hD hK hS => ?_)
        obtain ⟨rfl, rfl, rfl⟩ := w153
        refine W.eq (g2 := F0 m 931 ls [.int (an_proxy (xs 1).toInt (xs 2).toInt), .int (an_proxy (xs 1).toInt (xs 2).toInt)]) rfl ?_
        have hP : va_P (dC, dI) vwCl [] H := hP
        have hD : va_D (fun q : Nat => s.heap.size ≤ q) [] := hD
        have hK : va_K (dC, dI) vwCl [((ca 0), .object "ReflectModels$ClassModel"), ((ca 1), .object "ReflectModels$Member"), ((ca 2), .object "ReflectModels$Handle"), ((ca 3), .object "ReflectModels$Thing"), ((ca 4), .object "ReflectModels$Value"), ((cb 0), .int), ((cb 1), .int), ((cb 2), .int), ((cb 3), .boolean), ((cb 4), .boolean), ((cb 5), .int), ((cb 6), .int), ((cb 7), .int), ((cb 8), .int), ((cb 9), .boolean), ((cb 10), .int), ((cb 11), .int), ((cb 12), .int), ((cb 13), .int), ((cb 14), .boolean), ((cb 15), .boolean), ((cb 16), .boolean), ((cb 17), .boolean), ((cb 18), .int), ((cb 19), .int), ((cb 20), .int), ((cb 21), .boolean), ((cb 22), .int), ((cb 23), .int), ((cb 24), .int), ((cb 25), .int), ((cb 26), .int), ((cb 27), .long), ((cb 28), .int), ((cb 29), .long), ((cb 30), .int)] s := hK
        refine W.cs (cells' := 43) (slots' := 12110) rfl rfl ?_
        refine lv_icmp_eq (tgt := 1154) hx hb dL_law_931 (by decide) (fun _ => ?_) (fun h => absurd rfl h)
        refine lv_iinc (v := 10) (lv' := [(3, .int 10), (2, .ref q3), (1, .ref q1), (0, .ref b)]) hx hb dL_law_1154 hl (k := 0) rfl (by decide) (by decide) rfl (fun ls hl => ?_)
        refine lv_goto (tgt := 18) hx hb dL_law_1157 (by decide) ?_
        refine lv_iload_n hx hb dL_law_18 rfl (lv_at hl 0 rfl) ?_
        refine lv_aload_n hx hb dL_law_19 rfl (lv_at hl 3 rfl) ?_
        refine va_slen hx hb hX hbl hbA hS dL_law_20 ?_
        refine W.eq (g2 := F0 m 21 ls [.int 10, .int 10]) rfl ?_
        refine lv_bipush (v := 10) hx hb dL_law_21 (by decide) ?_
        refine lv_isub hx hb dL_law_23 ?_
        refine lv_topi (fun y154 ey154 => ?_)
        obtain rfl : y154 = 0 := ey154.trans (by decide)
        refine lv_icmp_gt (tgt := 1160) hx hb dL_law_24 (by decide) (fun _ => ?_) (fun h => absurd (by decide) h)
        refine lv_iconst (v := 1) hx hb dL_law_1160 (by decide) ?_
        refine va_forget (fun z hz => hS.2.2 z hz) ?_
        refine W.widen (k := 600000) (n := 7302250) (by omega) (by omega) ?_
        exact lw_ret hx hb hr hlocks dL_law_1161
      · refine lv_tableIn (tgt := 936) (off := 903) hx hb dL_law_33 (by decide) (by decide) (by decide) (by decide) ?_
        refine lv_aload_n hx hb dL_law_936 rfl (lv_at hl 2 rfl) ?_
        refine lv_aload_n hx hb dL_law_937 rfl (lv_at hl 3 rfl) ?_
        refine lv_iload_n hx hb dL_law_938 rfl (lv_at hl 0 rfl) ?_
        refine lv_iconst (v := 1) hx hb dL_law_939 (by decide) ?_
        refine lv_iadd hx hb dL_law_940 ?_
        refine lv_topi (fun y155 ey155 => ?_)
        obtain rfl : y155 = 1 := ey155.trans (by decide)
        refine va_sld hx hb hX hbl hbA hS (vp_in_iff.mpr ⟨by decide, by decide⟩) dL_law_941 ?_
        refine W.eq (g2 := F0 m 942 ls [.int (xs 1), .ref q1]) rfl ?_
        refine lv_aload_n hx hb dL_law_942 rfl (lv_at hl 3 rfl) ?_
        refine lv_iload_n hx hb dL_law_943 rfl (lv_at hl 0 rfl) ?_
        refine lv_iconst (v := 2) hx hb dL_law_944 (by decide) ?_
        refine lv_iadd hx hb dL_law_945 ?_
        refine lv_topi (fun y156 ey156 => ?_)
        obtain rfl : y156 = 2 := ey156.trans (by decide)
        refine va_sld hx hb hX hbl hbA hS (vp_in_iff.mpr ⟨by decide, by decide⟩) dL_law_946 ?_
        refine W.eq (g2 := F0 m 947 ls [.int (xs 2), .int (xs 1), .ref q1]) rfl ?_
        refine clW (wr := [(q3, .inr (8, [.int 0, .int 1, .ref (qb 0), .ref (qb 1), .ref (qb 2), .ref (qb 3), .ref (qb 4), .ref (qb 5), .ref (qb 6), .ref (qb 7), .int 0, .ref (qb 8), .ref (qb 9), .ref (qb 10), .ref (qb 11), .ref (qb 12), .ref (qb 13), .ref (qb 14), .ref (qb 15), .ref (qb 16), .ref (qb 17), .ref (qb 18), .ref (qb 19), .int 0, .int 0, .ref (qb 20), .ref (qb 21), .int 0, .ref (qb 22), .ref (qb 23), .ref (qb 24), .ref (qb 25), .ref (qb 26), .ref (qb 27), .int 0, .ref (qb 28), .ref (qb 29), .int 0, .long 0, .int 0, .int 0, .ref (qb 30)])), ((qb 0), .inl ((cb 0), 16, .inl (upd (fun _ => 0) 0 (-1)))), ((qb 1), .inl ((cb 1), 16, .inl (fun _ => 0))), ((qb 2), .inl ((cb 2), 16, .inl (upd (fun _ => 0) 0 (-1)))), ((qb 3), .inl ((cb 3), 16, .inl (fun _ => 0))), ((qb 4), .inl ((cb 4), 16, .inl (fun _ => 0))), ((qb 5), .inl ((cb 5), 16, .inl (fun _ => 0))), ((qb 6), .inl ((cb 6), 16, .inl (fun _ => 0))), ((qb 7), .inl ((cb 7), 16, .inl (fun _ => 0))), ((qb 8), .inl ((cb 8), 40, .inl (fun _ => 0))), ((qb 9), .inl ((cb 9), 40, .inl (fun _ => 0))), ((qb 10), .inl ((cb 10), 40, .inl (fun _ => 0))), ((qb 11), .inl ((cb 11), 40, .inl (fun _ => 0))), ((qb 12), .inl ((cb 12), 40, .inl (fun _ => 0))), ((qb 13), .inl ((cb 13), 80, .inl (fun _ => 0))), ((qb 14), .inl ((cb 14), 40, .inl (fun _ => 0))), ((qb 15), .inl ((cb 15), 40, .inl (fun _ => 0))), ((qb 16), .inl ((cb 16), 40, .inl (fun _ => 0))), ((qb 17), .inl ((cb 17), 40, .inl (fun _ => 0))), ((qb 18), .inl ((cb 18), 40, .inl (fun _ => 0))), ((qb 19), .inl ((cb 19), 40, .inl (fun _ => 0))), ((qb 20), .inl ((cb 20), 60, .inl (fun _ => 0))), ((qb 21), .inl ((cb 21), 60, .inl (fun _ => 0))), ((qb 22), .inl ((cb 22), 130, .inl (fun _ => 0))), ((qb 23), .inl ((cb 23), 130, .inl (fun _ => 0))), ((qb 24), .inl ((cb 24), 130, .inl (fun _ => 0))), ((qb 25), .inl ((cb 25), 130, .inl (fun _ => 0))), ((qb 26), .inl ((cb 26), 5240, .inl (fun _ => 0))), ((qb 27), .inl ((cb 27), 5240, .inr (.inl (fun _ => 0)))), ((qb 28), .inl ((cb 28), 3, .inl (fun _ => 0))), ((qb 29), .inl ((cb 29), 3, .inr (.inl (fun _ => 0)))), ((qb 30), .inl ((cb 30), 16, .inl (fun _ => 0)))]) [0, 1, 2, 3, 4, 5, 6, 7, 8, 9, 10] [11, 12, 13, 14, 15, 16, 17, 18, 19, 20, 21, 22, 23, 24, 25, 26, 27, 28, 29, 30, 31, 32, 33, 34, 35, 36, 37, 38, 39, 40, 41, 42] (va_runV (As := [.int (xs 1), .int (xs 2)]) (rest := []) ⟨hx, hb, hml, hown, hts⟩ (c8_constant l dC dI q1 qa ca (xs 1) (xs 2) _ ) (cwV 2 hts gL_law_X8_constant rfl rfl rfl (by decide +kernel) ⟨Nat.le_of_ble_eq_true rfl, Nat.le_of_ble_eq_true rfl⟩) ⟨pz_blind, va_recv hK hP (ci := 7) (q0 := 0) rfl rfl, pz_of hP hK hD hN [0, 1, 2, 3, 4, 5, 6, 7, 8, 9, 10] [0, 1, 2, 3, 4] rfl (by decide) rfl⟩ rfl rfl hl.1 rfl (lv_room (Nat.le_of_ble_eq_true rfl)) dL_law_947 ⟨Nat.le_of_ble_eq_true rfl, Nat.le_of_ble_eq_true rfl⟩) hS hP hD hK hA rfl rfl (by decide) (by decide) (fun v w1 ty1 H locs w157 hP hD hK hS => ?_)
        obtain ⟨rfl, rfl, rfl⟩ := w157
        refine W.eq (g2 := F0 m 950 ls [.int (an_constant (xs 1).toInt (xs 2).toInt)]) rfl ?_
        have hP : va_P (dC, dI) vwCl [(q3, .inr (8, [.int 0, .int 1, .ref (qb 0), .ref (qb 1), .ref (qb 2), .ref (qb 3), .ref (qb 4), .ref (qb 5), .ref (qb 6), .ref (qb 7), .int 0, .ref (qb 8), .ref (qb 9), .ref (qb 10), .ref (qb 11), .ref (qb 12), .ref (qb 13), .ref (qb 14), .ref (qb 15), .ref (qb 16), .ref (qb 17), .ref (qb 18), .ref (qb 19), .int 0, .int 0, .ref (qb 20), .ref (qb 21), .int 0, .ref (qb 22), .ref (qb 23), .ref (qb 24), .ref (qb 25), .ref (qb 26), .ref (qb 27), .int 0, .ref (qb 28), .ref (qb 29), .int 0, .long 0, .int 0, .int 0, .ref (qb 30)])), ((qb 0), .inl ((cb 0), 16, .inl (upd (fun _ => 0) 0 (-1)))), ((qb 1), .inl ((cb 1), 16, .inl (fun _ => 0))), ((qb 2), .inl ((cb 2), 16, .inl (upd (fun _ => 0) 0 (-1)))), ((qb 3), .inl ((cb 3), 16, .inl (fun _ => 0))), ((qb 4), .inl ((cb 4), 16, .inl (fun _ => 0))), ((qb 5), .inl ((cb 5), 16, .inl (fun _ => 0))), ((qb 6), .inl ((cb 6), 16, .inl (fun _ => 0))), ((qb 7), .inl ((cb 7), 16, .inl (fun _ => 0))), ((qb 8), .inl ((cb 8), 40, .inl (fun _ => 0))), ((qb 9), .inl ((cb 9), 40, .inl (fun _ => 0))), ((qb 10), .inl ((cb 10), 40, .inl (fun _ => 0))), ((qb 11), .inl ((cb 11), 40, .inl (fun _ => 0))), ((qb 12), .inl ((cb 12), 40, .inl (fun _ => 0))), ((qb 13), .inl ((cb 13), 80, .inl (fun _ => 0))), ((qb 14), .inl ((cb 14), 40, .inl (fun _ => 0))), ((qb 15), .inl ((cb 15), 40, .inl (fun _ => 0))), ((qb 16), .inl ((cb 16), 40, .inl (fun _ => 0))), ((qb 17), .inl ((cb 17), 40, .inl (fun _ => 0))), ((qb 18), .inl ((cb 18), 40, .inl (fun _ => 0))), ((qb 19), .inl ((cb 19), 40, .inl (fun _ => 0))), ((qb 20), .inl ((cb 20), 60, .inl (fun _ => 0))), ((qb 21), .inl ((cb 21), 60, .inl (fun _ => 0))), ((qb 22), .inl ((cb 22), 130, .inl (fun _ => 0))), ((qb 23), .inl ((cb 23), 130, .inl (fun _ => 0))), ((qb 24), .inl ((cb 24), 130, .inl (fun _ => 0))), ((qb 25), .inl ((cb 25), 130, .inl (fun _ => 0))), ((qb 26), .inl ((cb 26), 5240, .inl (fun _ => 0))), ((qb 27), .inl ((cb 27), 5240, .inr (.inl (fun _ => 0)))), ((qb 28), .inl ((cb 28), 3, .inl (fun _ => 0))), ((qb 29), .inl ((cb 29), 3, .inr (.inl (fun _ => 0)))), ((qb 30), .inl ((cb 30), 16, .inl (fun _ => 0)))] H := hP
        have hD : va_D (fun q : Nat => s.heap.size ≤ q) [(q3, .inr (8, [.int 0, .int 1, .ref (qb 0), .ref (qb 1), .ref (qb 2), .ref (qb 3), .ref (qb 4), .ref (qb 5), .ref (qb 6), .ref (qb 7), .int 0, .ref (qb 8), .ref (qb 9), .ref (qb 10), .ref (qb 11), .ref (qb 12), .ref (qb 13), .ref (qb 14), .ref (qb 15), .ref (qb 16), .ref (qb 17), .ref (qb 18), .ref (qb 19), .int 0, .int 0, .ref (qb 20), .ref (qb 21), .int 0, .ref (qb 22), .ref (qb 23), .ref (qb 24), .ref (qb 25), .ref (qb 26), .ref (qb 27), .int 0, .ref (qb 28), .ref (qb 29), .int 0, .long 0, .int 0, .int 0, .ref (qb 30)])), ((qb 0), .inl ((cb 0), 16, .inl (upd (fun _ => 0) 0 (-1)))), ((qb 1), .inl ((cb 1), 16, .inl (fun _ => 0))), ((qb 2), .inl ((cb 2), 16, .inl (upd (fun _ => 0) 0 (-1)))), ((qb 3), .inl ((cb 3), 16, .inl (fun _ => 0))), ((qb 4), .inl ((cb 4), 16, .inl (fun _ => 0))), ((qb 5), .inl ((cb 5), 16, .inl (fun _ => 0))), ((qb 6), .inl ((cb 6), 16, .inl (fun _ => 0))), ((qb 7), .inl ((cb 7), 16, .inl (fun _ => 0))), ((qb 8), .inl ((cb 8), 40, .inl (fun _ => 0))), ((qb 9), .inl ((cb 9), 40, .inl (fun _ => 0))), ((qb 10), .inl ((cb 10), 40, .inl (fun _ => 0))), ((qb 11), .inl ((cb 11), 40, .inl (fun _ => 0))), ((qb 12), .inl ((cb 12), 40, .inl (fun _ => 0))), ((qb 13), .inl ((cb 13), 80, .inl (fun _ => 0))), ((qb 14), .inl ((cb 14), 40, .inl (fun _ => 0))), ((qb 15), .inl ((cb 15), 40, .inl (fun _ => 0))), ((qb 16), .inl ((cb 16), 40, .inl (fun _ => 0))), ((qb 17), .inl ((cb 17), 40, .inl (fun _ => 0))), ((qb 18), .inl ((cb 18), 40, .inl (fun _ => 0))), ((qb 19), .inl ((cb 19), 40, .inl (fun _ => 0))), ((qb 20), .inl ((cb 20), 60, .inl (fun _ => 0))), ((qb 21), .inl ((cb 21), 60, .inl (fun _ => 0))), ((qb 22), .inl ((cb 22), 130, .inl (fun _ => 0))), ((qb 23), .inl ((cb 23), 130, .inl (fun _ => 0))), ((qb 24), .inl ((cb 24), 130, .inl (fun _ => 0))), ((qb 25), .inl ((cb 25), 130, .inl (fun _ => 0))), ((qb 26), .inl ((cb 26), 5240, .inl (fun _ => 0))), ((qb 27), .inl ((cb 27), 5240, .inr (.inl (fun _ => 0)))), ((qb 28), .inl ((cb 28), 3, .inl (fun _ => 0))), ((qb 29), .inl ((cb 29), 3, .inr (.inl (fun _ => 0)))), ((qb 30), .inl ((cb 30), 16, .inl (fun _ => 0)))] := hD
        have hK : va_K (dC, dI) vwCl [((ca 0), .object "ReflectModels$ClassModel"), ((ca 1), .object "ReflectModels$Member"), ((ca 2), .object "ReflectModels$Handle"), ((ca 3), .object "ReflectModels$Thing"), ((ca 4), .object "ReflectModels$Value"), ((cb 0), .int), ((cb 1), .int), ((cb 2), .int), ((cb 3), .boolean), ((cb 4), .boolean), ((cb 5), .int), ((cb 6), .int), ((cb 7), .int), ((cb 8), .int), ((cb 9), .boolean), ((cb 10), .int), ((cb 11), .int), ((cb 12), .int), ((cb 13), .int), ((cb 14), .boolean), ((cb 15), .boolean), ((cb 16), .boolean), ((cb 17), .boolean), ((cb 18), .int), ((cb 19), .int), ((cb 20), .int), ((cb 21), .boolean), ((cb 22), .int), ((cb 23), .int), ((cb 24), .int), ((cb 25), .int), ((cb 26), .int), ((cb 27), .long), ((cb 28), .int), ((cb 29), .long), ((cb 30), .int)] s := hK
        refine W.cs (cells' := 43) (slots' := 12110) rfl rfl ?_
        refine lv_aload_n hx hb dL_law_950 rfl (lv_at hl 1 rfl) ?_
        refine lv_aload_n hx hb dL_law_951 rfl (lv_at hl 3 rfl) ?_
        refine lv_iload_n hx hb dL_law_952 rfl (lv_at hl 0 rfl) ?_
        refine lv_iconst (v := 1) hx hb dL_law_953 (by decide) ?_
        refine lv_iadd hx hb dL_law_954 ?_
        refine lv_topi (fun y158 ey158 => ?_)
        obtain rfl : y158 = 1 := ey158.trans (by decide)
        refine va_sld hx hb hX hbl hbA hS (vp_in_iff.mpr ⟨by decide, by decide⟩) dL_law_955 ?_
        refine W.eq (g2 := F0 m 956 ls [.int (xs 1), .ref q3, .int (an_constant (xs 1).toInt (xs 2).toInt)]) rfl ?_
        refine lv_aload_n hx hb dL_law_956 rfl (lv_at hl 3 rfl) ?_
        refine lv_iload_n hx hb dL_law_957 rfl (lv_at hl 0 rfl) ?_
        refine lv_iconst (v := 2) hx hb dL_law_958 (by decide) ?_
        refine lv_iadd hx hb dL_law_959 ?_
        refine lv_topi (fun y159 ey159 => ?_)
        obtain rfl : y159 = 2 := ey159.trans (by decide)
        refine va_sld hx hb hX hbl hbA hS (vp_in_iff.mpr ⟨by decide, by decide⟩) dL_law_960 ?_
        refine W.eq (g2 := F0 m 961 ls [.int (xs 2), .int (xs 1), .ref q3, .int (an_constant (xs 1).toInt (xs 2).toInt)]) rfl ?_
        refine clW (wr := []) [0, 1, 2, 3, 4, 5, 6, 7, 8, 9, 10, 11, 12, 13, 14, 15, 16, 17, 18, 19, 20, 21, 22, 23, 24, 25, 26, 27, 28, 29, 30, 31] [] (va_runV (As := [.int (xs 1), .int (xs 2)]) (rest := [.int (an_constant (xs 1).toInt (xs 2).toInt)]) ⟨hx, hb, hml, hown, hts⟩ (c9_constant l dC dI q3 qb cb (xs 1) (xs 2) _ ) (cwV 2 hts gL_law_X9_constant rfl rfl rfl (by decide +kernel) ⟨Nat.le_of_ble_eq_true rfl, Nat.le_of_ble_eq_true rfl⟩) ⟨pz_blind, va_recv hK hP (ci := 8) (q0 := 0) rfl rfl, pz_of hP hK hD hN [0, 1, 2, 3, 4, 5, 6, 7, 8, 9, 10, 11, 12, 13, 14, 15, 16, 17, 18, 19, 20, 21, 22, 23, 24, 25, 26, 27, 28, 29, 30, 31] [5, 6, 7, 8, 9, 10, 11, 12, 13, 14, 15, 16, 17, 18, 19, 20, 21, 22, 23, 24, 25, 26, 27, 28, 29, 30, 31, 32, 33, 34, 35] rfl (by decide) rfl⟩ rfl rfl hl.1 rfl (lv_room (Nat.le_of_ble_eq_true rfl)) dL_law_961 ⟨Nat.le_of_ble_eq_true rfl, Nat.le_of_ble_eq_true rfl⟩) hS hP hD hK hA rfl rfl (by decide) (by decide) (fun v w1 ty1 H locs w160 hP hD hK hS => ?_)
        obtain ⟨rfl, rfl, rfl⟩ := w160
        refine W.eq (g2 := F0 m 964 ls [.int (an_constant (xs 1).toInt (xs 2).toInt), .int (an_constant (xs 1).toInt (xs 2).toInt)]) rfl ?_
        have hP : va_P (dC, dI) vwCl [] H := hP
        have hD : va_D (fun q : Nat => s.heap.size ≤ q) [] := hD
        have hK : va_K (dC, dI) vwCl [((ca 0), .object "ReflectModels$ClassModel"), ((ca 1), .object "ReflectModels$Member"), ((ca 2), .object "ReflectModels$Handle"), ((ca 3), .object "ReflectModels$Thing"), ((ca 4), .object "ReflectModels$Value"), ((cb 0), .int), ((cb 1), .int), ((cb 2), .int), ((cb 3), .boolean), ((cb 4), .boolean), ((cb 5), .int), ((cb 6), .int), ((cb 7), .int), ((cb 8), .int), ((cb 9), .boolean), ((cb 10), .int), ((cb 11), .int), ((cb 12), .int), ((cb 13), .int), ((cb 14), .boolean), ((cb 15), .boolean), ((cb 16), .boolean), ((cb 17), .boolean), ((cb 18), .int), ((cb 19), .int), ((cb 20), .int), ((cb 21), .boolean), ((cb 22), .int), ((cb 23), .int), ((cb 24), .int), ((cb 25), .int), ((cb 26), .int), ((cb 27), .long), ((cb 28), .int), ((cb 29), .long), ((cb 30), .int)] s := hK
        refine W.cs (cells' := 43) (slots' := 12110) rfl rfl ?_
        refine lv_icmp_eq (tgt := 1154) hx hb dL_law_964 (by decide) (fun _ => ?_) (fun h => absurd rfl h)
        refine lv_iinc (v := 10) (lv' := [(3, .int 10), (2, .ref q3), (1, .ref q1), (0, .ref b)]) hx hb dL_law_1154 hl (k := 0) rfl (by decide) (by decide) rfl (fun ls hl => ?_)
        refine lv_goto (tgt := 18) hx hb dL_law_1157 (by decide) ?_
        refine lv_iload_n hx hb dL_law_18 rfl (lv_at hl 0 rfl) ?_
        refine lv_aload_n hx hb dL_law_19 rfl (lv_at hl 3 rfl) ?_
        refine va_slen hx hb hX hbl hbA hS dL_law_20 ?_
        refine W.eq (g2 := F0 m 21 ls [.int 10, .int 10]) rfl ?_
        refine lv_bipush (v := 10) hx hb dL_law_21 (by decide) ?_
        refine lv_isub hx hb dL_law_23 ?_
        refine lv_topi (fun y161 ey161 => ?_)
        obtain rfl : y161 = 0 := ey161.trans (by decide)
        refine lv_icmp_gt (tgt := 1160) hx hb dL_law_24 (by decide) (fun _ => ?_) (fun h => absurd (by decide) h)
        refine lv_iconst (v := 1) hx hb dL_law_1160 (by decide) ?_
        refine va_forget (fun z hz => hS.2.2 z hz) ?_
        refine W.widen (k := 600000) (n := 7302250) (by omega) (by omega) ?_
        exact lw_ret hx hb hr hlocks dL_law_1161
      · refine lv_tableIn (tgt := 969) (off := 936) hx hb dL_law_33 (by decide) (by decide) (by decide) (by decide) ?_
        refine lv_aload_n hx hb dL_law_969 rfl (lv_at hl 2 rfl) ?_
        refine lv_aload_n hx hb dL_law_970 rfl (lv_at hl 3 rfl) ?_
        refine lv_iload_n hx hb dL_law_971 rfl (lv_at hl 0 rfl) ?_
        refine lv_iconst (v := 1) hx hb dL_law_972 (by decide) ?_
        refine lv_iadd hx hb dL_law_973 ?_
        refine lv_topi (fun y162 ey162 => ?_)
        obtain rfl : y162 = 1 := ey162.trans (by decide)
        refine va_sld hx hb hX hbl hbA hS (vp_in_iff.mpr ⟨by decide, by decide⟩) dL_law_974 ?_
        refine W.eq (g2 := F0 m 975 ls [.int (xs 1), .ref q1]) rfl ?_
        refine clW (wr := [(q3, .inr (8, [.int 0, .int 1, .ref (qb 0), .ref (qb 1), .ref (qb 2), .ref (qb 3), .ref (qb 4), .ref (qb 5), .ref (qb 6), .ref (qb 7), .int 0, .ref (qb 8), .ref (qb 9), .ref (qb 10), .ref (qb 11), .ref (qb 12), .ref (qb 13), .ref (qb 14), .ref (qb 15), .ref (qb 16), .ref (qb 17), .ref (qb 18), .ref (qb 19), .int 0, .int 0, .ref (qb 20), .ref (qb 21), .int 0, .ref (qb 22), .ref (qb 23), .ref (qb 24), .ref (qb 25), .ref (qb 26), .ref (qb 27), .int 0, .ref (qb 28), .ref (qb 29), .int 0, .long 0, .int 0, .int 0, .ref (qb 30)])), ((qb 0), .inl ((cb 0), 16, .inl (upd (fun _ => 0) 0 (-1)))), ((qb 1), .inl ((cb 1), 16, .inl (fun _ => 0))), ((qb 2), .inl ((cb 2), 16, .inl (upd (fun _ => 0) 0 (-1)))), ((qb 3), .inl ((cb 3), 16, .inl (fun _ => 0))), ((qb 4), .inl ((cb 4), 16, .inl (fun _ => 0))), ((qb 5), .inl ((cb 5), 16, .inl (fun _ => 0))), ((qb 6), .inl ((cb 6), 16, .inl (fun _ => 0))), ((qb 7), .inl ((cb 7), 16, .inl (fun _ => 0))), ((qb 8), .inl ((cb 8), 40, .inl (fun _ => 0))), ((qb 9), .inl ((cb 9), 40, .inl (fun _ => 0))), ((qb 10), .inl ((cb 10), 40, .inl (fun _ => 0))), ((qb 11), .inl ((cb 11), 40, .inl (fun _ => 0))), ((qb 12), .inl ((cb 12), 40, .inl (fun _ => 0))), ((qb 13), .inl ((cb 13), 80, .inl (fun _ => 0))), ((qb 14), .inl ((cb 14), 40, .inl (fun _ => 0))), ((qb 15), .inl ((cb 15), 40, .inl (fun _ => 0))), ((qb 16), .inl ((cb 16), 40, .inl (fun _ => 0))), ((qb 17), .inl ((cb 17), 40, .inl (fun _ => 0))), ((qb 18), .inl ((cb 18), 40, .inl (fun _ => 0))), ((qb 19), .inl ((cb 19), 40, .inl (fun _ => 0))), ((qb 20), .inl ((cb 20), 60, .inl (fun _ => 0))), ((qb 21), .inl ((cb 21), 60, .inl (fun _ => 0))), ((qb 22), .inl ((cb 22), 130, .inl (fun _ => 0))), ((qb 23), .inl ((cb 23), 130, .inl (fun _ => 0))), ((qb 24), .inl ((cb 24), 130, .inl (fun _ => 0))), ((qb 25), .inl ((cb 25), 130, .inl (fun _ => 0))), ((qb 26), .inl ((cb 26), 5240, .inl (fun _ => 0))), ((qb 27), .inl ((cb 27), 5240, .inr (.inl (fun _ => 0)))), ((qb 28), .inl ((cb 28), 3, .inl (fun _ => 0))), ((qb 29), .inl ((cb 29), 3, .inr (.inl (fun _ => 0)))), ((qb 30), .inl ((cb 30), 16, .inl (fun _ => 0)))]) [0, 1, 2, 3, 4, 5, 6, 7, 8, 9, 10] [11, 12, 13, 14, 15, 16, 17, 18, 19, 20, 21, 22, 23, 24, 25, 26, 27, 28, 29, 30, 31, 32, 33, 34, 35, 36, 37, 38, 39, 40, 41, 42] (va_runV (As := [.int (xs 1)]) (rest := []) ⟨hx, hb, hml, hown, hts⟩ (c8_start l dC dI q1 qa ca (xs 1) _ ) (cwV 1 hts gL_law_X8_start rfl rfl rfl (by decide +kernel) ⟨Nat.le_of_ble_eq_true rfl, Nat.le_of_ble_eq_true rfl⟩) ⟨pz_blind, va_recv hK hP (ci := 7) (q0 := 0) rfl rfl, pz_of hP hK hD hN [0, 1, 2, 3, 4, 5, 6, 7, 8, 9, 10] [0, 1, 2, 3, 4] rfl (by decide) rfl⟩ rfl rfl hl.1 rfl (lv_room (Nat.le_of_ble_eq_true rfl)) dL_law_975 ⟨Nat.le_of_ble_eq_true rfl, Nat.le_of_ble_eq_true rfl⟩) hS hP hD hK hA rfl rfl (by decide) (by decide) (fun v w1 ty1 H locs w163 hP hD hK hS => ?_)
        obtain ⟨rfl, rfl, rfl⟩ := w163
        refine W.eq (g2 := F0 m 978 ls [.int (an_start (xs 1).toInt)]) rfl ?_
        have hP : va_P (dC, dI) vwCl [(q3, .inr (8, [.int 0, .int 1, .ref (qb 0), .ref (qb 1), .ref (qb 2), .ref (qb 3), .ref (qb 4), .ref (qb 5), .ref (qb 6), .ref (qb 7), .int 0, .ref (qb 8), .ref (qb 9), .ref (qb 10), .ref (qb 11), .ref (qb 12), .ref (qb 13), .ref (qb 14), .ref (qb 15), .ref (qb 16), .ref (qb 17), .ref (qb 18), .ref (qb 19), .int 0, .int 0, .ref (qb 20), .ref (qb 21), .int 0, .ref (qb 22), .ref (qb 23), .ref (qb 24), .ref (qb 25), .ref (qb 26), .ref (qb 27), .int 0, .ref (qb 28), .ref (qb 29), .int 0, .long 0, .int 0, .int 0, .ref (qb 30)])), ((qb 0), .inl ((cb 0), 16, .inl (upd (fun _ => 0) 0 (-1)))), ((qb 1), .inl ((cb 1), 16, .inl (fun _ => 0))), ((qb 2), .inl ((cb 2), 16, .inl (upd (fun _ => 0) 0 (-1)))), ((qb 3), .inl ((cb 3), 16, .inl (fun _ => 0))), ((qb 4), .inl ((cb 4), 16, .inl (fun _ => 0))), ((qb 5), .inl ((cb 5), 16, .inl (fun _ => 0))), ((qb 6), .inl ((cb 6), 16, .inl (fun _ => 0))), ((qb 7), .inl ((cb 7), 16, .inl (fun _ => 0))), ((qb 8), .inl ((cb 8), 40, .inl (fun _ => 0))), ((qb 9), .inl ((cb 9), 40, .inl (fun _ => 0))), ((qb 10), .inl ((cb 10), 40, .inl (fun _ => 0))), ((qb 11), .inl ((cb 11), 40, .inl (fun _ => 0))), ((qb 12), .inl ((cb 12), 40, .inl (fun _ => 0))), ((qb 13), .inl ((cb 13), 80, .inl (fun _ => 0))), ((qb 14), .inl ((cb 14), 40, .inl (fun _ => 0))), ((qb 15), .inl ((cb 15), 40, .inl (fun _ => 0))), ((qb 16), .inl ((cb 16), 40, .inl (fun _ => 0))), ((qb 17), .inl ((cb 17), 40, .inl (fun _ => 0))), ((qb 18), .inl ((cb 18), 40, .inl (fun _ => 0))), ((qb 19), .inl ((cb 19), 40, .inl (fun _ => 0))), ((qb 20), .inl ((cb 20), 60, .inl (fun _ => 0))), ((qb 21), .inl ((cb 21), 60, .inl (fun _ => 0))), ((qb 22), .inl ((cb 22), 130, .inl (fun _ => 0))), ((qb 23), .inl ((cb 23), 130, .inl (fun _ => 0))), ((qb 24), .inl ((cb 24), 130, .inl (fun _ => 0))), ((qb 25), .inl ((cb 25), 130, .inl (fun _ => 0))), ((qb 26), .inl ((cb 26), 5240, .inl (fun _ => 0))), ((qb 27), .inl ((cb 27), 5240, .inr (.inl (fun _ => 0)))), ((qb 28), .inl ((cb 28), 3, .inl (fun _ => 0))), ((qb 29), .inl ((cb 29), 3, .inr (.inl (fun _ => 0)))), ((qb 30), .inl ((cb 30), 16, .inl (fun _ => 0)))] H := hP
        have hD : va_D (fun q : Nat => s.heap.size ≤ q) [(q3, .inr (8, [.int 0, .int 1, .ref (qb 0), .ref (qb 1), .ref (qb 2), .ref (qb 3), .ref (qb 4), .ref (qb 5), .ref (qb 6), .ref (qb 7), .int 0, .ref (qb 8), .ref (qb 9), .ref (qb 10), .ref (qb 11), .ref (qb 12), .ref (qb 13), .ref (qb 14), .ref (qb 15), .ref (qb 16), .ref (qb 17), .ref (qb 18), .ref (qb 19), .int 0, .int 0, .ref (qb 20), .ref (qb 21), .int 0, .ref (qb 22), .ref (qb 23), .ref (qb 24), .ref (qb 25), .ref (qb 26), .ref (qb 27), .int 0, .ref (qb 28), .ref (qb 29), .int 0, .long 0, .int 0, .int 0, .ref (qb 30)])), ((qb 0), .inl ((cb 0), 16, .inl (upd (fun _ => 0) 0 (-1)))), ((qb 1), .inl ((cb 1), 16, .inl (fun _ => 0))), ((qb 2), .inl ((cb 2), 16, .inl (upd (fun _ => 0) 0 (-1)))), ((qb 3), .inl ((cb 3), 16, .inl (fun _ => 0))), ((qb 4), .inl ((cb 4), 16, .inl (fun _ => 0))), ((qb 5), .inl ((cb 5), 16, .inl (fun _ => 0))), ((qb 6), .inl ((cb 6), 16, .inl (fun _ => 0))), ((qb 7), .inl ((cb 7), 16, .inl (fun _ => 0))), ((qb 8), .inl ((cb 8), 40, .inl (fun _ => 0))), ((qb 9), .inl ((cb 9), 40, .inl (fun _ => 0))), ((qb 10), .inl ((cb 10), 40, .inl (fun _ => 0))), ((qb 11), .inl ((cb 11), 40, .inl (fun _ => 0))), ((qb 12), .inl ((cb 12), 40, .inl (fun _ => 0))), ((qb 13), .inl ((cb 13), 80, .inl (fun _ => 0))), ((qb 14), .inl ((cb 14), 40, .inl (fun _ => 0))), ((qb 15), .inl ((cb 15), 40, .inl (fun _ => 0))), ((qb 16), .inl ((cb 16), 40, .inl (fun _ => 0))), ((qb 17), .inl ((cb 17), 40, .inl (fun _ => 0))), ((qb 18), .inl ((cb 18), 40, .inl (fun _ => 0))), ((qb 19), .inl ((cb 19), 40, .inl (fun _ => 0))), ((qb 20), .inl ((cb 20), 60, .inl (fun _ => 0))), ((qb 21), .inl ((cb 21), 60, .inl (fun _ => 0))), ((qb 22), .inl ((cb 22), 130, .inl (fun _ => 0))), ((qb 23), .inl ((cb 23), 130, .inl (fun _ => 0))), ((qb 24), .inl ((cb 24), 130, .inl (fun _ => 0))), ((qb 25), .inl ((cb 25), 130, .inl (fun _ => 0))), ((qb 26), .inl ((cb 26), 5240, .inl (fun _ => 0))), ((qb 27), .inl ((cb 27), 5240, .inr (.inl (fun _ => 0)))), ((qb 28), .inl ((cb 28), 3, .inl (fun _ => 0))), ((qb 29), .inl ((cb 29), 3, .inr (.inl (fun _ => 0)))), ((qb 30), .inl ((cb 30), 16, .inl (fun _ => 0)))] := hD
        have hK : va_K (dC, dI) vwCl [((ca 0), .object "ReflectModels$ClassModel"), ((ca 1), .object "ReflectModels$Member"), ((ca 2), .object "ReflectModels$Handle"), ((ca 3), .object "ReflectModels$Thing"), ((ca 4), .object "ReflectModels$Value"), ((cb 0), .int), ((cb 1), .int), ((cb 2), .int), ((cb 3), .boolean), ((cb 4), .boolean), ((cb 5), .int), ((cb 6), .int), ((cb 7), .int), ((cb 8), .int), ((cb 9), .boolean), ((cb 10), .int), ((cb 11), .int), ((cb 12), .int), ((cb 13), .int), ((cb 14), .boolean), ((cb 15), .boolean), ((cb 16), .boolean), ((cb 17), .boolean), ((cb 18), .int), ((cb 19), .int), ((cb 20), .int), ((cb 21), .boolean), ((cb 22), .int), ((cb 23), .int), ((cb 24), .int), ((cb 25), .int), ((cb 26), .int), ((cb 27), .long), ((cb 28), .int), ((cb 29), .long), ((cb 30), .int)] s := hK
        refine W.cs (cells' := 43) (slots' := 12110) rfl rfl ?_
        refine lv_aload_n hx hb dL_law_978 rfl (lv_at hl 1 rfl) ?_
        refine lv_aload_n hx hb dL_law_979 rfl (lv_at hl 3 rfl) ?_
        refine lv_iload_n hx hb dL_law_980 rfl (lv_at hl 0 rfl) ?_
        refine lv_iconst (v := 1) hx hb dL_law_981 (by decide) ?_
        refine lv_iadd hx hb dL_law_982 ?_
        refine lv_topi (fun y164 ey164 => ?_)
        obtain rfl : y164 = 1 := ey164.trans (by decide)
        refine va_sld hx hb hX hbl hbA hS (vp_in_iff.mpr ⟨by decide, by decide⟩) dL_law_983 ?_
        refine W.eq (g2 := F0 m 984 ls [.int (xs 1), .ref q3, .int (an_start (xs 1).toInt)]) rfl ?_
        refine clW (wr := []) [0, 1, 2, 3, 4, 5, 6, 7, 8, 9, 10, 11, 12, 13, 14, 15, 16, 17, 18, 19, 20, 21, 22, 23, 24, 25, 26, 27, 28, 29, 30, 31] [] (va_runV (As := [.int (xs 1)]) (rest := [.int (an_start (xs 1).toInt)]) ⟨hx, hb, hml, hown, hts⟩ (c9_start l dC dI q3 qb cb (xs 1) _ ) (cwV 1 hts gL_law_X9_start rfl rfl rfl (by decide +kernel) ⟨Nat.le_of_ble_eq_true rfl, Nat.le_of_ble_eq_true rfl⟩) ⟨pz_blind, va_recv hK hP (ci := 8) (q0 := 0) rfl rfl, pz_of hP hK hD hN [0, 1, 2, 3, 4, 5, 6, 7, 8, 9, 10, 11, 12, 13, 14, 15, 16, 17, 18, 19, 20, 21, 22, 23, 24, 25, 26, 27, 28, 29, 30, 31] [5, 6, 7, 8, 9, 10, 11, 12, 13, 14, 15, 16, 17, 18, 19, 20, 21, 22, 23, 24, 25, 26, 27, 28, 29, 30, 31, 32, 33, 34, 35] rfl (by decide) rfl⟩ rfl rfl hl.1 rfl (lv_room (Nat.le_of_ble_eq_true rfl)) dL_law_984 ⟨Nat.le_of_ble_eq_true rfl, Nat.le_of_ble_eq_true rfl⟩) hS hP hD hK hA rfl rfl (by decide) (by decide) (fun v w1 ty1 H locs w165 hP hD hK hS => ?_)
        obtain ⟨rfl, rfl, rfl⟩ := w165
        refine W.eq (g2 := F0 m 987 ls [.int (an_start (xs 1).toInt), .int (an_start (xs 1).toInt)]) rfl ?_
        have hP : va_P (dC, dI) vwCl [] H := hP
        have hD : va_D (fun q : Nat => s.heap.size ≤ q) [] := hD
        have hK : va_K (dC, dI) vwCl [((ca 0), .object "ReflectModels$ClassModel"), ((ca 1), .object "ReflectModels$Member"), ((ca 2), .object "ReflectModels$Handle"), ((ca 3), .object "ReflectModels$Thing"), ((ca 4), .object "ReflectModels$Value"), ((cb 0), .int), ((cb 1), .int), ((cb 2), .int), ((cb 3), .boolean), ((cb 4), .boolean), ((cb 5), .int), ((cb 6), .int), ((cb 7), .int), ((cb 8), .int), ((cb 9), .boolean), ((cb 10), .int), ((cb 11), .int), ((cb 12), .int), ((cb 13), .int), ((cb 14), .boolean), ((cb 15), .boolean), ((cb 16), .boolean), ((cb 17), .boolean), ((cb 18), .int), ((cb 19), .int), ((cb 20), .int), ((cb 21), .boolean), ((cb 22), .int), ((cb 23), .int), ((cb 24), .int), ((cb 25), .int), ((cb 26), .int), ((cb 27), .long), ((cb 28), .int), ((cb 29), .long), ((cb 30), .int)] s := hK
        refine W.cs (cells' := 43) (slots' := 12110) rfl rfl ?_
        refine lv_icmp_eq (tgt := 1154) hx hb dL_law_987 (by decide) (fun _ => ?_) (fun h => absurd rfl h)
        refine lv_iinc (v := 10) (lv' := [(3, .int 10), (2, .ref q3), (1, .ref q1), (0, .ref b)]) hx hb dL_law_1154 hl (k := 0) rfl (by decide) (by decide) rfl (fun ls hl => ?_)
        refine lv_goto (tgt := 18) hx hb dL_law_1157 (by decide) ?_
        refine lv_iload_n hx hb dL_law_18 rfl (lv_at hl 0 rfl) ?_
        refine lv_aload_n hx hb dL_law_19 rfl (lv_at hl 3 rfl) ?_
        refine va_slen hx hb hX hbl hbA hS dL_law_20 ?_
        refine W.eq (g2 := F0 m 21 ls [.int 10, .int 10]) rfl ?_
        refine lv_bipush (v := 10) hx hb dL_law_21 (by decide) ?_
        refine lv_isub hx hb dL_law_23 ?_
        refine lv_topi (fun y166 ey166 => ?_)
        obtain rfl : y166 = 0 := ey166.trans (by decide)
        refine lv_icmp_gt (tgt := 1160) hx hb dL_law_24 (by decide) (fun _ => ?_) (fun h => absurd (by decide) h)
        refine lv_iconst (v := 1) hx hb dL_law_1160 (by decide) ?_
        refine va_forget (fun z hz => hS.2.2 z hz) ?_
        refine W.widen (k := 600000) (n := 7302250) (by omega) (by omega) ?_
        exact lw_ret hx hb hr hlocks dL_law_1161
      · refine lv_tableIn (tgt := 992) (off := 959) hx hb dL_law_33 (by decide) (by decide) (by decide) (by decide) ?_
        refine lv_aload_n hx hb dL_law_992 rfl (lv_at hl 2 rfl) ?_
        refine clW (wr := [(q3, .inr (8, [.int 0, .int 1, .ref (qb 0), .ref (qb 1), .ref (qb 2), .ref (qb 3), .ref (qb 4), .ref (qb 5), .ref (qb 6), .ref (qb 7), .int 0, .ref (qb 8), .ref (qb 9), .ref (qb 10), .ref (qb 11), .ref (qb 12), .ref (qb 13), .ref (qb 14), .ref (qb 15), .ref (qb 16), .ref (qb 17), .ref (qb 18), .ref (qb 19), .int 0, .int 0, .ref (qb 20), .ref (qb 21), .int 0, .ref (qb 22), .ref (qb 23), .ref (qb 24), .ref (qb 25), .ref (qb 26), .ref (qb 27), .int 0, .ref (qb 28), .ref (qb 29), .int 0, .long 0, .int 0, .int 0, .ref (qb 30)])), ((qb 0), .inl ((cb 0), 16, .inl (upd (fun _ => 0) 0 (-1)))), ((qb 1), .inl ((cb 1), 16, .inl (fun _ => 0))), ((qb 2), .inl ((cb 2), 16, .inl (upd (fun _ => 0) 0 (-1)))), ((qb 3), .inl ((cb 3), 16, .inl (fun _ => 0))), ((qb 4), .inl ((cb 4), 16, .inl (fun _ => 0))), ((qb 5), .inl ((cb 5), 16, .inl (fun _ => 0))), ((qb 6), .inl ((cb 6), 16, .inl (fun _ => 0))), ((qb 7), .inl ((cb 7), 16, .inl (fun _ => 0))), ((qb 8), .inl ((cb 8), 40, .inl (fun _ => 0))), ((qb 9), .inl ((cb 9), 40, .inl (fun _ => 0))), ((qb 10), .inl ((cb 10), 40, .inl (fun _ => 0))), ((qb 11), .inl ((cb 11), 40, .inl (fun _ => 0))), ((qb 12), .inl ((cb 12), 40, .inl (fun _ => 0))), ((qb 13), .inl ((cb 13), 80, .inl (fun _ => 0))), ((qb 14), .inl ((cb 14), 40, .inl (fun _ => 0))), ((qb 15), .inl ((cb 15), 40, .inl (fun _ => 0))), ((qb 16), .inl ((cb 16), 40, .inl (fun _ => 0))), ((qb 17), .inl ((cb 17), 40, .inl (fun _ => 0))), ((qb 18), .inl ((cb 18), 40, .inl (fun _ => 0))), ((qb 19), .inl ((cb 19), 40, .inl (fun _ => 0))), ((qb 20), .inl ((cb 20), 60, .inl (fun _ => 0))), ((qb 21), .inl ((cb 21), 60, .inl (fun _ => 0))), ((qb 22), .inl ((cb 22), 130, .inl (fun _ => 0))), ((qb 23), .inl ((cb 23), 130, .inl (fun _ => 0))), ((qb 24), .inl ((cb 24), 130, .inl (fun _ => 0))), ((qb 25), .inl ((cb 25), 130, .inl (fun _ => 0))), ((qb 26), .inl ((cb 26), 5240, .inl (fun _ => 0))), ((qb 27), .inl ((cb 27), 5240, .inr (.inl (fun _ => 0)))), ((qb 28), .inl ((cb 28), 3, .inl (fun _ => 0))), ((qb 29), .inl ((cb 29), 3, .inr (.inl (fun _ => 0)))), ((qb 30), .inl ((cb 30), 16, .inl (fun _ => 0)))]) [0, 1, 2, 3, 4, 5, 6, 7, 8, 9, 10] [11, 12, 13, 14, 15, 16, 17, 18, 19, 20, 21, 22, 23, 24, 25, 26, 27, 28, 29, 30, 31, 32, 33, 34, 35, 36, 37, 38, 39, 40, 41, 42] (va_runV (As := []) (rest := []) ⟨hx, hb, hml, hown, hts⟩ (c8_resultKind l dC dI q1 qa ca  _ ) (cwV 0 hts gL_law_X8_resultKind rfl rfl rfl (by decide +kernel) ⟨Nat.le_of_ble_eq_true rfl, Nat.le_of_ble_eq_true rfl⟩) ⟨pz_blind, va_recv hK hP (ci := 7) (q0 := 0) rfl rfl, pz_of hP hK hD hN [0, 1, 2, 3, 4, 5, 6, 7, 8, 9, 10] [0, 1, 2, 3, 4] rfl (by decide) rfl⟩ rfl rfl hl.1 rfl (lv_room (Nat.le_of_ble_eq_true rfl)) dL_law_993 ⟨Nat.le_of_ble_eq_true rfl, Nat.le_of_ble_eq_true rfl⟩) hS hP hD hK hA rfl rfl (by decide) (by decide) (fun v w1 ty1 H locs w167 hP hD hK hS => ?_)
        obtain ⟨rfl, rfl, rfl⟩ := w167
        refine W.eq (g2 := F0 m 996 ls [.int (an_resultKind)]) rfl ?_
        have hP : va_P (dC, dI) vwCl [(q3, .inr (8, [.int 0, .int 1, .ref (qb 0), .ref (qb 1), .ref (qb 2), .ref (qb 3), .ref (qb 4), .ref (qb 5), .ref (qb 6), .ref (qb 7), .int 0, .ref (qb 8), .ref (qb 9), .ref (qb 10), .ref (qb 11), .ref (qb 12), .ref (qb 13), .ref (qb 14), .ref (qb 15), .ref (qb 16), .ref (qb 17), .ref (qb 18), .ref (qb 19), .int 0, .int 0, .ref (qb 20), .ref (qb 21), .int 0, .ref (qb 22), .ref (qb 23), .ref (qb 24), .ref (qb 25), .ref (qb 26), .ref (qb 27), .int 0, .ref (qb 28), .ref (qb 29), .int 0, .long 0, .int 0, .int 0, .ref (qb 30)])), ((qb 0), .inl ((cb 0), 16, .inl (upd (fun _ => 0) 0 (-1)))), ((qb 1), .inl ((cb 1), 16, .inl (fun _ => 0))), ((qb 2), .inl ((cb 2), 16, .inl (upd (fun _ => 0) 0 (-1)))), ((qb 3), .inl ((cb 3), 16, .inl (fun _ => 0))), ((qb 4), .inl ((cb 4), 16, .inl (fun _ => 0))), ((qb 5), .inl ((cb 5), 16, .inl (fun _ => 0))), ((qb 6), .inl ((cb 6), 16, .inl (fun _ => 0))), ((qb 7), .inl ((cb 7), 16, .inl (fun _ => 0))), ((qb 8), .inl ((cb 8), 40, .inl (fun _ => 0))), ((qb 9), .inl ((cb 9), 40, .inl (fun _ => 0))), ((qb 10), .inl ((cb 10), 40, .inl (fun _ => 0))), ((qb 11), .inl ((cb 11), 40, .inl (fun _ => 0))), ((qb 12), .inl ((cb 12), 40, .inl (fun _ => 0))), ((qb 13), .inl ((cb 13), 80, .inl (fun _ => 0))), ((qb 14), .inl ((cb 14), 40, .inl (fun _ => 0))), ((qb 15), .inl ((cb 15), 40, .inl (fun _ => 0))), ((qb 16), .inl ((cb 16), 40, .inl (fun _ => 0))), ((qb 17), .inl ((cb 17), 40, .inl (fun _ => 0))), ((qb 18), .inl ((cb 18), 40, .inl (fun _ => 0))), ((qb 19), .inl ((cb 19), 40, .inl (fun _ => 0))), ((qb 20), .inl ((cb 20), 60, .inl (fun _ => 0))), ((qb 21), .inl ((cb 21), 60, .inl (fun _ => 0))), ((qb 22), .inl ((cb 22), 130, .inl (fun _ => 0))), ((qb 23), .inl ((cb 23), 130, .inl (fun _ => 0))), ((qb 24), .inl ((cb 24), 130, .inl (fun _ => 0))), ((qb 25), .inl ((cb 25), 130, .inl (fun _ => 0))), ((qb 26), .inl ((cb 26), 5240, .inl (fun _ => 0))), ((qb 27), .inl ((cb 27), 5240, .inr (.inl (fun _ => 0)))), ((qb 28), .inl ((cb 28), 3, .inl (fun _ => 0))), ((qb 29), .inl ((cb 29), 3, .inr (.inl (fun _ => 0)))), ((qb 30), .inl ((cb 30), 16, .inl (fun _ => 0)))] H := hP
        have hD : va_D (fun q : Nat => s.heap.size ≤ q) [(q3, .inr (8, [.int 0, .int 1, .ref (qb 0), .ref (qb 1), .ref (qb 2), .ref (qb 3), .ref (qb 4), .ref (qb 5), .ref (qb 6), .ref (qb 7), .int 0, .ref (qb 8), .ref (qb 9), .ref (qb 10), .ref (qb 11), .ref (qb 12), .ref (qb 13), .ref (qb 14), .ref (qb 15), .ref (qb 16), .ref (qb 17), .ref (qb 18), .ref (qb 19), .int 0, .int 0, .ref (qb 20), .ref (qb 21), .int 0, .ref (qb 22), .ref (qb 23), .ref (qb 24), .ref (qb 25), .ref (qb 26), .ref (qb 27), .int 0, .ref (qb 28), .ref (qb 29), .int 0, .long 0, .int 0, .int 0, .ref (qb 30)])), ((qb 0), .inl ((cb 0), 16, .inl (upd (fun _ => 0) 0 (-1)))), ((qb 1), .inl ((cb 1), 16, .inl (fun _ => 0))), ((qb 2), .inl ((cb 2), 16, .inl (upd (fun _ => 0) 0 (-1)))), ((qb 3), .inl ((cb 3), 16, .inl (fun _ => 0))), ((qb 4), .inl ((cb 4), 16, .inl (fun _ => 0))), ((qb 5), .inl ((cb 5), 16, .inl (fun _ => 0))), ((qb 6), .inl ((cb 6), 16, .inl (fun _ => 0))), ((qb 7), .inl ((cb 7), 16, .inl (fun _ => 0))), ((qb 8), .inl ((cb 8), 40, .inl (fun _ => 0))), ((qb 9), .inl ((cb 9), 40, .inl (fun _ => 0))), ((qb 10), .inl ((cb 10), 40, .inl (fun _ => 0))), ((qb 11), .inl ((cb 11), 40, .inl (fun _ => 0))), ((qb 12), .inl ((cb 12), 40, .inl (fun _ => 0))), ((qb 13), .inl ((cb 13), 80, .inl (fun _ => 0))), ((qb 14), .inl ((cb 14), 40, .inl (fun _ => 0))), ((qb 15), .inl ((cb 15), 40, .inl (fun _ => 0))), ((qb 16), .inl ((cb 16), 40, .inl (fun _ => 0))), ((qb 17), .inl ((cb 17), 40, .inl (fun _ => 0))), ((qb 18), .inl ((cb 18), 40, .inl (fun _ => 0))), ((qb 19), .inl ((cb 19), 40, .inl (fun _ => 0))), ((qb 20), .inl ((cb 20), 60, .inl (fun _ => 0))), ((qb 21), .inl ((cb 21), 60, .inl (fun _ => 0))), ((qb 22), .inl ((cb 22), 130, .inl (fun _ => 0))), ((qb 23), .inl ((cb 23), 130, .inl (fun _ => 0))), ((qb 24), .inl ((cb 24), 130, .inl (fun _ => 0))), ((qb 25), .inl ((cb 25), 130, .inl (fun _ => 0))), ((qb 26), .inl ((cb 26), 5240, .inl (fun _ => 0))), ((qb 27), .inl ((cb 27), 5240, .inr (.inl (fun _ => 0)))), ((qb 28), .inl ((cb 28), 3, .inl (fun _ => 0))), ((qb 29), .inl ((cb 29), 3, .inr (.inl (fun _ => 0)))), ((qb 30), .inl ((cb 30), 16, .inl (fun _ => 0)))] := hD
        have hK : va_K (dC, dI) vwCl [((ca 0), .object "ReflectModels$ClassModel"), ((ca 1), .object "ReflectModels$Member"), ((ca 2), .object "ReflectModels$Handle"), ((ca 3), .object "ReflectModels$Thing"), ((ca 4), .object "ReflectModels$Value"), ((cb 0), .int), ((cb 1), .int), ((cb 2), .int), ((cb 3), .boolean), ((cb 4), .boolean), ((cb 5), .int), ((cb 6), .int), ((cb 7), .int), ((cb 8), .int), ((cb 9), .boolean), ((cb 10), .int), ((cb 11), .int), ((cb 12), .int), ((cb 13), .int), ((cb 14), .boolean), ((cb 15), .boolean), ((cb 16), .boolean), ((cb 17), .boolean), ((cb 18), .int), ((cb 19), .int), ((cb 20), .int), ((cb 21), .boolean), ((cb 22), .int), ((cb 23), .int), ((cb 24), .int), ((cb 25), .int), ((cb 26), .int), ((cb 27), .long), ((cb 28), .int), ((cb 29), .long), ((cb 30), .int)] s := hK
        refine W.cs (cells' := 43) (slots' := 12110) rfl rfl ?_
        refine lv_aload_n hx hb dL_law_996 rfl (lv_at hl 1 rfl) ?_
        refine clW (wr := []) [0, 1, 2, 3, 4, 5, 6, 7, 8, 9, 10, 11, 12, 13, 14, 15, 16, 17, 18, 19, 20, 21, 22, 23, 24, 25, 26, 27, 28, 29, 30, 31] [] (va_runV (As := []) (rest := [.int (an_resultKind)]) ⟨hx, hb, hml, hown, hts⟩ (c9_resultKind l dC dI q3 qb cb  _ ) (cwV 0 hts gL_law_X9_resultKind rfl rfl rfl (by decide +kernel) ⟨Nat.le_of_ble_eq_true rfl, Nat.le_of_ble_eq_true rfl⟩) ⟨pz_blind, va_recv hK hP (ci := 8) (q0 := 0) rfl rfl, pz_of hP hK hD hN [0, 1, 2, 3, 4, 5, 6, 7, 8, 9, 10, 11, 12, 13, 14, 15, 16, 17, 18, 19, 20, 21, 22, 23, 24, 25, 26, 27, 28, 29, 30, 31] [5, 6, 7, 8, 9, 10, 11, 12, 13, 14, 15, 16, 17, 18, 19, 20, 21, 22, 23, 24, 25, 26, 27, 28, 29, 30, 31, 32, 33, 34, 35] rfl (by decide) rfl⟩ rfl rfl hl.1 rfl (lv_room (Nat.le_of_ble_eq_true rfl)) dL_law_997 ⟨Nat.le_of_ble_eq_true rfl, Nat.le_of_ble_eq_true rfl⟩) hS hP hD hK hA rfl rfl (by decide) (by decide) (fun v w1 ty1 H locs w168 hP hD hK hS => ?_)
        obtain ⟨rfl, rfl, rfl⟩ := w168
        refine W.eq (g2 := F0 m 1000 ls [.int (an_resultKind), .int (an_resultKind)]) rfl ?_
        have hP : va_P (dC, dI) vwCl [] H := hP
        have hD : va_D (fun q : Nat => s.heap.size ≤ q) [] := hD
        have hK : va_K (dC, dI) vwCl [((ca 0), .object "ReflectModels$ClassModel"), ((ca 1), .object "ReflectModels$Member"), ((ca 2), .object "ReflectModels$Handle"), ((ca 3), .object "ReflectModels$Thing"), ((ca 4), .object "ReflectModels$Value"), ((cb 0), .int), ((cb 1), .int), ((cb 2), .int), ((cb 3), .boolean), ((cb 4), .boolean), ((cb 5), .int), ((cb 6), .int), ((cb 7), .int), ((cb 8), .int), ((cb 9), .boolean), ((cb 10), .int), ((cb 11), .int), ((cb 12), .int), ((cb 13), .int), ((cb 14), .boolean), ((cb 15), .boolean), ((cb 16), .boolean), ((cb 17), .boolean), ((cb 18), .int), ((cb 19), .int), ((cb 20), .int), ((cb 21), .boolean), ((cb 22), .int), ((cb 23), .int), ((cb 24), .int), ((cb 25), .int), ((cb 26), .int), ((cb 27), .long), ((cb 28), .int), ((cb 29), .long), ((cb 30), .int)] s := hK
        refine W.cs (cells' := 43) (slots' := 12110) rfl rfl ?_
        refine lv_icmp_eq (tgt := 1154) hx hb dL_law_1000 (by decide) (fun _ => ?_) (fun h => absurd rfl h)
        refine lv_iinc (v := 10) (lv' := [(3, .int 10), (2, .ref q3), (1, .ref q1), (0, .ref b)]) hx hb dL_law_1154 hl (k := 0) rfl (by decide) (by decide) rfl (fun ls hl => ?_)
        refine lv_goto (tgt := 18) hx hb dL_law_1157 (by decide) ?_
        refine lv_iload_n hx hb dL_law_18 rfl (lv_at hl 0 rfl) ?_
        refine lv_aload_n hx hb dL_law_19 rfl (lv_at hl 3 rfl) ?_
        refine va_slen hx hb hX hbl hbA hS dL_law_20 ?_
        refine W.eq (g2 := F0 m 21 ls [.int 10, .int 10]) rfl ?_
        refine lv_bipush (v := 10) hx hb dL_law_21 (by decide) ?_
        refine lv_isub hx hb dL_law_23 ?_
        refine lv_topi (fun y169 ey169 => ?_)
        obtain rfl : y169 = 0 := ey169.trans (by decide)
        refine lv_icmp_gt (tgt := 1160) hx hb dL_law_24 (by decide) (fun _ => ?_) (fun h => absurd (by decide) h)
        refine lv_iconst (v := 1) hx hb dL_law_1160 (by decide) ?_
        refine va_forget (fun z hz => hS.2.2 z hz) ?_
        refine W.widen (k := 600000) (n := 7302250) (by omega) (by omega) ?_
        exact lw_ret hx hb hr hlocks dL_law_1161
      · refine lv_tableIn (tgt := 1005) (off := 972) hx hb dL_law_33 (by decide) (by decide) (by decide) (by decide) ?_
        refine lv_aload_n hx hb dL_law_1005 rfl (lv_at hl 2 rfl) ?_
        refine clW (wr := [(q3, .inr (8, [.int 0, .int 1, .ref (qb 0), .ref (qb 1), .ref (qb 2), .ref (qb 3), .ref (qb 4), .ref (qb 5), .ref (qb 6), .ref (qb 7), .int 0, .ref (qb 8), .ref (qb 9), .ref (qb 10), .ref (qb 11), .ref (qb 12), .ref (qb 13), .ref (qb 14), .ref (qb 15), .ref (qb 16), .ref (qb 17), .ref (qb 18), .ref (qb 19), .int 0, .int 0, .ref (qb 20), .ref (qb 21), .int 0, .ref (qb 22), .ref (qb 23), .ref (qb 24), .ref (qb 25), .ref (qb 26), .ref (qb 27), .int 0, .ref (qb 28), .ref (qb 29), .int 0, .long 0, .int 0, .int 0, .ref (qb 30)])), ((qb 0), .inl ((cb 0), 16, .inl (upd (fun _ => 0) 0 (-1)))), ((qb 1), .inl ((cb 1), 16, .inl (fun _ => 0))), ((qb 2), .inl ((cb 2), 16, .inl (upd (fun _ => 0) 0 (-1)))), ((qb 3), .inl ((cb 3), 16, .inl (fun _ => 0))), ((qb 4), .inl ((cb 4), 16, .inl (fun _ => 0))), ((qb 5), .inl ((cb 5), 16, .inl (fun _ => 0))), ((qb 6), .inl ((cb 6), 16, .inl (fun _ => 0))), ((qb 7), .inl ((cb 7), 16, .inl (fun _ => 0))), ((qb 8), .inl ((cb 8), 40, .inl (fun _ => 0))), ((qb 9), .inl ((cb 9), 40, .inl (fun _ => 0))), ((qb 10), .inl ((cb 10), 40, .inl (fun _ => 0))), ((qb 11), .inl ((cb 11), 40, .inl (fun _ => 0))), ((qb 12), .inl ((cb 12), 40, .inl (fun _ => 0))), ((qb 13), .inl ((cb 13), 80, .inl (fun _ => 0))), ((qb 14), .inl ((cb 14), 40, .inl (fun _ => 0))), ((qb 15), .inl ((cb 15), 40, .inl (fun _ => 0))), ((qb 16), .inl ((cb 16), 40, .inl (fun _ => 0))), ((qb 17), .inl ((cb 17), 40, .inl (fun _ => 0))), ((qb 18), .inl ((cb 18), 40, .inl (fun _ => 0))), ((qb 19), .inl ((cb 19), 40, .inl (fun _ => 0))), ((qb 20), .inl ((cb 20), 60, .inl (fun _ => 0))), ((qb 21), .inl ((cb 21), 60, .inl (fun _ => 0))), ((qb 22), .inl ((cb 22), 130, .inl (fun _ => 0))), ((qb 23), .inl ((cb 23), 130, .inl (fun _ => 0))), ((qb 24), .inl ((cb 24), 130, .inl (fun _ => 0))), ((qb 25), .inl ((cb 25), 130, .inl (fun _ => 0))), ((qb 26), .inl ((cb 26), 5240, .inl (fun _ => 0))), ((qb 27), .inl ((cb 27), 5240, .inr (.inl (fun _ => 0)))), ((qb 28), .inl ((cb 28), 3, .inl (fun _ => 0))), ((qb 29), .inl ((cb 29), 3, .inr (.inl (fun _ => 0)))), ((qb 30), .inl ((cb 30), 16, .inl (fun _ => 0)))]) [0, 1, 2, 3, 4, 5, 6, 7, 8, 9, 10] [11, 12, 13, 14, 15, 16, 17, 18, 19, 20, 21, 22, 23, 24, 25, 26, 27, 28, 29, 30, 31, 32, 33, 34, 35, 36, 37, 38, 39, 40, 41, 42] (va_runV (As := []) (rest := []) ⟨hx, hb, hml, hown, hts⟩ (c8_result l dC dI q1 qa ca  _ ) (cwV 0 hts gL_law_X8_result rfl rfl rfl (by decide +kernel) ⟨Nat.le_of_ble_eq_true rfl, Nat.le_of_ble_eq_true rfl⟩) ⟨pz_blind, va_recv hK hP (ci := 7) (q0 := 0) rfl rfl, pz_of hP hK hD hN [0, 1, 2, 3, 4, 5, 6, 7, 8, 9, 10] [0, 1, 2, 3, 4] rfl (by decide) rfl⟩ rfl rfl hl.1 rfl (lv_room (Nat.le_of_ble_eq_true rfl)) dL_law_1006 ⟨Nat.le_of_ble_eq_true rfl, Nat.le_of_ble_eq_true rfl⟩) hS hP hD hK hA rfl rfl (by decide) (by decide) (fun v w1 ty1 H locs w170 hP hD hK hS => ?_)
        obtain ⟨rfl, rfl, rfl⟩ := w170
        refine W.eq (g2 := F0 m 1009 ls [.long (an_result)]) rfl ?_
        have hP : va_P (dC, dI) vwCl [(q3, .inr (8, [.int 0, .int 1, .ref (qb 0), .ref (qb 1), .ref (qb 2), .ref (qb 3), .ref (qb 4), .ref (qb 5), .ref (qb 6), .ref (qb 7), .int 0, .ref (qb 8), .ref (qb 9), .ref (qb 10), .ref (qb 11), .ref (qb 12), .ref (qb 13), .ref (qb 14), .ref (qb 15), .ref (qb 16), .ref (qb 17), .ref (qb 18), .ref (qb 19), .int 0, .int 0, .ref (qb 20), .ref (qb 21), .int 0, .ref (qb 22), .ref (qb 23), .ref (qb 24), .ref (qb 25), .ref (qb 26), .ref (qb 27), .int 0, .ref (qb 28), .ref (qb 29), .int 0, .long 0, .int 0, .int 0, .ref (qb 30)])), ((qb 0), .inl ((cb 0), 16, .inl (upd (fun _ => 0) 0 (-1)))), ((qb 1), .inl ((cb 1), 16, .inl (fun _ => 0))), ((qb 2), .inl ((cb 2), 16, .inl (upd (fun _ => 0) 0 (-1)))), ((qb 3), .inl ((cb 3), 16, .inl (fun _ => 0))), ((qb 4), .inl ((cb 4), 16, .inl (fun _ => 0))), ((qb 5), .inl ((cb 5), 16, .inl (fun _ => 0))), ((qb 6), .inl ((cb 6), 16, .inl (fun _ => 0))), ((qb 7), .inl ((cb 7), 16, .inl (fun _ => 0))), ((qb 8), .inl ((cb 8), 40, .inl (fun _ => 0))), ((qb 9), .inl ((cb 9), 40, .inl (fun _ => 0))), ((qb 10), .inl ((cb 10), 40, .inl (fun _ => 0))), ((qb 11), .inl ((cb 11), 40, .inl (fun _ => 0))), ((qb 12), .inl ((cb 12), 40, .inl (fun _ => 0))), ((qb 13), .inl ((cb 13), 80, .inl (fun _ => 0))), ((qb 14), .inl ((cb 14), 40, .inl (fun _ => 0))), ((qb 15), .inl ((cb 15), 40, .inl (fun _ => 0))), ((qb 16), .inl ((cb 16), 40, .inl (fun _ => 0))), ((qb 17), .inl ((cb 17), 40, .inl (fun _ => 0))), ((qb 18), .inl ((cb 18), 40, .inl (fun _ => 0))), ((qb 19), .inl ((cb 19), 40, .inl (fun _ => 0))), ((qb 20), .inl ((cb 20), 60, .inl (fun _ => 0))), ((qb 21), .inl ((cb 21), 60, .inl (fun _ => 0))), ((qb 22), .inl ((cb 22), 130, .inl (fun _ => 0))), ((qb 23), .inl ((cb 23), 130, .inl (fun _ => 0))), ((qb 24), .inl ((cb 24), 130, .inl (fun _ => 0))), ((qb 25), .inl ((cb 25), 130, .inl (fun _ => 0))), ((qb 26), .inl ((cb 26), 5240, .inl (fun _ => 0))), ((qb 27), .inl ((cb 27), 5240, .inr (.inl (fun _ => 0)))), ((qb 28), .inl ((cb 28), 3, .inl (fun _ => 0))), ((qb 29), .inl ((cb 29), 3, .inr (.inl (fun _ => 0)))), ((qb 30), .inl ((cb 30), 16, .inl (fun _ => 0)))] H := hP
        have hD : va_D (fun q : Nat => s.heap.size ≤ q) [(q3, .inr (8, [.int 0, .int 1, .ref (qb 0), .ref (qb 1), .ref (qb 2), .ref (qb 3), .ref (qb 4), .ref (qb 5), .ref (qb 6), .ref (qb 7), .int 0, .ref (qb 8), .ref (qb 9), .ref (qb 10), .ref (qb 11), .ref (qb 12), .ref (qb 13), .ref (qb 14), .ref (qb 15), .ref (qb 16), .ref (qb 17), .ref (qb 18), .ref (qb 19), .int 0, .int 0, .ref (qb 20), .ref (qb 21), .int 0, .ref (qb 22), .ref (qb 23), .ref (qb 24), .ref (qb 25), .ref (qb 26), .ref (qb 27), .int 0, .ref (qb 28), .ref (qb 29), .int 0, .long 0, .int 0, .int 0, .ref (qb 30)])), ((qb 0), .inl ((cb 0), 16, .inl (upd (fun _ => 0) 0 (-1)))), ((qb 1), .inl ((cb 1), 16, .inl (fun _ => 0))), ((qb 2), .inl ((cb 2), 16, .inl (upd (fun _ => 0) 0 (-1)))), ((qb 3), .inl ((cb 3), 16, .inl (fun _ => 0))), ((qb 4), .inl ((cb 4), 16, .inl (fun _ => 0))), ((qb 5), .inl ((cb 5), 16, .inl (fun _ => 0))), ((qb 6), .inl ((cb 6), 16, .inl (fun _ => 0))), ((qb 7), .inl ((cb 7), 16, .inl (fun _ => 0))), ((qb 8), .inl ((cb 8), 40, .inl (fun _ => 0))), ((qb 9), .inl ((cb 9), 40, .inl (fun _ => 0))), ((qb 10), .inl ((cb 10), 40, .inl (fun _ => 0))), ((qb 11), .inl ((cb 11), 40, .inl (fun _ => 0))), ((qb 12), .inl ((cb 12), 40, .inl (fun _ => 0))), ((qb 13), .inl ((cb 13), 80, .inl (fun _ => 0))), ((qb 14), .inl ((cb 14), 40, .inl (fun _ => 0))), ((qb 15), .inl ((cb 15), 40, .inl (fun _ => 0))), ((qb 16), .inl ((cb 16), 40, .inl (fun _ => 0))), ((qb 17), .inl ((cb 17), 40, .inl (fun _ => 0))), ((qb 18), .inl ((cb 18), 40, .inl (fun _ => 0))), ((qb 19), .inl ((cb 19), 40, .inl (fun _ => 0))), ((qb 20), .inl ((cb 20), 60, .inl (fun _ => 0))), ((qb 21), .inl ((cb 21), 60, .inl (fun _ => 0))), ((qb 22), .inl ((cb 22), 130, .inl (fun _ => 0))), ((qb 23), .inl ((cb 23), 130, .inl (fun _ => 0))), ((qb 24), .inl ((cb 24), 130, .inl (fun _ => 0))), ((qb 25), .inl ((cb 25), 130, .inl (fun _ => 0))), ((qb 26), .inl ((cb 26), 5240, .inl (fun _ => 0))), ((qb 27), .inl ((cb 27), 5240, .inr (.inl (fun _ => 0)))), ((qb 28), .inl ((cb 28), 3, .inl (fun _ => 0))), ((qb 29), .inl ((cb 29), 3, .inr (.inl (fun _ => 0)))), ((qb 30), .inl ((cb 30), 16, .inl (fun _ => 0)))] := hD
        have hK : va_K (dC, dI) vwCl [((ca 0), .object "ReflectModels$ClassModel"), ((ca 1), .object "ReflectModels$Member"), ((ca 2), .object "ReflectModels$Handle"), ((ca 3), .object "ReflectModels$Thing"), ((ca 4), .object "ReflectModels$Value"), ((cb 0), .int), ((cb 1), .int), ((cb 2), .int), ((cb 3), .boolean), ((cb 4), .boolean), ((cb 5), .int), ((cb 6), .int), ((cb 7), .int), ((cb 8), .int), ((cb 9), .boolean), ((cb 10), .int), ((cb 11), .int), ((cb 12), .int), ((cb 13), .int), ((cb 14), .boolean), ((cb 15), .boolean), ((cb 16), .boolean), ((cb 17), .boolean), ((cb 18), .int), ((cb 19), .int), ((cb 20), .int), ((cb 21), .boolean), ((cb 22), .int), ((cb 23), .int), ((cb 24), .int), ((cb 25), .int), ((cb 26), .int), ((cb 27), .long), ((cb 28), .int), ((cb 29), .long), ((cb 30), .int)] s := hK
        refine W.cs (cells' := 43) (slots' := 12110) rfl rfl ?_
        refine lv_aload_n hx hb dL_law_1009 rfl (lv_at hl 1 rfl) ?_
        refine clW (wr := []) [0, 1, 2, 3, 4, 5, 6, 7, 8, 9, 10, 11, 12, 13, 14, 15, 16, 17, 18, 19, 20, 21, 22, 23, 24, 25, 26, 27, 28, 29, 30, 31] [] (va_runV (As := []) (rest := [.long (an_result)]) ⟨hx, hb, hml, hown, hts⟩ (c9_result l dC dI q3 qb cb  _ ) (cwV 0 hts gL_law_X9_result rfl rfl rfl (by decide +kernel) ⟨Nat.le_of_ble_eq_true rfl, Nat.le_of_ble_eq_true rfl⟩) ⟨pz_blind, va_recv hK hP (ci := 8) (q0 := 0) rfl rfl, pz_of hP hK hD hN [0, 1, 2, 3, 4, 5, 6, 7, 8, 9, 10, 11, 12, 13, 14, 15, 16, 17, 18, 19, 20, 21, 22, 23, 24, 25, 26, 27, 28, 29, 30, 31] [5, 6, 7, 8, 9, 10, 11, 12, 13, 14, 15, 16, 17, 18, 19, 20, 21, 22, 23, 24, 25, 26, 27, 28, 29, 30, 31, 32, 33, 34, 35] rfl (by decide) rfl⟩ rfl rfl hl.1 rfl (lv_room (Nat.le_of_ble_eq_true rfl)) dL_law_1010 ⟨Nat.le_of_ble_eq_true rfl, Nat.le_of_ble_eq_true rfl⟩) hS hP hD hK hA rfl rfl (by decide) (by decide) (fun v w1 ty1 H locs w171 hP hD hK hS => ?_)
        obtain ⟨rfl, rfl, rfl⟩ := w171
        refine W.eq (g2 := F0 m 1013 ls [.long (an_result), .long (an_result)]) rfl ?_
        have hP : va_P (dC, dI) vwCl [] H := hP
        have hD : va_D (fun q : Nat => s.heap.size ≤ q) [] := hD
        have hK : va_K (dC, dI) vwCl [((ca 0), .object "ReflectModels$ClassModel"), ((ca 1), .object "ReflectModels$Member"), ((ca 2), .object "ReflectModels$Handle"), ((ca 3), .object "ReflectModels$Thing"), ((ca 4), .object "ReflectModels$Value"), ((cb 0), .int), ((cb 1), .int), ((cb 2), .int), ((cb 3), .boolean), ((cb 4), .boolean), ((cb 5), .int), ((cb 6), .int), ((cb 7), .int), ((cb 8), .int), ((cb 9), .boolean), ((cb 10), .int), ((cb 11), .int), ((cb 12), .int), ((cb 13), .int), ((cb 14), .boolean), ((cb 15), .boolean), ((cb 16), .boolean), ((cb 17), .boolean), ((cb 18), .int), ((cb 19), .int), ((cb 20), .int), ((cb 21), .boolean), ((cb 22), .int), ((cb 23), .int), ((cb 24), .int), ((cb 25), .int), ((cb 26), .int), ((cb 27), .long), ((cb 28), .int), ((cb 29), .long), ((cb 30), .int)] s := hK
        refine W.cs (cells' := 43) (slots' := 12110) rfl rfl ?_
        refine W.lcmp hx hb dL_law_1013 ?_
        refine lv_if_eq (tgt := 1154) hx hb dL_law_1014 (by decide) (fun _ => ?_) (fun h => absurd ((lg_cmp_eq _ _).mpr rfl) h)
        refine lv_iinc (v := 10) (lv' := [(3, .int 10), (2, .ref q3), (1, .ref q1), (0, .ref b)]) hx hb dL_law_1154 hl (k := 0) rfl (by decide) (by decide) rfl (fun ls hl => ?_)
        refine lv_goto (tgt := 18) hx hb dL_law_1157 (by decide) ?_
        refine lv_iload_n hx hb dL_law_18 rfl (lv_at hl 0 rfl) ?_
        refine lv_aload_n hx hb dL_law_19 rfl (lv_at hl 3 rfl) ?_
        refine va_slen hx hb hX hbl hbA hS dL_law_20 ?_
        refine W.eq (g2 := F0 m 21 ls [.int 10, .int 10]) rfl ?_
        refine lv_bipush (v := 10) hx hb dL_law_21 (by decide) ?_
        refine lv_isub hx hb dL_law_23 ?_
        refine lv_topi (fun y172 ey172 => ?_)
        obtain rfl : y172 = 0 := ey172.trans (by decide)
        refine lv_icmp_gt (tgt := 1160) hx hb dL_law_24 (by decide) (fun _ => ?_) (fun h => absurd (by decide) h)
        refine lv_iconst (v := 1) hx hb dL_law_1160 (by decide) ?_
        refine va_forget (fun z hz => hS.2.2 z hz) ?_
        refine W.widen (k := 600000) (n := 7302250) (by omega) (by omega) ?_
        exact lw_ret hx hb hr hlocks dL_law_1161
      · refine lv_tableIn (tgt := 1019) (off := 986) hx hb dL_law_33 (by decide) (by decide) (by decide) (by decide) ?_
        refine lv_aload_n hx hb dL_law_1019 rfl (lv_at hl 2 rfl) ?_
        refine clW (wr := [(q3, .inr (8, [.int 0, .int 1, .ref (qb 0), .ref (qb 1), .ref (qb 2), .ref (qb 3), .ref (qb 4), .ref (qb 5), .ref (qb 6), .ref (qb 7), .int 0, .ref (qb 8), .ref (qb 9), .ref (qb 10), .ref (qb 11), .ref (qb 12), .ref (qb 13), .ref (qb 14), .ref (qb 15), .ref (qb 16), .ref (qb 17), .ref (qb 18), .ref (qb 19), .int 0, .int 0, .ref (qb 20), .ref (qb 21), .int 0, .ref (qb 22), .ref (qb 23), .ref (qb 24), .ref (qb 25), .ref (qb 26), .ref (qb 27), .int 0, .ref (qb 28), .ref (qb 29), .int 0, .long 0, .int 0, .int 0, .ref (qb 30)])), ((qb 0), .inl ((cb 0), 16, .inl (upd (fun _ => 0) 0 (-1)))), ((qb 1), .inl ((cb 1), 16, .inl (fun _ => 0))), ((qb 2), .inl ((cb 2), 16, .inl (upd (fun _ => 0) 0 (-1)))), ((qb 3), .inl ((cb 3), 16, .inl (fun _ => 0))), ((qb 4), .inl ((cb 4), 16, .inl (fun _ => 0))), ((qb 5), .inl ((cb 5), 16, .inl (fun _ => 0))), ((qb 6), .inl ((cb 6), 16, .inl (fun _ => 0))), ((qb 7), .inl ((cb 7), 16, .inl (fun _ => 0))), ((qb 8), .inl ((cb 8), 40, .inl (fun _ => 0))), ((qb 9), .inl ((cb 9), 40, .inl (fun _ => 0))), ((qb 10), .inl ((cb 10), 40, .inl (fun _ => 0))), ((qb 11), .inl ((cb 11), 40, .inl (fun _ => 0))), ((qb 12), .inl ((cb 12), 40, .inl (fun _ => 0))), ((qb 13), .inl ((cb 13), 80, .inl (fun _ => 0))), ((qb 14), .inl ((cb 14), 40, .inl (fun _ => 0))), ((qb 15), .inl ((cb 15), 40, .inl (fun _ => 0))), ((qb 16), .inl ((cb 16), 40, .inl (fun _ => 0))), ((qb 17), .inl ((cb 17), 40, .inl (fun _ => 0))), ((qb 18), .inl ((cb 18), 40, .inl (fun _ => 0))), ((qb 19), .inl ((cb 19), 40, .inl (fun _ => 0))), ((qb 20), .inl ((cb 20), 60, .inl (fun _ => 0))), ((qb 21), .inl ((cb 21), 60, .inl (fun _ => 0))), ((qb 22), .inl ((cb 22), 130, .inl (fun _ => 0))), ((qb 23), .inl ((cb 23), 130, .inl (fun _ => 0))), ((qb 24), .inl ((cb 24), 130, .inl (fun _ => 0))), ((qb 25), .inl ((cb 25), 130, .inl (fun _ => 0))), ((qb 26), .inl ((cb 26), 5240, .inl (fun _ => 0))), ((qb 27), .inl ((cb 27), 5240, .inr (.inl (fun _ => 0)))), ((qb 28), .inl ((cb 28), 3, .inl (fun _ => 0))), ((qb 29), .inl ((cb 29), 3, .inr (.inl (fun _ => 0)))), ((qb 30), .inl ((cb 30), 16, .inl (fun _ => 0)))]) [0, 1, 2, 3, 4, 5, 6, 7, 8, 9, 10] [11, 12, 13, 14, 15, 16, 17, 18, 19, 20, 21, 22, 23, 24, 25, 26, 27, 28, 29, 30, 31, 32, 33, 34, 35, 36, 37, 38, 39, 40, 41, 42] (va_runV (As := []) (rest := []) ⟨hx, hb, hml, hown, hts⟩ (c8_cause l dC dI q1 qa ca  _ ) (cwV 0 hts gL_law_X8_cause rfl rfl rfl (by decide +kernel) ⟨Nat.le_of_ble_eq_true rfl, Nat.le_of_ble_eq_true rfl⟩) ⟨pz_blind, va_recv hK hP (ci := 7) (q0 := 0) rfl rfl, pz_of hP hK hD hN [0, 1, 2, 3, 4, 5, 6, 7, 8, 9, 10] [0, 1, 2, 3, 4] rfl (by decide) rfl⟩ rfl rfl hl.1 rfl (lv_room (Nat.le_of_ble_eq_true rfl)) dL_law_1020 ⟨Nat.le_of_ble_eq_true rfl, Nat.le_of_ble_eq_true rfl⟩) hS hP hD hK hA rfl rfl (by decide) (by decide) (fun v w1 ty1 H locs w173 hP hD hK hS => ?_)
        obtain ⟨rfl, rfl, rfl⟩ := w173
        refine W.eq (g2 := F0 m 1023 ls [.int (an_cause)]) rfl ?_
        have hP : va_P (dC, dI) vwCl [(q3, .inr (8, [.int 0, .int 1, .ref (qb 0), .ref (qb 1), .ref (qb 2), .ref (qb 3), .ref (qb 4), .ref (qb 5), .ref (qb 6), .ref (qb 7), .int 0, .ref (qb 8), .ref (qb 9), .ref (qb 10), .ref (qb 11), .ref (qb 12), .ref (qb 13), .ref (qb 14), .ref (qb 15), .ref (qb 16), .ref (qb 17), .ref (qb 18), .ref (qb 19), .int 0, .int 0, .ref (qb 20), .ref (qb 21), .int 0, .ref (qb 22), .ref (qb 23), .ref (qb 24), .ref (qb 25), .ref (qb 26), .ref (qb 27), .int 0, .ref (qb 28), .ref (qb 29), .int 0, .long 0, .int 0, .int 0, .ref (qb 30)])), ((qb 0), .inl ((cb 0), 16, .inl (upd (fun _ => 0) 0 (-1)))), ((qb 1), .inl ((cb 1), 16, .inl (fun _ => 0))), ((qb 2), .inl ((cb 2), 16, .inl (upd (fun _ => 0) 0 (-1)))), ((qb 3), .inl ((cb 3), 16, .inl (fun _ => 0))), ((qb 4), .inl ((cb 4), 16, .inl (fun _ => 0))), ((qb 5), .inl ((cb 5), 16, .inl (fun _ => 0))), ((qb 6), .inl ((cb 6), 16, .inl (fun _ => 0))), ((qb 7), .inl ((cb 7), 16, .inl (fun _ => 0))), ((qb 8), .inl ((cb 8), 40, .inl (fun _ => 0))), ((qb 9), .inl ((cb 9), 40, .inl (fun _ => 0))), ((qb 10), .inl ((cb 10), 40, .inl (fun _ => 0))), ((qb 11), .inl ((cb 11), 40, .inl (fun _ => 0))), ((qb 12), .inl ((cb 12), 40, .inl (fun _ => 0))), ((qb 13), .inl ((cb 13), 80, .inl (fun _ => 0))), ((qb 14), .inl ((cb 14), 40, .inl (fun _ => 0))), ((qb 15), .inl ((cb 15), 40, .inl (fun _ => 0))), ((qb 16), .inl ((cb 16), 40, .inl (fun _ => 0))), ((qb 17), .inl ((cb 17), 40, .inl (fun _ => 0))), ((qb 18), .inl ((cb 18), 40, .inl (fun _ => 0))), ((qb 19), .inl ((cb 19), 40, .inl (fun _ => 0))), ((qb 20), .inl ((cb 20), 60, .inl (fun _ => 0))), ((qb 21), .inl ((cb 21), 60, .inl (fun _ => 0))), ((qb 22), .inl ((cb 22), 130, .inl (fun _ => 0))), ((qb 23), .inl ((cb 23), 130, .inl (fun _ => 0))), ((qb 24), .inl ((cb 24), 130, .inl (fun _ => 0))), ((qb 25), .inl ((cb 25), 130, .inl (fun _ => 0))), ((qb 26), .inl ((cb 26), 5240, .inl (fun _ => 0))), ((qb 27), .inl ((cb 27), 5240, .inr (.inl (fun _ => 0)))), ((qb 28), .inl ((cb 28), 3, .inl (fun _ => 0))), ((qb 29), .inl ((cb 29), 3, .inr (.inl (fun _ => 0)))), ((qb 30), .inl ((cb 30), 16, .inl (fun _ => 0)))] H := hP
        have hD : va_D (fun q : Nat => s.heap.size ≤ q) [(q3, .inr (8, [.int 0, .int 1, .ref (qb 0), .ref (qb 1), .ref (qb 2), .ref (qb 3), .ref (qb 4), .ref (qb 5), .ref (qb 6), .ref (qb 7), .int 0, .ref (qb 8), .ref (qb 9), .ref (qb 10), .ref (qb 11), .ref (qb 12), .ref (qb 13), .ref (qb 14), .ref (qb 15), .ref (qb 16), .ref (qb 17), .ref (qb 18), .ref (qb 19), .int 0, .int 0, .ref (qb 20), .ref (qb 21), .int 0, .ref (qb 22), .ref (qb 23), .ref (qb 24), .ref (qb 25), .ref (qb 26), .ref (qb 27), .int 0, .ref (qb 28), .ref (qb 29), .int 0, .long 0, .int 0, .int 0, .ref (qb 30)])), ((qb 0), .inl ((cb 0), 16, .inl (upd (fun _ => 0) 0 (-1)))), ((qb 1), .inl ((cb 1), 16, .inl (fun _ => 0))), ((qb 2), .inl ((cb 2), 16, .inl (upd (fun _ => 0) 0 (-1)))), ((qb 3), .inl ((cb 3), 16, .inl (fun _ => 0))), ((qb 4), .inl ((cb 4), 16, .inl (fun _ => 0))), ((qb 5), .inl ((cb 5), 16, .inl (fun _ => 0))), ((qb 6), .inl ((cb 6), 16, .inl (fun _ => 0))), ((qb 7), .inl ((cb 7), 16, .inl (fun _ => 0))), ((qb 8), .inl ((cb 8), 40, .inl (fun _ => 0))), ((qb 9), .inl ((cb 9), 40, .inl (fun _ => 0))), ((qb 10), .inl ((cb 10), 40, .inl (fun _ => 0))), ((qb 11), .inl ((cb 11), 40, .inl (fun _ => 0))), ((qb 12), .inl ((cb 12), 40, .inl (fun _ => 0))), ((qb 13), .inl ((cb 13), 80, .inl (fun _ => 0))), ((qb 14), .inl ((cb 14), 40, .inl (fun _ => 0))), ((qb 15), .inl ((cb 15), 40, .inl (fun _ => 0))), ((qb 16), .inl ((cb 16), 40, .inl (fun _ => 0))), ((qb 17), .inl ((cb 17), 40, .inl (fun _ => 0))), ((qb 18), .inl ((cb 18), 40, .inl (fun _ => 0))), ((qb 19), .inl ((cb 19), 40, .inl (fun _ => 0))), ((qb 20), .inl ((cb 20), 60, .inl (fun _ => 0))), ((qb 21), .inl ((cb 21), 60, .inl (fun _ => 0))), ((qb 22), .inl ((cb 22), 130, .inl (fun _ => 0))), ((qb 23), .inl ((cb 23), 130, .inl (fun _ => 0))), ((qb 24), .inl ((cb 24), 130, .inl (fun _ => 0))), ((qb 25), .inl ((cb 25), 130, .inl (fun _ => 0))), ((qb 26), .inl ((cb 26), 5240, .inl (fun _ => 0))), ((qb 27), .inl ((cb 27), 5240, .inr (.inl (fun _ => 0)))), ((qb 28), .inl ((cb 28), 3, .inl (fun _ => 0))), ((qb 29), .inl ((cb 29), 3, .inr (.inl (fun _ => 0)))), ((qb 30), .inl ((cb 30), 16, .inl (fun _ => 0)))] := hD
        have hK : va_K (dC, dI) vwCl [((ca 0), .object "ReflectModels$ClassModel"), ((ca 1), .object "ReflectModels$Member"), ((ca 2), .object "ReflectModels$Handle"), ((ca 3), .object "ReflectModels$Thing"), ((ca 4), .object "ReflectModels$Value"), ((cb 0), .int), ((cb 1), .int), ((cb 2), .int), ((cb 3), .boolean), ((cb 4), .boolean), ((cb 5), .int), ((cb 6), .int), ((cb 7), .int), ((cb 8), .int), ((cb 9), .boolean), ((cb 10), .int), ((cb 11), .int), ((cb 12), .int), ((cb 13), .int), ((cb 14), .boolean), ((cb 15), .boolean), ((cb 16), .boolean), ((cb 17), .boolean), ((cb 18), .int), ((cb 19), .int), ((cb 20), .int), ((cb 21), .boolean), ((cb 22), .int), ((cb 23), .int), ((cb 24), .int), ((cb 25), .int), ((cb 26), .int), ((cb 27), .long), ((cb 28), .int), ((cb 29), .long), ((cb 30), .int)] s := hK
        refine W.cs (cells' := 43) (slots' := 12110) rfl rfl ?_
        refine lv_aload_n hx hb dL_law_1023 rfl (lv_at hl 1 rfl) ?_
        refine clW (wr := []) [0, 1, 2, 3, 4, 5, 6, 7, 8, 9, 10, 11, 12, 13, 14, 15, 16, 17, 18, 19, 20, 21, 22, 23, 24, 25, 26, 27, 28, 29, 30, 31] [] (va_runV (As := []) (rest := [.int (an_cause)]) ⟨hx, hb, hml, hown, hts⟩ (c9_cause l dC dI q3 qb cb  _ ) (cwV 0 hts gL_law_X9_cause rfl rfl rfl (by decide +kernel) ⟨Nat.le_of_ble_eq_true rfl, Nat.le_of_ble_eq_true rfl⟩) ⟨pz_blind, va_recv hK hP (ci := 8) (q0 := 0) rfl rfl, pz_of hP hK hD hN [0, 1, 2, 3, 4, 5, 6, 7, 8, 9, 10, 11, 12, 13, 14, 15, 16, 17, 18, 19, 20, 21, 22, 23, 24, 25, 26, 27, 28, 29, 30, 31] [5, 6, 7, 8, 9, 10, 11, 12, 13, 14, 15, 16, 17, 18, 19, 20, 21, 22, 23, 24, 25, 26, 27, 28, 29, 30, 31, 32, 33, 34, 35] rfl (by decide) rfl⟩ rfl rfl hl.1 rfl (lv_room (Nat.le_of_ble_eq_true rfl)) dL_law_1024 ⟨Nat.le_of_ble_eq_true rfl, Nat.le_of_ble_eq_true rfl⟩) hS hP hD hK hA rfl rfl (by decide) (by decide) (fun v w1 ty1 H locs w174 hP hD hK hS => ?_)
        obtain ⟨rfl, rfl, rfl⟩ := w174
        refine W.eq (g2 := F0 m 1027 ls [.int (an_cause), .int (an_cause)]) rfl ?_
        have hP : va_P (dC, dI) vwCl [] H := hP
        have hD : va_D (fun q : Nat => s.heap.size ≤ q) [] := hD
        have hK : va_K (dC, dI) vwCl [((ca 0), .object "ReflectModels$ClassModel"), ((ca 1), .object "ReflectModels$Member"), ((ca 2), .object "ReflectModels$Handle"), ((ca 3), .object "ReflectModels$Thing"), ((ca 4), .object "ReflectModels$Value"), ((cb 0), .int), ((cb 1), .int), ((cb 2), .int), ((cb 3), .boolean), ((cb 4), .boolean), ((cb 5), .int), ((cb 6), .int), ((cb 7), .int), ((cb 8), .int), ((cb 9), .boolean), ((cb 10), .int), ((cb 11), .int), ((cb 12), .int), ((cb 13), .int), ((cb 14), .boolean), ((cb 15), .boolean), ((cb 16), .boolean), ((cb 17), .boolean), ((cb 18), .int), ((cb 19), .int), ((cb 20), .int), ((cb 21), .boolean), ((cb 22), .int), ((cb 23), .int), ((cb 24), .int), ((cb 25), .int), ((cb 26), .int), ((cb 27), .long), ((cb 28), .int), ((cb 29), .long), ((cb 30), .int)] s := hK
        refine W.cs (cells' := 43) (slots' := 12110) rfl rfl ?_
        refine lv_icmp_eq (tgt := 1154) hx hb dL_law_1027 (by decide) (fun _ => ?_) (fun h => absurd rfl h)
        refine lv_iinc (v := 10) (lv' := [(3, .int 10), (2, .ref q3), (1, .ref q1), (0, .ref b)]) hx hb dL_law_1154 hl (k := 0) rfl (by decide) (by decide) rfl (fun ls hl => ?_)
        refine lv_goto (tgt := 18) hx hb dL_law_1157 (by decide) ?_
        refine lv_iload_n hx hb dL_law_18 rfl (lv_at hl 0 rfl) ?_
        refine lv_aload_n hx hb dL_law_19 rfl (lv_at hl 3 rfl) ?_
        refine va_slen hx hb hX hbl hbA hS dL_law_20 ?_
        refine W.eq (g2 := F0 m 21 ls [.int 10, .int 10]) rfl ?_
        refine lv_bipush (v := 10) hx hb dL_law_21 (by decide) ?_
        refine lv_isub hx hb dL_law_23 ?_
        refine lv_topi (fun y175 ey175 => ?_)
        obtain rfl : y175 = 0 := ey175.trans (by decide)
        refine lv_icmp_gt (tgt := 1160) hx hb dL_law_24 (by decide) (fun _ => ?_) (fun h => absurd (by decide) h)
        refine lv_iconst (v := 1) hx hb dL_law_1160 (by decide) ?_
        refine va_forget (fun z hz => hS.2.2 z hz) ?_
        refine W.widen (k := 600000) (n := 7302250) (by omega) (by omega) ?_
        exact lw_ret hx hb hr hlocks dL_law_1161
      · refine lv_tableIn (tgt := 1032) (off := 999) hx hb dL_law_33 (by decide) (by decide) (by decide) (by decide) ?_
        refine lv_aload_n hx hb dL_law_1032 rfl (lv_at hl 2 rfl) ?_
        refine lv_aload_n hx hb dL_law_1033 rfl (lv_at hl 3 rfl) ?_
        refine lv_iload_n hx hb dL_law_1034 rfl (lv_at hl 0 rfl) ?_
        refine lv_iconst (v := 1) hx hb dL_law_1035 (by decide) ?_
        refine lv_iadd hx hb dL_law_1036 ?_
        refine lv_topi (fun y176 ey176 => ?_)
        obtain rfl : y176 = 1 := ey176.trans (by decide)
        refine va_sld hx hb hX hbl hbA hS (vp_in_iff.mpr ⟨by decide, by decide⟩) dL_law_1037 ?_
        refine W.eq (g2 := F0 m 1038 ls [.int (xs 1), .ref q1]) rfl ?_
        refine lv_aload_n hx hb dL_law_1038 rfl (lv_at hl 3 rfl) ?_
        refine lv_iload_n hx hb dL_law_1039 rfl (lv_at hl 0 rfl) ?_
        refine lv_iconst (v := 2) hx hb dL_law_1040 (by decide) ?_
        refine lv_iadd hx hb dL_law_1041 ?_
        refine lv_topi (fun y177 ey177 => ?_)
        obtain rfl : y177 = 2 := ey177.trans (by decide)
        refine va_sld hx hb hX hbl hbA hS (vp_in_iff.mpr ⟨by decide, by decide⟩) dL_law_1042 ?_
        refine W.eq (g2 := F0 m 1043 ls [.int (xs 2), .int (xs 1), .ref q1]) rfl ?_
        refine clW (wr := [(q3, .inr (8, [.int 0, .int 1, .ref (qb 0), .ref (qb 1), .ref (qb 2), .ref (qb 3), .ref (qb 4), .ref (qb 5), .ref (qb 6), .ref (qb 7), .int 0, .ref (qb 8), .ref (qb 9), .ref (qb 10), .ref (qb 11), .ref (qb 12), .ref (qb 13), .ref (qb 14), .ref (qb 15), .ref (qb 16), .ref (qb 17), .ref (qb 18), .ref (qb 19), .int 0, .int 0, .ref (qb 20), .ref (qb 21), .int 0, .ref (qb 22), .ref (qb 23), .ref (qb 24), .ref (qb 25), .ref (qb 26), .ref (qb 27), .int 0, .ref (qb 28), .ref (qb 29), .int 0, .long 0, .int 0, .int 0, .ref (qb 30)])), ((qb 0), .inl ((cb 0), 16, .inl (upd (fun _ => 0) 0 (-1)))), ((qb 1), .inl ((cb 1), 16, .inl (fun _ => 0))), ((qb 2), .inl ((cb 2), 16, .inl (upd (fun _ => 0) 0 (-1)))), ((qb 3), .inl ((cb 3), 16, .inl (fun _ => 0))), ((qb 4), .inl ((cb 4), 16, .inl (fun _ => 0))), ((qb 5), .inl ((cb 5), 16, .inl (fun _ => 0))), ((qb 6), .inl ((cb 6), 16, .inl (fun _ => 0))), ((qb 7), .inl ((cb 7), 16, .inl (fun _ => 0))), ((qb 8), .inl ((cb 8), 40, .inl (fun _ => 0))), ((qb 9), .inl ((cb 9), 40, .inl (fun _ => 0))), ((qb 10), .inl ((cb 10), 40, .inl (fun _ => 0))), ((qb 11), .inl ((cb 11), 40, .inl (fun _ => 0))), ((qb 12), .inl ((cb 12), 40, .inl (fun _ => 0))), ((qb 13), .inl ((cb 13), 80, .inl (fun _ => 0))), ((qb 14), .inl ((cb 14), 40, .inl (fun _ => 0))), ((qb 15), .inl ((cb 15), 40, .inl (fun _ => 0))), ((qb 16), .inl ((cb 16), 40, .inl (fun _ => 0))), ((qb 17), .inl ((cb 17), 40, .inl (fun _ => 0))), ((qb 18), .inl ((cb 18), 40, .inl (fun _ => 0))), ((qb 19), .inl ((cb 19), 40, .inl (fun _ => 0))), ((qb 20), .inl ((cb 20), 60, .inl (fun _ => 0))), ((qb 21), .inl ((cb 21), 60, .inl (fun _ => 0))), ((qb 22), .inl ((cb 22), 130, .inl (fun _ => 0))), ((qb 23), .inl ((cb 23), 130, .inl (fun _ => 0))), ((qb 24), .inl ((cb 24), 130, .inl (fun _ => 0))), ((qb 25), .inl ((cb 25), 130, .inl (fun _ => 0))), ((qb 26), .inl ((cb 26), 5240, .inl (fun _ => 0))), ((qb 27), .inl ((cb 27), 5240, .inr (.inl (fun _ => 0)))), ((qb 28), .inl ((cb 28), 3, .inl (fun _ => 0))), ((qb 29), .inl ((cb 29), 3, .inr (.inl (fun _ => 0)))), ((qb 30), .inl ((cb 30), 16, .inl (fun _ => 0)))]) [0, 1, 2, 3, 4, 5, 6, 7, 8, 9, 10] [11, 12, 13, 14, 15, 16, 17, 18, 19, 20, 21, 22, 23, 24, 25, 26, 27, 28, 29, 30, 31, 32, 33, 34, 35, 36, 37, 38, 39, 40, 41, 42] (va_runV (As := [.int (xs 1), .int (xs 2)]) (rest := []) ⟨hx, hb, hml, hown, hts⟩ (c8_about l dC dI q1 qa ca (xs 1) (xs 2) _ ) (cwV 2 hts gL_law_X8_about rfl rfl rfl (by decide +kernel) ⟨Nat.le_of_ble_eq_true rfl, Nat.le_of_ble_eq_true rfl⟩) ⟨pz_blind, va_recv hK hP (ci := 7) (q0 := 0) rfl rfl, pz_of hP hK hD hN [0, 1, 2, 3, 4, 5, 6, 7, 8, 9, 10] [0, 1, 2, 3, 4] rfl (by decide) rfl⟩ rfl rfl hl.1 rfl (lv_room (Nat.le_of_ble_eq_true rfl)) dL_law_1043 ⟨Nat.le_of_ble_eq_true rfl, Nat.le_of_ble_eq_true rfl⟩) hS hP hD hK hA rfl rfl (by decide) (by decide) (fun v w1 ty1 H locs w178 hP hD hK hS => ?_)
        obtain ⟨rfl, rfl, rfl⟩ := w178
        refine W.eq (g2 := F0 m 1046 ls [.int (an_about (xs 1).toInt (xs 2).toInt)]) rfl ?_
        have hP : va_P (dC, dI) vwCl [(q3, .inr (8, [.int 0, .int 1, .ref (qb 0), .ref (qb 1), .ref (qb 2), .ref (qb 3), .ref (qb 4), .ref (qb 5), .ref (qb 6), .ref (qb 7), .int 0, .ref (qb 8), .ref (qb 9), .ref (qb 10), .ref (qb 11), .ref (qb 12), .ref (qb 13), .ref (qb 14), .ref (qb 15), .ref (qb 16), .ref (qb 17), .ref (qb 18), .ref (qb 19), .int 0, .int 0, .ref (qb 20), .ref (qb 21), .int 0, .ref (qb 22), .ref (qb 23), .ref (qb 24), .ref (qb 25), .ref (qb 26), .ref (qb 27), .int 0, .ref (qb 28), .ref (qb 29), .int 0, .long 0, .int 0, .int 0, .ref (qb 30)])), ((qb 0), .inl ((cb 0), 16, .inl (upd (fun _ => 0) 0 (-1)))), ((qb 1), .inl ((cb 1), 16, .inl (fun _ => 0))), ((qb 2), .inl ((cb 2), 16, .inl (upd (fun _ => 0) 0 (-1)))), ((qb 3), .inl ((cb 3), 16, .inl (fun _ => 0))), ((qb 4), .inl ((cb 4), 16, .inl (fun _ => 0))), ((qb 5), .inl ((cb 5), 16, .inl (fun _ => 0))), ((qb 6), .inl ((cb 6), 16, .inl (fun _ => 0))), ((qb 7), .inl ((cb 7), 16, .inl (fun _ => 0))), ((qb 8), .inl ((cb 8), 40, .inl (fun _ => 0))), ((qb 9), .inl ((cb 9), 40, .inl (fun _ => 0))), ((qb 10), .inl ((cb 10), 40, .inl (fun _ => 0))), ((qb 11), .inl ((cb 11), 40, .inl (fun _ => 0))), ((qb 12), .inl ((cb 12), 40, .inl (fun _ => 0))), ((qb 13), .inl ((cb 13), 80, .inl (fun _ => 0))), ((qb 14), .inl ((cb 14), 40, .inl (fun _ => 0))), ((qb 15), .inl ((cb 15), 40, .inl (fun _ => 0))), ((qb 16), .inl ((cb 16), 40, .inl (fun _ => 0))), ((qb 17), .inl ((cb 17), 40, .inl (fun _ => 0))), ((qb 18), .inl ((cb 18), 40, .inl (fun _ => 0))), ((qb 19), .inl ((cb 19), 40, .inl (fun _ => 0))), ((qb 20), .inl ((cb 20), 60, .inl (fun _ => 0))), ((qb 21), .inl ((cb 21), 60, .inl (fun _ => 0))), ((qb 22), .inl ((cb 22), 130, .inl (fun _ => 0))), ((qb 23), .inl ((cb 23), 130, .inl (fun _ => 0))), ((qb 24), .inl ((cb 24), 130, .inl (fun _ => 0))), ((qb 25), .inl ((cb 25), 130, .inl (fun _ => 0))), ((qb 26), .inl ((cb 26), 5240, .inl (fun _ => 0))), ((qb 27), .inl ((cb 27), 5240, .inr (.inl (fun _ => 0)))), ((qb 28), .inl ((cb 28), 3, .inl (fun _ => 0))), ((qb 29), .inl ((cb 29), 3, .inr (.inl (fun _ => 0)))), ((qb 30), .inl ((cb 30), 16, .inl (fun _ => 0)))] H := hP
        have hD : va_D (fun q : Nat => s.heap.size ≤ q) [(q3, .inr (8, [.int 0, .int 1, .ref (qb 0), .ref (qb 1), .ref (qb 2), .ref (qb 3), .ref (qb 4), .ref (qb 5), .ref (qb 6), .ref (qb 7), .int 0, .ref (qb 8), .ref (qb 9), .ref (qb 10), .ref (qb 11), .ref (qb 12), .ref (qb 13), .ref (qb 14), .ref (qb 15), .ref (qb 16), .ref (qb 17), .ref (qb 18), .ref (qb 19), .int 0, .int 0, .ref (qb 20), .ref (qb 21), .int 0, .ref (qb 22), .ref (qb 23), .ref (qb 24), .ref (qb 25), .ref (qb 26), .ref (qb 27), .int 0, .ref (qb 28), .ref (qb 29), .int 0, .long 0, .int 0, .int 0, .ref (qb 30)])), ((qb 0), .inl ((cb 0), 16, .inl (upd (fun _ => 0) 0 (-1)))), ((qb 1), .inl ((cb 1), 16, .inl (fun _ => 0))), ((qb 2), .inl ((cb 2), 16, .inl (upd (fun _ => 0) 0 (-1)))), ((qb 3), .inl ((cb 3), 16, .inl (fun _ => 0))), ((qb 4), .inl ((cb 4), 16, .inl (fun _ => 0))), ((qb 5), .inl ((cb 5), 16, .inl (fun _ => 0))), ((qb 6), .inl ((cb 6), 16, .inl (fun _ => 0))), ((qb 7), .inl ((cb 7), 16, .inl (fun _ => 0))), ((qb 8), .inl ((cb 8), 40, .inl (fun _ => 0))), ((qb 9), .inl ((cb 9), 40, .inl (fun _ => 0))), ((qb 10), .inl ((cb 10), 40, .inl (fun _ => 0))), ((qb 11), .inl ((cb 11), 40, .inl (fun _ => 0))), ((qb 12), .inl ((cb 12), 40, .inl (fun _ => 0))), ((qb 13), .inl ((cb 13), 80, .inl (fun _ => 0))), ((qb 14), .inl ((cb 14), 40, .inl (fun _ => 0))), ((qb 15), .inl ((cb 15), 40, .inl (fun _ => 0))), ((qb 16), .inl ((cb 16), 40, .inl (fun _ => 0))), ((qb 17), .inl ((cb 17), 40, .inl (fun _ => 0))), ((qb 18), .inl ((cb 18), 40, .inl (fun _ => 0))), ((qb 19), .inl ((cb 19), 40, .inl (fun _ => 0))), ((qb 20), .inl ((cb 20), 60, .inl (fun _ => 0))), ((qb 21), .inl ((cb 21), 60, .inl (fun _ => 0))), ((qb 22), .inl ((cb 22), 130, .inl (fun _ => 0))), ((qb 23), .inl ((cb 23), 130, .inl (fun _ => 0))), ((qb 24), .inl ((cb 24), 130, .inl (fun _ => 0))), ((qb 25), .inl ((cb 25), 130, .inl (fun _ => 0))), ((qb 26), .inl ((cb 26), 5240, .inl (fun _ => 0))), ((qb 27), .inl ((cb 27), 5240, .inr (.inl (fun _ => 0)))), ((qb 28), .inl ((cb 28), 3, .inl (fun _ => 0))), ((qb 29), .inl ((cb 29), 3, .inr (.inl (fun _ => 0)))), ((qb 30), .inl ((cb 30), 16, .inl (fun _ => 0)))] := hD
        have hK : va_K (dC, dI) vwCl [((ca 0), .object "ReflectModels$ClassModel"), ((ca 1), .object "ReflectModels$Member"), ((ca 2), .object "ReflectModels$Handle"), ((ca 3), .object "ReflectModels$Thing"), ((ca 4), .object "ReflectModels$Value"), ((cb 0), .int), ((cb 1), .int), ((cb 2), .int), ((cb 3), .boolean), ((cb 4), .boolean), ((cb 5), .int), ((cb 6), .int), ((cb 7), .int), ((cb 8), .int), ((cb 9), .boolean), ((cb 10), .int), ((cb 11), .int), ((cb 12), .int), ((cb 13), .int), ((cb 14), .boolean), ((cb 15), .boolean), ((cb 16), .boolean), ((cb 17), .boolean), ((cb 18), .int), ((cb 19), .int), ((cb 20), .int), ((cb 21), .boolean), ((cb 22), .int), ((cb 23), .int), ((cb 24), .int), ((cb 25), .int), ((cb 26), .int), ((cb 27), .long), ((cb 28), .int), ((cb 29), .long), ((cb 30), .int)] s := hK
        refine W.cs (cells' := 43) (slots' := 12110) rfl rfl ?_
        refine lv_aload_n hx hb dL_law_1046 rfl (lv_at hl 1 rfl) ?_
        refine lv_aload_n hx hb dL_law_1047 rfl (lv_at hl 3 rfl) ?_
        refine lv_iload_n hx hb dL_law_1048 rfl (lv_at hl 0 rfl) ?_
        refine lv_iconst (v := 1) hx hb dL_law_1049 (by decide) ?_
        refine lv_iadd hx hb dL_law_1050 ?_
        refine lv_topi (fun y179 ey179 => ?_)
        obtain rfl : y179 = 1 := ey179.trans (by decide)
        refine va_sld hx hb hX hbl hbA hS (vp_in_iff.mpr ⟨by decide, by decide⟩) dL_law_1051 ?_
        refine W.eq (g2 := F0 m 1052 ls [.int (xs 1), .ref q3, .int (an_about (xs 1).toInt (xs 2).toInt)]) rfl ?_
        refine lv_aload_n hx hb dL_law_1052 rfl (lv_at hl 3 rfl) ?_
        refine lv_iload_n hx hb dL_law_1053 rfl (lv_at hl 0 rfl) ?_
        refine lv_iconst (v := 2) hx hb dL_law_1054 (by decide) ?_
        refine lv_iadd hx hb dL_law_1055 ?_
        refine lv_topi (fun y180 ey180 => ?_)
        obtain rfl : y180 = 2 := ey180.trans (by decide)
        refine va_sld hx hb hX hbl hbA hS (vp_in_iff.mpr ⟨by decide, by decide⟩) dL_law_1056 ?_
        refine W.eq (g2 := F0 m 1057 ls [.int (xs 2), .int (xs 1), .ref q3, .int (an_about (xs 1).toInt (xs 2).toInt)]) rfl ?_
        refine clW (wr := []) [0, 1, 2, 3, 4, 5, 6, 7, 8, 9, 10, 11, 12, 13, 14, 15, 16, 17, 18, 19, 20, 21, 22, 23, 24, 25, 26, 27, 28, 29, 30, 31] [] (va_runV (As := [.int (xs 1), .int (xs 2)]) (rest := [.int (an_about (xs 1).toInt (xs 2).toInt)]) ⟨hx, hb, hml, hown, hts⟩ (c9_about l dC dI q3 qb cb (xs 1) (xs 2) _ ) (cwV 2 hts gL_law_X9_about rfl rfl rfl (by decide +kernel) ⟨Nat.le_of_ble_eq_true rfl, Nat.le_of_ble_eq_true rfl⟩) ⟨pz_blind, va_recv hK hP (ci := 8) (q0 := 0) rfl rfl, pz_of hP hK hD hN [0, 1, 2, 3, 4, 5, 6, 7, 8, 9, 10, 11, 12, 13, 14, 15, 16, 17, 18, 19, 20, 21, 22, 23, 24, 25, 26, 27, 28, 29, 30, 31] [5, 6, 7, 8, 9, 10, 11, 12, 13, 14, 15, 16, 17, 18, 19, 20, 21, 22, 23, 24, 25, 26, 27, 28, 29, 30, 31, 32, 33, 34, 35] rfl (by decide) rfl⟩ rfl rfl hl.1 rfl (lv_room (Nat.le_of_ble_eq_true rfl)) dL_law_1057 ⟨Nat.le_of_ble_eq_true rfl, Nat.le_of_ble_eq_true rfl⟩) hS hP hD hK hA rfl rfl (by decide) (by decide) (fun v w1 ty1 H locs w181 hP hD hK hS => ?_)
        obtain ⟨rfl, rfl, rfl⟩ := w181
        refine W.eq (g2 := F0 m 1060 ls [.int (an_about (xs 1).toInt (xs 2).toInt), .int (an_about (xs 1).toInt (xs 2).toInt)]) rfl ?_
        have hP : va_P (dC, dI) vwCl [] H := hP
        have hD : va_D (fun q : Nat => s.heap.size ≤ q) [] := hD
        have hK : va_K (dC, dI) vwCl [((ca 0), .object "ReflectModels$ClassModel"), ((ca 1), .object "ReflectModels$Member"), ((ca 2), .object "ReflectModels$Handle"), ((ca 3), .object "ReflectModels$Thing"), ((ca 4), .object "ReflectModels$Value"), ((cb 0), .int), ((cb 1), .int), ((cb 2), .int), ((cb 3), .boolean), ((cb 4), .boolean), ((cb 5), .int), ((cb 6), .int), ((cb 7), .int), ((cb 8), .int), ((cb 9), .boolean), ((cb 10), .int), ((cb 11), .int), ((cb 12), .int), ((cb 13), .int), ((cb 14), .boolean), ((cb 15), .boolean), ((cb 16), .boolean), ((cb 17), .boolean), ((cb 18), .int), ((cb 19), .int), ((cb 20), .int), ((cb 21), .boolean), ((cb 22), .int), ((cb 23), .int), ((cb 24), .int), ((cb 25), .int), ((cb 26), .int), ((cb 27), .long), ((cb 28), .int), ((cb 29), .long), ((cb 30), .int)] s := hK
        refine W.cs (cells' := 43) (slots' := 12110) rfl rfl ?_
        refine lv_icmp_eq (tgt := 1154) hx hb dL_law_1060 (by decide) (fun _ => ?_) (fun h => absurd rfl h)
        refine lv_iinc (v := 10) (lv' := [(3, .int 10), (2, .ref q3), (1, .ref q1), (0, .ref b)]) hx hb dL_law_1154 hl (k := 0) rfl (by decide) (by decide) rfl (fun ls hl => ?_)
        refine lv_goto (tgt := 18) hx hb dL_law_1157 (by decide) ?_
        refine lv_iload_n hx hb dL_law_18 rfl (lv_at hl 0 rfl) ?_
        refine lv_aload_n hx hb dL_law_19 rfl (lv_at hl 3 rfl) ?_
        refine va_slen hx hb hX hbl hbA hS dL_law_20 ?_
        refine W.eq (g2 := F0 m 21 ls [.int 10, .int 10]) rfl ?_
        refine lv_bipush (v := 10) hx hb dL_law_21 (by decide) ?_
        refine lv_isub hx hb dL_law_23 ?_
        refine lv_topi (fun y182 ey182 => ?_)
        obtain rfl : y182 = 0 := ey182.trans (by decide)
        refine lv_icmp_gt (tgt := 1160) hx hb dL_law_24 (by decide) (fun _ => ?_) (fun h => absurd (by decide) h)
        refine lv_iconst (v := 1) hx hb dL_law_1160 (by decide) ?_
        refine va_forget (fun z hz => hS.2.2 z hz) ?_
        refine W.widen (k := 600000) (n := 7302250) (by omega) (by omega) ?_
        exact lw_ret hx hb hr hlocks dL_law_1161
      · refine lv_tableIn (tgt := 1065) (off := 1032) hx hb dL_law_33 (by decide) (by decide) (by decide) (by decide) ?_
        refine lv_aload_n hx hb dL_law_1065 rfl (lv_at hl 2 rfl) ?_
        refine lv_aload_n hx hb dL_law_1066 rfl (lv_at hl 3 rfl) ?_
        refine lv_iload_n hx hb dL_law_1067 rfl (lv_at hl 0 rfl) ?_
        refine lv_iconst (v := 1) hx hb dL_law_1068 (by decide) ?_
        refine lv_iadd hx hb dL_law_1069 ?_
        refine lv_topi (fun y183 ey183 => ?_)
        obtain rfl : y183 = 1 := ey183.trans (by decide)
        refine va_sld hx hb hX hbl hbA hS (vp_in_iff.mpr ⟨by decide, by decide⟩) dL_law_1070 ?_
        refine W.eq (g2 := F0 m 1071 ls [.int (xs 1), .ref q1]) rfl ?_
        refine lv_aload_n hx hb dL_law_1071 rfl (lv_at hl 3 rfl) ?_
        refine lv_iload_n hx hb dL_law_1072 rfl (lv_at hl 0 rfl) ?_
        refine lv_iconst (v := 2) hx hb dL_law_1073 (by decide) ?_
        refine lv_iadd hx hb dL_law_1074 ?_
        refine lv_topi (fun y184 ey184 => ?_)
        obtain rfl : y184 = 2 := ey184.trans (by decide)
        refine va_sld hx hb hX hbl hbA hS (vp_in_iff.mpr ⟨by decide, by decide⟩) dL_law_1075 ?_
        refine W.eq (g2 := F0 m 1076 ls [.int (xs 2), .int (xs 1), .ref q1]) rfl ?_
        refine clW (wr := [(q3, .inr (8, [.int 0, .int 1, .ref (qb 0), .ref (qb 1), .ref (qb 2), .ref (qb 3), .ref (qb 4), .ref (qb 5), .ref (qb 6), .ref (qb 7), .int 0, .ref (qb 8), .ref (qb 9), .ref (qb 10), .ref (qb 11), .ref (qb 12), .ref (qb 13), .ref (qb 14), .ref (qb 15), .ref (qb 16), .ref (qb 17), .ref (qb 18), .ref (qb 19), .int 0, .int 0, .ref (qb 20), .ref (qb 21), .int 0, .ref (qb 22), .ref (qb 23), .ref (qb 24), .ref (qb 25), .ref (qb 26), .ref (qb 27), .int 0, .ref (qb 28), .ref (qb 29), .int 0, .long 0, .int 0, .int 0, .ref (qb 30)])), ((qb 0), .inl ((cb 0), 16, .inl (upd (fun _ => 0) 0 (-1)))), ((qb 1), .inl ((cb 1), 16, .inl (fun _ => 0))), ((qb 2), .inl ((cb 2), 16, .inl (upd (fun _ => 0) 0 (-1)))), ((qb 3), .inl ((cb 3), 16, .inl (fun _ => 0))), ((qb 4), .inl ((cb 4), 16, .inl (fun _ => 0))), ((qb 5), .inl ((cb 5), 16, .inl (fun _ => 0))), ((qb 6), .inl ((cb 6), 16, .inl (fun _ => 0))), ((qb 7), .inl ((cb 7), 16, .inl (fun _ => 0))), ((qb 8), .inl ((cb 8), 40, .inl (fun _ => 0))), ((qb 9), .inl ((cb 9), 40, .inl (fun _ => 0))), ((qb 10), .inl ((cb 10), 40, .inl (fun _ => 0))), ((qb 11), .inl ((cb 11), 40, .inl (fun _ => 0))), ((qb 12), .inl ((cb 12), 40, .inl (fun _ => 0))), ((qb 13), .inl ((cb 13), 80, .inl (fun _ => 0))), ((qb 14), .inl ((cb 14), 40, .inl (fun _ => 0))), ((qb 15), .inl ((cb 15), 40, .inl (fun _ => 0))), ((qb 16), .inl ((cb 16), 40, .inl (fun _ => 0))), ((qb 17), .inl ((cb 17), 40, .inl (fun _ => 0))), ((qb 18), .inl ((cb 18), 40, .inl (fun _ => 0))), ((qb 19), .inl ((cb 19), 40, .inl (fun _ => 0))), ((qb 20), .inl ((cb 20), 60, .inl (fun _ => 0))), ((qb 21), .inl ((cb 21), 60, .inl (fun _ => 0))), ((qb 22), .inl ((cb 22), 130, .inl (fun _ => 0))), ((qb 23), .inl ((cb 23), 130, .inl (fun _ => 0))), ((qb 24), .inl ((cb 24), 130, .inl (fun _ => 0))), ((qb 25), .inl ((cb 25), 130, .inl (fun _ => 0))), ((qb 26), .inl ((cb 26), 5240, .inl (fun _ => 0))), ((qb 27), .inl ((cb 27), 5240, .inr (.inl (fun _ => 0)))), ((qb 28), .inl ((cb 28), 3, .inl (fun _ => 0))), ((qb 29), .inl ((cb 29), 3, .inr (.inl (fun _ => 0)))), ((qb 30), .inl ((cb 30), 16, .inl (fun _ => 0)))]) [0, 1, 2, 3, 4, 5, 6, 7, 8, 9, 10] [11, 12, 13, 14, 15, 16, 17, 18, 19, 20, 21, 22, 23, 24, 25, 26, 27, 28, 29, 30, 31, 32, 33, 34, 35, 36, 37, 38, 39, 40, 41, 42] (va_runV (As := [.int (xs 1), .int (xs 2)]) (rest := []) ⟨hx, hb, hml, hown, hts⟩ (c8_is l dC dI q1 qa ca (xs 1) (xs 2) _ ) (cwV 2 hts gL_law_X8_is rfl rfl rfl (by decide +kernel) ⟨Nat.le_of_ble_eq_true rfl, Nat.le_of_ble_eq_true rfl⟩) ⟨pz_blind, va_recv hK hP (ci := 7) (q0 := 0) rfl rfl, pz_of hP hK hD hN [0, 1, 2, 3, 4, 5, 6, 7, 8, 9, 10] [0, 1, 2, 3, 4] rfl (by decide) rfl⟩ rfl rfl hl.1 rfl (lv_room (Nat.le_of_ble_eq_true rfl)) dL_law_1076 ⟨Nat.le_of_ble_eq_true rfl, Nat.le_of_ble_eq_true rfl⟩) hS hP hD hK hA rfl rfl (by decide) (by decide) (fun v w1 ty1 H locs w185 hP hD hK hS => ?_)
        obtain ⟨rfl, rfl, rfl⟩ := w185
        refine W.eq (g2 := F0 m 1079 ls [.int (an_is (xs 1).toInt (xs 2).toInt)]) rfl ?_
        have hP : va_P (dC, dI) vwCl [(q3, .inr (8, [.int 0, .int 1, .ref (qb 0), .ref (qb 1), .ref (qb 2), .ref (qb 3), .ref (qb 4), .ref (qb 5), .ref (qb 6), .ref (qb 7), .int 0, .ref (qb 8), .ref (qb 9), .ref (qb 10), .ref (qb 11), .ref (qb 12), .ref (qb 13), .ref (qb 14), .ref (qb 15), .ref (qb 16), .ref (qb 17), .ref (qb 18), .ref (qb 19), .int 0, .int 0, .ref (qb 20), .ref (qb 21), .int 0, .ref (qb 22), .ref (qb 23), .ref (qb 24), .ref (qb 25), .ref (qb 26), .ref (qb 27), .int 0, .ref (qb 28), .ref (qb 29), .int 0, .long 0, .int 0, .int 0, .ref (qb 30)])), ((qb 0), .inl ((cb 0), 16, .inl (upd (fun _ => 0) 0 (-1)))), ((qb 1), .inl ((cb 1), 16, .inl (fun _ => 0))), ((qb 2), .inl ((cb 2), 16, .inl (upd (fun _ => 0) 0 (-1)))), ((qb 3), .inl ((cb 3), 16, .inl (fun _ => 0))), ((qb 4), .inl ((cb 4), 16, .inl (fun _ => 0))), ((qb 5), .inl ((cb 5), 16, .inl (fun _ => 0))), ((qb 6), .inl ((cb 6), 16, .inl (fun _ => 0))), ((qb 7), .inl ((cb 7), 16, .inl (fun _ => 0))), ((qb 8), .inl ((cb 8), 40, .inl (fun _ => 0))), ((qb 9), .inl ((cb 9), 40, .inl (fun _ => 0))), ((qb 10), .inl ((cb 10), 40, .inl (fun _ => 0))), ((qb 11), .inl ((cb 11), 40, .inl (fun _ => 0))), ((qb 12), .inl ((cb 12), 40, .inl (fun _ => 0))), ((qb 13), .inl ((cb 13), 80, .inl (fun _ => 0))), ((qb 14), .inl ((cb 14), 40, .inl (fun _ => 0))), ((qb 15), .inl ((cb 15), 40, .inl (fun _ => 0))), ((qb 16), .inl ((cb 16), 40, .inl (fun _ => 0))), ((qb 17), .inl ((cb 17), 40, .inl (fun _ => 0))), ((qb 18), .inl ((cb 18), 40, .inl (fun _ => 0))), ((qb 19), .inl ((cb 19), 40, .inl (fun _ => 0))), ((qb 20), .inl ((cb 20), 60, .inl (fun _ => 0))), ((qb 21), .inl ((cb 21), 60, .inl (fun _ => 0))), ((qb 22), .inl ((cb 22), 130, .inl (fun _ => 0))), ((qb 23), .inl ((cb 23), 130, .inl (fun _ => 0))), ((qb 24), .inl ((cb 24), 130, .inl (fun _ => 0))), ((qb 25), .inl ((cb 25), 130, .inl (fun _ => 0))), ((qb 26), .inl ((cb 26), 5240, .inl (fun _ => 0))), ((qb 27), .inl ((cb 27), 5240, .inr (.inl (fun _ => 0)))), ((qb 28), .inl ((cb 28), 3, .inl (fun _ => 0))), ((qb 29), .inl ((cb 29), 3, .inr (.inl (fun _ => 0)))), ((qb 30), .inl ((cb 30), 16, .inl (fun _ => 0)))] H := hP
        have hD : va_D (fun q : Nat => s.heap.size ≤ q) [(q3, .inr (8, [.int 0, .int 1, .ref (qb 0), .ref (qb 1), .ref (qb 2), .ref (qb 3), .ref (qb 4), .ref (qb 5), .ref (qb 6), .ref (qb 7), .int 0, .ref (qb 8), .ref (qb 9), .ref (qb 10), .ref (qb 11), .ref (qb 12), .ref (qb 13), .ref (qb 14), .ref (qb 15), .ref (qb 16), .ref (qb 17), .ref (qb 18), .ref (qb 19), .int 0, .int 0, .ref (qb 20), .ref (qb 21), .int 0, .ref (qb 22), .ref (qb 23), .ref (qb 24), .ref (qb 25), .ref (qb 26), .ref (qb 27), .int 0, .ref (qb 28), .ref (qb 29), .int 0, .long 0, .int 0, .int 0, .ref (qb 30)])), ((qb 0), .inl ((cb 0), 16, .inl (upd (fun _ => 0) 0 (-1)))), ((qb 1), .inl ((cb 1), 16, .inl (fun _ => 0))), ((qb 2), .inl ((cb 2), 16, .inl (upd (fun _ => 0) 0 (-1)))), ((qb 3), .inl ((cb 3), 16, .inl (fun _ => 0))), ((qb 4), .inl ((cb 4), 16, .inl (fun _ => 0))), ((qb 5), .inl ((cb 5), 16, .inl (fun _ => 0))), ((qb 6), .inl ((cb 6), 16, .inl (fun _ => 0))), ((qb 7), .inl ((cb 7), 16, .inl (fun _ => 0))), ((qb 8), .inl ((cb 8), 40, .inl (fun _ => 0))), ((qb 9), .inl ((cb 9), 40, .inl (fun _ => 0))), ((qb 10), .inl ((cb 10), 40, .inl (fun _ => 0))), ((qb 11), .inl ((cb 11), 40, .inl (fun _ => 0))), ((qb 12), .inl ((cb 12), 40, .inl (fun _ => 0))), ((qb 13), .inl ((cb 13), 80, .inl (fun _ => 0))), ((qb 14), .inl ((cb 14), 40, .inl (fun _ => 0))), ((qb 15), .inl ((cb 15), 40, .inl (fun _ => 0))), ((qb 16), .inl ((cb 16), 40, .inl (fun _ => 0))), ((qb 17), .inl ((cb 17), 40, .inl (fun _ => 0))), ((qb 18), .inl ((cb 18), 40, .inl (fun _ => 0))), ((qb 19), .inl ((cb 19), 40, .inl (fun _ => 0))), ((qb 20), .inl ((cb 20), 60, .inl (fun _ => 0))), ((qb 21), .inl ((cb 21), 60, .inl (fun _ => 0))), ((qb 22), .inl ((cb 22), 130, .inl (fun _ => 0))), ((qb 23), .inl ((cb 23), 130, .inl (fun _ => 0))), ((qb 24), .inl ((cb 24), 130, .inl (fun _ => 0))), ((qb 25), .inl ((cb 25), 130, .inl (fun _ => 0))), ((qb 26), .inl ((cb 26), 5240, .inl (fun _ => 0))), ((qb 27), .inl ((cb 27), 5240, .inr (.inl (fun _ => 0)))), ((qb 28), .inl ((cb 28), 3, .inl (fun _ => 0))), ((qb 29), .inl ((cb 29), 3, .inr (.inl (fun _ => 0)))), ((qb 30), .inl ((cb 30), 16, .inl (fun _ => 0)))] := hD
        have hK : va_K (dC, dI) vwCl [((ca 0), .object "ReflectModels$ClassModel"), ((ca 1), .object "ReflectModels$Member"), ((ca 2), .object "ReflectModels$Handle"), ((ca 3), .object "ReflectModels$Thing"), ((ca 4), .object "ReflectModels$Value"), ((cb 0), .int), ((cb 1), .int), ((cb 2), .int), ((cb 3), .boolean), ((cb 4), .boolean), ((cb 5), .int), ((cb 6), .int), ((cb 7), .int), ((cb 8), .int), ((cb 9), .boolean), ((cb 10), .int), ((cb 11), .int), ((cb 12), .int), ((cb 13), .int), ((cb 14), .boolean), ((cb 15), .boolean), ((cb 16), .boolean), ((cb 17), .boolean), ((cb 18), .int), ((cb 19), .int), ((cb 20), .int), ((cb 21), .boolean), ((cb 22), .int), ((cb 23), .int), ((cb 24), .int), ((cb 25), .int), ((cb 26), .int), ((cb 27), .long), ((cb 28), .int), ((cb 29), .long), ((cb 30), .int)] s := hK
        refine W.cs (cells' := 43) (slots' := 12110) rfl rfl ?_
        refine lv_aload_n hx hb dL_law_1079 rfl (lv_at hl 1 rfl) ?_
        refine lv_aload_n hx hb dL_law_1080 rfl (lv_at hl 3 rfl) ?_
        refine lv_iload_n hx hb dL_law_1081 rfl (lv_at hl 0 rfl) ?_
        refine lv_iconst (v := 1) hx hb dL_law_1082 (by decide) ?_
        refine lv_iadd hx hb dL_law_1083 ?_
        refine lv_topi (fun y186 ey186 => ?_)
        obtain rfl : y186 = 1 := ey186.trans (by decide)
        refine va_sld hx hb hX hbl hbA hS (vp_in_iff.mpr ⟨by decide, by decide⟩) dL_law_1084 ?_
        refine W.eq (g2 := F0 m 1085 ls [.int (xs 1), .ref q3, .int (an_is (xs 1).toInt (xs 2).toInt)]) rfl ?_
        refine lv_aload_n hx hb dL_law_1085 rfl (lv_at hl 3 rfl) ?_
        refine lv_iload_n hx hb dL_law_1086 rfl (lv_at hl 0 rfl) ?_
        refine lv_iconst (v := 2) hx hb dL_law_1087 (by decide) ?_
        refine lv_iadd hx hb dL_law_1088 ?_
        refine lv_topi (fun y187 ey187 => ?_)
        obtain rfl : y187 = 2 := ey187.trans (by decide)
        refine va_sld hx hb hX hbl hbA hS (vp_in_iff.mpr ⟨by decide, by decide⟩) dL_law_1089 ?_
        refine W.eq (g2 := F0 m 1090 ls [.int (xs 2), .int (xs 1), .ref q3, .int (an_is (xs 1).toInt (xs 2).toInt)]) rfl ?_
        refine clW (wr := []) [0, 1, 2, 3, 4, 5, 6, 7, 8, 9, 10, 11, 12, 13, 14, 15, 16, 17, 18, 19, 20, 21, 22, 23, 24, 25, 26, 27, 28, 29, 30, 31] [] (va_runV (As := [.int (xs 1), .int (xs 2)]) (rest := [.int (an_is (xs 1).toInt (xs 2).toInt)]) ⟨hx, hb, hml, hown, hts⟩ (c9_is l dC dI q3 qb cb (xs 1) (xs 2) _ ) (cwV 2 hts gL_law_X9_is rfl rfl rfl (by decide +kernel) ⟨Nat.le_of_ble_eq_true rfl, Nat.le_of_ble_eq_true rfl⟩) ⟨pz_blind, va_recv hK hP (ci := 8) (q0 := 0) rfl rfl, pz_of hP hK hD hN [0, 1, 2, 3, 4, 5, 6, 7, 8, 9, 10, 11, 12, 13, 14, 15, 16, 17, 18, 19, 20, 21, 22, 23, 24, 25, 26, 27, 28, 29, 30, 31] [5, 6, 7, 8, 9, 10, 11, 12, 13, 14, 15, 16, 17, 18, 19, 20, 21, 22, 23, 24, 25, 26, 27, 28, 29, 30, 31, 32, 33, 34, 35] rfl (by decide) rfl⟩ rfl rfl hl.1 rfl (lv_room (Nat.le_of_ble_eq_true rfl)) dL_law_1090 ⟨Nat.le_of_ble_eq_true rfl, Nat.le_of_ble_eq_true rfl⟩) hS hP hD hK hA rfl rfl (by decide) (by decide) (fun v w1 ty1 H locs w188 hP hD hK hS => ?_)
        obtain ⟨rfl, rfl, rfl⟩ := w188
        refine W.eq (g2 := F0 m 1093 ls [.int (an_is (xs 1).toInt (xs 2).toInt), .int (an_is (xs 1).toInt (xs 2).toInt)]) rfl ?_
        have hP : va_P (dC, dI) vwCl [] H := hP
        have hD : va_D (fun q : Nat => s.heap.size ≤ q) [] := hD
        have hK : va_K (dC, dI) vwCl [((ca 0), .object "ReflectModels$ClassModel"), ((ca 1), .object "ReflectModels$Member"), ((ca 2), .object "ReflectModels$Handle"), ((ca 3), .object "ReflectModels$Thing"), ((ca 4), .object "ReflectModels$Value"), ((cb 0), .int), ((cb 1), .int), ((cb 2), .int), ((cb 3), .boolean), ((cb 4), .boolean), ((cb 5), .int), ((cb 6), .int), ((cb 7), .int), ((cb 8), .int), ((cb 9), .boolean), ((cb 10), .int), ((cb 11), .int), ((cb 12), .int), ((cb 13), .int), ((cb 14), .boolean), ((cb 15), .boolean), ((cb 16), .boolean), ((cb 17), .boolean), ((cb 18), .int), ((cb 19), .int), ((cb 20), .int), ((cb 21), .boolean), ((cb 22), .int), ((cb 23), .int), ((cb 24), .int), ((cb 25), .int), ((cb 26), .int), ((cb 27), .long), ((cb 28), .int), ((cb 29), .long), ((cb 30), .int)] s := hK
        refine W.cs (cells' := 43) (slots' := 12110) rfl rfl ?_
        refine lv_icmp_eq (tgt := 1154) hx hb dL_law_1093 (by decide) (fun _ => ?_) (fun h => absurd rfl h)
        refine lv_iinc (v := 10) (lv' := [(3, .int 10), (2, .ref q3), (1, .ref q1), (0, .ref b)]) hx hb dL_law_1154 hl (k := 0) rfl (by decide) (by decide) rfl (fun ls hl => ?_)
        refine lv_goto (tgt := 18) hx hb dL_law_1157 (by decide) ?_
        refine lv_iload_n hx hb dL_law_18 rfl (lv_at hl 0 rfl) ?_
        refine lv_aload_n hx hb dL_law_19 rfl (lv_at hl 3 rfl) ?_
        refine va_slen hx hb hX hbl hbA hS dL_law_20 ?_
        refine W.eq (g2 := F0 m 21 ls [.int 10, .int 10]) rfl ?_
        refine lv_bipush (v := 10) hx hb dL_law_21 (by decide) ?_
        refine lv_isub hx hb dL_law_23 ?_
        refine lv_topi (fun y189 ey189 => ?_)
        obtain rfl : y189 = 0 := ey189.trans (by decide)
        refine lv_icmp_gt (tgt := 1160) hx hb dL_law_24 (by decide) (fun _ => ?_) (fun h => absurd (by decide) h)
        refine lv_iconst (v := 1) hx hb dL_law_1160 (by decide) ?_
        refine va_forget (fun z hz => hS.2.2 z hz) ?_
        refine W.widen (k := 600000) (n := 7302250) (by omega) (by omega) ?_
        exact lw_ret hx hb hr hlocks dL_law_1161
      · refine lv_tableIn (tgt := 1098) (off := 1065) hx hb dL_law_33 (by decide) (by decide) (by decide) (by decide) ?_
        refine lv_aload_n hx hb dL_law_1098 rfl (lv_at hl 2 rfl) ?_
        refine lv_aload_n hx hb dL_law_1099 rfl (lv_at hl 3 rfl) ?_
        refine lv_iload_n hx hb dL_law_1100 rfl (lv_at hl 0 rfl) ?_
        refine lv_iconst (v := 1) hx hb dL_law_1101 (by decide) ?_
        refine lv_iadd hx hb dL_law_1102 ?_
        refine lv_topi (fun y190 ey190 => ?_)
        obtain rfl : y190 = 1 := ey190.trans (by decide)
        refine va_sld hx hb hX hbl hbA hS (vp_in_iff.mpr ⟨by decide, by decide⟩) dL_law_1103 ?_
        refine W.eq (g2 := F0 m 1104 ls [.int (xs 1), .ref q1]) rfl ?_
        refine lv_aload_n hx hb dL_law_1104 rfl (lv_at hl 3 rfl) ?_
        refine lv_iload_n hx hb dL_law_1105 rfl (lv_at hl 0 rfl) ?_
        refine lv_iconst (v := 2) hx hb dL_law_1106 (by decide) ?_
        refine lv_iadd hx hb dL_law_1107 ?_
        refine lv_topi (fun y191 ey191 => ?_)
        obtain rfl : y191 = 2 := ey191.trans (by decide)
        refine va_sld hx hb hX hbl hbA hS (vp_in_iff.mpr ⟨by decide, by decide⟩) dL_law_1108 ?_
        refine W.eq (g2 := F0 m 1109 ls [.int (xs 2), .int (xs 1), .ref q1]) rfl ?_
        refine clW (wr := [(q3, .inr (8, [.int 0, .int 1, .ref (qb 0), .ref (qb 1), .ref (qb 2), .ref (qb 3), .ref (qb 4), .ref (qb 5), .ref (qb 6), .ref (qb 7), .int 0, .ref (qb 8), .ref (qb 9), .ref (qb 10), .ref (qb 11), .ref (qb 12), .ref (qb 13), .ref (qb 14), .ref (qb 15), .ref (qb 16), .ref (qb 17), .ref (qb 18), .ref (qb 19), .int 0, .int 0, .ref (qb 20), .ref (qb 21), .int 0, .ref (qb 22), .ref (qb 23), .ref (qb 24), .ref (qb 25), .ref (qb 26), .ref (qb 27), .int 0, .ref (qb 28), .ref (qb 29), .int 0, .long 0, .int 0, .int 0, .ref (qb 30)])), ((qb 0), .inl ((cb 0), 16, .inl (upd (fun _ => 0) 0 (-1)))), ((qb 1), .inl ((cb 1), 16, .inl (fun _ => 0))), ((qb 2), .inl ((cb 2), 16, .inl (upd (fun _ => 0) 0 (-1)))), ((qb 3), .inl ((cb 3), 16, .inl (fun _ => 0))), ((qb 4), .inl ((cb 4), 16, .inl (fun _ => 0))), ((qb 5), .inl ((cb 5), 16, .inl (fun _ => 0))), ((qb 6), .inl ((cb 6), 16, .inl (fun _ => 0))), ((qb 7), .inl ((cb 7), 16, .inl (fun _ => 0))), ((qb 8), .inl ((cb 8), 40, .inl (fun _ => 0))), ((qb 9), .inl ((cb 9), 40, .inl (fun _ => 0))), ((qb 10), .inl ((cb 10), 40, .inl (fun _ => 0))), ((qb 11), .inl ((cb 11), 40, .inl (fun _ => 0))), ((qb 12), .inl ((cb 12), 40, .inl (fun _ => 0))), ((qb 13), .inl ((cb 13), 80, .inl (fun _ => 0))), ((qb 14), .inl ((cb 14), 40, .inl (fun _ => 0))), ((qb 15), .inl ((cb 15), 40, .inl (fun _ => 0))), ((qb 16), .inl ((cb 16), 40, .inl (fun _ => 0))), ((qb 17), .inl ((cb 17), 40, .inl (fun _ => 0))), ((qb 18), .inl ((cb 18), 40, .inl (fun _ => 0))), ((qb 19), .inl ((cb 19), 40, .inl (fun _ => 0))), ((qb 20), .inl ((cb 20), 60, .inl (fun _ => 0))), ((qb 21), .inl ((cb 21), 60, .inl (fun _ => 0))), ((qb 22), .inl ((cb 22), 130, .inl (fun _ => 0))), ((qb 23), .inl ((cb 23), 130, .inl (fun _ => 0))), ((qb 24), .inl ((cb 24), 130, .inl (fun _ => 0))), ((qb 25), .inl ((cb 25), 130, .inl (fun _ => 0))), ((qb 26), .inl ((cb 26), 5240, .inl (fun _ => 0))), ((qb 27), .inl ((cb 27), 5240, .inr (.inl (fun _ => 0)))), ((qb 28), .inl ((cb 28), 3, .inl (fun _ => 0))), ((qb 29), .inl ((cb 29), 3, .inr (.inl (fun _ => 0)))), ((qb 30), .inl ((cb 30), 16, .inl (fun _ => 0)))]) [0, 1, 2, 3, 4, 5, 6, 7, 8, 9, 10] [11, 12, 13, 14, 15, 16, 17, 18, 19, 20, 21, 22, 23, 24, 25, 26, 27, 28, 29, 30, 31, 32, 33, 34, 35, 36, 37, 38, 39, 40, 41, 42] (va_runV (As := [.int (xs 1), .int (xs 2)]) (rest := []) ⟨hx, hb, hml, hown, hts⟩ (c8_handle l dC dI q1 qa ca (xs 1) (xs 2) _ ) (cwV 2 hts gL_law_X8_handle rfl rfl rfl (by decide +kernel) ⟨Nat.le_of_ble_eq_true rfl, Nat.le_of_ble_eq_true rfl⟩) ⟨pz_blind, va_recv hK hP (ci := 7) (q0 := 0) rfl rfl, pz_of hP hK hD hN [0, 1, 2, 3, 4, 5, 6, 7, 8, 9, 10] [0, 1, 2, 3, 4] rfl (by decide) rfl⟩ rfl rfl hl.1 rfl (lv_room (Nat.le_of_ble_eq_true rfl)) dL_law_1109 ⟨Nat.le_of_ble_eq_true rfl, Nat.le_of_ble_eq_true rfl⟩) hS hP hD hK hA rfl rfl (by decide) (by decide) (fun v w1 ty1 H locs w192 hP hD hK hS => ?_)
        obtain ⟨rfl, rfl, rfl⟩ := w192
        refine W.eq (g2 := F0 m 1112 ls [.int (an_handle (xs 1).toInt (xs 2).toInt)]) rfl ?_
        have hP : va_P (dC, dI) vwCl [(q3, .inr (8, [.int 0, .int 1, .ref (qb 0), .ref (qb 1), .ref (qb 2), .ref (qb 3), .ref (qb 4), .ref (qb 5), .ref (qb 6), .ref (qb 7), .int 0, .ref (qb 8), .ref (qb 9), .ref (qb 10), .ref (qb 11), .ref (qb 12), .ref (qb 13), .ref (qb 14), .ref (qb 15), .ref (qb 16), .ref (qb 17), .ref (qb 18), .ref (qb 19), .int 0, .int 0, .ref (qb 20), .ref (qb 21), .int 0, .ref (qb 22), .ref (qb 23), .ref (qb 24), .ref (qb 25), .ref (qb 26), .ref (qb 27), .int 0, .ref (qb 28), .ref (qb 29), .int 0, .long 0, .int 0, .int 0, .ref (qb 30)])), ((qb 0), .inl ((cb 0), 16, .inl (upd (fun _ => 0) 0 (-1)))), ((qb 1), .inl ((cb 1), 16, .inl (fun _ => 0))), ((qb 2), .inl ((cb 2), 16, .inl (upd (fun _ => 0) 0 (-1)))), ((qb 3), .inl ((cb 3), 16, .inl (fun _ => 0))), ((qb 4), .inl ((cb 4), 16, .inl (fun _ => 0))), ((qb 5), .inl ((cb 5), 16, .inl (fun _ => 0))), ((qb 6), .inl ((cb 6), 16, .inl (fun _ => 0))), ((qb 7), .inl ((cb 7), 16, .inl (fun _ => 0))), ((qb 8), .inl ((cb 8), 40, .inl (fun _ => 0))), ((qb 9), .inl ((cb 9), 40, .inl (fun _ => 0))), ((qb 10), .inl ((cb 10), 40, .inl (fun _ => 0))), ((qb 11), .inl ((cb 11), 40, .inl (fun _ => 0))), ((qb 12), .inl ((cb 12), 40, .inl (fun _ => 0))), ((qb 13), .inl ((cb 13), 80, .inl (fun _ => 0))), ((qb 14), .inl ((cb 14), 40, .inl (fun _ => 0))), ((qb 15), .inl ((cb 15), 40, .inl (fun _ => 0))), ((qb 16), .inl ((cb 16), 40, .inl (fun _ => 0))), ((qb 17), .inl ((cb 17), 40, .inl (fun _ => 0))), ((qb 18), .inl ((cb 18), 40, .inl (fun _ => 0))), ((qb 19), .inl ((cb 19), 40, .inl (fun _ => 0))), ((qb 20), .inl ((cb 20), 60, .inl (fun _ => 0))), ((qb 21), .inl ((cb 21), 60, .inl (fun _ => 0))), ((qb 22), .inl ((cb 22), 130, .inl (fun _ => 0))), ((qb 23), .inl ((cb 23), 130, .inl (fun _ => 0))), ((qb 24), .inl ((cb 24), 130, .inl (fun _ => 0))), ((qb 25), .inl ((cb 25), 130, .inl (fun _ => 0))), ((qb 26), .inl ((cb 26), 5240, .inl (fun _ => 0))), ((qb 27), .inl ((cb 27), 5240, .inr (.inl (fun _ => 0)))), ((qb 28), .inl ((cb 28), 3, .inl (fun _ => 0))), ((qb 29), .inl ((cb 29), 3, .inr (.inl (fun _ => 0)))), ((qb 30), .inl ((cb 30), 16, .inl (fun _ => 0)))] H := hP
        have hD : va_D (fun q : Nat => s.heap.size ≤ q) [(q3, .inr (8, [.int 0, .int 1, .ref (qb 0), .ref (qb 1), .ref (qb 2), .ref (qb 3), .ref (qb 4), .ref (qb 5), .ref (qb 6), .ref (qb 7), .int 0, .ref (qb 8), .ref (qb 9), .ref (qb 10), .ref (qb 11), .ref (qb 12), .ref (qb 13), .ref (qb 14), .ref (qb 15), .ref (qb 16), .ref (qb 17), .ref (qb 18), .ref (qb 19), .int 0, .int 0, .ref (qb 20), .ref (qb 21), .int 0, .ref (qb 22), .ref (qb 23), .ref (qb 24), .ref (qb 25), .ref (qb 26), .ref (qb 27), .int 0, .ref (qb 28), .ref (qb 29), .int 0, .long 0, .int 0, .int 0, .ref (qb 30)])), ((qb 0), .inl ((cb 0), 16, .inl (upd (fun _ => 0) 0 (-1)))), ((qb 1), .inl ((cb 1), 16, .inl (fun _ => 0))), ((qb 2), .inl ((cb 2), 16, .inl (upd (fun _ => 0) 0 (-1)))), ((qb 3), .inl ((cb 3), 16, .inl (fun _ => 0))), ((qb 4), .inl ((cb 4), 16, .inl (fun _ => 0))), ((qb 5), .inl ((cb 5), 16, .inl (fun _ => 0))), ((qb 6), .inl ((cb 6), 16, .inl (fun _ => 0))), ((qb 7), .inl ((cb 7), 16, .inl (fun _ => 0))), ((qb 8), .inl ((cb 8), 40, .inl (fun _ => 0))), ((qb 9), .inl ((cb 9), 40, .inl (fun _ => 0))), ((qb 10), .inl ((cb 10), 40, .inl (fun _ => 0))), ((qb 11), .inl ((cb 11), 40, .inl (fun _ => 0))), ((qb 12), .inl ((cb 12), 40, .inl (fun _ => 0))), ((qb 13), .inl ((cb 13), 80, .inl (fun _ => 0))), ((qb 14), .inl ((cb 14), 40, .inl (fun _ => 0))), ((qb 15), .inl ((cb 15), 40, .inl (fun _ => 0))), ((qb 16), .inl ((cb 16), 40, .inl (fun _ => 0))), ((qb 17), .inl ((cb 17), 40, .inl (fun _ => 0))), ((qb 18), .inl ((cb 18), 40, .inl (fun _ => 0))), ((qb 19), .inl ((cb 19), 40, .inl (fun _ => 0))), ((qb 20), .inl ((cb 20), 60, .inl (fun _ => 0))), ((qb 21), .inl ((cb 21), 60, .inl (fun _ => 0))), ((qb 22), .inl ((cb 22), 130, .inl (fun _ => 0))), ((qb 23), .inl ((cb 23), 130, .inl (fun _ => 0))), ((qb 24), .inl ((cb 24), 130, .inl (fun _ => 0))), ((qb 25), .inl ((cb 25), 130, .inl (fun _ => 0))), ((qb 26), .inl ((cb 26), 5240, .inl (fun _ => 0))), ((qb 27), .inl ((cb 27), 5240, .inr (.inl (fun _ => 0)))), ((qb 28), .inl ((cb 28), 3, .inl (fun _ => 0))), ((qb 29), .inl ((cb 29), 3, .inr (.inl (fun _ => 0)))), ((qb 30), .inl ((cb 30), 16, .inl (fun _ => 0)))] := hD
        have hK : va_K (dC, dI) vwCl [((ca 0), .object "ReflectModels$ClassModel"), ((ca 1), .object "ReflectModels$Member"), ((ca 2), .object "ReflectModels$Handle"), ((ca 3), .object "ReflectModels$Thing"), ((ca 4), .object "ReflectModels$Value"), ((cb 0), .int), ((cb 1), .int), ((cb 2), .int), ((cb 3), .boolean), ((cb 4), .boolean), ((cb 5), .int), ((cb 6), .int), ((cb 7), .int), ((cb 8), .int), ((cb 9), .boolean), ((cb 10), .int), ((cb 11), .int), ((cb 12), .int), ((cb 13), .int), ((cb 14), .boolean), ((cb 15), .boolean), ((cb 16), .boolean), ((cb 17), .boolean), ((cb 18), .int), ((cb 19), .int), ((cb 20), .int), ((cb 21), .boolean), ((cb 22), .int), ((cb 23), .int), ((cb 24), .int), ((cb 25), .int), ((cb 26), .int), ((cb 27), .long), ((cb 28), .int), ((cb 29), .long), ((cb 30), .int)] s := hK
        refine W.cs (cells' := 43) (slots' := 12110) rfl rfl ?_
        refine lv_aload_n hx hb dL_law_1112 rfl (lv_at hl 1 rfl) ?_
        refine lv_aload_n hx hb dL_law_1113 rfl (lv_at hl 3 rfl) ?_
        refine lv_iload_n hx hb dL_law_1114 rfl (lv_at hl 0 rfl) ?_
        refine lv_iconst (v := 1) hx hb dL_law_1115 (by decide) ?_
        refine lv_iadd hx hb dL_law_1116 ?_
        refine lv_topi (fun y193 ey193 => ?_)
        obtain rfl : y193 = 1 := ey193.trans (by decide)
        refine va_sld hx hb hX hbl hbA hS (vp_in_iff.mpr ⟨by decide, by decide⟩) dL_law_1117 ?_
        refine W.eq (g2 := F0 m 1118 ls [.int (xs 1), .ref q3, .int (an_handle (xs 1).toInt (xs 2).toInt)]) rfl ?_
        refine lv_aload_n hx hb dL_law_1118 rfl (lv_at hl 3 rfl) ?_
        refine lv_iload_n hx hb dL_law_1119 rfl (lv_at hl 0 rfl) ?_
        refine lv_iconst (v := 2) hx hb dL_law_1120 (by decide) ?_
        refine lv_iadd hx hb dL_law_1121 ?_
        refine lv_topi (fun y194 ey194 => ?_)
        obtain rfl : y194 = 2 := ey194.trans (by decide)
        refine va_sld hx hb hX hbl hbA hS (vp_in_iff.mpr ⟨by decide, by decide⟩) dL_law_1122 ?_
        refine W.eq (g2 := F0 m 1123 ls [.int (xs 2), .int (xs 1), .ref q3, .int (an_handle (xs 1).toInt (xs 2).toInt)]) rfl ?_
        refine clW (wr := []) [0, 1, 2, 3, 4, 5, 6, 7, 8, 9, 10, 11, 12, 13, 14, 15, 16, 17, 18, 19, 20, 21, 22, 23, 24, 25, 26, 27, 28, 29, 30, 31] [] (va_runV (As := [.int (xs 1), .int (xs 2)]) (rest := [.int (an_handle (xs 1).toInt (xs 2).toInt)]) ⟨hx, hb, hml, hown, hts⟩ (c9_handle l dC dI q3 qb cb (xs 1) (xs 2) _ ) (cwV 2 hts gL_law_X9_handle rfl rfl rfl (by decide +kernel) ⟨Nat.le_of_ble_eq_true rfl, Nat.le_of_ble_eq_true rfl⟩) ⟨pz_blind, va_recv hK hP (ci := 8) (q0 := 0) rfl rfl, pz_of hP hK hD hN [0, 1, 2, 3, 4, 5, 6, 7, 8, 9, 10, 11, 12, 13, 14, 15, 16, 17, 18, 19, 20, 21, 22, 23, 24, 25, 26, 27, 28, 29, 30, 31] [5, 6, 7, 8, 9, 10, 11, 12, 13, 14, 15, 16, 17, 18, 19, 20, 21, 22, 23, 24, 25, 26, 27, 28, 29, 30, 31, 32, 33, 34, 35] rfl (by decide) rfl⟩ rfl rfl hl.1 rfl (lv_room (Nat.le_of_ble_eq_true rfl)) dL_law_1123 ⟨Nat.le_of_ble_eq_true rfl, Nat.le_of_ble_eq_true rfl⟩) hS hP hD hK hA rfl rfl (by decide) (by decide) (fun v w1 ty1 H locs w195 hP hD hK hS => ?_)
        obtain ⟨rfl, rfl, rfl⟩ := w195
        refine W.eq (g2 := F0 m 1126 ls [.int (an_handle (xs 1).toInt (xs 2).toInt), .int (an_handle (xs 1).toInt (xs 2).toInt)]) rfl ?_
        have hP : va_P (dC, dI) vwCl [] H := hP
        have hD : va_D (fun q : Nat => s.heap.size ≤ q) [] := hD
        have hK : va_K (dC, dI) vwCl [((ca 0), .object "ReflectModels$ClassModel"), ((ca 1), .object "ReflectModels$Member"), ((ca 2), .object "ReflectModels$Handle"), ((ca 3), .object "ReflectModels$Thing"), ((ca 4), .object "ReflectModels$Value"), ((cb 0), .int), ((cb 1), .int), ((cb 2), .int), ((cb 3), .boolean), ((cb 4), .boolean), ((cb 5), .int), ((cb 6), .int), ((cb 7), .int), ((cb 8), .int), ((cb 9), .boolean), ((cb 10), .int), ((cb 11), .int), ((cb 12), .int), ((cb 13), .int), ((cb 14), .boolean), ((cb 15), .boolean), ((cb 16), .boolean), ((cb 17), .boolean), ((cb 18), .int), ((cb 19), .int), ((cb 20), .int), ((cb 21), .boolean), ((cb 22), .int), ((cb 23), .int), ((cb 24), .int), ((cb 25), .int), ((cb 26), .int), ((cb 27), .long), ((cb 28), .int), ((cb 29), .long), ((cb 30), .int)] s := hK
        refine W.cs (cells' := 43) (slots' := 12110) rfl rfl ?_
        refine lv_icmp_eq (tgt := 1154) hx hb dL_law_1126 (by decide) (fun _ => ?_) (fun h => absurd rfl h)
        refine lv_iinc (v := 10) (lv' := [(3, .int 10), (2, .ref q3), (1, .ref q1), (0, .ref b)]) hx hb dL_law_1154 hl (k := 0) rfl (by decide) (by decide) rfl (fun ls hl => ?_)
        refine lv_goto (tgt := 18) hx hb dL_law_1157 (by decide) ?_
        refine lv_iload_n hx hb dL_law_18 rfl (lv_at hl 0 rfl) ?_
        refine lv_aload_n hx hb dL_law_19 rfl (lv_at hl 3 rfl) ?_
        refine va_slen hx hb hX hbl hbA hS dL_law_20 ?_
        refine W.eq (g2 := F0 m 21 ls [.int 10, .int 10]) rfl ?_
        refine lv_bipush (v := 10) hx hb dL_law_21 (by decide) ?_
        refine lv_isub hx hb dL_law_23 ?_
        refine lv_topi (fun y196 ey196 => ?_)
        obtain rfl : y196 = 0 := ey196.trans (by decide)
        refine lv_icmp_gt (tgt := 1160) hx hb dL_law_24 (by decide) (fun _ => ?_) (fun h => absurd (by decide) h)
        refine lv_iconst (v := 1) hx hb dL_law_1160 (by decide) ?_
        refine va_forget (fun z hz => hS.2.2 z hz) ?_
        refine W.widen (k := 600000) (n := 7302250) (by omega) (by omega) ?_
        exact lw_ret hx hb hr hlocks dL_law_1161
      · refine lv_tableIn (tgt := 1131) (off := 1098) hx hb dL_law_33 (by decide) (by decide) (by decide) (by decide) ?_
        refine lv_aload_n hx hb dL_law_1131 rfl (lv_at hl 2 rfl) ?_
        refine lv_aload_n hx hb dL_law_1132 rfl (lv_at hl 3 rfl) ?_
        refine lv_iload_n hx hb dL_law_1133 rfl (lv_at hl 0 rfl) ?_
        refine lv_iconst (v := 1) hx hb dL_law_1134 (by decide) ?_
        refine lv_iadd hx hb dL_law_1135 ?_
        refine lv_topi (fun y197 ey197 => ?_)
        obtain rfl : y197 = 1 := ey197.trans (by decide)
        refine va_sld hx hb hX hbl hbA hS (vp_in_iff.mpr ⟨by decide, by decide⟩) dL_law_1136 ?_
        refine W.eq (g2 := F0 m 1137 ls [.int (xs 1), .ref q1]) rfl ?_
        refine clW (wr := [(q3, .inr (8, [.int 0, .int 1, .ref (qb 0), .ref (qb 1), .ref (qb 2), .ref (qb 3), .ref (qb 4), .ref (qb 5), .ref (qb 6), .ref (qb 7), .int 0, .ref (qb 8), .ref (qb 9), .ref (qb 10), .ref (qb 11), .ref (qb 12), .ref (qb 13), .ref (qb 14), .ref (qb 15), .ref (qb 16), .ref (qb 17), .ref (qb 18), .ref (qb 19), .int 0, .int 0, .ref (qb 20), .ref (qb 21), .int 0, .ref (qb 22), .ref (qb 23), .ref (qb 24), .ref (qb 25), .ref (qb 26), .ref (qb 27), .int 0, .ref (qb 28), .ref (qb 29), .int 0, .long 0, .int 0, .int 0, .ref (qb 30)])), ((qb 0), .inl ((cb 0), 16, .inl (upd (fun _ => 0) 0 (-1)))), ((qb 1), .inl ((cb 1), 16, .inl (fun _ => 0))), ((qb 2), .inl ((cb 2), 16, .inl (upd (fun _ => 0) 0 (-1)))), ((qb 3), .inl ((cb 3), 16, .inl (fun _ => 0))), ((qb 4), .inl ((cb 4), 16, .inl (fun _ => 0))), ((qb 5), .inl ((cb 5), 16, .inl (fun _ => 0))), ((qb 6), .inl ((cb 6), 16, .inl (fun _ => 0))), ((qb 7), .inl ((cb 7), 16, .inl (fun _ => 0))), ((qb 8), .inl ((cb 8), 40, .inl (fun _ => 0))), ((qb 9), .inl ((cb 9), 40, .inl (fun _ => 0))), ((qb 10), .inl ((cb 10), 40, .inl (fun _ => 0))), ((qb 11), .inl ((cb 11), 40, .inl (fun _ => 0))), ((qb 12), .inl ((cb 12), 40, .inl (fun _ => 0))), ((qb 13), .inl ((cb 13), 80, .inl (fun _ => 0))), ((qb 14), .inl ((cb 14), 40, .inl (fun _ => 0))), ((qb 15), .inl ((cb 15), 40, .inl (fun _ => 0))), ((qb 16), .inl ((cb 16), 40, .inl (fun _ => 0))), ((qb 17), .inl ((cb 17), 40, .inl (fun _ => 0))), ((qb 18), .inl ((cb 18), 40, .inl (fun _ => 0))), ((qb 19), .inl ((cb 19), 40, .inl (fun _ => 0))), ((qb 20), .inl ((cb 20), 60, .inl (fun _ => 0))), ((qb 21), .inl ((cb 21), 60, .inl (fun _ => 0))), ((qb 22), .inl ((cb 22), 130, .inl (fun _ => 0))), ((qb 23), .inl ((cb 23), 130, .inl (fun _ => 0))), ((qb 24), .inl ((cb 24), 130, .inl (fun _ => 0))), ((qb 25), .inl ((cb 25), 130, .inl (fun _ => 0))), ((qb 26), .inl ((cb 26), 5240, .inl (fun _ => 0))), ((qb 27), .inl ((cb 27), 5240, .inr (.inl (fun _ => 0)))), ((qb 28), .inl ((cb 28), 3, .inl (fun _ => 0))), ((qb 29), .inl ((cb 29), 3, .inr (.inl (fun _ => 0)))), ((qb 30), .inl ((cb 30), 16, .inl (fun _ => 0)))]) [0, 1, 2, 3, 4, 5, 6, 7, 8, 9, 10] [11, 12, 13, 14, 15, 16, 17, 18, 19, 20, 21, 22, 23, 24, 25, 26, 27, 28, 29, 30, 31, 32, 33, 34, 35, 36, 37, 38, 39, 40, 41, 42] (va_runV (As := [.int (xs 1)]) (rest := []) ⟨hx, hb, hml, hown, hts⟩ (c8_told l dC dI q1 qa ca (xs 1) _ ) (cwV 1 hts gL_law_X8_told rfl rfl rfl (by decide +kernel) ⟨Nat.le_of_ble_eq_true rfl, Nat.le_of_ble_eq_true rfl⟩) ⟨pz_blind, va_recv hK hP (ci := 7) (q0 := 0) rfl rfl, pz_of hP hK hD hN [0, 1, 2, 3, 4, 5, 6, 7, 8, 9, 10] [0, 1, 2, 3, 4] rfl (by decide) rfl⟩ rfl rfl hl.1 rfl (lv_room (Nat.le_of_ble_eq_true rfl)) dL_law_1137 ⟨Nat.le_of_ble_eq_true rfl, Nat.le_of_ble_eq_true rfl⟩) hS hP hD hK hA rfl rfl (by decide) (by decide) (fun v w1 ty1 H locs w198 hP hD hK hS => ?_)
        obtain ⟨rfl, rfl, rfl⟩ := w198
        refine W.eq (g2 := F0 m 1140 ls [.int (an_told (xs 1).toInt)]) rfl ?_
        have hP : va_P (dC, dI) vwCl [(q3, .inr (8, [.int 0, .int 1, .ref (qb 0), .ref (qb 1), .ref (qb 2), .ref (qb 3), .ref (qb 4), .ref (qb 5), .ref (qb 6), .ref (qb 7), .int 0, .ref (qb 8), .ref (qb 9), .ref (qb 10), .ref (qb 11), .ref (qb 12), .ref (qb 13), .ref (qb 14), .ref (qb 15), .ref (qb 16), .ref (qb 17), .ref (qb 18), .ref (qb 19), .int 0, .int 0, .ref (qb 20), .ref (qb 21), .int 0, .ref (qb 22), .ref (qb 23), .ref (qb 24), .ref (qb 25), .ref (qb 26), .ref (qb 27), .int 0, .ref (qb 28), .ref (qb 29), .int 0, .long 0, .int 0, .int 0, .ref (qb 30)])), ((qb 0), .inl ((cb 0), 16, .inl (upd (fun _ => 0) 0 (-1)))), ((qb 1), .inl ((cb 1), 16, .inl (fun _ => 0))), ((qb 2), .inl ((cb 2), 16, .inl (upd (fun _ => 0) 0 (-1)))), ((qb 3), .inl ((cb 3), 16, .inl (fun _ => 0))), ((qb 4), .inl ((cb 4), 16, .inl (fun _ => 0))), ((qb 5), .inl ((cb 5), 16, .inl (fun _ => 0))), ((qb 6), .inl ((cb 6), 16, .inl (fun _ => 0))), ((qb 7), .inl ((cb 7), 16, .inl (fun _ => 0))), ((qb 8), .inl ((cb 8), 40, .inl (fun _ => 0))), ((qb 9), .inl ((cb 9), 40, .inl (fun _ => 0))), ((qb 10), .inl ((cb 10), 40, .inl (fun _ => 0))), ((qb 11), .inl ((cb 11), 40, .inl (fun _ => 0))), ((qb 12), .inl ((cb 12), 40, .inl (fun _ => 0))), ((qb 13), .inl ((cb 13), 80, .inl (fun _ => 0))), ((qb 14), .inl ((cb 14), 40, .inl (fun _ => 0))), ((qb 15), .inl ((cb 15), 40, .inl (fun _ => 0))), ((qb 16), .inl ((cb 16), 40, .inl (fun _ => 0))), ((qb 17), .inl ((cb 17), 40, .inl (fun _ => 0))), ((qb 18), .inl ((cb 18), 40, .inl (fun _ => 0))), ((qb 19), .inl ((cb 19), 40, .inl (fun _ => 0))), ((qb 20), .inl ((cb 20), 60, .inl (fun _ => 0))), ((qb 21), .inl ((cb 21), 60, .inl (fun _ => 0))), ((qb 22), .inl ((cb 22), 130, .inl (fun _ => 0))), ((qb 23), .inl ((cb 23), 130, .inl (fun _ => 0))), ((qb 24), .inl ((cb 24), 130, .inl (fun _ => 0))), ((qb 25), .inl ((cb 25), 130, .inl (fun _ => 0))), ((qb 26), .inl ((cb 26), 5240, .inl (fun _ => 0))), ((qb 27), .inl ((cb 27), 5240, .inr (.inl (fun _ => 0)))), ((qb 28), .inl ((cb 28), 3, .inl (fun _ => 0))), ((qb 29), .inl ((cb 29), 3, .inr (.inl (fun _ => 0)))), ((qb 30), .inl ((cb 30), 16, .inl (fun _ => 0)))] H := hP
        have hD : va_D (fun q : Nat => s.heap.size ≤ q) [(q3, .inr (8, [.int 0, .int 1, .ref (qb 0), .ref (qb 1), .ref (qb 2), .ref (qb 3), .ref (qb 4), .ref (qb 5), .ref (qb 6), .ref (qb 7), .int 0, .ref (qb 8), .ref (qb 9), .ref (qb 10), .ref (qb 11), .ref (qb 12), .ref (qb 13), .ref (qb 14), .ref (qb 15), .ref (qb 16), .ref (qb 17), .ref (qb 18), .ref (qb 19), .int 0, .int 0, .ref (qb 20), .ref (qb 21), .int 0, .ref (qb 22), .ref (qb 23), .ref (qb 24), .ref (qb 25), .ref (qb 26), .ref (qb 27), .int 0, .ref (qb 28), .ref (qb 29), .int 0, .long 0, .int 0, .int 0, .ref (qb 30)])), ((qb 0), .inl ((cb 0), 16, .inl (upd (fun _ => 0) 0 (-1)))), ((qb 1), .inl ((cb 1), 16, .inl (fun _ => 0))), ((qb 2), .inl ((cb 2), 16, .inl (upd (fun _ => 0) 0 (-1)))), ((qb 3), .inl ((cb 3), 16, .inl (fun _ => 0))), ((qb 4), .inl ((cb 4), 16, .inl (fun _ => 0))), ((qb 5), .inl ((cb 5), 16, .inl (fun _ => 0))), ((qb 6), .inl ((cb 6), 16, .inl (fun _ => 0))), ((qb 7), .inl ((cb 7), 16, .inl (fun _ => 0))), ((qb 8), .inl ((cb 8), 40, .inl (fun _ => 0))), ((qb 9), .inl ((cb 9), 40, .inl (fun _ => 0))), ((qb 10), .inl ((cb 10), 40, .inl (fun _ => 0))), ((qb 11), .inl ((cb 11), 40, .inl (fun _ => 0))), ((qb 12), .inl ((cb 12), 40, .inl (fun _ => 0))), ((qb 13), .inl ((cb 13), 80, .inl (fun _ => 0))), ((qb 14), .inl ((cb 14), 40, .inl (fun _ => 0))), ((qb 15), .inl ((cb 15), 40, .inl (fun _ => 0))), ((qb 16), .inl ((cb 16), 40, .inl (fun _ => 0))), ((qb 17), .inl ((cb 17), 40, .inl (fun _ => 0))), ((qb 18), .inl ((cb 18), 40, .inl (fun _ => 0))), ((qb 19), .inl ((cb 19), 40, .inl (fun _ => 0))), ((qb 20), .inl ((cb 20), 60, .inl (fun _ => 0))), ((qb 21), .inl ((cb 21), 60, .inl (fun _ => 0))), ((qb 22), .inl ((cb 22), 130, .inl (fun _ => 0))), ((qb 23), .inl ((cb 23), 130, .inl (fun _ => 0))), ((qb 24), .inl ((cb 24), 130, .inl (fun _ => 0))), ((qb 25), .inl ((cb 25), 130, .inl (fun _ => 0))), ((qb 26), .inl ((cb 26), 5240, .inl (fun _ => 0))), ((qb 27), .inl ((cb 27), 5240, .inr (.inl (fun _ => 0)))), ((qb 28), .inl ((cb 28), 3, .inl (fun _ => 0))), ((qb 29), .inl ((cb 29), 3, .inr (.inl (fun _ => 0)))), ((qb 30), .inl ((cb 30), 16, .inl (fun _ => 0)))] := hD
        have hK : va_K (dC, dI) vwCl [((ca 0), .object "ReflectModels$ClassModel"), ((ca 1), .object "ReflectModels$Member"), ((ca 2), .object "ReflectModels$Handle"), ((ca 3), .object "ReflectModels$Thing"), ((ca 4), .object "ReflectModels$Value"), ((cb 0), .int), ((cb 1), .int), ((cb 2), .int), ((cb 3), .boolean), ((cb 4), .boolean), ((cb 5), .int), ((cb 6), .int), ((cb 7), .int), ((cb 8), .int), ((cb 9), .boolean), ((cb 10), .int), ((cb 11), .int), ((cb 12), .int), ((cb 13), .int), ((cb 14), .boolean), ((cb 15), .boolean), ((cb 16), .boolean), ((cb 17), .boolean), ((cb 18), .int), ((cb 19), .int), ((cb 20), .int), ((cb 21), .boolean), ((cb 22), .int), ((cb 23), .int), ((cb 24), .int), ((cb 25), .int), ((cb 26), .int), ((cb 27), .long), ((cb 28), .int), ((cb 29), .long), ((cb 30), .int)] s := hK
        refine W.cs (cells' := 43) (slots' := 12110) rfl rfl ?_
        refine lv_aload_n hx hb dL_law_1140 rfl (lv_at hl 1 rfl) ?_
        refine lv_aload_n hx hb dL_law_1141 rfl (lv_at hl 3 rfl) ?_
        refine lv_iload_n hx hb dL_law_1142 rfl (lv_at hl 0 rfl) ?_
        refine lv_iconst (v := 1) hx hb dL_law_1143 (by decide) ?_
        refine lv_iadd hx hb dL_law_1144 ?_
        refine lv_topi (fun y199 ey199 => ?_)
        obtain rfl : y199 = 1 := ey199.trans (by decide)
        refine va_sld hx hb hX hbl hbA hS (vp_in_iff.mpr ⟨by decide, by decide⟩) dL_law_1145 ?_
        refine W.eq (g2 := F0 m 1146 ls [.int (xs 1), .ref q3, .int (an_told (xs 1).toInt)]) rfl ?_
        refine clW (wr := []) [0, 1, 2, 3, 4, 5, 6, 7, 8, 9, 10, 11, 12, 13, 14, 15, 16, 17, 18, 19, 20, 21, 22, 23, 24, 25, 26, 27, 28, 29, 30, 31] [] (va_runV (As := [.int (xs 1)]) (rest := [.int (an_told (xs 1).toInt)]) ⟨hx, hb, hml, hown, hts⟩ (c9_told l dC dI q3 qb cb (xs 1) _ ) (cwV 1 hts gL_law_X9_told rfl rfl rfl (by decide +kernel) ⟨Nat.le_of_ble_eq_true rfl, Nat.le_of_ble_eq_true rfl⟩) ⟨pz_blind, va_recv hK hP (ci := 8) (q0 := 0) rfl rfl, pz_of hP hK hD hN [0, 1, 2, 3, 4, 5, 6, 7, 8, 9, 10, 11, 12, 13, 14, 15, 16, 17, 18, 19, 20, 21, 22, 23, 24, 25, 26, 27, 28, 29, 30, 31] [5, 6, 7, 8, 9, 10, 11, 12, 13, 14, 15, 16, 17, 18, 19, 20, 21, 22, 23, 24, 25, 26, 27, 28, 29, 30, 31, 32, 33, 34, 35] rfl (by decide) rfl⟩ rfl rfl hl.1 rfl (lv_room (Nat.le_of_ble_eq_true rfl)) dL_law_1146 ⟨Nat.le_of_ble_eq_true rfl, Nat.le_of_ble_eq_true rfl⟩) hS hP hD hK hA rfl rfl (by decide) (by decide) (fun v w1 ty1 H locs w200 hP hD hK hS => ?_)
        obtain ⟨rfl, rfl, rfl⟩ := w200
        refine W.eq (g2 := F0 m 1149 ls [.int (an_told (xs 1).toInt), .int (an_told (xs 1).toInt)]) rfl ?_
        have hP : va_P (dC, dI) vwCl [] H := hP
        have hD : va_D (fun q : Nat => s.heap.size ≤ q) [] := hD
        have hK : va_K (dC, dI) vwCl [((ca 0), .object "ReflectModels$ClassModel"), ((ca 1), .object "ReflectModels$Member"), ((ca 2), .object "ReflectModels$Handle"), ((ca 3), .object "ReflectModels$Thing"), ((ca 4), .object "ReflectModels$Value"), ((cb 0), .int), ((cb 1), .int), ((cb 2), .int), ((cb 3), .boolean), ((cb 4), .boolean), ((cb 5), .int), ((cb 6), .int), ((cb 7), .int), ((cb 8), .int), ((cb 9), .boolean), ((cb 10), .int), ((cb 11), .int), ((cb 12), .int), ((cb 13), .int), ((cb 14), .boolean), ((cb 15), .boolean), ((cb 16), .boolean), ((cb 17), .boolean), ((cb 18), .int), ((cb 19), .int), ((cb 20), .int), ((cb 21), .boolean), ((cb 22), .int), ((cb 23), .int), ((cb 24), .int), ((cb 25), .int), ((cb 26), .int), ((cb 27), .long), ((cb 28), .int), ((cb 29), .long), ((cb 30), .int)] s := hK
        refine W.cs (cells' := 43) (slots' := 12110) rfl rfl ?_
        refine lv_icmp_eq (tgt := 1154) hx hb dL_law_1149 (by decide) (fun _ => ?_) (fun h => absurd rfl h)
        refine lv_iinc (v := 10) (lv' := [(3, .int 10), (2, .ref q3), (1, .ref q1), (0, .ref b)]) hx hb dL_law_1154 hl (k := 0) rfl (by decide) (by decide) rfl (fun ls hl => ?_)
        refine lv_goto (tgt := 18) hx hb dL_law_1157 (by decide) ?_
        refine lv_iload_n hx hb dL_law_18 rfl (lv_at hl 0 rfl) ?_
        refine lv_aload_n hx hb dL_law_19 rfl (lv_at hl 3 rfl) ?_
        refine va_slen hx hb hX hbl hbA hS dL_law_20 ?_
        refine W.eq (g2 := F0 m 21 ls [.int 10, .int 10]) rfl ?_
        refine lv_bipush (v := 10) hx hb dL_law_21 (by decide) ?_
        refine lv_isub hx hb dL_law_23 ?_
        refine lv_topi (fun y201 ey201 => ?_)
        obtain rfl : y201 = 0 := ey201.trans (by decide)
        refine lv_icmp_gt (tgt := 1160) hx hb dL_law_24 (by decide) (fun _ => ?_) (fun h => absurd (by decide) h)
        refine lv_iconst (v := 1) hx hb dL_law_1160 (by decide) ?_
        refine va_forget (fun z hz => hS.2.2 z hz) ?_
        refine W.widen (k := 600000) (n := 7302250) (by omega) (by omega) ?_
        exact lw_ret hx hb hr hlocks dL_law_1161
