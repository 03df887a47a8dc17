set_option maxHeartbeats 40000000 in
set_option maxRecDepth 100000 in
/-- THE LAW, from its entry -/
theorem whole_start {p : Program} {e : Env} {s : State} {m : MethodId} {below : List Frame} {meth : Method} {c : Code} (l : Launch) {b L : Nat} {xs : Nat → Int32} (hL : L ≤ 10) (C0 : lw_At p s m meth c b L xs) : W p l e room_1 s m #[Value.ref b] below meth c s.heap [] 0 0 (lw_Z below #[Value.ref b] s) (entryFrame m ([Value.ref b] : List Value).toArray 4) := by
  obtain ⟨hx, hb, hr, hml, hown, hts0, hX, hbl, hlocks, hgv⟩ := id C0
  have hts : ∀ w ∈ wsL_law, w.before #[Value.ref b] s = true := fun w h => hts0 w (wsL_in w h)
  have hN : nwk s := nwk_start hts0
  have hown : s.vm.findClass RL = some m.cls := hown
  have hA : ∀ q : Nat, s.heap.size ≤ q → (fun q : Nat => s.heap.size ≤ q) q := fun _ h => h
  have hbA : ¬ (fun q : Nat => s.heap.size ≤ q) b := Nat.not_le.mpr hbl
  obtain ⟨c0, iS0, hKn0⟩ := u_known (C := RX0) (T := TX0) (N := 12) (n := 12) hts wk_X0 (hts (.instantiable RX0 12) (by decide +kernel))
  obtain ⟨c1, iS1, hKn1⟩ := u_known (C := RX1) (T := TX1) (N := 9) (n := 9) hts wk_X1 (hts (.instantiable RX1 9) (by decide +kernel))
  obtain ⟨c2, iS2, hKn2⟩ := u_known (C := RX2) (T := TX2) (N := 3) (n := 3) hts wk_X2 (hts (.instantiable RX2 3) (by decide +kernel))
  obtain ⟨c3, iS3, hKn3⟩ := u_known (C := RX4) (T := TX4) (N := 8) (n := 8) hts wk_X4 (hts (.instantiable RX4 8) (by decide +kernel))
  obtain ⟨c4, iS4, hKn4⟩ := u_known (C := RX5) (T := TX5) (N := 4) (n := 4) hts wk_X5 (hts (.instantiable RX5 4) (by decide +kernel))
  obtain ⟨c5, iS5, hKn5⟩ := u_known (C := RX6) (T := TX6) (N := 5) (n := 5) hts wk_X6 (hts (.instantiable RX6 5) (by decide +kernel))
  obtain ⟨c6, iS6, hKn6⟩ := u_known (C := RX7) (T := TX7) (N := 2) (n := 2) hts wk_X7 (hts (.instantiable RX7 2) (by decide +kernel))
  obtain ⟨c7, iS7, hKn7⟩ := u_known (C := RX8) (T := TX8) (N := 15) (n := 15) hts wk_X8 (hts (.instantiable RX8 15) (by decide +kernel))
  obtain ⟨c8, iS8, hKn8⟩ := u_known (C := RX9) (T := TX9) (N := 42) (n := 42) hts wk_X9 (hts (.instantiable RX9 42) (by decide +kernel))
  obtain ⟨dC, dI, hKc⟩ : ∃ (dC : Nat → ClassId) (dI : Nat → Nat → Nat), ∀ (k : Nat) (q : vw_C), vwCl[k]? = some q → u_Kn s q.1 q.2.1 q.2.2 (dC k) (dI k) := by
    refine ⟨fun k => if k = 0 then c0 else if k = 1 then c1 else if k = 2 then c2 else if k = 3 then c3 else if k = 4 then c4 else if k = 5 then c5 else if k = 6 then c6 else if k = 7 then c7 else c8, fun k => if k = 0 then iS0 else if k = 1 then iS1 else if k = 2 then iS2 else if k = 3 then iS3 else if k = 4 then iS4 else if k = 5 then iS5 else if k = 6 then iS6 else if k = 7 then iS7 else iS8, ?_⟩
    intro k q hq
    match k, hq with
    | 0, hq => cases hq; exact hKn0
    | 1, hq => cases hq; exact hKn1
    | 2, hq => cases hq; exact hKn2
    | 3, hq => cases hq; exact hKn3
    | 4, hq => cases hq; exact hKn4
    | 5, hq => cases hq; exact hKn5
    | 6, hq => cases hq; exact hKn6
    | 7, hq => cases hq; exact hKn7
    | 8, hq => cases hq; exact hKn8
    | k + 9, hq => simp [vwCl] at hq
  have hS : va_S (fun q : Nat => s.heap.size ≤ q) s.heap s.heap [] := va_S.rf
  have hK : va_K (dC, dI) vwCl [] s := ⟨hKc, fun k q h => by simp at h⟩
  have hP : va_P (dC, dI) vwCl [] s.heap := fun k q h => by simp at h
  have hD : va_D (fun q : Nat => s.heap.size ≤ q) [] := ⟨fun i j p q h => by simp at h, fun k q h => by simp at h⟩
  have hl := lv_entry ([.ref b]) (n := 4) (Nat.le_of_ble_eq_true rfl)
  rw [lg_entry_eq]
  generalize (lg_sl ([.ref b]) ++ List.replicate (4 - (lg_sl ([.ref b])).length) Slot.unset).toArray = ls at hl ⊢
  have hl : lv_has ls 4 [(0, .ref b)] := hl
  refine va_new (ci := 7) (fs := [.null, .int 0, .null, .int 0, .int 0, .null, .int 0, .null, .int 0, .null, .int 0, .int 0, .null, .int 0, .int 0]) (C := RX8) (T := TX8) (N := 15) hx hb hts inL_law_8 tyX8 tyX8_ok hown (hts (.classLink RL 7 RX8) (by decide +kernel)) (hts (.instantiable RX8 15) (by decide +kernel)) (hts (.initialized RX8) (by decide +kernel)) hK hP hD hS hA rfl df_X8 (Nat.le_of_ble_eq_true rfl) (Nat.le_of_ble_eq_true rfl) dL_law_0 (fun q1 H hP hD hS => ?_)
  have hP : va_P (dC, dI) vwCl [(q1, .inr (7, [.null, .int 0, .null, .int 0, .int 0, .null, .int 0, .null, .int 0, .null, .int 0, .int 0, .null, .int 0, .int 0]))] H := hP
  have hD : va_D (fun q : Nat => s.heap.size ≤ q) [(q1, .inr (7, [.null, .int 0, .null, .int 0, .int 0, .null, .int 0, .null, .int 0, .null, .int 0, .int 0, .null, .int 0, .int 0]))] := hD
  refine W.cs (cells' := 1) (slots' := 15) rfl rfl ?_
  refine lv_dup hx hb dL_law_3 rfl ?_
  refine clW (wr := []) [0] [] (va_runI (As := []) (rest := [.ref q1]) ⟨hx, hb, hml, hown, hts⟩ (c8_init l dC dI q1 _) (cwI 0 hts gL_law_X8_init rfl rfl rfl (hts (.initialized RX8) (by decide +kernel)) (hts (.methodLink RL 9 yX8_init) (by decide +kernel)) (hts (.instanceMethod yX8_init) (by decide +kernel)) rfl (by decide +kernel) ⟨Nat.le_of_ble_eq_true rfl, Nat.le_of_ble_eq_true rfl⟩) ⟨pz_blind, pz_of hP hK hD hN [0] [] rfl (by decide) rfl⟩ rfl rfl hl.1 rfl (lv_room (Nat.le_of_ble_eq_true rfl)) dL_law_4 ⟨Nat.le_of_ble_eq_true rfl, Nat.le_of_ble_eq_true rfl⟩) hS hP hD hK hA rfl rfl (by decide) (by decide) (fun v w1 ty1 H locs w2 hP hD hK hS => ?_)
  obtain ⟨rfl, qa, ca, rfl, rfl⟩ := w2
  refine W.eq (g2 := F0 m 7 ls [.ref q1]) rfl ?_
  have hP : va_P (dC, dI) vwCl [(q1, .inr (7, [.ref (qa 0), .int 1, .ref (qa 1), .int 0, .int 0, .ref (qa 2), .int 0, .ref (qa 3), .int 0, .ref (qa 4), .int 0, .int 0, .ref (qa 5), .int 0, .int 0])), ((qa 0), .inl ((ca 0), 16, .inr (.inr (.inr (.inr (va_up (fun _ => none) 0 (some (qa 6)))))))), ((qa 1), .inl ((ca 1), 40, .inr (.inr (.inr (.inr (fun _ => none)))))), ((qa 2), .inl ((ca 2), 60, .inr (.inr (.inr (.inr (fun _ => none)))))), ((qa 3), .inl ((ca 3), 124, .inr (.inr (.inr (.inr (fun _ => none)))))), ((qa 4), .inl ((ca 4), 3, .inr (.inr (.inr (.inr (va_up (va_up (va_up (fun _ => none) 0 (some (qa 7))) 1 (some (qa 8))) 2 (some (qa 9)))))))), ((qa 5), .inr (6, [.int 0, .long 0])), ((qa 6), .inr (0, [.int 0, .null, .int 0, .null, .int 0, .int 0, .int 1, .int 1, .int 0, .int 0, .int 0, .int 0])), ((qa 7), .inr (6, [.int 0, .long 0])), ((qa 8), .inr (6, [.int 0, .long 0])), ((qa 9), .inr (6, [.int 0, .long 0]))] H := hP
  have hD : va_D (fun q : Nat => s.heap.size ≤ q) [(q1, .inr (7, [.ref (qa 0), .int 1, .ref (qa 1), .int 0, .int 0, .ref (qa 2), .int 0, .ref (qa 3), .int 0, .ref (qa 4), .int 0, .int 0, .ref (qa 5), .int 0, .int 0])), ((qa 0), .inl ((ca 0), 16, .inr (.inr (.inr (.inr (va_up (fun _ => none) 0 (some (qa 6)))))))), ((qa 1), .inl ((ca 1), 40, .inr (.inr (.inr (.inr (fun _ => none)))))), ((qa 2), .inl ((ca 2), 60, .inr (.inr (.inr (.inr (fun _ => none)))))), ((qa 3), .inl ((ca 3), 124, .inr (.inr (.inr (.inr (fun _ => none)))))), ((qa 4), .inl ((ca 4), 3, .inr (.inr (.inr (.inr (va_up (va_up (va_up (fun _ => none) 0 (some (qa 7))) 1 (some (qa 8))) 2 (some (qa 9)))))))), ((qa 5), .inr (6, [.int 0, .long 0])), ((qa 6), .inr (0, [.int 0, .null, .int 0, .null, .int 0, .int 0, .int 1, .int 1, .int 0, .int 0, .int 0, .int 0])), ((qa 7), .inr (6, [.int 0, .long 0])), ((qa 8), .inr (6, [.int 0, .long 0])), ((qa 9), .inr (6, [.int 0, .long 0]))] := hD
  have hK : va_K (dC, dI) vwCl [((ca 0), .object "ReflectModels$ClassModel"), ((ca 1), .object "ReflectModels$Member"), ((ca 2), .object "ReflectModels$Handle"), ((ca 3), .object "ReflectModels$Thing"), ((ca 4), .object "ReflectModels$Value")] s := hK
  refine W.cs (cells' := 11) (slots' := 278) rfl rfl ?_
  refine lv_astore_n (lv' := [(1, .ref q1), (0, .ref b)]) hx hb dL_law_7 rfl hl (by decide) rfl (fun ls hl => ?_)
  refine va_new (ci := 8) (fs := [.int 0, .int 0, .null, .null, .null, .null, .null, .null, .null, .null, .int 0, .null, .null, .null, .null, .null, .null, .null, .null, .null, .null, .null, .null, .int 0, .int 0, .null, .null, .int 0, .null, .null, .null, .null, .null, .null, .int 0, .null, .null, .int 0, .long 0, .int 0, .int 0, .null]) (C := RX9) (T := TX9) (N := 42) hx hb hts inL_law_9 tyX9 tyX9_ok hown (hts (.classLink RL 10 RX9) (by decide +kernel)) (hts (.instantiable RX9 42) (by decide +kernel)) (hts (.initialized RX9) (by decide +kernel)) hK hP hD hS hA rfl df_X9 (Nat.le_of_ble_eq_true rfl) (Nat.le_of_ble_eq_true rfl) dL_law_8 (fun q3 H hP hD hS => ?_)
  have hP : va_P (dC, dI) vwCl [(q1, .inr (7, [.ref (qa 0), .int 1, .ref (qa 1), .int 0, .int 0, .ref (qa 2), .int 0, .ref (qa 3), .int 0, .ref (qa 4), .int 0, .int 0, .ref (qa 5), .int 0, .int 0])), ((qa 0), .inl ((ca 0), 16, .inr (.inr (.inr (.inr (va_up (fun _ => none) 0 (some (qa 6)))))))), ((qa 1), .inl ((ca 1), 40, .inr (.inr (.inr (.inr (fun _ => none)))))), ((qa 2), .inl ((ca 2), 60, .inr (.inr (.inr (.inr (fun _ => none)))))), ((qa 3), .inl ((ca 3), 124, .inr (.inr (.inr (.inr (fun _ => none)))))), ((qa 4), .inl ((ca 4), 3, .inr (.inr (.inr (.inr (va_up (va_up (va_up (fun _ => none) 0 (some (qa 7))) 1 (some (qa 8))) 2 (some (qa 9)))))))), ((qa 5), .inr (6, [.int 0, .long 0])), ((qa 6), .inr (0, [.int 0, .null, .int 0, .null, .int 0, .int 0, .int 1, .int 1, .int 0, .int 0, .int 0, .int 0])), ((qa 7), .inr (6, [.int 0, .long 0])), ((qa 8), .inr (6, [.int 0, .long 0])), ((qa 9), .inr (6, [.int 0, .long 0])), (q3, .inr (8, [.int 0, .int 0, .null, .null, .null, .null, .null, .null, .null, .null, .int 0, .null, .null, .null, .null, .null, .null, .null, .null, .null, .null, .null, .null, .int 0, .int 0, .null, .null, .int 0, .null, .null, .null, .null, .null, .null, .int 0, .null, .null, .int 0, .long 0, .int 0, .int 0, .null]))] H := hP
  have hD : va_D (fun q : Nat => s.heap.size ≤ q) [(q1, .inr (7, [.ref (qa 0), .int 1, .ref (qa 1), .int 0, .int 0, .ref (qa 2), .int 0, .ref (qa 3), .int 0, .ref (qa 4), .int 0, .int 0, .ref (qa 5), .int 0, .int 0])), ((qa 0), .inl ((ca 0), 16, .inr (.inr (.inr (.inr (va_up (fun _ => none) 0 (some (qa 6)))))))), ((qa 1), .inl ((ca 1), 40, .inr (.inr (.inr (.inr (fun _ => none)))))), ((qa 2), .inl ((ca 2), 60, .inr (.inr (.inr (.inr (fun _ => none)))))), ((qa 3), .inl ((ca 3), 124, .inr (.inr (.inr (.inr (fun _ => none)))))), ((qa 4), .inl ((ca 4), 3, .inr (.inr (.inr (.inr (va_up (va_up (va_up (fun _ => none) 0 (some (qa 7))) 1 (some (qa 8))) 2 (some (qa 9)))))))), ((qa 5), .inr (6, [.int 0, .long 0])), ((qa 6), .inr (0, [.int 0, .null, .int 0, .null, .int 0, .int 0, .int 1, .int 1, .int 0, .int 0, .int 0, .int 0])), ((qa 7), .inr (6, [.int 0, .long 0])), ((qa 8), .inr (6, [.int 0, .long 0])), ((qa 9), .inr (6, [.int 0, .long 0])), (q3, .inr (8, [.int 0, .int 0, .null, .null, .null, .null, .null, .null, .null, .null, .int 0, .null, .null, .null, .null, .null, .null, .null, .null, .null, .null, .null, .null, .int 0, .int 0, .null, .null, .int 0, .null, .null, .null, .null, .null, .null, .int 0, .null, .null, .int 0, .long 0, .int 0, .int 0, .null]))] := hD
  refine W.cs (cells' := 12) (slots' := 320) rfl rfl ?_
  refine lv_dup hx hb dL_law_11 rfl ?_
  refine clW (wr := [(q1, .inr (7, [.ref (qa 0), .int 1, .ref (qa 1), .int 0, .int 0, .ref (qa 2), .int 0, .ref (qa 3), .int 0, .ref (qa 4), .int 0, .int 0, .ref (qa 5), .int 0, .int 0])), ((qa 0), .inl ((ca 0), 16, .inr (.inr (.inr (.inr (va_up (fun _ => none) 0 (some (qa 6)))))))), ((qa 1), .inl ((ca 1), 40, .inr (.inr (.inr (.inr (fun _ => none)))))), ((qa 2), .inl ((ca 2), 60, .inr (.inr (.inr (.inr (fun _ => none)))))), ((qa 3), .inl ((ca 3), 124, .inr (.inr (.inr (.inr (fun _ => none)))))), ((qa 4), .inl ((ca 4), 3, .inr (.inr (.inr (.inr (va_up (va_up (va_up (fun _ => none) 0 (some (qa 7))) 1 (some (qa 8))) 2 (some (qa 9)))))))), ((qa 5), .inr (6, [.int 0, .long 0])), ((qa 6), .inr (0, [.int 0, .null, .int 0, .null, .int 0, .int 0, .int 1, .int 1, .int 0, .int 0, .int 0, .int 0])), ((qa 7), .inr (6, [.int 0, .long 0])), ((qa 8), .inr (6, [.int 0, .long 0])), ((qa 9), .inr (6, [.int 0, .long 0]))]) [11] [0, 1, 2, 3, 4, 5, 6, 7, 8, 9, 10] (va_runI (As := []) (rest := [.ref q3]) ⟨hx, hb, hml, hown, hts⟩ (c9_init l dC dI q3 _) (cwI 0 hts gL_law_X9_init rfl rfl rfl (hts (.initialized RX9) (by decide +kernel)) (hts (.methodLink RL 12 yX9_init) (by decide +kernel)) (hts (.instanceMethod yX9_init) (by decide +kernel)) rfl (by decide +kernel) ⟨Nat.le_of_ble_eq_true rfl, Nat.le_of_ble_eq_true rfl⟩) ⟨pz_blind, pz_of hP hK hD hN [11] [] rfl (by decide) rfl⟩ rfl rfl hl.1 rfl (lv_room (Nat.le_of_ble_eq_true rfl)) dL_law_12 ⟨Nat.le_of_ble_eq_true rfl, Nat.le_of_ble_eq_true rfl⟩) hS hP hD hK hA rfl rfl (by decide) (by decide) (fun v w1 ty1 H locs w4 hP hD hK hS => ?_)
  obtain ⟨rfl, qb, cb, rfl, rfl⟩ := w4
  refine W.eq (g2 := F0 m 15 ls [.ref q3]) rfl ?_
  have hP : va_P (dC, dI) vwCl [(q1, .inr (7, [.ref (qa 0), .int 1, .ref (qa 1), .int 0, .int 0, .ref (qa 2), .int 0, .ref (qa 3), .int 0, .ref (qa 4), .int 0, .int 0, .ref (qa 5), .int 0, .int 0])), ((qa 0), .inl ((ca 0), 16, .inr (.inr (.inr (.inr (va_up (fun _ => none) 0 (some (qa 6)))))))), ((qa 1), .inl ((ca 1), 40, .inr (.inr (.inr (.inr (fun _ => none)))))), ((qa 2), .inl ((ca 2), 60, .inr (.inr (.inr (.inr (fun _ => none)))))), ((qa 3), .inl ((ca 3), 124, .inr (.inr (.inr (.inr (fun _ => none)))))), ((qa 4), .inl ((ca 4), 3, .inr (.inr (.inr (.inr (va_up (va_up (va_up (fun _ => none) 0 (some (qa 7))) 1 (some (qa 8))) 2 (some (qa 9)))))))), ((qa 5), .inr (6, [.int 0, .long 0])), ((qa 6), .inr (0, [.int 0, .null, .int 0, .null, .int 0, .int 0, .int 1, .int 1, .int 0, .int 0, .int 0, .int 0])), ((qa 7), .inr (6, [.int 0, .long 0])), ((qa 8), .inr (6, [.int 0, .long 0])), ((qa 9), .inr (6, [.int 0, .long 0])), (q3, .inr (8, [.int 0, .int 1, .ref (qb 0), .ref (qb 1), .ref (qb 2), .ref (qb 3), .ref (qb 4), .ref (qb 5), .ref (qb 6), .ref (qb 7), .int 0, .ref (qb 8), .ref (qb 9), .ref (qb 10), .ref (qb 11), .ref (qb 12), .ref (qb 13), .ref (qb 14), .ref (qb 15), .ref (qb 16), .ref (qb 17), .ref (qb 18), .ref (qb 19), .int 0, .int 0, .ref (qb 20), .ref (qb 21), .int 0, .ref (qb 22), .ref (qb 23), .ref (qb 24), .ref (qb 25), .ref (qb 26), .ref (qb 27), .int 0, .ref (qb 28), .ref (qb 29), .int 0, .long 0, .int 0, .int 0, .ref (qb 30)])), ((qb 0), .inl ((cb 0), 16, .inl (upd (fun _ => 0) 0 (-1)))), ((qb 1), .inl ((cb 1), 16, .inl (fun _ => 0))), ((qb 2), .inl ((cb 2), 16, .inl (upd (fun _ => 0) 0 (-1)))), ((qb 3), .inl ((cb 3), 16, .inl (fun _ => 0))), ((qb 4), .inl ((cb 4), 16, .inl (fun _ => 0))), ((qb 5), .inl ((cb 5), 16, .inl (fun _ => 0))), ((qb 6), .inl ((cb 6), 16, .inl (fun _ => 0))), ((qb 7), .inl ((cb 7), 16, .inl (fun _ => 0))), ((qb 8), .inl ((cb 8), 40, .inl (fun _ => 0))), ((qb 9), .inl ((cb 9), 40, .inl (fun _ => 0))), ((qb 10), .inl ((cb 10), 40, .inl (fun _ => 0))), ((qb 11), .inl ((cb 11), 40, .inl (fun _ => 0))), ((qb 12), .inl ((cb 12), 40, .inl (fun _ => 0))), ((qb 13), .inl ((cb 13), 80, .inl (fun _ => 0))), ((qb 14), .inl ((cb 14), 40, .inl (fun _ => 0))), ((qb 15), .inl ((cb 15), 40, .inl (fun _ => 0))), ((qb 16), .inl ((cb 16), 40, .inl (fun _ => 0))), ((qb 17), .inl ((cb 17), 40, .inl (fun _ => 0))), ((qb 18), .inl ((cb 18), 40, .inl (fun _ => 0))), ((qb 19), .inl ((cb 19), 40, .inl (fun _ => 0))), ((qb 20), .inl ((cb 20), 60, .inl (fun _ => 0))), ((qb 21), .inl ((cb 21), 60, .inl (fun _ => 0))), ((qb 22), .inl ((cb 22), 130, .inl (fun _ => 0))), ((qb 23), .inl ((cb 23), 130, .inl (fun _ => 0))), ((qb 24), .inl ((cb 24), 130, .inl (fun _ => 0))), ((qb 25), .inl ((cb 25), 130, .inl (fun _ => 0))), ((qb 26), .inl ((cb 26), 5240, .inl (fun _ => 0))), ((qb 27), .inl ((cb 27), 5240, .inr (.inl (fun _ => 0)))), ((qb 28), .inl ((cb 28), 3, .inl (fun _ => 0))), ((qb 29), .inl ((cb 29), 3, .inr (.inl (fun _ => 0)))), ((qb 30), .inl ((cb 30), 16, .inl (fun _ => 0)))] H := hP
  have hD : va_D (fun q : Nat => s.heap.size ≤ q) [(q1, .inr (7, [.ref (qa 0), .int 1, .ref (qa 1), .int 0, .int 0, .ref (qa 2), .int 0, .ref (qa 3), .int 0, .ref (qa 4), .int 0, .int 0, .ref (qa 5), .int 0, .int 0])), ((qa 0), .inl ((ca 0), 16, .inr (.inr (.inr (.inr (va_up (fun _ => none) 0 (some (qa 6)))))))), ((qa 1), .inl ((ca 1), 40, .inr (.inr (.inr (.inr (fun _ => none)))))), ((qa 2), .inl ((ca 2), 60, .inr (.inr (.inr (.inr (fun _ => none)))))), ((qa 3), .inl ((ca 3), 124, .inr (.inr (.inr (.inr (fun _ => none)))))), ((qa 4), .inl ((ca 4), 3, .inr (.inr (.inr (.inr (va_up (va_up (va_up (fun _ => none) 0 (some (qa 7))) 1 (some (qa 8))) 2 (some (qa 9)))))))), ((qa 5), .inr (6, [.int 0, .long 0])), ((qa 6), .inr (0, [.int 0, .null, .int 0, .null, .int 0, .int 0, .int 1, .int 1, .int 0, .int 0, .int 0, .int 0])), ((qa 7), .inr (6, [.int 0, .long 0])), ((qa 8), .inr (6, [.int 0, .long 0])), ((qa 9), .inr (6, [.int 0, .long 0])), (q3, .inr (8, [.int 0, .int 1, .ref (qb 0), .ref (qb 1), .ref (qb 2), .ref (qb 3), .ref (qb 4), .ref (qb 5), .ref (qb 6), .ref (qb 7), .int 0, .ref (qb 8), .ref (qb 9), .ref (qb 10), .ref (qb 11), .ref (qb 12), .ref (qb 13), .ref (qb 14), .ref (qb 15), .ref (qb 16), .ref (qb 17), .ref (qb 18), .ref (qb 19), .int 0, .int 0, .ref (qb 20), .ref (qb 21), .int 0, .ref (qb 22), .ref (qb 23), .ref (qb 24), .ref (qb 25), .ref (qb 26), .ref (qb 27), .int 0, .ref (qb 28), .ref (qb 29), .int 0, .long 0, .int 0, .int 0, .ref (qb 30)])), ((qb 0), .inl ((cb 0), 16, .inl (upd (fun _ => 0) 0 (-1)))), ((qb 1), .inl ((cb 1), 16, .inl (fun _ => 0))), ((qb 2), .inl ((cb 2), 16, .inl (upd (fun _ => 0) 0 (-1)))), ((qb 3), .inl ((cb 3), 16, .inl (fun _ => 0))), ((qb 4), .inl ((cb 4), 16, .inl (fun _ => 0))), ((qb 5), .inl ((cb 5), 16, .inl (fun _ => 0))), ((qb 6), .inl ((cb 6), 16, .inl (fun _ => 0))), ((qb 7), .inl ((cb 7), 16, .inl (fun _ => 0))), ((qb 8), .inl ((cb 8), 40, .inl (fun _ => 0))), ((qb 9), .inl ((cb 9), 40, .inl (fun _ => 0))), ((qb 10), .inl ((cb 10), 40, .inl (fun _ => 0))), ((qb 11), .inl ((cb 11), 40, .inl (fun _ => 0))), ((qb 12), .inl ((cb 12), 40, .inl (fun _ => 0))), ((qb 13), .inl ((cb 13), 80, .inl (fun _ => 0))), ((qb 14), .inl ((cb 14), 40, .inl (fun _ => 0))), ((qb 15), .inl ((cb 15), 40, .inl (fun _ => 0))), ((qb 16), .inl ((cb 16), 40, .inl (fun _ => 0))), ((qb 17), .inl ((cb 17), 40, .inl (fun _ => 0))), ((qb 18), .inl ((cb 18), 40, .inl (fun _ => 0))), ((qb 19), .inl ((cb 19), 40, .inl (fun _ => 0))), ((qb 20), .inl ((cb 20), 60, .inl (fun _ => 0))), ((qb 21), .inl ((cb 21), 60, .inl (fun _ => 0))), ((qb 22), .inl ((cb 22), 130, .inl (fun _ => 0))), ((qb 23), .inl ((cb 23), 130, .inl (fun _ => 0))), ((qb 24), .inl ((cb 24), 130, .inl (fun _ => 0))), ((qb 25), .inl ((cb 25), 130, .inl (fun _ => 0))), ((qb 26), .inl ((cb 26), 5240, .inl (fun _ => 0))), ((qb 27), .inl ((cb 27), 5240, .inr (.inl (fun _ => 0)))), ((qb 28), .inl ((cb 28), 3, .inl (fun _ => 0))), ((qb 29), .inl ((cb 29), 3, .inr (.inl (fun _ => 0)))), ((qb 30), .inl ((cb 30), 16, .inl (fun _ => 0)))] := hD
  have hK : va_K (dC, dI) vwCl [((ca 0), .object "ReflectModels$ClassModel"), ((ca 1), .object "ReflectModels$Member"), ((ca 2), .object "ReflectModels$Handle"), ((ca 3), .object "ReflectModels$Thing"), ((ca 4), .object "ReflectModels$Value"), ((cb 0), .int), ((cb 1), .int), ((cb 2), .int), ((cb 3), .boolean), ((cb 4), .boolean), ((cb 5), .int), ((cb 6), .int), ((cb 7), .int), ((cb 8), .int), ((cb 9), .boolean), ((cb 10), .int), ((cb 11), .int), ((cb 12), .int), ((cb 13), .int), ((cb 14), .boolean), ((cb 15), .boolean), ((cb 16), .boolean), ((cb 17), .boolean), ((cb 18), .int), ((cb 19), .int), ((cb 20), .int), ((cb 21), .boolean), ((cb 22), .int), ((cb 23), .int), ((cb 24), .int), ((cb 25), .int), ((cb 26), .int), ((cb 27), .long), ((cb 28), .int), ((cb 29), .long), ((cb 30), .int)] s := hK
  refine W.cs (cells' := 43) (slots' := 12110) rfl rfl ?_
  refine lv_astore_n (lv' := [(2, .ref q3), (1, .ref q1), (0, .ref b)]) hx hb dL_law_15 rfl hl (by decide) rfl (fun ls hl => ?_)
  refine lv_iconst (v := 0) hx hb dL_law_16 (by decide) ?_
  refine lv_istore_n (lv' := [(3, .int 0), (2, .ref q3), (1, .ref q1), (0, .ref b)]) hx hb dL_law_17 rfl hl (by decide) rfl (fun ls hl => ?_)
  refine lv_iload_n hx hb dL_law_18 rfl (lv_at hl 0 rfl) ?_
  refine lv_aload_n hx hb dL_law_19 rfl (lv_at hl 3 rfl) ?_
  refine va_slen hx hb hX hbl hbA hS dL_law_20 ?_
  rcases (show L = 0 ∨ L = 1 ∨ L = 2 ∨ L = 3 ∨ L = 4 ∨ L = 5 ∨ L = 6 ∨ L = 7 ∨ L = 8 ∨ L = 9 ∨ L = 10 by omega) with rfl | rfl | rfl | rfl | rfl | rfl | rfl | rfl | rfl | rfl | rfl
  · refine W.eq (g2 := F0 m 21 ls [.int 0, .int 0]) rfl ?_
    refine lv_bipush (v := 10) hx hb dL_law_21 (by decide) ?_
    refine lv_isub hx hb dL_law_23 ?_
    refine lv_topi (fun y5 ey5 => ?_)
    obtain rfl : y5 = (-10) := ey5.trans (by decide)
    refine lv_icmp_gt (tgt := 1160) hx hb dL_law_24 (by decide) (fun _ => ?_) (fun h => absurd (by decide) h)
    refine lv_iconst (v := 1) hx hb dL_law_1160 (by decide) ?_
    refine va_forget (fun z hz => hS.2.2 z hz) ?_
    refine W.widen (k := 600000) (n := 7302250) (by omega) (by omega) ?_
    exact lw_ret hx hb hr hlocks dL_law_1161
  · refine W.eq (g2 := F0 m 21 ls [.int 1, .int 0]) rfl ?_
    refine lv_bipush (v := 10) hx hb dL_law_21 (by decide) ?_
    refine lv_isub hx hb dL_law_23 ?_
    refine lv_topi (fun y6 ey6 => ?_)
    obtain rfl : y6 = (-9) := ey6.trans (by decide)
    refine lv_icmp_gt (tgt := 1160) hx hb dL_law_24 (by decide) (fun _ => ?_) (fun h => absurd (by decide) h)
    refine lv_iconst (v := 1) hx hb dL_law_1160 (by decide) ?_
    refine va_forget (fun z hz => hS.2.2 z hz) ?_
    refine W.widen (k := 600000) (n := 7302250) (by omega) (by omega) ?_
    exact lw_ret hx hb hr hlocks dL_law_1161
  · refine W.eq (g2 := F0 m 21 ls [.int 2, .int 0]) rfl ?_
    refine lv_bipush (v := 10) hx hb dL_law_21 (by decide) ?_
    refine lv_isub hx hb dL_law_23 ?_
    refine lv_topi (fun y7 ey7 => ?_)
    obtain rfl : y7 = (-8) := ey7.trans (by decide)
    refine lv_icmp_gt (tgt := 1160) hx hb dL_law_24 (by decide) (fun _ => ?_) (fun h => absurd (by decide) h)
    refine lv_iconst (v := 1) hx hb dL_law_1160 (by decide) ?_
    refine va_forget (fun z hz => hS.2.2 z hz) ?_
    refine W.widen (k := 600000) (n := 7302250) (by omega) (by omega) ?_
    exact lw_ret hx hb hr hlocks dL_law_1161
  · refine W.eq (g2 := F0 m 21 ls [.int 3, .int 0]) rfl ?_
    refine lv_bipush (v := 10) hx hb dL_law_21 (by decide) ?_
    refine lv_isub hx hb dL_law_23 ?_
    refine lv_topi (fun y8 ey8 => ?_)
    obtain rfl : y8 = (-7) := ey8.trans (by decide)
    refine lv_icmp_gt (tgt := 1160) hx hb dL_law_24 (by decide) (fun _ => ?_) (fun h => absurd (by decide) h)
    refine lv_iconst (v := 1) hx hb dL_law_1160 (by decide) ?_
    refine va_forget (fun z hz => hS.2.2 z hz) ?_
    refine W.widen (k := 600000) (n := 7302250) (by omega) (by omega) ?_
    exact lw_ret hx hb hr hlocks dL_law_1161
  · refine W.eq (g2 := F0 m 21 ls [.int 4, .int 0]) rfl ?_
    refine lv_bipush (v := 10) hx hb dL_law_21 (by decide) ?_
    refine lv_isub hx hb dL_law_23 ?_
    refine lv_topi (fun y9 ey9 => ?_)
    obtain rfl : y9 = (-6) := ey9.trans (by decide)
    refine lv_icmp_gt (tgt := 1160) hx hb dL_law_24 (by decide) (fun _ => ?_) (fun h => absurd (by decide) h)
    refine lv_iconst (v := 1) hx hb dL_law_1160 (by decide) ?_
    refine va_forget (fun z hz => hS.2.2 z hz) ?_
    refine W.widen (k := 600000) (n := 7302250) (by omega) (by omega) ?_
    exact lw_ret hx hb hr hlocks dL_law_1161
  · refine W.eq (g2 := F0 m 21 ls [.int 5, .int 0]) rfl ?_
    refine lv_bipush (v := 10) hx hb dL_law_21 (by decide) ?_
    refine lv_isub hx hb dL_law_23 ?_
    refine lv_topi (fun y10 ey10 => ?_)
    obtain rfl : y10 = (-5) := ey10.trans (by decide)
    refine lv_icmp_gt (tgt := 1160) hx hb dL_law_24 (by decide) (fun _ => ?_) (fun h => absurd (by decide) h)
    refine lv_iconst (v := 1) hx hb dL_law_1160 (by decide) ?_
    refine va_forget (fun z hz => hS.2.2 z hz) ?_
    refine W.widen (k := 600000) (n := 7302250) (by omega) (by omega) ?_
    exact lw_ret hx hb hr hlocks dL_law_1161
  · refine W.eq (g2 := F0 m 21 ls [.int 6, .int 0]) rfl ?_
    refine lv_bipush (v := 10) hx hb dL_law_21 (by decide) ?_
    refine lv_isub hx hb dL_law_23 ?_
    refine lv_topi (fun y11 ey11 => ?_)
    obtain rfl : y11 = (-4) := ey11.trans (by decide)
    refine lv_icmp_gt (tgt := 1160) hx hb dL_law_24 (by decide) (fun _ => ?_) (fun h => absurd (by decide) h)
    refine lv_iconst (v := 1) hx hb dL_law_1160 (by decide) ?_
    refine va_forget (fun z hz => hS.2.2 z hz) ?_
    refine W.widen (k := 600000) (n := 7302250) (by omega) (by omega) ?_
    exact lw_ret hx hb hr hlocks dL_law_1161
  · refine W.eq (g2 := F0 m 21 ls [.int 7, .int 0]) rfl ?_
    refine lv_bipush (v := 10) hx hb dL_law_21 (by decide) ?_
    refine lv_isub hx hb dL_law_23 ?_
    refine lv_topi (fun y12 ey12 => ?_)
    obtain rfl : y12 = (-3) := ey12.trans (by decide)
    refine lv_icmp_gt (tgt := 1160) hx hb dL_law_24 (by decide) (fun _ => ?_) (fun h => absurd (by decide) h)
    refine lv_iconst (v := 1) hx hb dL_law_1160 (by decide) ?_
    refine va_forget (fun z hz => hS.2.2 z hz) ?_
    refine W.widen (k := 600000) (n := 7302250) (by omega) (by omega) ?_
    exact lw_ret hx hb hr hlocks dL_law_1161
  · refine W.eq (g2 := F0 m 21 ls [.int 8, .int 0]) rfl ?_
    refine lv_bipush (v := 10) hx hb dL_law_21 (by decide) ?_
    refine lv_isub hx hb dL_law_23 ?_
    refine lv_topi (fun y13 ey13 => ?_)
    obtain rfl : y13 = (-2) := ey13.trans (by decide)
    refine lv_icmp_gt (tgt := 1160) hx hb dL_law_24 (by decide) (fun _ => ?_) (fun h => absurd (by decide) h)
    refine lv_iconst (v := 1) hx hb dL_law_1160 (by decide) ?_
    refine va_forget (fun z hz => hS.2.2 z hz) ?_
    refine W.widen (k := 600000) (n := 7302250) (by omega) (by omega) ?_
    exact lw_ret hx hb hr hlocks dL_law_1161
  · refine W.eq (g2 := F0 m 21 ls [.int 9, .int 0]) rfl ?_
    refine lv_bipush (v := 10) hx hb dL_law_21 (by decide) ?_
    refine lv_isub hx hb dL_law_23 ?_
    refine lv_topi (fun y14 ey14 => ?_)
    obtain rfl : y14 = (-1) := ey14.trans (by decide)
    refine lv_icmp_gt (tgt := 1160) hx hb dL_law_24 (by decide) (fun _ => ?_) (fun h => absurd (by decide) h)
    refine lv_iconst (v := 1) hx hb dL_law_1160 (by decide) ?_
    refine va_forget (fun z hz => hS.2.2 z hz) ?_
    refine W.widen (k := 600000) (n := 7302250) (by omega) (by omega) ?_
    exact lw_ret hx hb hr hlocks dL_law_1161
  · refine W.eq (g2 := F0 m 21 ls [.int 10, .int 0]) rfl ?_
    refine lv_bipush (v := 10) hx hb dL_law_21 (by decide) ?_
    refine lv_isub hx hb dL_law_23 ?_
    refine lv_topi (fun y15 ey15 => ?_)
    obtain rfl : y15 = 0 := ey15.trans (by decide)
    refine lv_icmp_gt (tgt := 1160) hx hb dL_law_24 (by decide) (fun h => absurd h (by decide)) (fun _ => ?_)
    refine lv_aload_n hx hb dL_law_27 rfl (lv_at hl 3 rfl) ?_
    refine lv_iload_n hx hb dL_law_28 rfl (lv_at hl 0 rfl) ?_
    refine va_sld hx hb hX hbl hbA hS (vp_in_iff.mpr ⟨by decide, by decide⟩) dL_law_29 ?_
    refine W.eq (g2 := F0 m 30 ls [.int (xs 0)]) rfl ?_
    refine lv_bipush (v := 31) hx hb dL_law_30 (by decide) ?_
    refine lv_iand hx hb dL_law_32 ?_
    refine lv_topi (fun y16 ey16 => ?_)
    by_cases h17 : y16.toInt < 0 ∨ 22 < y16.toInt
    · refine lv_tableOut (tgt := 1154) hx hb dL_law_33 h17 (by decide) ?_
      refine lv_iinc (v := 10) (lv' := [(3, .int 10), (2, .ref q3), (1, .ref q1), (0, .ref b)]) hx hb dL_law_1154 hl (k := 0) rfl (by decide) (by decide) rfl (fun ls hl => ?_)
      refine lv_goto (tgt := 18) hx hb dL_law_1157 (by decide) ?_
      refine lv_iload_n hx hb dL_law_18 rfl (lv_at hl 0 rfl) ?_
      refine lv_aload_n hx hb dL_law_19 rfl (lv_at hl 3 rfl) ?_
      refine va_slen hx hb hX hbl hbA hS dL_law_20 ?_
      refine W.eq (g2 := F0 m 21 ls [.int 10, .int 10]) rfl ?_
      refine lv_bipush (v := 10) hx hb dL_law_21 (by decide) ?_
      refine lv_isub hx hb dL_law_23 ?_
      refine lv_topi (fun y18 ey18 => ?_)
      obtain rfl : y18 = 0 := ey18.trans (by decide)
      refine lv_icmp_gt (tgt := 1160) hx hb dL_law_24 (by decide) (fun _ => ?_) (fun h => absurd (by decide) h)
      refine lv_iconst (v := 1) hx hb dL_law_1160 (by decide) ?_
      refine va_forget (fun z hz => hS.2.2 z hz) ?_
      refine W.widen (k := 600000) (n := 7302250) (by omega) (by omega) ?_
      exact lw_ret hx hb hr hlocks dL_law_1161
    · have gh17 : y16 = 0 ∨ y16 = 1 ∨ y16 = 2 ∨ y16 = 3 ∨ y16 = 4 ∨ y16 = 5 ∨ y16 = 6 ∨ y16 = 7 ∨ y16 = 8 ∨ y16 = 9 ∨ y16 = 10 ∨ y16 = 11 ∨ y16 = 12 ∨ y16 = 13 ∨ y16 = 14 ∨ y16 = 15 ∨ y16 = 16 ∨ y16 = 17 ∨ y16 = 18 ∨ y16 = 19 ∨ y16 = 20 ∨ y16 = 21 ∨ y16 = 22 := tw_0_22 (by omega) (by omega)
      rcases gh17 with rfl | rfl | rfl | rfl | rfl | rfl | rfl | rfl | rfl | rfl | rfl | rfl | rfl | rfl | rfl | rfl | rfl | rfl | rfl | rfl | rfl | rfl | rfl
      · refine lv_tableIn (tgt := 140) (off := 107) hx hb dL_law_33 (by decide) (by decide) (by decide) (by decide) ?_
        exact law_140 l dC dI hx hb hr hml hown hts hN hX hbl hlocks hA hbA _ _ _ hP hD hK hS hl
      · refine lv_tableIn (tgt := 235) (off := 202) hx hb dL_law_33 (by decide) (by decide) (by decide) (by decide) ?_
        exact law_235 l dC dI hx hb hr hml hown hts hN hX hbl hlocks hA hbA _ _ _ hP hD hK hS hl
      · refine lv_tableIn (tgt := 268) (off := 235) hx hb dL_law_33 (by decide) (by decide) (by decide) (by decide) ?_
        exact law_268 l dC dI hx hb hr hml hown hts hN hX hbl hlocks hA hbA _ _ _ hP hD hK hS hl
      · refine lv_tableIn (tgt := 391) (off := 358) hx hb dL_law_33 (by decide) (by decide) (by decide) (by decide) ?_
        exact law_391 l dC dI hx hb hr hml hown hts hN hX hbl hlocks hA hbA _ _ _ hP hD hK hS hl
      · refine lv_tableIn (tgt := 502) (off := 469) hx hb dL_law_33 (by decide) (by decide) (by decide) (by decide) ?_
        exact law_502 l dC dI hx hb hr hml hown hts hN hX hbl hlocks hA hbA _ _ _ hP hD hK hS hl
      · refine lv_tableIn (tgt := 525) (off := 492) hx hb dL_law_33 (by decide) (by decide) (by decide) (by decide) ?_
        exact law_525 l dC dI hx hb hr hml hown hts hN hX hbl hlocks hA hbA _ _ _ hP hD hK hS hl
      · refine lv_tableIn (tgt := 584) (off := 551) hx hb dL_law_33 (by decide) (by decide) (by decide) (by decide) ?_
        exact law_584 l dC dI hx hb hr hml hown hts hN hX hbl hlocks hA hbA _ _ _ hP hD hK hS hl
      · refine lv_tableIn (tgt := 675) (off := 642) hx hb dL_law_33 (by decide) (by decide) (by decide) (by decide) ?_
        exact law_675 l dC dI hx hb hr hml hown hts hN hX hbl hlocks hA hbA _ _ _ hP hD hK hS hl
      · refine lv_tableIn (tgt := 698) (off := 665) hx hb dL_law_33 (by decide) (by decide) (by decide) (by decide) ?_
        exact law_698 l dC dI hx hb hr hml hown hts hN hX hbl hlocks hA hbA _ _ _ hP hD hK hS hl
      · refine lv_tableIn (tgt := 771) (off := 738) hx hb dL_law_33 (by decide) (by decide) (by decide) (by decide) ?_
        exact law_771 l dC dI hx hb hr hml hown hts hN hX hbl hlocks hA hbA _ _ _ hP hD hK hS hl
      · refine lv_tableIn (tgt := 814) (off := 781) hx hb dL_law_33 (by decide) (by decide) (by decide) (by decide) ?_
        exact law_814 l dC dI hx hb hr hml hown hts hN hX hbl hlocks hA hbA _ _ _ hP hD hK hS hl
      · refine lv_tableIn (tgt := 847) (off := 814) hx hb dL_law_33 (by decide) (by decide) (by decide) (by decide) ?_
        exact law_847 l dC dI hx hb hr hml hown hts hN hX hbl hlocks hA hbA _ _ _ hP hD hK hS hl
      · refine lv_tableIn (tgt := 880) (off := 847) hx hb dL_law_33 (by decide) (by decide) (by decide) (by decide) ?_
        exact law_880 l dC dI hx hb hr hml hown hts hN hX hbl hlocks hA hbA _ _ _ hP hD hK hS hl
      · refine lv_tableIn (tgt := 903) (off := 870) hx hb dL_law_33 (by decide) (by decide) (by decide) (by decide) ?_
        exact law_903 l dC dI hx hb hr hml hown hts hN hX hbl hlocks hA hbA _ _ _ hP hD hK hS hl
      · refine lv_tableIn (tgt := 936) (off := 903) hx hb dL_law_33 (by decide) (by decide) (by decide) (by decide) ?_
        exact law_936 l dC dI hx hb hr hml hown hts hN hX hbl hlocks hA hbA _ _ _ hP hD hK hS hl
      · refine lv_tableIn (tgt := 969) (off := 936) hx hb dL_law_33 (by decide) (by decide) (by decide) (by decide) ?_
        exact law_969 l dC dI hx hb hr hml hown hts hN hX hbl hlocks hA hbA _ _ _ hP hD hK hS hl
      · refine lv_tableIn (tgt := 992) (off := 959) hx hb dL_law_33 (by decide) (by decide) (by decide) (by decide) ?_
        exact law_992 l dC dI hx hb hr hml hown hts hN hX hbl hlocks hA hbA _ _ _ hP hD hK hS hl
      · refine lv_tableIn (tgt := 1005) (off := 972) hx hb dL_law_33 (by decide) (by decide) (by decide) (by decide) ?_
        exact law_1005 l dC dI hx hb hr hml hown hts hN hX hbl hlocks hA hbA _ _ _ hP hD hK hS hl
      · refine lv_tableIn (tgt := 1019) (off := 986) hx hb dL_law_33 (by decide) (by decide) (by decide) (by decide) ?_
        exact law_1019 l dC dI hx hb hr hml hown hts hN hX hbl hlocks hA hbA _ _ _ hP hD hK hS hl
      · refine lv_tableIn (tgt := 1032) (off := 999) hx hb dL_law_33 (by decide) (by decide) (by decide) (by decide) ?_
        exact law_1032 l dC dI hx hb hr hml hown hts hN hX hbl hlocks hA hbA _ _ _ hP hD hK hS hl
      · refine lv_tableIn (tgt := 1065) (off := 1032) hx hb dL_law_33 (by decide) (by decide) (by decide) (by decide) ?_
        exact law_1065 l dC dI hx hb hr hml hown hts hN hX hbl hlocks hA hbA _ _ _ hP hD hK hS hl
      · refine lv_tableIn (tgt := 1098) (off := 1065) hx hb dL_law_33 (by decide) (by decide) (by decide) (by decide) ?_
        exact law_1098 l dC dI hx hb hr hml hown hts hN hX hbl hlocks hA hbA _ _ _ hP hD hK hS hl
      · refine lv_tableIn (tgt := 1131) (off := 1098) hx hb dL_law_33 (by decide) (by decide) (by decide) (by decide) ?_
        exact law_1131 l dC dI hx hb hr hml hown hts hN hX hbl hlocks hA hbA _ _ _ hP hD hK hS hl
