def tkInvN (G : Nat → Nat → Int32) (j : Nat) : Prop := (tkBl (G 19 j) ∧ tkBl (G 25 j)) ∧ (G 20 j = (-1) ∨ G 20 j = 0 ∨ G 20 j = 1 ∨ G 20 j = 2 ∨ G 20 j = 3 ∨ G 20 j = 4 ∨ G 20 j = 5) ∧ (G 21 j = 0 ∨ G 21 j = 1 ∨ G 21 j = 2 ∨ G 21 j = 3) ∧ (G 20 j = (-1) → G 22 j = 0) ∧ (¬ G 20 j = (-1) → ¬ G 21 j = 0) ∧ (¬ G 21 j = 3 → G 28 j = 0 ∧ G 30 j = 0) ∧ (∃ n, n ≤ 65536 ∧ G 22 j = nI n) ∧ (∃ n, n < 65536 ∧ G 23 j = nI n) ∧ (∃ n, n < 256 ∧ G 29 j = nI n) ∧ (G 31 j = (-1) ∨ ∃ n, n < 65536 ∧ G 31 j = nI n) ∧ (G 32 j = (-1) ∨ ¬ G 32 j < 0) ∧ G 26 j = (if G 20 j = 0 then (if G 28 j = 0 then 0 else 1) else 0)
theorem tkb_nIm {n : Nat} (h : n ≤ 65536) : ¬ nI n = (-1) ∧ 0 ≤ nI n ∧ ¬ nI n < 0 := by
  have a := nI_pos (n := n) (by omega)
  refine ⟨fun e => a (by rw [e]; decide), nI_pos' (by omega), a⟩
theorem tkb_nn {x : Int32} (h : ¬ x < 0) : 0 ≤ x ∧ ¬ x = (-1) := by
  refine ⟨tk_le.mpr ?_, fun e => h (by rw [e]; decide)⟩
  have z : (0 : Int32).toInt = 0 := by decide
  have : ¬ x.toInt < (0 : Int32).toInt := fun q => h (tk_lt.mpr q)
  omega
theorem tkb_half {n : Nat} (h0 : n ≠ 0) (h : n ≤ 65536) : ¬ (nI n + 1) / 2 = 0 := by
  have e : (nI n + 1) / 2 = nI ((n + 1) / 2) := by
    rw [nI_1]
    exact pk_div (d := 2) (by omega) (by omega) (by omega)
  rw [e]
  exact nI_ne0 (by omega) (by omega)
theorem tkb_lit : ((128 : Int32) * 1 = 128 ∧ (128 : Int32) * 0 = 0) ∧ (64 : Int32) * 1 = 64 ∧ (64 : Int32) * 0 = 0 := by decide
theorem tkb_n0 : vp_nar .boolean 0 = 0 := rfl
theorem tkb_n1 : vp_nar .boolean 1 = 1 := rfl
theorem tkN_pt1 (c : Nat → Int32) : tkN_partTicks_r (tk_up c 1 1) = (c 4 + 1) / 2 := by
  show (if (1 : Int32) = 0 then (c 4) / 2 else (c 4 + 1) / 2) = _
  rw [if_neg (by decide)]
theorem tkN_pt0 (c : Nat → Int32) : tkN_partTicks_r (tk_up c 1 0) = (c 4) / 2 := by
  show (if (0 : Int32) = 0 then (c 4) / 2 else (c 4 + 1) / 2) = _
  rw [if_pos rfl]
theorem tkb_byteN {v : Int32} (h : tkByte v) : ∃ n : Nat, n < 256 ∧ v = nI n := by
  obtain ⟨n, hn, rfl⟩ := h
  exact ⟨n, hn, rfl⟩
set_option maxHeartbeats 400000 in
set_option maxRecDepth 20000 in
theorem tkR_latch0 (G : Nat → Nat → Int32) (h : tkInvN G 0) (hm : ¬ G 20 0 = (-1)) : tkPsi (tkM_latch_s G 0) = tk_up (tkPsi G) 4 (tkN_latchCount_s (tkPsi G 4)) := by
  obtain ⟨-, -, -, -, -, -, -, -, -, hl, -, -⟩ := h
  unfold tkM_latch_s tkN_latchCount_s tkN_hasMode_r
  rcases hl with hl | ⟨n, hn, hl⟩
  · simp (decide := true) only [tkcl_0, tkP4_2, tkP4_12, tkP4_5, hm, hl, ↓reduceIte]
    exact tk_fxP rfl (tk_fx18 rfl rfl rfl rfl rfl rfl rfl rfl rfl rfl rfl rfl rfl rfl rfl rfl rfl rfl (fun _ => rfl)) (tk_fx18 rfl rfl rfl rfl rfl rfl rfl rfl rfl rfl rfl rfl rfl rfl rfl rfl rfl rfl (fun _ => rfl)) rfl (tk_fx14 rfl rfl rfl rfl rfl rfl rfl rfl rfl rfl rfl rfl (by first | rfl | exact hl.symm) rfl (fun _ => rfl)) (tk_fx14 rfl rfl rfl rfl rfl rfl rfl rfl rfl rfl rfl rfl rfl rfl (fun _ => rfl)) (tk_fx14 rfl rfl rfl rfl rfl rfl rfl rfl rfl rfl rfl rfl rfl rfl (fun _ => rfl)) (fun _ => rfl)
  · obtain ⟨n1, n2, n3⟩ := tkb_nIm (n := n) (by omega)
    simp (decide := true) only [tkcl_0, tkP4_2, tkP4_12, tkP4_5, hm, hl, n1, n2, ↓reduceIte]
    exact tk_fxP rfl (tk_fx18 rfl rfl rfl rfl rfl rfl rfl rfl rfl rfl rfl rfl rfl rfl rfl rfl rfl rfl (fun _ => rfl)) (tk_fx18 rfl rfl rfl rfl rfl rfl rfl rfl rfl rfl rfl rfl rfl rfl rfl rfl rfl rfl (fun _ => rfl)) rfl (tk_fx14 rfl rfl rfl rfl rfl rfl rfl rfl rfl rfl rfl rfl (by first | rfl | exact hl.symm) rfl (fun _ => rfl)) (tk_fx14 rfl rfl rfl rfl rfl rfl rfl rfl rfl rfl rfl rfl rfl rfl (fun _ => rfl)) (tk_fx14 rfl rfl rfl rfl rfl rfl rfl rfl rfl rfl rfl rfl rfl rfl (fun _ => rfl)) (fun _ => rfl)
set_option maxHeartbeats 400000 in
set_option maxRecDepth 20000 in
theorem tkR_lstat0 (G : Nat → Nat → Int32) (h : tkInvN G 0) (hm : ¬ G 20 0 = (-1)) : tkPsi (tkM_latchStatus_s G 0) = tk_up (tkPsi G) 4 (tkN_latchStatus_s (tkPsi G 4)) := by
  obtain ⟨-, -, -, -, -, -, -, -, -, -, hs, -⟩ := h
  obtain ⟨⟨e1, e2⟩, e3, e4⟩ := tkb_lit
  unfold tkM_latchStatus_s tkN_latchStatus_s tkN_hasMode_r tkT_asBit_r
  rcases hs with hs | hs
  · by_cases h1 : G 19 0 = 0 <;> by_cases h2 : G 27 0 = 0 <;> simp (decide := true) only [tkcl_0, tkP4_1, tkP4_2, tkP4_3, tkP4_8, tkP4_13, hm, hs, h1, h2, e1, e2, e3, e4, ↓reduceIte]
    all_goals exact tk_fxP rfl (tk_fx18 rfl rfl rfl rfl rfl rfl rfl rfl rfl rfl rfl rfl rfl rfl rfl rfl rfl rfl (fun _ => rfl)) (tk_fx18 rfl rfl rfl rfl rfl rfl rfl rfl rfl rfl rfl rfl rfl rfl rfl rfl rfl rfl (fun _ => rfl)) rfl (tk_fx14 rfl rfl rfl rfl rfl rfl rfl rfl rfl rfl rfl rfl rfl rfl (fun _ => rfl)) (tk_fx14 rfl rfl rfl rfl rfl rfl rfl rfl rfl rfl rfl rfl rfl rfl (fun _ => rfl)) (tk_fx14 rfl rfl rfl rfl rfl rfl rfl rfl rfl rfl rfl rfl rfl rfl (fun _ => rfl)) (fun _ => rfl)
  · obtain ⟨n1, n2⟩ := tkb_nn hs
    by_cases h1 : G 19 0 = 0 <;> by_cases h2 : G 27 0 = 0 <;> simp (decide := true) only [tkcl_0, tkP4_1, tkP4_2, tkP4_3, tkP4_8, tkP4_13, hm, n1, n2, h1, h2, ↓reduceIte]
    all_goals exact tk_fxP rfl (tk_fx18 rfl rfl rfl rfl rfl rfl rfl rfl rfl rfl rfl rfl rfl rfl rfl rfl rfl rfl (fun _ => rfl)) (tk_fx18 rfl rfl rfl rfl rfl rfl rfl rfl rfl rfl rfl rfl rfl rfl rfl rfl rfl rfl (fun _ => rfl)) rfl (tk_fx14 rfl rfl rfl rfl rfl rfl rfl rfl rfl rfl rfl rfl rfl rfl (fun _ => rfl)) (tk_fx14 rfl rfl rfl rfl rfl rfl rfl rfl rfl rfl rfl rfl rfl rfl (fun _ => rfl)) (tk_fx14 rfl rfl rfl rfl rfl rfl rfl rfl rfl rfl rfl rfl rfl rfl (fun _ => rfl)) (fun _ => rfl)
set_option maxHeartbeats 4000000 in
set_option maxRecDepth 20000 in
theorem tkR_cd0 (G : Nat → Nat → Int32) (hb : tkBl (G 19 0)) (hm : G 20 0 = 0 ∨ G 20 0 = 1 ∨ G 20 0 = 2 ∨ G 20 0 = 3 ∨ G 20 0 = 4 ∨ G 20 0 = 5) (hr : ¬ (G 22 0 + 1) / 2 = 0) : tkPsi (tkM_step_s G 0) = tk_up (tkPsi G) 4 (tkN_countDown_s (tkPsi G 4)) := by
  unfold tkM_step_s tkN_countDown_s
  rcases hm with hm | hm | hm | hm | hm | hm
  · rcases hb with h19 | h19 <;> by_cases h1 : ((G 23 0) - 1) &&& 65535 = 0 <;> simp (decide := true) only [tkN_stepOnce_s, tkN_lessen_s, tkM_put_s, tk_Pe, tk_Pn, pk_us, tk_ue, tk_un, tkcl_0, tkP4_0, tkP4_1, tkP4_2, tkP4_3, tkP4_4, tkP4_5, tkP4_6, tkP4_7, tkP4_8, tkP4_9, tkP4_10, tkP4_11, tkP4_12, tkP4_13, hm, h19, h1, ↓reduceIte]
    all_goals exact tk_fxP rfl (tk_fx18 rfl rfl rfl rfl rfl rfl rfl rfl rfl rfl rfl rfl rfl rfl rfl rfl rfl rfl (fun _ => rfl)) (tk_fx18 rfl rfl rfl rfl rfl rfl rfl rfl rfl rfl rfl rfl rfl rfl rfl rfl rfl rfl (fun _ => rfl)) rfl (tk_fx14 rfl (by first | rfl | exact h19.symm) rfl rfl rfl rfl rfl rfl rfl rfl rfl rfl rfl rfl (fun _ => rfl)) (tk_fx14 rfl rfl rfl rfl rfl rfl rfl rfl rfl rfl rfl rfl rfl rfl (fun _ => rfl)) (tk_fx14 rfl rfl rfl rfl rfl rfl rfl rfl rfl rfl rfl rfl rfl rfl (fun _ => rfl)) (fun _ => rfl)
  · rcases hb with h19 | h19 <;> by_cases h1 : ((G 23 0) - 1) &&& 65535 = 0 <;> simp (decide := true) only [tkN_stepOnce_s, tkN_lessen_s, tkM_put_s, tk_Pe, tk_Pn, pk_us, tk_ue, tk_un, tkcl_0, tkP4_0, tkP4_1, tkP4_2, tkP4_3, tkP4_4, tkP4_5, tkP4_6, tkP4_7, tkP4_8, tkP4_9, tkP4_10, tkP4_11, tkP4_12, tkP4_13, hm, h19, h1, ↓reduceIte]
    all_goals exact tk_fxP rfl (tk_fx18 rfl rfl rfl rfl rfl rfl rfl rfl rfl rfl rfl rfl rfl rfl rfl rfl rfl rfl (fun _ => rfl)) (tk_fx18 rfl rfl rfl rfl rfl rfl rfl rfl rfl rfl rfl rfl rfl rfl rfl rfl rfl rfl (fun _ => rfl)) rfl (tk_fx14 rfl (by first | rfl | exact h19.symm) rfl rfl rfl rfl rfl rfl rfl rfl rfl rfl rfl rfl (fun _ => rfl)) (tk_fx14 rfl rfl rfl rfl rfl rfl rfl rfl rfl rfl rfl rfl rfl rfl (fun _ => rfl)) (tk_fx14 rfl rfl rfl rfl rfl rfl rfl rfl rfl rfl rfl rfl rfl rfl (fun _ => rfl)) (fun _ => rfl)
  · by_cases h0 : G 23 0 = 1
    · by_cases h1 : (G 22 0) &&& 65535 = 1 <;> simp (decide := true) only [tkN_stepRate_s, tkN_setCount_s, tkM_put_s, tk_Pe, tk_Pn, pk_us, tk_ue, tk_un, tkcl_0, tkP4_0, tkP4_1, tkP4_2, tkP4_3, tkP4_4, tkP4_5, tkP4_6, tkP4_7, tkP4_8, tkP4_9, tkP4_10, tkP4_11, tkP4_12, tkP4_13, hm, h0, h1, ↓reduceIte]
      all_goals exact tk_fxP rfl (tk_fx18 rfl rfl rfl rfl rfl rfl rfl rfl rfl rfl rfl rfl rfl rfl rfl rfl rfl rfl (fun _ => rfl)) (tk_fx18 rfl rfl rfl rfl rfl rfl rfl rfl rfl rfl rfl rfl rfl rfl rfl rfl rfl rfl (fun _ => rfl)) rfl (tk_fx14 rfl (by first | rfl | exact h19.symm) rfl rfl rfl rfl rfl rfl rfl rfl rfl rfl rfl rfl (fun _ => rfl)) (tk_fx14 rfl rfl rfl rfl rfl rfl rfl rfl rfl rfl rfl rfl rfl rfl (fun _ => rfl)) (tk_fx14 rfl rfl rfl rfl rfl rfl rfl rfl rfl rfl rfl rfl rfl rfl (fun _ => rfl)) (fun _ => rfl)
    · rcases hb with h19 | h19 <;> by_cases h1 : ((G 23 0) - 1) &&& 65535 = 1 <;> simp (decide := true) only [tkN_stepRate_s, tkN_lessen_s, tkM_put_s, tk_Pe, tk_Pn, pk_us, tk_ue, tk_un, tkcl_0, tkP4_0, tkP4_1, tkP4_2, tkP4_3, tkP4_4, tkP4_5, tkP4_6, tkP4_7, tkP4_8, tkP4_9, tkP4_10, tkP4_11, tkP4_12, tkP4_13, hm, h0, h19, h1, ↓reduceIte]
      all_goals exact tk_fxP rfl (tk_fx18 rfl rfl rfl rfl rfl rfl rfl rfl rfl rfl rfl rfl rfl rfl rfl rfl rfl rfl (fun _ => rfl)) (tk_fx18 rfl rfl rfl rfl rfl rfl rfl rfl rfl rfl rfl rfl rfl rfl rfl rfl rfl rfl (fun _ => rfl)) rfl (tk_fx14 rfl (by first | rfl | exact h19.symm) rfl rfl rfl rfl rfl rfl rfl rfl rfl rfl rfl rfl (fun _ => rfl)) (tk_fx14 rfl rfl rfl rfl rfl rfl rfl rfl rfl rfl rfl rfl rfl rfl (fun _ => rfl)) (tk_fx14 rfl rfl rfl rfl rfl rfl rfl rfl rfl rfl rfl rfl rfl rfl (fun _ => rfl)) (fun _ => rfl)
  · by_cases h1 : ((G 23 0) - 2) &&& 65535 = 0
    · rcases hb with h19 | h19
      · simp (decide := true) only [tkN_stepSquare_s, tkN_lessen_s, tkN_setCount_s, tkN_pt1, tkN_pt0, tkM_turn_s, tkM_put_s, tk_Pe, tk_Pn, pk_us, tk_ue, tk_un, tkcl_0, tkP4_0, tkP4_1, tkP4_2, tkP4_3, tkP4_4, tkP4_5, tkP4_6, tkP4_7, tkP4_8, tkP4_9, tkP4_10, tkP4_11, tkP4_12, tkP4_13, hm, h1, h19, hr, ↓reduceIte]
        exact tk_fxP rfl (tk_fx18 rfl rfl rfl rfl rfl rfl rfl rfl rfl rfl rfl rfl rfl rfl rfl rfl rfl rfl (fun _ => rfl)) (tk_fx18 rfl rfl rfl rfl rfl rfl rfl rfl rfl rfl rfl rfl rfl rfl rfl rfl rfl rfl (fun _ => rfl)) rfl (tk_fx14 rfl (by first | rfl | exact h19.symm) rfl rfl rfl rfl rfl rfl rfl rfl rfl rfl rfl rfl (fun _ => rfl)) (tk_fx14 rfl rfl rfl rfl rfl rfl rfl rfl rfl rfl rfl rfl rfl rfl (fun _ => rfl)) (tk_fx14 rfl rfl rfl rfl rfl rfl rfl rfl rfl rfl rfl rfl rfl rfl (fun _ => rfl)) (fun _ => rfl)
      · by_cases h2 : (G 22 0) / 2 = 0 <;> simp (decide := true) only [tkN_stepSquare_s, tkN_lessen_s, tkN_setCount_s, tkN_pt1, tkN_pt0, tkM_turn_s, tkM_put_s, tk_Pe, tk_Pn, pk_us, tk_ue, tk_un, tkcl_0, tkP4_0, tkP4_1, tkP4_2, tkP4_3, tkP4_4, tkP4_5, tkP4_6, tkP4_7, tkP4_8, tkP4_9, tkP4_10, tkP4_11, tkP4_12, tkP4_13, hm, h1, h19, h2, hr, ↓reduceIte]
        all_goals exact tk_fxP rfl (tk_fx18 rfl rfl rfl rfl rfl rfl rfl rfl rfl rfl rfl rfl rfl rfl rfl rfl rfl rfl (fun _ => rfl)) (tk_fx18 rfl rfl rfl rfl rfl rfl rfl rfl rfl rfl rfl rfl rfl rfl rfl rfl rfl rfl (fun _ => rfl)) rfl (tk_fx14 rfl (by first | rfl | exact h19.symm) rfl rfl rfl rfl rfl rfl rfl rfl rfl rfl rfl rfl (fun _ => rfl)) (tk_fx14 rfl rfl rfl rfl rfl rfl rfl rfl rfl rfl rfl rfl rfl rfl (fun _ => rfl)) (tk_fx14 rfl rfl rfl rfl rfl rfl rfl rfl rfl rfl rfl rfl rfl rfl (fun _ => rfl)) (fun _ => rfl)
    · simp (decide := true) only [tkN_stepSquare_s, tkN_lessen_s, tkM_put_s, tk_Pe, tk_Pn, pk_us, tk_ue, tk_un, tkcl_0, tkP4_0, tkP4_1, tkP4_2, tkP4_3, tkP4_4, tkP4_5, tkP4_6, tkP4_7, tkP4_8, tkP4_9, tkP4_10, tkP4_11, tkP4_12, tkP4_13, hm, h1, ↓reduceIte]
      exact tk_fxP rfl (tk_fx18 rfl rfl rfl rfl rfl rfl rfl rfl rfl rfl rfl rfl rfl rfl rfl rfl rfl rfl (fun _ => rfl)) (tk_fx18 rfl rfl rfl rfl rfl rfl rfl rfl rfl rfl rfl rfl rfl rfl rfl rfl rfl rfl (fun _ => rfl)) rfl (tk_fx14 rfl (by first | rfl | exact h19.symm) rfl rfl rfl rfl rfl rfl rfl rfl rfl rfl rfl rfl (fun _ => rfl)) (tk_fx14 rfl rfl rfl rfl rfl rfl rfl rfl rfl rfl rfl rfl rfl rfl (fun _ => rfl)) (tk_fx14 rfl rfl rfl rfl rfl rfl rfl rfl rfl rfl rfl rfl rfl rfl (fun _ => rfl)) (fun _ => rfl)
  · by_cases h1 : ((G 23 0) - 1) &&& 65535 = 0 <;> simp (decide := true) only [tkN_stepStrobe_s, tkN_lessen_s, tkM_put_s, tk_Pe, tk_Pn, pk_us, tk_ue, tk_un, tkcl_0, tkP4_0, tkP4_1, tkP4_2, tkP4_3, tkP4_4, tkP4_5, tkP4_6, tkP4_7, tkP4_8, tkP4_9, tkP4_10, tkP4_11, tkP4_12, tkP4_13, hm, h1, ↓reduceIte]
    all_goals exact tk_fxP rfl (tk_fx18 rfl rfl rfl rfl rfl rfl rfl rfl rfl rfl rfl rfl rfl rfl rfl rfl rfl rfl (fun _ => rfl)) (tk_fx18 rfl rfl rfl rfl rfl rfl rfl rfl rfl rfl rfl rfl rfl rfl rfl rfl rfl rfl (fun _ => rfl)) rfl (tk_fx14 rfl (by first | rfl | exact h19.symm) rfl rfl rfl rfl rfl rfl rfl rfl rfl rfl rfl rfl (fun _ => rfl)) (tk_fx14 rfl rfl rfl rfl rfl rfl rfl rfl rfl rfl rfl rfl rfl rfl (fun _ => rfl)) (tk_fx14 rfl rfl rfl rfl rfl rfl rfl rfl rfl rfl rfl rfl rfl rfl (fun _ => rfl)) (fun _ => rfl)
  · by_cases h1 : ((G 23 0) - 1) &&& 65535 = 0 <;> simp (decide := true) only [tkN_stepStrobe_s, tkN_lessen_s, tkM_put_s, tk_Pe, tk_Pn, pk_us, tk_ue, tk_un, tkcl_0, tkP4_0, tkP4_1, tkP4_2, tkP4_3, tkP4_4, tkP4_5, tkP4_6, tkP4_7, tkP4_8, tkP4_9, tkP4_10, tkP4_11, tkP4_12, tkP4_13, hm, h1, ↓reduceIte]
    all_goals exact tk_fxP rfl (tk_fx18 rfl rfl rfl rfl rfl rfl rfl rfl rfl rfl rfl rfl rfl rfl rfl rfl rfl rfl (fun _ => rfl)) (tk_fx18 rfl rfl rfl rfl rfl rfl rfl rfl rfl rfl rfl rfl rfl rfl rfl rfl rfl rfl (fun _ => rfl)) rfl (tk_fx14 rfl (by first | rfl | exact h19.symm) rfl rfl rfl rfl rfl rfl rfl rfl rfl rfl rfl rfl (fun _ => rfl)) (tk_fx14 rfl rfl rfl rfl rfl rfl rfl rfl rfl rfl rfl rfl rfl rfl (fun _ => rfl)) (tk_fx14 rfl rfl rfl rfl rfl rfl rfl rfl rfl rfl rfl rfl rfl rfl (fun _ => rfl)) (fun _ => rfl)
