set_option maxHeartbeats 1000000 in
set_option maxRecDepth 20000 in
theorem tkR_t (G : Nat → Nat → Int32) (k : Int32) : tkPsi (tk_up G 0 (fun _ => k)) = tkPsi G := by
  exact tk_fxP rfl (tk_fx18 rfl rfl rfl rfl rfl rfl rfl rfl rfl rfl rfl rfl rfl rfl rfl rfl rfl rfl (fun _ => rfl)) (tk_fx18 rfl rfl rfl rfl rfl rfl rfl rfl rfl rfl rfl rfl rfl rfl rfl rfl rfl rfl (fun _ => rfl)) rfl (tk_fx14 rfl rfl rfl rfl rfl rfl rfl rfl rfl rfl rfl rfl rfl rfl (fun _ => rfl)) (tk_fx14 rfl rfl rfl rfl rfl rfl rfl rfl rfl rfl rfl rfl rfl rfl (fun _ => rfl)) (tk_fx14 rfl rfl rfl rfl rfl rfl rfl rfl rfl rfl rfl rfl rfl rfl (fun _ => rfl)) (fun _ => rfl)
theorem tkR_gl {X : Nat → Nat → Int32} {g : Nat → Nat → Int32} (hX : tkInv X) (e : tkPsi X = g) : tkPsi (tkM_follow_s X) = tkT_followLines_s g ∧ tkInv (tkM_follow_s X) := by
  subst e
  exact ⟨tkR_follow X hX.1.2.1, tkI_follow X hX⟩
theorem tkb_c2 (x : Int32) : x = 0 ∨ x = 1 ∨ ((tkT_isController_r x = 0 ∧ ¬ x = 0 ∧ ¬ x = 1) ∧ (x < 0 ∨ (¬ x < 0 ∧ 1 < x))) := by
  by_cases h0 : x < 0
  · refine Or.inr (Or.inr ⟨⟨by unfold tkT_isController_r; rw [if_pos h0], fun e => ?_, fun e => ?_⟩, Or.inl h0⟩) <;> subst e <;> exact absurd h0 (by decide)
  · by_cases h1 : 1 < x
    · refine Or.inr (Or.inr ⟨⟨?_, fun e => ?_, fun e => ?_⟩, Or.inr ⟨h0, h1⟩⟩)
      · unfold tkT_isController_r
        rw [if_neg h0, if_pos ?_]
        have := tk_lt.mp h1
        have z : (1 : Int32).toInt = 1 := by decide
        have z2 : (2 : Int32).toInt = 2 := by decide
        exact tk_le.mpr (by omega)
      · subst e; exact absurd h1 (by decide)
      · subst e; exact absurd h1 (by decide)
    · have z : (0 : Int32).toInt = 0 := by decide
      have z1 : (1 : Int32).toInt = 1 := by decide
      have a : ¬ x.toInt < (0 : Int32).toInt := fun q => h0 (tk_lt.mpr q)
      have b : ¬ (1 : Int32).toInt < x.toInt := fun q => h1 (tk_lt.mpr q)
      rcases (by omega : x.toInt = 0 ∨ x.toInt = 1) with q | q
      · exact Or.inl (tk_eqI q)
      · exact Or.inr (Or.inl (tk_eqI q))
theorem tkb_c3 (x : Int32) : x = 0 ∨ x = 1 ∨ x = 2 ∨ (tkT_isCounter_r x = 0 ∧ (x < 0 ∨ (¬ x < 0 ∧ ¬ x ≤ 2))) := by
  by_cases h0 : x < 0
  · exact Or.inr (Or.inr (Or.inr ⟨by unfold tkT_isCounter_r; rw [if_pos h0], Or.inl h0⟩))
  · by_cases h1 : x ≤ 2
    · have z : (0 : Int32).toInt = 0 := by decide
      have z1 : (2 : Int32).toInt = 2 := by decide
      have a : ¬ x.toInt < (0 : Int32).toInt := fun q => h0 (tk_lt.mpr q)
      have b := tk_le.mp h1
      rcases (by omega : x.toInt = 0 ∨ x.toInt = 1 ∨ x.toInt = 2) with q | q | q
      · exact Or.inl (tk_eqI q)
      · exact Or.inr (Or.inl (tk_eqI q))
      · exact Or.inr (Or.inr (Or.inl (tk_eqI q)))
    · refine Or.inr (Or.inr (Or.inr ⟨?_, Or.inr ⟨h0, h1⟩⟩))
      unfold tkT_isCounter_r
      rw [if_neg h0, if_pos ?_]
      have z1 : (2 : Int32).toInt = 2 := by decide
      have z2 : (3 : Int32).toInt = 3 := by decide
      have b : ¬ x.toInt ≤ (2 : Int32).toInt := fun q => h1 (tk_le.mpr q)
      exact tk_le.mpr (by omega)
theorem tkb_c8 (y : Int32) : y < 0 ∨ (¬ y < 0 ∧ 7 < y ∧ ¬ y < 8) ∨ (tkLow y ∧ ¬ y < 0 ∧ ¬ 7 < y ∧ y < 8) := by
  by_cases h0 : y < 0
  · exact Or.inl h0
  · have z : (0 : Int32).toInt = 0 := by decide
    have z1 : (7 : Int32).toInt = 7 := by decide
    have z2 : (8 : Int32).toInt = 8 := by decide
    have a : ¬ y.toInt < (0 : Int32).toInt := fun q => h0 (tk_lt.mpr q)
    by_cases h1 : 7 < y
    · have b := tk_lt.mp h1
      exact Or.inr (Or.inl ⟨h0, h1, fun q => by have := tk_lt.mp q; omega⟩)
    · have b : ¬ (7 : Int32).toInt < y.toInt := fun q => h1 (tk_lt.mpr q)
      refine Or.inr (Or.inr ⟨?_, h0, h1, tk_lt.mpr (by omega)⟩)
      unfold tkLow
      rcases (by omega : y.toInt = 0 ∨ y.toInt = 1 ∨ y.toInt = 2 ∨ y.toInt = 3 ∨ y.toInt = 4 ∨ y.toInt = 5 ∨ y.toInt = 6 ∨ y.toInt = 7) with q | q | q | q | q | q | q | q <;> rw [tk_eqI q] <;> decide
theorem tkb_cc : (¬ tkT_isController_r 0 = 0 ∧ ¬ tkT_isController_r 1 = 0) ∧ ¬ tkT_isCounter_r 0 = 0 ∧ ¬ tkT_isCounter_r 1 = 0 ∧ ¬ tkT_isCounter_r 2 = 0 := by decide
set_option maxHeartbeats 1000000 in
set_option maxRecDepth 20000 in
theorem tkR_line (G : Nat → Nat → Int32) (h : tkInv G) (x y z : Int32) : tkM_line_r G x y z = tkT_line_r (tkPsi G) x y z ∧ tkPsi (tkM_line_s G x y z) = tkT_line_s (tkPsi G) x y z ∧ tkInv (tkM_line_s G x y z) := by
  obtain ⟨⟨k0, k1⟩, k2, k3, k4⟩ := tkb_cc
  have h0 : tkInv (tk_up G 0 (fun _ => 0)) := tkI_t h 0
  have ht := tkR_t G 0
  unfold tkM_line_r tkM_line_s tkT_line_r tkT_line_s
  rcases tkb_c2 x with rfl | rfl | ⟨⟨e1, e2, e3⟩, e4⟩
  · rcases tkb_c8 y with hy | ⟨hy, hy1, hy2⟩ | ⟨hl, hy, hy1, hy2⟩
    · simp (decide := true) only [k0, hy, ↓reduceIte]
      exact ⟨trivial, ht, h0⟩
    · simp (decide := true) only [k0, hy, hy1, hy2, ↓reduceIte]
      exact ⟨trivial, ht, h0⟩
    · by_cases y0 : y = 0
      · simp (decide := true) only [k0, hy, hy1, hy2, y0, ↓reduceIte]
        exact ⟨trivial, ht, h0⟩
      · by_cases y2 : y = 2
        · simp (decide := true) only [k0, hy, hy1, hy2, y0, y2, ↓reduceIte]
          exact ⟨trivial, ht, h0⟩
        · simp (decide := true) only [k0, hy, hy1, hy2, y0, y2, ↓reduceIte]
          exact ⟨trivial, tkR_gl (tkI_set0 _ _ _ h0) (by rw [tkR_set0 _ _ _ hl, ht])⟩
  · rcases tkb_c8 y with hy | ⟨hy, hy1, hy2⟩ | ⟨hl, hy, hy1, hy2⟩
    · simp (decide := true) only [k1, hy, ↓reduceIte]
      exact ⟨trivial, ht, h0⟩
    · simp (decide := true) only [k1, hy, hy1, hy2, ↓reduceIte]
      exact ⟨trivial, ht, h0⟩
    · simp (decide := true) only [k1, hy, hy1, hy2, ↓reduceIte]
      exact ⟨trivial, tkR_gl (tkI_set1 _ _ _ h0) (by rw [tkR_set1 _ _ _ hl, ht])⟩
  · rcases e4 with e4 | ⟨e4, e5⟩
    · simp (decide := true) only [e1, e4, ↓reduceIte]
      exact ⟨trivial, ht, h0⟩
    · simp (decide := true) only [e1, e4, e5, ↓reduceIte]
      exact ⟨trivial, ht, h0⟩
set_option maxHeartbeats 1000000 in
set_option maxRecDepth 20000 in
theorem tkR_chosen (G : Nat → Nat → Int32) (h : tkInv G) (x : Int32) : tkM_chosen_r G x = tkT_chosen_r (tkPsi G) x := by
  obtain ⟨⟨k0, k1⟩, k2, k3, k4⟩ := tkb_cc
  have h0 : tkInv (tk_up G 0 (fun _ => 0)) := tkI_t h 0
  have ht := tkR_t G 0
  unfold tkM_chosen_r tkT_chosen_r
  rcases tkb_c2 x with rfl | rfl | ⟨⟨e1, e2, e3⟩, e4⟩
  · simp (decide := true) only [k0, ↓reduceIte]
    rw [tkR_choice0 _ h0.1.1.1]
    exact congrArg tkC_chosenLevel_r (congrFun ht 1)
  · simp (decide := true) only [k1, ↓reduceIte]
    rw [tkR_choice1 _ h0.1.2.1]
    exact congrArg tkC_chosenLevel_r (congrFun ht 2)
  · simp (decide := true) only [e1, e2, e3, ↓reduceIte]
set_option maxHeartbeats 1000000 in
set_option maxRecDepth 20000 in
theorem tkR_about (G : Nat → Nat → Int32) (x y : Int32) : tkM_about_r G x y = tkT_about_r (tkPsi G) x y := by
  obtain ⟨⟨k0, k1⟩, k2, k3, k4⟩ := tkb_cc
  unfold tkM_about_r tkT_about_r tkC_tell_r
  rcases tkb_c2 x with rfl | rfl | ⟨⟨e1, e2, e3⟩, e4⟩
  · simp (decide := true) only [k0, ↓reduceIte]
    rfl
  · simp (decide := true) only [k1, ↓reduceIte]
    rfl
  · simp (decide := true) only [e1, e2, e3, ↓reduceIte]
set_option maxHeartbeats 1000000 in
set_option maxRecDepth 20000 in
theorem tkR_counter (G : Nat → Nat → Int32) (x y : Int32) : tkM_counter_r G x y = tkT_counter_r (tkPsi G) x y := by
  obtain ⟨⟨k0, k1⟩, k2, k3, k4⟩ := tkb_cc
  unfold tkM_counter_r tkT_counter_r tkN_tell_r
  rcases tkb_c3 x with rfl | rfl | rfl | ⟨e1, e4⟩
  · simp (decide := true) only [k2, ↓reduceIte]
    rfl
  · simp (decide := true) only [k3, ↓reduceIte]
    rfl
  · simp (decide := true) only [k4, ↓reduceIte]
    rfl
  · rcases e4 with e4 | ⟨e4, e5⟩
    · simp (decide := true) only [e1, e4, ↓reduceIte]
    · simp (decide := true) only [e1, e4, e5, ↓reduceIte]
set_option maxHeartbeats 4000000 in
set_option maxRecDepth 20000 in
theorem tkR_gate0 (G : Nat → Nat → Int32) (h : tkInv G) (z : Int32) (hz : z = 0 ∨ z = 1) : tkPsi (tkM_gate_s G 0 z) = tkT_gate_s (tkPsi G) 0 z ∧ tkInv (tkM_gate_s G 0 z) := by
  obtain ⟨⟨k0, k1⟩, k2, k3, k4⟩ := tkb_cc
  obtain ⟨⟨c0, c1⟩, n0, n1, n2⟩ := h
  obtain ⟨⟨hb19, hb25⟩, hm, ha, hm1, hm2, ha3, ⟨nr, hnr, hr⟩, hc, hlow, hl, hs, h26⟩ := n0
  have h22 : (G 22 0 = 0 ∧ G 22 0 ≤ 0) ∨ (¬ G 22 0 = 0 ∧ ¬ G 22 0 ≤ 0) := by
    by_cases q : nr = 0
    · subst q; rw [hr]; exact Or.inl (by decide)
    · rw [hr]; exact Or.inr ⟨nI_ne0 (by omega) (by omega), nI_nle (by omega) (by omega)⟩
  unfold tkM_gate_s tkT_gate_s tkN_setGate_s tkN_isEmpty_r tkN_gateLoads_r tkN_isPeriodic_r
  rcases hz with rfl | rfl
  · by_cases g1 : G 18 0 = 0
    · simp (decide := true) only [k2, k3, k4, tkcl_0, tkP4_0, tkb_n0, g1, ↓reduceIte]
      exact tkR_gl ⟨⟨c0, c1⟩, ⟨⟨(by first | exact hb19 | exact Or.inr rfl), (by first | exact hb25 | exact Or.inr rfl)⟩, hm, ha, hm1, hm2, ha3, ⟨nr, hnr, hr⟩, hc, hlow, hl, hs, h26⟩, n1, n2⟩ (tk_fxP rfl (tk_fx18 rfl rfl rfl rfl rfl rfl rfl rfl rfl rfl rfl rfl rfl rfl rfl rfl rfl rfl (fun _ => rfl)) (tk_fx18 rfl rfl rfl rfl rfl rfl rfl rfl rfl rfl rfl rfl rfl rfl rfl rfl rfl rfl (fun _ => rfl)) rfl (tk_fx14 rfl rfl rfl rfl rfl rfl rfl rfl rfl rfl rfl rfl rfl rfl (fun _ => rfl)) (tk_fx14 rfl rfl rfl rfl rfl rfl rfl rfl rfl rfl rfl rfl rfl rfl (fun _ => rfl)) (tk_fx14 rfl rfl rfl rfl rfl rfl rfl rfl rfl rfl rfl rfl rfl rfl (fun _ => rfl)) (fun _ => rfl))
    · rcases hm with hm0 | hm0 | hm0 | hm0 | hm0 | hm0 | hm0 <;> simp (decide := true) only [k2, k3, k4, tkcl_0, tkP4_0, tkP4_2, tk_un, tkb_n0, g1, hm0, ↓reduceIte]
      all_goals exact tkR_gl ⟨⟨c0, c1⟩, ⟨⟨(by first | exact hb19 | exact Or.inr rfl), (by first | exact hb25 | exact Or.inr rfl)⟩, (by first | exact Or.inl hm0 | exact Or.inr (Or.inl hm0) | exact Or.inr (Or.inr (Or.inl hm0)) | exact Or.inr (Or.inr (Or.inr (Or.inl hm0))) | exact Or.inr (Or.inr (Or.inr (Or.inr (Or.inl hm0)))) | exact Or.inr (Or.inr (Or.inr (Or.inr (Or.inr (Or.inl hm0))))) | exact Or.inr (Or.inr (Or.inr (Or.inr (Or.inr (Or.inr hm0)))))), ha, hm1, hm2, ha3, ⟨nr, hnr, hr⟩, hc, hlow, hl, hs, h26⟩, n1, n2⟩ (tk_fxP rfl (tk_fx18 rfl rfl rfl rfl rfl rfl rfl rfl rfl rfl rfl rfl rfl rfl rfl rfl rfl rfl (fun _ => rfl)) (tk_fx18 rfl rfl rfl rfl rfl rfl rfl rfl rfl rfl rfl rfl rfl rfl rfl rfl rfl rfl (fun _ => rfl)) rfl (tk_fx14 rfl rfl rfl rfl rfl rfl rfl rfl rfl rfl rfl rfl rfl rfl (fun _ => rfl)) (tk_fx14 rfl rfl rfl rfl rfl rfl rfl rfl rfl rfl rfl rfl rfl rfl (fun _ => rfl)) (tk_fx14 rfl rfl rfl rfl rfl rfl rfl rfl rfl rfl rfl rfl rfl rfl (fun _ => rfl)) (fun _ => rfl))
  · by_cases g1 : G 18 0 = 0
    · rcases h22 with ⟨r1, r2⟩ | ⟨r1, r2⟩
      · simp (decide := true) only [k2, k3, k4, tkcl_0, tkP4_0, tkP4_2, tkP4_4, tk_un, tkb_n1, g1, r1, r2, ↓reduceIte]
        exact tkR_gl ⟨⟨c0, c1⟩, ⟨⟨(by first | exact hb19 | exact Or.inr rfl), (by first | exact hb25 | exact Or.inr rfl)⟩, hm, ha, hm1, hm2, ha3, ⟨nr, hnr, hr⟩, hc, hlow, hl, hs, h26⟩, n1, n2⟩ (tk_fxP rfl (tk_fx18 rfl rfl rfl rfl rfl rfl rfl rfl rfl rfl rfl rfl rfl rfl rfl rfl rfl rfl (fun _ => rfl)) (tk_fx18 rfl rfl rfl rfl rfl rfl rfl rfl rfl rfl rfl rfl rfl rfl rfl rfl rfl rfl (fun _ => rfl)) rfl (tk_fx14 rfl rfl rfl rfl rfl rfl rfl rfl rfl rfl rfl rfl rfl rfl (fun _ => rfl)) (tk_fx14 rfl rfl rfl rfl rfl rfl rfl rfl rfl rfl rfl rfl rfl rfl (fun _ => rfl)) (tk_fx14 rfl rfl rfl rfl rfl rfl rfl rfl rfl rfl rfl rfl rfl rfl (fun _ => rfl)) (fun _ => rfl))
      · rcases hm with hm0 | hm0 | hm0 | hm0 | hm0 | hm0 | hm0 <;> simp (decide := true) only [k2, k3, k4, tkcl_0, tkP4_0, tkP4_2, tkP4_4, tk_un, tkb_n1, g1, r1, r2, hm0, ↓reduceIte]
        all_goals exact tkR_gl ⟨⟨c0, c1⟩, ⟨⟨(by first | exact hb19 | exact Or.inr rfl), (by first | exact hb25 | exact Or.inr rfl)⟩, (by first | exact Or.inl hm0 | exact Or.inr (Or.inl hm0) | exact Or.inr (Or.inr (Or.inl hm0)) | exact Or.inr (Or.inr (Or.inr (Or.inl hm0))) | exact Or.inr (Or.inr (Or.inr (Or.inr (Or.inl hm0)))) | exact Or.inr (Or.inr (Or.inr (Or.inr (Or.inr (Or.inl hm0))))) | exact Or.inr (Or.inr (Or.inr (Or.inr (Or.inr (Or.inr hm0)))))), ha, hm1, hm2, ha3, ⟨nr, hnr, hr⟩, hc, hlow, hl, hs, h26⟩, n1, n2⟩ (tk_fxP rfl (tk_fx18 rfl rfl rfl rfl rfl rfl rfl rfl rfl rfl rfl rfl rfl rfl rfl rfl rfl rfl (fun _ => rfl)) (tk_fx18 rfl rfl rfl rfl rfl rfl rfl rfl rfl rfl rfl rfl rfl rfl rfl rfl rfl rfl (fun _ => rfl)) rfl (tk_fx14 rfl rfl rfl rfl rfl rfl rfl rfl rfl rfl rfl rfl rfl rfl (fun _ => rfl)) (tk_fx14 rfl rfl rfl rfl rfl rfl rfl rfl rfl rfl rfl rfl rfl rfl (fun _ => rfl)) (tk_fx14 rfl rfl rfl rfl rfl rfl rfl rfl rfl rfl rfl rfl rfl rfl (fun _ => rfl)) (fun _ => rfl))
    · simp (decide := true) only [k2, k3, k4, tkcl_0, tkP4_0, tkb_n1, g1, ↓reduceIte]
      exact tkR_gl ⟨⟨c0, c1⟩, ⟨⟨(by first | exact hb19 | exact Or.inr rfl), (by first | exact hb25 | exact Or.inr rfl)⟩, hm, ha, hm1, hm2, ha3, ⟨nr, hnr, hr⟩, hc, hlow, hl, hs, h26⟩, n1, n2⟩ (tk_fxP rfl (tk_fx18 rfl rfl rfl rfl rfl rfl rfl rfl rfl rfl rfl rfl rfl rfl rfl rfl rfl rfl (fun _ => rfl)) (tk_fx18 rfl rfl rfl rfl rfl rfl rfl rfl rfl rfl rfl rfl rfl rfl rfl rfl rfl rfl (fun _ => rfl)) rfl (tk_fx14 rfl rfl rfl rfl rfl rfl rfl rfl rfl rfl rfl rfl rfl rfl (fun _ => rfl)) (tk_fx14 rfl rfl rfl rfl rfl rfl rfl rfl rfl rfl rfl rfl rfl rfl (fun _ => rfl)) (tk_fx14 rfl rfl rfl rfl rfl rfl rfl rfl rfl rfl rfl rfl rfl rfl (fun _ => rfl)) (fun _ => rfl))
set_option maxHeartbeats 4000000 in
set_option maxRecDepth 20000 in
theorem tkR_gate1 (G : Nat → Nat → Int32) (h : tkInv G) (z : Int32) (hz : z = 0 ∨ z = 1) : tkPsi (tkM_gate_s G 1 z) = tkT_gate_s (tkPsi G) 1 z ∧ tkInv (tkM_gate_s G 1 z) := by
  obtain ⟨⟨k0, k1⟩, k2, k3, k4⟩ := tkb_cc
  obtain ⟨⟨c0, c1⟩, n0, n1, n2⟩ := h
  obtain ⟨⟨hb19, hb25⟩, hm, ha, hm1, hm2, ha3, ⟨nr, hnr, hr⟩, hc, hlow, hl, hs, h26⟩ := n1
  have h22 : (G 22 1 = 0 ∧ G 22 1 ≤ 0) ∨ (¬ G 22 1 = 0 ∧ ¬ G 22 1 ≤ 0) := by
    by_cases q : nr = 0
    · subst q; rw [hr]; exact Or.inl (by decide)
    · rw [hr]; exact Or.inr ⟨nI_ne0 (by omega) (by omega), nI_nle (by omega) (by omega)⟩
  unfold tkM_gate_s tkT_gate_s tkN_setGate_s tkN_isEmpty_r tkN_gateLoads_r tkN_isPeriodic_r
  rcases hz with rfl | rfl
  · by_cases g1 : G 18 1 = 0
    · simp (decide := true) only [k2, k3, k4, tkcl_1, tkP5_0, tkb_n0, g1, ↓reduceIte]
      exact tkR_gl ⟨⟨c0, c1⟩, n0, ⟨⟨(by first | exact hb19 | exact Or.inr rfl), (by first | exact hb25 | exact Or.inr rfl)⟩, hm, ha, hm1, hm2, ha3, ⟨nr, hnr, hr⟩, hc, hlow, hl, hs, h26⟩, n2⟩ (tk_fxP rfl (tk_fx18 rfl rfl rfl rfl rfl rfl rfl rfl rfl rfl rfl rfl rfl rfl rfl rfl rfl rfl (fun _ => rfl)) (tk_fx18 rfl rfl rfl rfl rfl rfl rfl rfl rfl rfl rfl rfl rfl rfl rfl rfl rfl rfl (fun _ => rfl)) rfl (tk_fx14 rfl rfl rfl rfl rfl rfl rfl rfl rfl rfl rfl rfl rfl rfl (fun _ => rfl)) (tk_fx14 rfl rfl rfl rfl rfl rfl rfl rfl rfl rfl rfl rfl rfl rfl (fun _ => rfl)) (tk_fx14 rfl rfl rfl rfl rfl rfl rfl rfl rfl rfl rfl rfl rfl rfl (fun _ => rfl)) (fun _ => rfl))
    · rcases hm with hm0 | hm0 | hm0 | hm0 | hm0 | hm0 | hm0 <;> simp (decide := true) only [k2, k3, k4, tkcl_1, tkP5_0, tkP5_2, tk_un, tkb_n0, g1, hm0, ↓reduceIte]
      all_goals exact tkR_gl ⟨⟨c0, c1⟩, n0, ⟨⟨(by first | exact hb19 | exact Or.inr rfl), (by first | exact hb25 | exact Or.inr rfl)⟩, (by first | exact Or.inl hm0 | exact Or.inr (Or.inl hm0) | exact Or.inr (Or.inr (Or.inl hm0)) | exact Or.inr (Or.inr (Or.inr (Or.inl hm0))) | exact Or.inr (Or.inr (Or.inr (Or.inr (Or.inl hm0)))) | exact Or.inr (Or.inr (Or.inr (Or.inr (Or.inr (Or.inl hm0))))) | exact Or.inr (Or.inr (Or.inr (Or.inr (Or.inr (Or.inr hm0)))))), ha, hm1, hm2, ha3, ⟨nr, hnr, hr⟩, hc, hlow, hl, hs, h26⟩, n2⟩ (tk_fxP rfl (tk_fx18 rfl rfl rfl rfl rfl rfl rfl rfl rfl rfl rfl rfl rfl rfl rfl rfl rfl rfl (fun _ => rfl)) (tk_fx18 rfl rfl rfl rfl rfl rfl rfl rfl rfl rfl rfl rfl rfl rfl rfl rfl rfl rfl (fun _ => rfl)) rfl (tk_fx14 rfl rfl rfl rfl rfl rfl rfl rfl rfl rfl rfl rfl rfl rfl (fun _ => rfl)) (tk_fx14 rfl rfl rfl rfl rfl rfl rfl rfl rfl rfl rfl rfl rfl rfl (fun _ => rfl)) (tk_fx14 rfl rfl rfl rfl rfl rfl rfl rfl rfl rfl rfl rfl rfl rfl (fun _ => rfl)) (fun _ => rfl))
  · by_cases g1 : G 18 1 = 0
    · rcases h22 with ⟨r1, r2⟩ | ⟨r1, r2⟩
      · simp (decide := true) only [k2, k3, k4, tkcl_1, tkP5_0, tkP5_2, tkP5_4, tk_un, tkb_n1, g1, r1, r2, ↓reduceIte]
        exact tkR_gl ⟨⟨c0, c1⟩, n0, ⟨⟨(by first | exact hb19 | exact Or.inr rfl), (by first | exact hb25 | exact Or.inr rfl)⟩, hm, ha, hm1, hm2, ha3, ⟨nr, hnr, hr⟩, hc, hlow, hl, hs, h26⟩, n2⟩ (tk_fxP rfl (tk_fx18 rfl rfl rfl rfl rfl rfl rfl rfl rfl rfl rfl rfl rfl rfl rfl rfl rfl rfl (fun _ => rfl)) (tk_fx18 rfl rfl rfl rfl rfl rfl rfl rfl rfl rfl rfl rfl rfl rfl rfl rfl rfl rfl (fun _ => rfl)) rfl (tk_fx14 rfl rfl rfl rfl rfl rfl rfl rfl rfl rfl rfl rfl rfl rfl (fun _ => rfl)) (tk_fx14 rfl rfl rfl rfl rfl rfl rfl rfl rfl rfl rfl rfl rfl rfl (fun _ => rfl)) (tk_fx14 rfl rfl rfl rfl rfl rfl rfl rfl rfl rfl rfl rfl rfl rfl (fun _ => rfl)) (fun _ => rfl))
      · rcases hm with hm0 | hm0 | hm0 | hm0 | hm0 | hm0 | hm0 <;> simp (decide := true) only [k2, k3, k4, tkcl_1, tkP5_0, tkP5_2, tkP5_4, tk_un, tkb_n1, g1, r1, r2, hm0, ↓reduceIte]
        all_goals exact tkR_gl ⟨⟨c0, c1⟩, n0, ⟨⟨(by first | exact hb19 | exact Or.inr rfl), (by first | exact hb25 | exact Or.inr rfl)⟩, (by first | exact Or.inl hm0 | exact Or.inr (Or.inl hm0) | exact Or.inr (Or.inr (Or.inl hm0)) | exact Or.inr (Or.inr (Or.inr (Or.inl hm0))) | exact Or.inr (Or.inr (Or.inr (Or.inr (Or.inl hm0)))) | exact Or.inr (Or.inr (Or.inr (Or.inr (Or.inr (Or.inl hm0))))) | exact Or.inr (Or.inr (Or.inr (Or.inr (Or.inr (Or.inr hm0)))))), ha, hm1, hm2, ha3, ⟨nr, hnr, hr⟩, hc, hlow, hl, hs, h26⟩, n2⟩ (tk_fxP rfl (tk_fx18 rfl rfl rfl rfl rfl rfl rfl rfl rfl rfl rfl rfl rfl rfl rfl rfl rfl rfl (fun _ => rfl)) (tk_fx18 rfl rfl rfl rfl rfl rfl rfl rfl rfl rfl rfl rfl rfl rfl rfl rfl rfl rfl (fun _ => rfl)) rfl (tk_fx14 rfl rfl rfl rfl rfl rfl rfl rfl rfl rfl rfl rfl rfl rfl (fun _ => rfl)) (tk_fx14 rfl rfl rfl rfl rfl rfl rfl rfl rfl rfl rfl rfl rfl rfl (fun _ => rfl)) (tk_fx14 rfl rfl rfl rfl rfl rfl rfl rfl rfl rfl rfl rfl rfl rfl (fun _ => rfl)) (fun _ => rfl))
    · simp (decide := true) only [k2, k3, k4, tkcl_1, tkP5_0, tkb_n1, g1, ↓reduceIte]
      exact tkR_gl ⟨⟨c0, c1⟩, n0, ⟨⟨(by first | exact hb19 | exact Or.inr rfl), (by first | exact hb25 | exact Or.inr rfl)⟩, hm, ha, hm1, hm2, ha3, ⟨nr, hnr, hr⟩, hc, hlow, hl, hs, h26⟩, n2⟩ (tk_fxP rfl (tk_fx18 rfl rfl rfl rfl rfl rfl rfl rfl rfl rfl rfl rfl rfl rfl rfl rfl rfl rfl (fun _ => rfl)) (tk_fx18 rfl rfl rfl rfl rfl rfl rfl rfl rfl rfl rfl rfl rfl rfl rfl rfl rfl rfl (fun _ => rfl)) rfl (tk_fx14 rfl rfl rfl rfl rfl rfl rfl rfl rfl rfl rfl rfl rfl rfl (fun _ => rfl)) (tk_fx14 rfl rfl rfl rfl rfl rfl rfl rfl rfl rfl rfl rfl rfl rfl (fun _ => rfl)) (tk_fx14 rfl rfl rfl rfl rfl rfl rfl rfl rfl rfl rfl rfl rfl rfl (fun _ => rfl)) (fun _ => rfl))
set_option maxHeartbeats 4000000 in
set_option maxRecDepth 20000 in
theorem tkR_gate2 (G : Nat → Nat → Int32) (h : tkInv G) (z : Int32) (hz : z = 0 ∨ z = 1) : tkPsi (tkM_gate_s G 2 z) = tkT_gate_s (tkPsi G) 2 z ∧ tkInv (tkM_gate_s G 2 z) := by
  obtain ⟨⟨k0, k1⟩, k2, k3, k4⟩ := tkb_cc
  obtain ⟨⟨c0, c1⟩, n0, n1, n2⟩ := h
  obtain ⟨⟨hb19, hb25⟩, hm, ha, hm1, hm2, ha3, ⟨nr, hnr, hr⟩, hc, hlow, hl, hs, h26⟩ := n2
  have h22 : (G 22 2 = 0 ∧ G 22 2 ≤ 0) ∨ (¬ G 22 2 = 0 ∧ ¬ G 22 2 ≤ 0) := by
    by_cases q : nr = 0
    · subst q; rw [hr]; exact Or.inl (by decide)
    · rw [hr]; exact Or.inr ⟨nI_ne0 (by omega) (by omega), nI_nle (by omega) (by omega)⟩
  unfold tkM_gate_s tkT_gate_s tkN_setGate_s tkN_isEmpty_r tkN_gateLoads_r tkN_isPeriodic_r
  rcases hz with rfl | rfl
  · by_cases g1 : G 18 2 = 0
    · simp (decide := true) only [k2, k3, k4, tkcl_2, tkP6_0, tkb_n0, g1, ↓reduceIte]
      exact tkR_gl ⟨⟨c0, c1⟩, n0, n1, ⟨⟨(by first | exact hb19 | exact Or.inr rfl), (by first | exact hb25 | exact Or.inr rfl)⟩, hm, ha, hm1, hm2, ha3, ⟨nr, hnr, hr⟩, hc, hlow, hl, hs, h26⟩⟩ (tk_fxP rfl (tk_fx18 rfl rfl rfl rfl rfl rfl rfl rfl rfl rfl rfl rfl rfl rfl rfl rfl rfl rfl (fun _ => rfl)) (tk_fx18 rfl rfl rfl rfl rfl rfl rfl rfl rfl rfl rfl rfl rfl rfl rfl rfl rfl rfl (fun _ => rfl)) rfl (tk_fx14 rfl rfl rfl rfl rfl rfl rfl rfl rfl rfl rfl rfl rfl rfl (fun _ => rfl)) (tk_fx14 rfl rfl rfl rfl rfl rfl rfl rfl rfl rfl rfl rfl rfl rfl (fun _ => rfl)) (tk_fx14 rfl rfl rfl rfl rfl rfl rfl rfl rfl rfl rfl rfl rfl rfl (fun _ => rfl)) (fun _ => rfl))
    · rcases hm with hm0 | hm0 | hm0 | hm0 | hm0 | hm0 | hm0 <;> simp (decide := true) only [k2, k3, k4, tkcl_2, tkP6_0, tkP6_2, tk_un, tkb_n0, g1, hm0, ↓reduceIte]
      all_goals exact tkR_gl ⟨⟨c0, c1⟩, n0, n1, ⟨⟨(by first | exact hb19 | exact Or.inr rfl), (by first | exact hb25 | exact Or.inr rfl)⟩, (by first | exact Or.inl hm0 | exact Or.inr (Or.inl hm0) | exact Or.inr (Or.inr (Or.inl hm0)) | exact Or.inr (Or.inr (Or.inr (Or.inl hm0))) | exact Or.inr (Or.inr (Or.inr (Or.inr (Or.inl hm0)))) | exact Or.inr (Or.inr (Or.inr (Or.inr (Or.inr (Or.inl hm0))))) | exact Or.inr (Or.inr (Or.inr (Or.inr (Or.inr (Or.inr hm0)))))), ha, hm1, hm2, ha3, ⟨nr, hnr, hr⟩, hc, hlow, hl, hs, h26⟩⟩ (tk_fxP rfl (tk_fx18 rfl rfl rfl rfl rfl rfl rfl rfl rfl rfl rfl rfl rfl rfl rfl rfl rfl rfl (fun _ => rfl)) (tk_fx18 rfl rfl rfl rfl rfl rfl rfl rfl rfl rfl rfl rfl rfl rfl rfl rfl rfl rfl (fun _ => rfl)) rfl (tk_fx14 rfl rfl rfl rfl rfl rfl rfl rfl rfl rfl rfl rfl rfl rfl (fun _ => rfl)) (tk_fx14 rfl rfl rfl rfl rfl rfl rfl rfl rfl rfl rfl rfl rfl rfl (fun _ => rfl)) (tk_fx14 rfl rfl rfl rfl rfl rfl rfl rfl rfl rfl rfl rfl rfl rfl (fun _ => rfl)) (fun _ => rfl))
  · by_cases g1 : G 18 2 = 0
    · rcases h22 with ⟨r1, r2⟩ | ⟨r1, r2⟩
      · simp (decide := true) only [k2, k3, k4, tkcl_2, tkP6_0, tkP6_2, tkP6_4, tk_un, tkb_n1, g1, r1, r2, ↓reduceIte]
        exact tkR_gl ⟨⟨c0, c1⟩, n0, n1, ⟨⟨(by first | exact hb19 | exact Or.inr rfl), (by first | exact hb25 | exact Or.inr rfl)⟩, hm, ha, hm1, hm2, ha3, ⟨nr, hnr, hr⟩, hc, hlow, hl, hs, h26⟩⟩ (tk_fxP rfl (tk_fx18 rfl rfl rfl rfl rfl rfl rfl rfl rfl rfl rfl rfl rfl rfl rfl rfl rfl rfl (fun _ => rfl)) (tk_fx18 rfl rfl rfl rfl rfl rfl rfl rfl rfl rfl rfl rfl rfl rfl rfl rfl rfl rfl (fun _ => rfl)) rfl (tk_fx14 rfl rfl rfl rfl rfl rfl rfl rfl rfl rfl rfl rfl rfl rfl (fun _ => rfl)) (tk_fx14 rfl rfl rfl rfl rfl rfl rfl rfl rfl rfl rfl rfl rfl rfl (fun _ => rfl)) (tk_fx14 rfl rfl rfl rfl rfl rfl rfl rfl rfl rfl rfl rfl rfl rfl (fun _ => rfl)) (fun _ => rfl))
      · rcases hm with hm0 | hm0 | hm0 | hm0 | hm0 | hm0 | hm0 <;> simp (decide := true) only [k2, k3, k4, tkcl_2, tkP6_0, tkP6_2, tkP6_4, tk_un, tkb_n1, g1, r1, r2, hm0, ↓reduceIte]
        all_goals exact tkR_gl ⟨⟨c0, c1⟩, n0, n1, ⟨⟨(by first | exact hb19 | exact Or.inr rfl), (by first | exact hb25 | exact Or.inr rfl)⟩, (by first | exact Or.inl hm0 | exact Or.inr (Or.inl hm0) | exact Or.inr (Or.inr (Or.inl hm0)) | exact Or.inr (Or.inr (Or.inr (Or.inl hm0))) | exact Or.inr (Or.inr (Or.inr (Or.inr (Or.inl hm0)))) | exact Or.inr (Or.inr (Or.inr (Or.inr (Or.inr (Or.inl hm0))))) | exact Or.inr (Or.inr (Or.inr (Or.inr (Or.inr (Or.inr hm0)))))), ha, hm1, hm2, ha3, ⟨nr, hnr, hr⟩, hc, hlow, hl, hs, h26⟩⟩ (tk_fxP rfl (tk_fx18 rfl rfl rfl rfl rfl rfl rfl rfl rfl rfl rfl rfl rfl rfl rfl rfl rfl rfl (fun _ => rfl)) (tk_fx18 rfl rfl rfl rfl rfl rfl rfl rfl rfl rfl rfl rfl rfl rfl rfl rfl rfl rfl (fun _ => rfl)) rfl (tk_fx14 rfl rfl rfl rfl rfl rfl rfl rfl rfl rfl rfl rfl rfl rfl (fun _ => rfl)) (tk_fx14 rfl rfl rfl rfl rfl rfl rfl rfl rfl rfl rfl rfl rfl rfl (fun _ => rfl)) (tk_fx14 rfl rfl rfl rfl rfl rfl rfl rfl rfl rfl rfl rfl rfl rfl (fun _ => rfl)) (fun _ => rfl))
    · simp (decide := true) only [k2, k3, k4, tkcl_2, tkP6_0, tkb_n1, g1, ↓reduceIte]
      exact tkR_gl ⟨⟨c0, c1⟩, n0, n1, ⟨⟨(by first | exact hb19 | exact Or.inr rfl), (by first | exact hb25 | exact Or.inr rfl)⟩, hm, ha, hm1, hm2, ha3, ⟨nr, hnr, hr⟩, hc, hlow, hl, hs, h26⟩⟩ (tk_fxP rfl (tk_fx18 rfl rfl rfl rfl rfl rfl rfl rfl rfl rfl rfl rfl rfl rfl rfl rfl rfl rfl (fun _ => rfl)) (tk_fx18 rfl rfl rfl rfl rfl rfl rfl rfl rfl rfl rfl rfl rfl rfl rfl rfl rfl rfl (fun _ => rfl)) rfl (tk_fx14 rfl rfl rfl rfl rfl rfl rfl rfl rfl rfl rfl rfl rfl rfl (fun _ => rfl)) (tk_fx14 rfl rfl rfl rfl rfl rfl rfl rfl rfl rfl rfl rfl rfl rfl (fun _ => rfl)) (tk_fx14 rfl rfl rfl rfl rfl rfl rfl rfl rfl rfl rfl rfl rfl rfl (fun _ => rfl)) (fun _ => rfl))
set_option maxHeartbeats 1000000 in
set_option maxRecDepth 20000 in
theorem tkR_gate (G : Nat → Nat → Int32) (h : tkInv G) (x z : Int32) (hz : z = 0 ∨ z = 1) : tkM_gate_r G x z = tkT_gate_r (tkPsi G) x z ∧ tkPsi (tkM_gate_s G x z) = tkT_gate_s (tkPsi G) x z ∧ tkInv (tkM_gate_s G x z) := by
  obtain ⟨⟨k0, k1⟩, k2, k3, k4⟩ := tkb_cc
  rcases tkb_c3 x with rfl | rfl | rfl | ⟨e1, e4⟩
  · exact ⟨rfl, tkR_gate0 G h z hz⟩
  · exact ⟨rfl, tkR_gate1 G h z hz⟩
  · exact ⟨rfl, tkR_gate2 G h z hz⟩
  · unfold tkM_gate_r tkM_gate_s tkT_gate_r tkT_gate_s
    rcases e4 with e4 | ⟨e4, e5⟩
    · simp (decide := true) only [e1, e4, ↓reduceIte]
      exact ⟨trivial, tkR_t G 0, tkI_t h 0⟩
    · simp (decide := true) only [e1, e4, e5, ↓reduceIte]
      exact ⟨trivial, tkR_t G 0, tkI_t h 0⟩
