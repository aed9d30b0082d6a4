theorem tkP1_0 (G : Nat → Nat → Int32) : tkPsi G 1 0 = 1 := rfl
theorem tkP1_1 (G : Nat → Nat → Int32) : tkPsi G 1 1 = G 1 0 := rfl
theorem tkP1_2 (G : Nat → Nat → Int32) : tkPsi G 1 2 = G 2 0 := rfl
theorem tkP1_3 (G : Nat → Nat → Int32) : tkPsi G 1 3 = G 3 0 := rfl
theorem tkP1_4 (G : Nat → Nat → Int32) : tkPsi G 1 4 = G 4 0 := rfl
theorem tkP1_5 (G : Nat → Nat → Int32) : tkPsi G 1 5 = G 5 0 := rfl
theorem tkP1_6 (G : Nat → Nat → Int32) : tkPsi G 1 6 = G 6 0 := rfl
theorem tkP1_7 (G : Nat → Nat → Int32) : tkPsi G 1 7 = G 7 0 := rfl
theorem tkP1_8 (G : Nat → Nat → Int32) : tkPsi G 1 8 = G 17 0 := rfl
theorem tkP1_9 (G : Nat → Nat → Int32) : tkPsi G 1 9 = G 8 0 := rfl
theorem tkP1_10 (G : Nat → Nat → Int32) : tkPsi G 1 10 = G 9 0 := rfl
theorem tkP1_11 (G : Nat → Nat → Int32) : tkPsi G 1 11 = G 10 0 := rfl
theorem tkP1_12 (G : Nat → Nat → Int32) : tkPsi G 1 12 = G 11 0 := rfl
theorem tkP1_13 (G : Nat → Nat → Int32) : tkPsi G 1 13 = G 12 0 := rfl
theorem tkP1_14 (G : Nat → Nat → Int32) : tkPsi G 1 14 = G 13 0 := rfl
theorem tkP1_15 (G : Nat → Nat → Int32) : tkPsi G 1 15 = G 14 0 := rfl
theorem tkP1_16 (G : Nat → Nat → Int32) : tkPsi G 1 16 = G 16 0 := rfl
theorem tkP1_17 (G : Nat → Nat → Int32) : tkPsi G 1 17 = G 15 0 := rfl
theorem tkP2_0 (G : Nat → Nat → Int32) : tkPsi G 2 0 = 0 := rfl
theorem tkP2_1 (G : Nat → Nat → Int32) : tkPsi G 2 1 = G 1 1 := rfl
theorem tkP2_2 (G : Nat → Nat → Int32) : tkPsi G 2 2 = G 2 1 := rfl
theorem tkP2_3 (G : Nat → Nat → Int32) : tkPsi G 2 3 = G 3 1 := rfl
theorem tkP2_4 (G : Nat → Nat → Int32) : tkPsi G 2 4 = G 4 1 := rfl
theorem tkP2_5 (G : Nat → Nat → Int32) : tkPsi G 2 5 = G 5 1 := rfl
theorem tkP2_6 (G : Nat → Nat → Int32) : tkPsi G 2 6 = G 6 1 := rfl
theorem tkP2_7 (G : Nat → Nat → Int32) : tkPsi G 2 7 = G 7 1 := rfl
theorem tkP2_8 (G : Nat → Nat → Int32) : tkPsi G 2 8 = G 17 1 := rfl
theorem tkP2_9 (G : Nat → Nat → Int32) : tkPsi G 2 9 = G 8 1 := rfl
theorem tkP2_10 (G : Nat → Nat → Int32) : tkPsi G 2 10 = G 9 1 := rfl
theorem tkP2_11 (G : Nat → Nat → Int32) : tkPsi G 2 11 = G 10 1 := rfl
theorem tkP2_12 (G : Nat → Nat → Int32) : tkPsi G 2 12 = G 11 1 := rfl
theorem tkP2_13 (G : Nat → Nat → Int32) : tkPsi G 2 13 = G 12 1 := rfl
theorem tkP2_14 (G : Nat → Nat → Int32) : tkPsi G 2 14 = G 13 1 := rfl
theorem tkP2_15 (G : Nat → Nat → Int32) : tkPsi G 2 15 = G 14 1 := rfl
theorem tkP2_16 (G : Nat → Nat → Int32) : tkPsi G 2 16 = G 16 1 := rfl
theorem tkP2_17 (G : Nat → Nat → Int32) : tkPsi G 2 17 = G 15 1 := rfl
theorem tkP4_0 (G : Nat → Nat → Int32) : tkPsi G 4 0 = G 18 0 := rfl
theorem tkP4_1 (G : Nat → Nat → Int32) : tkPsi G 4 1 = G 19 0 := rfl
theorem tkP4_2 (G : Nat → Nat → Int32) : tkPsi G 4 2 = G 20 0 := rfl
theorem tkP4_3 (G : Nat → Nat → Int32) : tkPsi G 4 3 = G 21 0 := rfl
theorem tkP4_4 (G : Nat → Nat → Int32) : tkPsi G 4 4 = G 22 0 := rfl
theorem tkP4_5 (G : Nat → Nat → Int32) : tkPsi G 4 5 = G 23 0 := rfl
theorem tkP4_6 (G : Nat → Nat → Int32) : tkPsi G 4 6 = G 24 0 := rfl
theorem tkP4_7 (G : Nat → Nat → Int32) : tkPsi G 4 7 = G 25 0 := rfl
theorem tkP4_8 (G : Nat → Nat → Int32) : tkPsi G 4 8 = G 27 0 := rfl
theorem tkP4_9 (G : Nat → Nat → Int32) : tkPsi G 4 9 = G 29 0 := rfl
theorem tkP4_10 (G : Nat → Nat → Int32) : tkPsi G 4 10 = G 28 0 := rfl
theorem tkP4_11 (G : Nat → Nat → Int32) : tkPsi G 4 11 = G 30 0 := rfl
theorem tkP4_12 (G : Nat → Nat → Int32) : tkPsi G 4 12 = G 31 0 := rfl
theorem tkP4_13 (G : Nat → Nat → Int32) : tkPsi G 4 13 = G 32 0 := rfl
theorem tkP5_0 (G : Nat → Nat → Int32) : tkPsi G 5 0 = G 18 1 := rfl
theorem tkP5_1 (G : Nat → Nat → Int32) : tkPsi G 5 1 = G 19 1 := rfl
theorem tkP5_2 (G : Nat → Nat → Int32) : tkPsi G 5 2 = G 20 1 := rfl
theorem tkP5_3 (G : Nat → Nat → Int32) : tkPsi G 5 3 = G 21 1 := rfl
theorem tkP5_4 (G : Nat → Nat → Int32) : tkPsi G 5 4 = G 22 1 := rfl
theorem tkP5_5 (G : Nat → Nat → Int32) : tkPsi G 5 5 = G 23 1 := rfl
theorem tkP5_6 (G : Nat → Nat → Int32) : tkPsi G 5 6 = G 24 1 := rfl
theorem tkP5_7 (G : Nat → Nat → Int32) : tkPsi G 5 7 = G 25 1 := rfl
theorem tkP5_8 (G : Nat → Nat → Int32) : tkPsi G 5 8 = G 27 1 := rfl
theorem tkP5_9 (G : Nat → Nat → Int32) : tkPsi G 5 9 = G 29 1 := rfl
theorem tkP5_10 (G : Nat → Nat → Int32) : tkPsi G 5 10 = G 28 1 := rfl
theorem tkP5_11 (G : Nat → Nat → Int32) : tkPsi G 5 11 = G 30 1 := rfl
theorem tkP5_12 (G : Nat → Nat → Int32) : tkPsi G 5 12 = G 31 1 := rfl
theorem tkP5_13 (G : Nat → Nat → Int32) : tkPsi G 5 13 = G 32 1 := rfl
theorem tkP6_0 (G : Nat → Nat → Int32) : tkPsi G 6 0 = G 18 2 := rfl
theorem tkP6_1 (G : Nat → Nat → Int32) : tkPsi G 6 1 = G 19 2 := rfl
theorem tkP6_2 (G : Nat → Nat → Int32) : tkPsi G 6 2 = G 20 2 := rfl
theorem tkP6_3 (G : Nat → Nat → Int32) : tkPsi G 6 3 = G 21 2 := rfl
theorem tkP6_4 (G : Nat → Nat → Int32) : tkPsi G 6 4 = G 22 2 := rfl
theorem tkP6_5 (G : Nat → Nat → Int32) : tkPsi G 6 5 = G 23 2 := rfl
theorem tkP6_6 (G : Nat → Nat → Int32) : tkPsi G 6 6 = G 24 2 := rfl
theorem tkP6_7 (G : Nat → Nat → Int32) : tkPsi G 6 7 = G 25 2 := rfl
theorem tkP6_8 (G : Nat → Nat → Int32) : tkPsi G 6 8 = G 27 2 := rfl
theorem tkP6_9 (G : Nat → Nat → Int32) : tkPsi G 6 9 = G 29 2 := rfl
theorem tkP6_10 (G : Nat → Nat → Int32) : tkPsi G 6 10 = G 28 2 := rfl
theorem tkP6_11 (G : Nat → Nat → Int32) : tkPsi G 6 11 = G 30 2 := rfl
theorem tkP6_12 (G : Nat → Nat → Int32) : tkPsi G 6 12 = G 31 2 := rfl
theorem tkP6_13 (G : Nat → Nat → Int32) : tkPsi G 6 13 = G 32 2 := rfl
theorem tk_un {f : Nat → Int32} {k j : Nat} {x : Int32} (h : Nat.beq j k = false) : tk_up f k x j = f j := by
  unfold tk_up; rw [h]
theorem tk_ue {f : Nat → Int32} {k : Nat} {x : Int32} : tk_up f k x k = x := by
  have h : Nat.beq k k = true := Nat.beq_refl k
  unfold tk_up; rw [h]
theorem tk_Pn {f : Nat → Nat → Int32} {k j : Nat} {x : Nat → Int32} (h : Nat.beq j k = false) : tk_up f k x j = f j := by
  unfold tk_up; rw [h]
theorem tk_Pe {f : Nat → Nat → Int32} {k : Nat} {x : Nat → Int32} : tk_up f k x k = x := by
  have h : Nat.beq k k = true := Nat.beq_refl k
  unfold tk_up; rw [h]
theorem tk_Pid (f : Nat → Nat → Int32) (k : Nat) : tk_up f k (f k) = f := by
  funext j
  by_cases h : j = k
  · subst h; rw [tk_Pe]
  · rw [tk_Pn (by cases hb : Nat.beq j k with | true => exact absurd (Nat.eq_of_beq_eq_true hb) h | false => rfl)]
theorem tk_Puu (f : Nat → Nat → Int32) (k : Nat) (x y : Nat → Int32) : tk_up (tk_up f k x) k y = tk_up f k y := by
  funext j
  by_cases h : j = k
  · subst h; rw [tk_Pe, tk_Pe]
  · have hb : Nat.beq j k = false := by cases hb : Nat.beq j k with | true => exact absurd (Nat.eq_of_beq_eq_true hb) h | false => rfl
    rw [tk_Pn hb, tk_Pn hb, tk_Pn hb]
theorem tkR_rngL {K : Nat → Int32} {l N : Int32} (hl : tkLow l) (hN : N = (-1) ∨ tkLow N) : tkLv K l N = (-1) ∨ tkLow (tkLv K l N) := by
  unfold tkLv
  repeat' split
  all_goals first | exact hN | exact Or.inl rfl | exact Or.inr hl
theorem tkR_rng8 {K : Nat → Int32} {l : Int32} (hl : tkLow l) : tkLv8 K l = (-1) ∨ tkLow (tkLv8 K l) := by
  unfold tkLv8
  repeat' split
  all_goals first | exact Or.inl rfl | exact Or.inr hl
theorem tkR_rng (K : Nat → Int32) : tkC_chosenLevel_r K = (-1) ∨ tkLow (tkC_chosenLevel_r K) := by
  rw [tkC_chosen_eq]
  by_cases h : K 7 = 0
  · rw [if_pos h]; exact Or.inl rfl
  · rw [if_neg h]
    exact tkR_rngL (tkb_and7 _) (tkR_rngL (tkb_and7 _) (tkR_rngL (tkb_and7 _) (tkR_rngL (tkb_and7 _) (tkR_rngL (tkb_and7 _) (tkR_rngL (tkb_and7 _) (tkR_rngL (tkb_and7 _) (tkR_rng8 (tkb_and7 _))))))))
theorem tkR_frng (K : Nat → Int32) : tkC_firstHolding_r K = (-1) ∨ tkLow (tkC_firstHolding_r K) := by
  unfold tkC_firstHolding_r
  repeat' split
  all_goals first | exact Or.inl rfl | exact Or.inr (tkb_and7 _)
theorem tkb_v5 : ∀ n : Nat, n < 256 → tkLow ((Int32.ofInt n) >>> ((5 : Int32) &&& 31)) := by unfold tkLow; decide +kernel
theorem tkb_248 : ∀ n : Nat, n < 256 → (Int32.ofInt n) &&& 248 = (Int32.ofInt n) &&& (-8) := by decide +kernel
set_option maxHeartbeats 2000000 in
set_option maxRecDepth 20000 in
theorem tkR_rule0 (G : Nat → Nat → Int32) (v : Int32) (hv : tkByte v) (hl : tkLow (G 6 0)) : tkPsi (tkM_rule_s G 0 v) = tk_up (tkPsi G) 1 (tkC_takeServiceCommand_s (tkPsi G 1) (v >>> ((5 : Int32) &&& 31)) (v &&& 7)) := by
  obtain ⟨n, hn, rfl⟩ := hv
  have hf : tkM_firstHeld_r G 0 = tkC_firstHolding_r (tkPsi G 1) := tkR_first0 G hl
  have hr := tkR_frng (tkPsi G 1)
  have h7 := (tkb_low_ne (tkb_and7 (Int32.ofInt n))).1
  generalize hF : tkC_firstHolding_r (tkPsi G 1) = F at hf hr
  have hw := tkb_v5 n hn
  generalize hW : (Int32.ofInt n) >>> ((5 : Int32) &&& 31) = w at hw ⊢
  unfold tkM_rule_s tkC_takeServiceCommand_s
  simp only [hW, hf, hF]
  rcases hr with hr | hr
  · subst hr
    rcases hw with h | h | h | h | h | h | h | h <;> subst h <;> simp (decide := true) only [tkC_endService_s, tkC_endServiceAndTurn_s, h7, tkcl_0, tkP1_4, ↓reduceIte]
    all_goals exact tk_fxP rfl (tk_fx18 rfl rfl rfl rfl rfl rfl rfl rfl rfl rfl rfl rfl rfl rfl rfl rfl rfl rfl (fun _ => rfl)) (tk_fx18 rfl rfl rfl rfl rfl rfl rfl rfl rfl rfl rfl rfl rfl rfl rfl rfl rfl rfl (fun _ => rfl)) rfl (tk_fx14 rfl rfl rfl rfl rfl rfl rfl rfl rfl rfl rfl rfl rfl rfl (fun _ => rfl)) (tk_fx14 rfl rfl rfl rfl rfl rfl rfl rfl rfl rfl rfl rfl rfl rfl (fun _ => rfl)) (tk_fx14 rfl rfl rfl rfl rfl rfl rfl rfl rfl rfl rfl rfl rfl rfl (fun _ => rfl)) (fun _ => rfl)
  · obtain ⟨n1, n2, n3⟩ := tkb_low_ne hr
    rcases hw with h | h | h | h | h | h | h | h <;> subst h <;> simp (decide := true) only [tkC_endService_s, tkC_endServiceAndTurn_s, h7, n1, n2, tkcl_0, tkP1_4, ↓reduceIte]
    all_goals exact tk_fxP rfl (tk_fx18 rfl rfl rfl rfl rfl rfl rfl rfl rfl rfl rfl rfl rfl rfl rfl rfl rfl rfl (fun _ => rfl)) (tk_fx18 rfl rfl rfl rfl rfl rfl rfl rfl rfl rfl rfl rfl rfl rfl rfl rfl rfl rfl (fun _ => rfl)) rfl (tk_fx14 rfl rfl rfl rfl rfl rfl rfl rfl rfl rfl rfl rfl rfl rfl (fun _ => rfl)) (tk_fx14 rfl rfl rfl rfl rfl rfl rfl rfl rfl rfl rfl rfl rfl rfl (fun _ => rfl)) (tk_fx14 rfl rfl rfl rfl rfl rfl rfl rfl rfl rfl rfl rfl rfl rfl (fun _ => rfl)) (fun _ => rfl)
set_option maxHeartbeats 2000000 in
set_option maxRecDepth 20000 in
theorem tkR_rule1 (G : Nat → Nat → Int32) (v : Int32) (hv : tkByte v) (hl : tkLow (G 6 1)) : tkPsi (tkM_rule_s G 1 v) = tk_up (tkPsi G) 2 (tkC_takeServiceCommand_s (tkPsi G 2) (v >>> ((5 : Int32) &&& 31)) (v &&& 7)) := by
  obtain ⟨n, hn, rfl⟩ := hv
  have hf : tkM_firstHeld_r G 1 = tkC_firstHolding_r (tkPsi G 2) := tkR_first1 G hl
  have hr := tkR_frng (tkPsi G 2)
  have h7 := (tkb_low_ne (tkb_and7 (Int32.ofInt n))).1
  generalize hF : tkC_firstHolding_r (tkPsi G 2) = F at hf hr
  have hw := tkb_v5 n hn
  generalize hW : (Int32.ofInt n) >>> ((5 : Int32) &&& 31) = w at hw ⊢
  unfold tkM_rule_s tkC_takeServiceCommand_s
  simp only [hW, hf, hF]
  rcases hr with hr | hr
  · subst hr
    rcases hw with h | h | h | h | h | h | h | h <;> subst h <;> simp (decide := true) only [tkC_endService_s, tkC_endServiceAndTurn_s, h7, tkcl_1, tkP2_4, ↓reduceIte]
    all_goals exact tk_fxP rfl (tk_fx18 rfl rfl rfl rfl rfl rfl rfl rfl rfl rfl rfl rfl rfl rfl rfl rfl rfl rfl (fun _ => rfl)) (tk_fx18 rfl rfl rfl rfl rfl rfl rfl rfl rfl rfl rfl rfl rfl rfl rfl rfl rfl rfl (fun _ => rfl)) rfl (tk_fx14 rfl rfl rfl rfl rfl rfl rfl rfl rfl rfl rfl rfl rfl rfl (fun _ => rfl)) (tk_fx14 rfl rfl rfl rfl rfl rfl rfl rfl rfl rfl rfl rfl rfl rfl (fun _ => rfl)) (tk_fx14 rfl rfl rfl rfl rfl rfl rfl rfl rfl rfl rfl rfl rfl rfl (fun _ => rfl)) (fun _ => rfl)
  · obtain ⟨n1, n2, n3⟩ := tkb_low_ne hr
    rcases hw with h | h | h | h | h | h | h | h <;> subst h <;> simp (decide := true) only [tkC_endService_s, tkC_endServiceAndTurn_s, h7, n1, n2, tkcl_1, tkP2_4, ↓reduceIte]
    all_goals exact tk_fxP rfl (tk_fx18 rfl rfl rfl rfl rfl rfl rfl rfl rfl rfl rfl rfl rfl rfl rfl rfl rfl rfl (fun _ => rfl)) (tk_fx18 rfl rfl rfl rfl rfl rfl rfl rfl rfl rfl rfl rfl rfl rfl rfl rfl rfl rfl (fun _ => rfl)) rfl (tk_fx14 rfl rfl rfl rfl rfl rfl rfl rfl rfl rfl rfl rfl rfl rfl (fun _ => rfl)) (tk_fx14 rfl rfl rfl rfl rfl rfl rfl rfl rfl rfl rfl rfl rfl rfl (fun _ => rfl)) (tk_fx14 rfl rfl rfl rfl rfl rfl rfl rfl rfl rfl rfl rfl rfl rfl (fun _ => rfl)) (fun _ => rfl)
