set_option maxHeartbeats 4000000 in
set_option maxRecDepth 20000 in
theorem tkR_wf0 (G : Nat → Nat → Int32) (v : Int32) (hv : tkByte v) (hl : tkLow (G 6 0)) (hb : tkBl (G 13 0)) : tkPsi (tkM_writeFirst_s G 0 v) = tk_up (tkPsi G) 1 (tkC_takeSideZero_s (tkPsi G 1) v) := by
  obtain ⟨⟨b0, b1, b2, b3⟩, b4, b5, b6⟩ := tkb_ms hv
  have hR := tkR_rule0 G v hv hl
  have hB := tkR_begin0 G v hv
  unfold tkM_writeFirst_s tkC_takeSideZero_s tkC_takeReadingCommand_s
  by_cases h1 : v &&& 16 = 0
  · by_cases h2 : G 7 0 = 0
    · simp (decide := true) only [b4, tkcl_0, tkP1_7, h1, h2, ↓reduceIte]
      exact (tk_Pid _ _).symm
    · by_cases h3 : v &&& 8 = 0
      · simp (decide := true) only [b4, b3, tkcl_0, tkP1_7, h1, h2, h3, ↓reduceIte]
        exact hR
      · by_cases h4 : v &&& 64 = 0 <;> by_cases h5 : v &&& 32 = 0 <;> by_cases h6 : v &&& 4 = 0 <;> by_cases h7 : v &&& 2 = 0 <;> by_cases h8 : v &&& 1 = 0 <;> simp (decide := true) only [b0, b1, b2, b3, b4, b5, b6, tkb_nar hb, tkcl_0, tkP1_7, h1, h2, h3, h4, h5, h6, h7, h8, ↓reduceIte]
        all_goals exact tk_fxP rfl (tk_fx18 rfl rfl rfl rfl rfl rfl rfl rfl rfl rfl rfl rfl rfl rfl rfl rfl rfl rfl (fun _ => rfl)) (tk_fx18 rfl rfl rfl rfl rfl rfl rfl rfl rfl rfl rfl rfl rfl rfl rfl rfl rfl rfl (fun _ => rfl)) rfl (tk_fx14 rfl rfl rfl rfl rfl rfl rfl rfl rfl rfl rfl rfl rfl rfl (fun _ => rfl)) (tk_fx14 rfl rfl rfl rfl rfl rfl rfl rfl rfl rfl rfl rfl rfl rfl (fun _ => rfl)) (tk_fx14 rfl rfl rfl rfl rfl rfl rfl rfl rfl rfl rfl rfl rfl rfl (fun _ => rfl)) (fun _ => rfl)
  · simp (decide := true) only [b4, h1, ↓reduceIte]
    exact hB
set_option maxHeartbeats 2000000 in
set_option maxRecDepth 20000 in
theorem tkR_ws0 (G : Nat → Nat → Int32) (v : Int32) (hv : tkByte v) (hg : G 17 0 = 0 ∨ G 17 0 = 2 ∨ G 17 0 = 3 ∨ G 17 0 = 4) : tkPsi (tkM_writeSecond_s G 0 v) = tk_up (tkPsi G) 1 (tkC_takeSideOne_s (tkPsi G 1) v) := by
  obtain ⟨⟨b0, b1, b2, b3⟩, b4, b5, b6⟩ := tkb_ms hv
  have h248 : v &&& 248 = v &&& (-8) := by
    obtain ⟨n, hn, rfl⟩ := hv
    exact tkb_248 n hn
  unfold tkM_writeSecond_s tkC_takeSideOne_s tkC_awaitFrom_s tkC_becomeReady_s
  by_cases h1 : G 7 0 = 0
  · rcases hg with hg | hg | hg | hg
    · simp (decide := true) only [tkcl_0, tkP1_7, tkP1_8, h1, hg, ↓reduceIte]
      exact (tk_Pid _ _).symm
    · by_cases h2 : G 9 0 = 0 <;> by_cases h3 : G 10 0 = 0 <;> simp (decide := true) only [tkcl_0, tkP1_7, tkP1_8, tkP1_10, tkP1_11, h248, tk_un, h1, hg, h2, h3, ↓reduceIte]
      all_goals exact tk_fxP rfl (tk_fx18 rfl rfl rfl rfl rfl rfl rfl (by first | rfl | exact h1.symm) rfl rfl rfl rfl rfl rfl rfl rfl rfl rfl (fun _ => rfl)) (tk_fx18 rfl rfl rfl rfl rfl rfl rfl rfl rfl rfl rfl rfl rfl rfl rfl rfl rfl rfl (fun _ => rfl)) rfl (tk_fx14 rfl rfl rfl rfl rfl rfl rfl rfl rfl rfl rfl rfl rfl rfl (fun _ => rfl)) (tk_fx14 rfl rfl rfl rfl rfl rfl rfl rfl rfl rfl rfl rfl rfl rfl (fun _ => rfl)) (tk_fx14 rfl rfl rfl rfl rfl rfl rfl rfl rfl rfl rfl rfl rfl rfl (fun _ => rfl)) (fun _ => rfl)
    · by_cases h3 : G 10 0 = 0 <;> simp (decide := true) only [tkcl_0, tkP1_7, tkP1_8, tkP1_10, tkP1_11, tk_un, h1, hg, h3, ↓reduceIte]
      all_goals exact tk_fxP rfl (tk_fx18 rfl rfl rfl rfl rfl rfl rfl (by first | rfl | exact h1.symm) rfl rfl rfl rfl rfl rfl rfl rfl rfl rfl (fun _ => rfl)) (tk_fx18 rfl rfl rfl rfl rfl rfl rfl rfl rfl rfl rfl rfl rfl rfl rfl rfl rfl rfl (fun _ => rfl)) rfl (tk_fx14 rfl rfl rfl rfl rfl rfl rfl rfl rfl rfl rfl rfl rfl rfl (fun _ => rfl)) (tk_fx14 rfl rfl rfl rfl rfl rfl rfl rfl rfl rfl rfl rfl rfl rfl (fun _ => rfl)) (tk_fx14 rfl rfl rfl rfl rfl rfl rfl rfl rfl rfl rfl rfl rfl rfl (fun _ => rfl)) (fun _ => rfl)
    · by_cases h2 : v &&& 2 = 0 <;> by_cases h3 : v &&& 16 = 0 <;> simp (decide := true) only [tkcl_0, tkP1_7, tkP1_8, tkP1_10, tkP1_11, b1, b4, tk_un, h1, hg, h2, h3, ↓reduceIte]
      all_goals exact tk_fxP rfl (tk_fx18 rfl rfl rfl rfl rfl rfl rfl (by first | rfl | exact h1.symm) rfl rfl rfl rfl rfl rfl rfl rfl rfl rfl (fun _ => rfl)) (tk_fx18 rfl rfl rfl rfl rfl rfl rfl rfl rfl rfl rfl rfl rfl rfl rfl rfl rfl rfl (fun _ => rfl)) rfl (tk_fx14 rfl rfl rfl rfl rfl rfl rfl rfl rfl rfl rfl rfl rfl rfl (fun _ => rfl)) (tk_fx14 rfl rfl rfl rfl rfl rfl rfl rfl rfl rfl rfl rfl rfl rfl (fun _ => rfl)) (tk_fx14 rfl rfl rfl rfl rfl rfl rfl rfl rfl rfl rfl rfl rfl rfl (fun _ => rfl)) (fun _ => rfl)
  · simp (decide := true) only [tkcl_0, tkP1_7, h1, ↓reduceIte]
    exact tk_fxP rfl (tk_fx18 rfl rfl rfl rfl rfl rfl rfl rfl rfl rfl rfl rfl rfl rfl rfl rfl rfl rfl (fun _ => rfl)) (tk_fx18 rfl rfl rfl rfl rfl rfl rfl rfl rfl rfl rfl rfl rfl rfl rfl rfl rfl rfl (fun _ => rfl)) rfl (tk_fx14 rfl rfl rfl rfl rfl rfl rfl rfl rfl rfl rfl rfl rfl rfl (fun _ => rfl)) (tk_fx14 rfl rfl rfl rfl rfl rfl rfl rfl rfl rfl rfl rfl rfl rfl (fun _ => rfl)) (tk_fx14 rfl rfl rfl rfl rfl rfl rfl rfl rfl rfl rfl rfl rfl rfl (fun _ => rfl)) (fun _ => rfl)
set_option maxHeartbeats 400000 in
set_option maxRecDepth 20000 in
theorem tkR_poll0 (G : Nat → Nat → Int32) : tkPsi (tk_up G 15 (upd (G 15) (0 : Int32).toNatClampNeg 0)) = tk_up (tkPsi G) 1 (tk_up (tkPsi G 1) 17 0) := by
  exact tk_fxP rfl (tk_fx18 rfl rfl rfl rfl rfl rfl rfl rfl rfl rfl rfl rfl rfl rfl rfl rfl rfl rfl (fun _ => rfl)) (tk_fx18 rfl rfl rfl rfl rfl rfl rfl rfl rfl rfl rfl rfl rfl rfl rfl rfl rfl rfl (fun _ => rfl)) rfl (tk_fx14 rfl rfl rfl rfl rfl rfl rfl rfl rfl rfl rfl rfl rfl rfl (fun _ => rfl)) (tk_fx14 rfl rfl rfl rfl rfl rfl rfl rfl rfl rfl rfl rfl rfl rfl (fun _ => rfl)) (tk_fx14 rfl rfl rfl rfl rfl rfl rfl rfl rfl rfl rfl rfl rfl rfl (fun _ => rfl)) (fun _ => rfl)
set_option maxHeartbeats 400000 in
set_option maxRecDepth 20000 in
theorem tkR_pc0 (G : Nat → Nat → Int32) (hl : tkLow (G 6 0)) : tkM_choice_r (tk_up G 15 (upd (G 15) (0 : Int32).toNatClampNeg 0)) 0 = tkC_chosenLevel_r (tk_up (tkPsi G 1) 17 0) := by
  have h := tkR_choice0 (tk_up G 15 (upd (G 15) (0 : Int32).toNatClampNeg 0)) hl
  rw [h]
  have e := congrFun (tkR_poll0 G) 1
  rw [tk_Pe] at e
  exact congrArg tkC_chosenLevel_r e
set_option maxHeartbeats 1000000 in
set_option maxRecDepth 20000 in
theorem tkR_rf0 (G : Nat → Nat → Int32) (hl : tkLow (G 6 0)) : tkM_readFirst_r G 0 = tkC_giveSideZero_r (tkPsi G 1) ∧ tkPsi (tkM_readFirst_s G 0) = tk_up (tkPsi G) 1 (tkC_giveSideZero_s (tkPsi G 1)) := by
  have hc := tkR_pc0 G hl
  have hr := tkR_rng (tk_up (tkPsi G 1) 17 0)
  generalize hF : tkC_chosenLevel_r (tk_up (tkPsi G 1) 17 0) = F at hc hr
  unfold tkM_readFirst_r tkM_readFirst_s tkC_giveSideZero_r tkC_giveSideZero_s tkC_serveChosen_r tkC_serveChosen_s
  simp only [hc, hF]
  by_cases h1 : G 15 0 = 0
  · by_cases h2 : G 16 0 = 0
    · simp only [tkcl_0, tkP1_17, tkP1_16, h1, h2, ↓reduceIte]
      exact ⟨rfl, (tk_Pid _ _).symm⟩
    · simp only [tkcl_0, tkP1_17, tkP1_16, h1, h2, ↓reduceIte]
      exact ⟨rfl, (tk_Pid _ _).symm⟩
  · rcases hr with hr | hr
    · subst hr
      simp (decide := true) only [tkcl_0, tkP1_17, tkP1_16, h1, ↓reduceIte]
      exact ⟨trivial, tkR_poll0 G⟩
    · obtain ⟨n1, n2, n3⟩ := tkb_low_ne hr
      have hs := tkR_serve0 (tk_up G 15 (upd (G 15) (0 : Int32).toNatClampNeg 0)) F
      rw [tkR_poll0, tk_Pe, tk_Puu] at hs
      simp only [tkcl_0] at hs
      simp only [tkcl_0, tkP1_17, tkP1_16, h1, n1, n3, ↓reduceIte]
      exact ⟨trivial, hs⟩
set_option maxHeartbeats 4000000 in
set_option maxRecDepth 20000 in
theorem tkR_wf1 (G : Nat → Nat → Int32) (v : Int32) (hv : tkByte v) (hl : tkLow (G 6 1)) (hb : tkBl (G 13 1)) : tkPsi (tkM_writeFirst_s G 1 v) = tk_up (tkPsi G) 2 (tkC_takeSideZero_s (tkPsi G 2) v) := by
  obtain ⟨⟨b0, b1, b2, b3⟩, b4, b5, b6⟩ := tkb_ms hv
  have hR := tkR_rule1 G v hv hl
  have hB := tkR_begin1 G v hv
  unfold tkM_writeFirst_s tkC_takeSideZero_s tkC_takeReadingCommand_s
  by_cases h1 : v &&& 16 = 0
  · by_cases h2 : G 7 1 = 0
    · simp (decide := true) only [b4, tkcl_1, tkP2_7, h1, h2, ↓reduceIte]
      exact (tk_Pid _ _).symm
    · by_cases h3 : v &&& 8 = 0
      · simp (decide := true) only [b4, b3, tkcl_1, tkP2_7, h1, h2, h3, ↓reduceIte]
        exact hR
      · by_cases h4 : v &&& 64 = 0 <;> by_cases h5 : v &&& 32 = 0 <;> by_cases h6 : v &&& 4 = 0 <;> by_cases h7 : v &&& 2 = 0 <;> by_cases h8 : v &&& 1 = 0 <;> simp (decide := true) only [b0, b1, b2, b3, b4, b5, b6, tkb_nar hb, tkcl_1, tkP2_7, h1, h2, h3, h4, h5, h6, h7, h8, ↓reduceIte]
        all_goals exact tk_fxP rfl (tk_fx18 rfl rfl rfl rfl rfl rfl rfl rfl rfl rfl rfl rfl rfl rfl rfl rfl rfl rfl (fun _ => rfl)) (tk_fx18 rfl rfl rfl rfl rfl rfl rfl rfl rfl rfl rfl rfl rfl rfl rfl rfl rfl rfl (fun _ => rfl)) rfl (tk_fx14 rfl rfl rfl rfl rfl rfl rfl rfl rfl rfl rfl rfl rfl rfl (fun _ => rfl)) (tk_fx14 rfl rfl rfl rfl rfl rfl rfl rfl rfl rfl rfl rfl rfl rfl (fun _ => rfl)) (tk_fx14 rfl rfl rfl rfl rfl rfl rfl rfl rfl rfl rfl rfl rfl rfl (fun _ => rfl)) (fun _ => rfl)
  · simp (decide := true) only [b4, h1, ↓reduceIte]
    exact hB
set_option maxHeartbeats 2000000 in
set_option maxRecDepth 20000 in
theorem tkR_ws1 (G : Nat → Nat → Int32) (v : Int32) (hv : tkByte v) (hg : G 17 1 = 0 ∨ G 17 1 = 2 ∨ G 17 1 = 3 ∨ G 17 1 = 4) : tkPsi (tkM_writeSecond_s G 1 v) = tk_up (tkPsi G) 2 (tkC_takeSideOne_s (tkPsi G 2) v) := by
  obtain ⟨⟨b0, b1, b2, b3⟩, b4, b5, b6⟩ := tkb_ms hv
  have h248 : v &&& 248 = v &&& (-8) := by
    obtain ⟨n, hn, rfl⟩ := hv
    exact tkb_248 n hn
  unfold tkM_writeSecond_s tkC_takeSideOne_s tkC_awaitFrom_s tkC_becomeReady_s
  by_cases h1 : G 7 1 = 0
  · rcases hg with hg | hg | hg | hg
    · simp (decide := true) only [tkcl_1, tkP2_7, tkP2_8, h1, hg, ↓reduceIte]
      exact (tk_Pid _ _).symm
    · by_cases h2 : G 9 1 = 0 <;> by_cases h3 : G 10 1 = 0 <;> simp (decide := true) only [tkcl_1, tkP2_7, tkP2_8, tkP2_10, tkP2_11, h248, tk_un, h1, hg, h2, h3, ↓reduceIte]
      all_goals exact tk_fxP rfl (tk_fx18 rfl rfl rfl rfl rfl rfl rfl rfl rfl rfl rfl rfl rfl rfl rfl rfl rfl rfl (fun _ => rfl)) (tk_fx18 rfl rfl rfl rfl rfl rfl rfl (by first | rfl | exact h1.symm) rfl rfl rfl rfl rfl rfl rfl rfl rfl rfl (fun _ => rfl)) rfl (tk_fx14 rfl rfl rfl rfl rfl rfl rfl rfl rfl rfl rfl rfl rfl rfl (fun _ => rfl)) (tk_fx14 rfl rfl rfl rfl rfl rfl rfl rfl rfl rfl rfl rfl rfl rfl (fun _ => rfl)) (tk_fx14 rfl rfl rfl rfl rfl rfl rfl rfl rfl rfl rfl rfl rfl rfl (fun _ => rfl)) (fun _ => rfl)
    · by_cases h3 : G 10 1 = 0 <;> simp (decide := true) only [tkcl_1, tkP2_7, tkP2_8, tkP2_10, tkP2_11, tk_un, h1, hg, h3, ↓reduceIte]
      all_goals exact tk_fxP rfl (tk_fx18 rfl rfl rfl rfl rfl rfl rfl rfl rfl rfl rfl rfl rfl rfl rfl rfl rfl rfl (fun _ => rfl)) (tk_fx18 rfl rfl rfl rfl rfl rfl rfl (by first | rfl | exact h1.symm) rfl rfl rfl rfl rfl rfl rfl rfl rfl rfl (fun _ => rfl)) rfl (tk_fx14 rfl rfl rfl rfl rfl rfl rfl rfl rfl rfl rfl rfl rfl rfl (fun _ => rfl)) (tk_fx14 rfl rfl rfl rfl rfl rfl rfl rfl rfl rfl rfl rfl rfl rfl (fun _ => rfl)) (tk_fx14 rfl rfl rfl rfl rfl rfl rfl rfl rfl rfl rfl rfl rfl rfl (fun _ => rfl)) (fun _ => rfl)
    · by_cases h2 : v &&& 2 = 0 <;> by_cases h3 : v &&& 16 = 0 <;> simp (decide := true) only [tkcl_1, tkP2_7, tkP2_8, tkP2_10, tkP2_11, b1, b4, tk_un, h1, hg, h2, h3, ↓reduceIte]
      all_goals exact tk_fxP rfl (tk_fx18 rfl rfl rfl rfl rfl rfl rfl rfl rfl rfl rfl rfl rfl rfl rfl rfl rfl rfl (fun _ => rfl)) (tk_fx18 rfl rfl rfl rfl rfl rfl rfl (by first | rfl | exact h1.symm) rfl rfl rfl rfl rfl rfl rfl rfl rfl rfl (fun _ => rfl)) rfl (tk_fx14 rfl rfl rfl rfl rfl rfl rfl rfl rfl rfl rfl rfl rfl rfl (fun _ => rfl)) (tk_fx14 rfl rfl rfl rfl rfl rfl rfl rfl rfl rfl rfl rfl rfl rfl (fun _ => rfl)) (tk_fx14 rfl rfl rfl rfl rfl rfl rfl rfl rfl rfl rfl rfl rfl rfl (fun _ => rfl)) (fun _ => rfl)
  · simp (decide := true) only [tkcl_1, tkP2_7, h1, ↓reduceIte]
    exact tk_fxP rfl (tk_fx18 rfl rfl rfl rfl rfl rfl rfl rfl rfl rfl rfl rfl rfl rfl rfl rfl rfl rfl (fun _ => rfl)) (tk_fx18 rfl rfl rfl rfl rfl rfl rfl rfl rfl rfl rfl rfl rfl rfl rfl rfl rfl rfl (fun _ => rfl)) rfl (tk_fx14 rfl rfl rfl rfl rfl rfl rfl rfl rfl rfl rfl rfl rfl rfl (fun _ => rfl)) (tk_fx14 rfl rfl rfl rfl rfl rfl rfl rfl rfl rfl rfl rfl rfl rfl (fun _ => rfl)) (tk_fx14 rfl rfl rfl rfl rfl rfl rfl rfl rfl rfl rfl rfl rfl rfl (fun _ => rfl)) (fun _ => rfl)
set_option maxHeartbeats 400000 in
set_option maxRecDepth 20000 in
theorem tkR_poll1 (G : Nat → Nat → Int32) : tkPsi (tk_up G 15 (upd (G 15) (1 : Int32).toNatClampNeg 0)) = tk_up (tkPsi G) 2 (tk_up (tkPsi G 2) 17 0) := by
  exact tk_fxP rfl (tk_fx18 rfl rfl rfl rfl rfl rfl rfl rfl rfl rfl rfl rfl rfl rfl rfl rfl rfl rfl (fun _ => rfl)) (tk_fx18 rfl rfl rfl rfl rfl rfl rfl rfl rfl rfl rfl rfl rfl rfl rfl rfl rfl rfl (fun _ => rfl)) rfl (tk_fx14 rfl rfl rfl rfl rfl rfl rfl rfl rfl rfl rfl rfl rfl rfl (fun _ => rfl)) (tk_fx14 rfl rfl rfl rfl rfl rfl rfl rfl rfl rfl rfl rfl rfl rfl (fun _ => rfl)) (tk_fx14 rfl rfl rfl rfl rfl rfl rfl rfl rfl rfl rfl rfl rfl rfl (fun _ => rfl)) (fun _ => rfl)
set_option maxHeartbeats 400000 in
set_option maxRecDepth 20000 in
theorem tkR_pc1 (G : Nat → Nat → Int32) (hl : tkLow (G 6 1)) : tkM_choice_r (tk_up G 15 (upd (G 15) (1 : Int32).toNatClampNeg 0)) 1 = tkC_chosenLevel_r (tk_up (tkPsi G 2) 17 0) := by
  have h := tkR_choice1 (tk_up G 15 (upd (G 15) (1 : Int32).toNatClampNeg 0)) hl
  rw [h]
  have e := congrFun (tkR_poll1 G) 2
  rw [tk_Pe] at e
  exact congrArg tkC_chosenLevel_r e
set_option maxHeartbeats 1000000 in
set_option maxRecDepth 20000 in
theorem tkR_rf1 (G : Nat → Nat → Int32) (hl : tkLow (G 6 1)) : tkM_readFirst_r G 1 = tkC_giveSideZero_r (tkPsi G 2) ∧ tkPsi (tkM_readFirst_s G 1) = tk_up (tkPsi G) 2 (tkC_giveSideZero_s (tkPsi G 2)) := by
  have hc := tkR_pc1 G hl
  have hr := tkR_rng (tk_up (tkPsi G 2) 17 0)
  generalize hF : tkC_chosenLevel_r (tk_up (tkPsi G 2) 17 0) = F at hc hr
  unfold tkM_readFirst_r tkM_readFirst_s tkC_giveSideZero_r tkC_giveSideZero_s tkC_serveChosen_r tkC_serveChosen_s
  simp only [hc, hF]
  by_cases h1 : G 15 1 = 0
  · by_cases h2 : G 16 1 = 0
    · simp only [tkcl_1, tkP2_17, tkP2_16, h1, h2, ↓reduceIte]
      exact ⟨rfl, (tk_Pid _ _).symm⟩
    · simp only [tkcl_1, tkP2_17, tkP2_16, h1, h2, ↓reduceIte]
      exact ⟨rfl, (tk_Pid _ _).symm⟩
  · rcases hr with hr | hr
    · subst hr
      simp (decide := true) only [tkcl_1, tkP2_17, tkP2_16, h1, ↓reduceIte]
      exact ⟨trivial, tkR_poll1 G⟩
    · obtain ⟨n1, n2, n3⟩ := tkb_low_ne hr
      have hs := tkR_serve1 (tk_up G 15 (upd (G 15) (1 : Int32).toNatClampNeg 0)) F
      rw [tkR_poll1, tk_Pe, tk_Puu] at hs
      simp only [tkcl_1] at hs
      simp only [tkcl_1, tkP2_17, tkP2_16, h1, n1, n3, ↓reduceIte]
      exact ⟨trivial, hs⟩
set_option maxHeartbeats 1000000 in
set_option maxRecDepth 20000 in
theorem tkR_follow (G : Nat → Nat → Int32) (hl : tkLow (G 6 1)) : tkPsi (tkM_follow_s G) = tkT_followLines_s (tkPsi G) := by
  have l0 : tkLow 0 := Or.inl rfl
  have l2 : tkLow 2 := Or.inr (Or.inr (Or.inl rfl))
  have e1 := tkR_set0 G 0 (G 19 (0 : Int32).toNatClampNeg) l0
  have hl1 : tkLow ((tkM_set_s G 0 0 (G 19 (0 : Int32).toNatClampNeg)) 6 1) := by
    unfold tkM_set_s
    repeat' split
    all_goals exact hl
  have hc : tkM_choice_r (tkM_set_s G 0 0 (G 19 (0 : Int32).toNatClampNeg)) 1 = tkC_chosenLevel_r (tkPsi G 2) := by
    rw [tkR_choice1 _ hl1]
    have e := congrFun e1 2
    rw [tk_Pn rfl] at e
    exact congrArg tkC_chosenLevel_r e
  have hr := tkR_rng (tkPsi G 2)
  have s0 := tkR_set0 (tkM_set_s G 0 0 (G 19 (0 : Int32).toNatClampNeg)) 2 0 l2
  have s1 := tkR_set0 (tkM_set_s G 0 0 (G 19 (0 : Int32).toNatClampNeg)) 2 1 l2
  rw [e1, tk_Pe, tk_Puu] at s0 s1
  unfold tkM_follow_s tkT_followLines_s
  rw [hc]
  rcases hr with hr | hr
  · rw [if_pos hr, if_pos (by rw [hr]; decide)]
    exact s0
  · obtain ⟨n1, n2, n3⟩ := tkb_low_ne hr
    rw [if_neg n1, if_neg n2]
    exact s1
