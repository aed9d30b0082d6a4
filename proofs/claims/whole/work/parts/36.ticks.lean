set_option maxHeartbeats 1000000 in
set_option maxRecDepth 20000 in
theorem tkR_t3 (G : Nat → Nat → Int32) (h : tkInv G) : tkPsi (tkM_tickOne_s (tkM_tickOne_s (tkM_tickOne_s G 0) 1) 2) = (tk_up (tk_up (tk_up (tkPsi G) 4 (tkN_step_s (tkPsi G 4))) 5 (tkN_step_s (tkPsi G 5))) 6 (tkN_step_s (tkPsi G 6))) ∧ tkInv (tkM_tickOne_s (tkM_tickOne_s (tkM_tickOne_s G 0) 1) 2) ∧ (tkM_tickOne_s (tkM_tickOne_s (tkM_tickOne_s G 0) 1) 2) 0 0 = G 0 0 := by
  have h1 := tkI_tick0 G h
  have h2 := tkI_tick1 _ h1
  have h3 := tkI_tick2 _ h2
  refine ⟨?_, h3, by rw [tkH_tickOne, tkH_tickOne, tkH_tickOne]⟩
  rw [tkR_tick2 _ h2.2.2.2, tkR_tick1 _ h1.2.2.1, tkR_tick0 _ h.2.1]
set_option maxHeartbeats 1000000 in
set_option maxRecDepth 20000 in
theorem tkR_tb (G : Nat → Nat → Int32) (h : tkInv G) (r : Int32) : tkPsi (tkM_tickB_s G) = tkT_tickB_s (tkPsi G) ∧ tkM_tickB_r G r = tkT_tickB_r (tkPsi G) r ∧ tkInv (tkM_tickB_s G) ∧ (tkM_tickB_s G) 0 0 = G 0 0 := by
  obtain ⟨e, hi, hz⟩ := tkR_t3 G h
  obtain ⟨e2, hi2⟩ := tkR_gl hi e
  refine ⟨e2, ?_, hi2, (tkH_follow _).trans hz⟩
  have e3 : (tkM_tickOne_s (tkM_tickOne_s (tkM_tickOne_s G 0) 1) 2) 19 0 = (tkN_step_s (tkPsi G 4)) 1 := by
    have q := congrFun (congrFun e 4) 1
    rw [tk_Pn (k := 6) (j := 4) rfl, tk_Pn (k := 5) (j := 4) rfl, tk_Pe] at q
    exact q
  unfold tkM_tickB_r tkM_tick_v1 tkT_tickB_r
  simp only [tkcl_0, e3, tkP4_1]
  by_cases a : G 19 0 = 0 <;> by_cases b : (tkN_step_s (tkPsi G 4)) 1 = 0 <;> simp only [a, b, ↓reduceIte]
set_option maxHeartbeats 1000000 in
set_option maxRecDepth 20000 in
theorem tkR_ticks (n : Nat) : ∀ (G : Nat → Nat → Int32) (r : Int32), tkInv G → G 0 0 = 0 → tkPsi (tkM_ticks n G r).1 = (tkT_ticks n (tkPsi G) r).1 ∧ (tkM_ticks n G r).2 = (tkT_ticks n (tkPsi G) r).2 ∧ tkInv (tkM_ticks n G r).1 ∧ (tkM_ticks n G r).1 0 0 = 0 := by
  induction n with
  | zero => exact fun G r h h0 => ⟨rfl, rfl, h, h0⟩
  | succ n ih =>
    intro G r h h0
    obtain ⟨e1, e2, e3, e4⟩ := tkR_tb G h r
    rw [tkM_ticks, tkT_ticks, if_pos h0, ← e1, ← e2]
    exact ih _ _ e3 (e4.trans h0)
set_option maxHeartbeats 1000000 in
set_option maxRecDepth 20000 in
theorem tkR_tick (G : Nat → Nat → Int32) (h : tkInv G) (x : Int32) : tkT_tick_k (tkPsi G) x = tkM_tick_s G x 0 0 ∧ tkPsi (tkM_tick_s G x) = (if tkT_tick_k (tkPsi G) x = 0 then tkT_tick_s (tkPsi G) x else tkPsi G) ∧ tkInv (tkM_tick_s G x) ∧ (tkT_tick_k (tkPsi G) x = 0 → tkT_tick_r (tkPsi G) x = tkM_tick_r G x) := by
  unfold tkM_tick_s tkM_tick_r tkT_tick_s tkT_tick_r tkT_tick_k tkM_tick_v2
  have bad : ∀ n : Nat, tkM_ticks n (tk_up G 0 (fun _ => 1)) 0 = (tk_up G 0 (fun _ => 1), 0) := by
    intro n
    cases n with
    | zero => rfl
    | succ n => rw [tkM_ticks, if_neg (show ¬ (tk_up G 0 (fun _ => (1 : Int32))) 0 0 = 0 from (by decide : ¬ (1 : Int32) = 0))]
  by_cases a : x < 0
  · simp (decide := true) only [a, ↓reduceIte]
    rw [bad]
    exact ⟨rfl, tkR_t G 1, tkI_t h 1, fun q => absurd q (by decide)⟩
  · by_cases b : x ≤ 100
    · simp (decide := true) only [a, b, ↓reduceIte]
      obtain ⟨e1, e2, e3, e4⟩ := tkR_ticks x.toInt.toNat (tk_up G 0 (fun _ => 0)) 0 (tkI_t h 0) rfl
      rw [tkR_t] at e1 e2
      exact ⟨e4.symm, e1, e3, fun _ => e2.symm⟩
    · simp (decide := true) only [a, b, ↓reduceIte]
      rw [bad]
      exact ⟨rfl, tkR_t G 1, tkI_t h 1, fun q => absurd q (by decide)⟩
theorem tkC_sv5 (K : Nat → Int32) (l : Int32) : (tkC_serve_s K l) 5 = K 5 ∧ (tkC_serve_s K l) 10 = K 10 := by
  unfold tkC_serve_s
  repeat' split
  all_goals exact ⟨rfl, rfl⟩
theorem tkM_sv5 (G : Nat → Nat → Int32) (x l : Int32) (i : Nat) : (tkM_serve_s G x l) 5 i = G 5 i ∧ (tkM_serve_s G x l) 9 i = G 9 i := by
  unfold tkM_serve_s
  repeat' split
  all_goals exact ⟨rfl, rfl⟩
set_option maxHeartbeats 4000000 in
set_option maxRecDepth 20000 in
theorem tkR_ack (G : Nat → Nat → Int32) (h : tkInv G) : (if tkT_acknowledge_k (tkPsi G) = 0 then 0 else 1) = tkM_acknowledge_s G 0 0 ∧ tkPsi (tkM_acknowledge_s G) = (if tkT_acknowledge_k (tkPsi G) = 0 then tkT_acknowledge_s (tkPsi G) else tkPsi G) ∧ tkInv (tkM_acknowledge_s G) ∧ (tkT_acknowledge_k (tkPsi G) = 0 → tkT_acknowledge_r (tkPsi G) = tkM_acknowledge_r G) := by
  have h0 : tkInv (tk_up G 0 (fun _ => 0)) := tkI_t h 0
  have ht := tkR_t G 0
  have hc0 : tkM_choice_r (tk_up G 0 (fun _ => 0)) 0 = tkC_chosenLevel_r (tkPsi G 1) := (tkR_choice0 _ h0.1.1.1).trans (congrArg tkC_chosenLevel_r (congrFun ht 1))
  have hr0 := tkR_rng (tkPsi G 1)
  have hr1 := tkR_rng (tkPsi G 2)
  have hs : ∀ l, tkPsi (tkM_serve_s (tk_up G 0 (fun _ => 0)) 0 l) = tk_up (tkPsi G) 1 (tkC_serve_s (tkPsi G 1) l) := fun l => by rw [tkR_serve0, ht]
  have hc1 : ∀ l, tkLow l → tkM_choice_r (tkM_serve_s (tk_up G 0 (fun _ => 0)) 0 l) 1 = tkC_chosenLevel_r (tkPsi G 2) := fun l hl => by
    rw [tkR_choice1 _ (tkI_serve0 _ l hl h0).1.2.1]
    have q := congrFun (hs l) 2
    rw [tk_Pn rfl] at q
    exact congrArg tkC_chosenLevel_r q
  have hs2 : ∀ l m, tkPsi (tkM_serve_s (tkM_serve_s (tk_up G 0 (fun _ => 0)) 0 l) 1 m) = tk_up (tk_up (tkPsi G) 1 (tkC_serve_s (tkPsi G 1) l)) 2 (tkC_serve_s (tkPsi G 2) m) := fun l m => by rw [tkR_serve1, hs, tk_Pn (k := 1) (j := 2) rfl]
  unfold tkM_acknowledge_s tkM_acknowledge_r tkT_acknowledge_k tkT_acknowledge_s tkT_acknowledge_r tkC_serveChosen_r tkC_serveChosen_s tkC_vectorOf_r
  generalize hA : tkC_chosenLevel_r (tkPsi G 1) = a at hc0 hr0
  generalize hB : tkC_chosenLevel_r (tkPsi G 2) = b at hc1 hr1
  simp only [hc0, tkcl_0, tkcl_1, tkP1_7]
  by_cases r : G 7 0 = 0
  · simp (decide := true) only [r, ↓reduceIte]
    exact ⟨(by first | trivial | rfl), tkR_t G 1, tkI_t h 1, (by first | trivial | exact fun _ => rfl | exact fun q => absurd q (by decide))⟩
  · rcases hr0 with ha | ha
    · subst ha
      simp (decide := true) only [r, hA, ↓reduceIte]
      obtain ⟨e1, e2⟩ := tkR_gl h0 ht
      rw [tk_Pid]
      exact ⟨(tkH_follow (tk_up G 0 (fun _ => 0))).symm, e1, e2, (by first | trivial | exact fun _ => rfl | exact fun q => absurd q (by decide))⟩
    · obtain ⟨m1, m2, m3⟩ := tkb_low_ne ha
      have hi := tkI_serve0 (tk_up G 0 (fun _ => 0)) a ha h0
      obtain ⟨v5, v9⟩ := tkC_sv5 (tkPsi G 1) a
      obtain ⟨w5, -⟩ := tkM_sv5 (tk_up G 0 (fun _ => 0)) 0 a 1
      obtain ⟨-, w9⟩ := tkM_sv5 (tk_up G 0 (fun _ => 0)) 0 a 0
      obtain ⟨e1, e2⟩ := tkR_gl hi (hs a)
      have e0 := (tkH_follow (tkM_serve_s (tk_up G 0 (fun _ => 0)) 0 a)).trans (tkH_serve _ _ _)
      by_cases a2 : a = 2
      · by_cases sg : G 9 0 = 0
        · have w9b : (tkM_serve_s (tk_up G 0 (fun _ => 0)) 0 a) 9 0 = 0 := w9.trans sg
          have v9b : (tkC_serve_s (tkPsi G 1) a) 10 = 0 := v9.trans sg
          rcases hr1 with hb | hb
          · subst hb
            subst a2
            simp (decide := true) only [r, hA, hB, m1, m2, m3, v9b, w9b, hc1 _ ha, w5, tkP2_5, tkP1_5, ↓reduceIte]
            rw [show tk_up (tk_up (tkPsi G) 1 (tkC_serve_s (tkPsi G 1) 2)) 2 (tkPsi G 2) = tk_up (tkPsi G) 1 (tkC_serve_s (tkPsi G 1) 2) from tk_Pid (tk_up (tkPsi G) 1 (tkC_serve_s (tkPsi G 1) 2)) 2]
            exact ⟨(by first | trivial | exact e0.symm), e1, e2, (by first | trivial | exact fun _ => rfl | exact fun q => absurd q (by decide))⟩
          · obtain ⟨b1, b2, b3⟩ := tkb_low_ne hb
            obtain ⟨u5, -⟩ := tkC_sv5 (tkPsi G 2) b
            have hi2 := tkI_serve1 _ b hb hi
            obtain ⟨f1, f2⟩ := tkR_gl hi2 (hs2 a b)
            have f0 := (tkH_follow (tkM_serve_s (tkM_serve_s (tk_up G 0 (fun _ => 0)) 0 a) 1 b)).trans ((tkH_serve _ _ _).trans (tkH_serve _ _ _))
            subst a2
            simp (decide := true) only [r, hA, hB, m1, m2, m3, b1, b2, b3, v9b, w9b, hc1 _ ha, w5, u5, tkP2_5, tkP1_5, ↓reduceIte]
            exact ⟨(by first | trivial | exact f0.symm), f1, f2, (by first | trivial | exact fun _ => rfl | exact fun q => absurd q (by decide))⟩
        · have w9b : ¬ (tkM_serve_s (tk_up G 0 (fun _ => 0)) 0 a) 9 0 = 0 := fun q => sg (w9.symm.trans q)
          have v9b : ¬ (tkC_serve_s (tkPsi G 1) a) 10 = 0 := fun q => sg (v9.symm.trans q)
          subst a2
          simp (decide := true) only [r, hA, hB, m1, m2, m3, v9b, w9b, v5, tkP2_5, tkP1_5, ↓reduceIte]
          exact ⟨(by first | trivial | exact e0.symm), e1, e2, (by first | trivial | exact fun _ => rfl | exact fun q => absurd q (by decide))⟩
      · simp (decide := true) only [r, hA, hB, m1, m2, m3, a2, v5, tkP2_5, tkP1_5, ↓reduceIte]
        exact ⟨(by first | trivial | exact e0.symm), e1, e2, (by first | trivial | exact fun _ => rfl | exact fun q => absurd q (by decide))⟩
