theorem tkb_bb (b : Int32) : b < 0 ∨ (¬ b < 0 ∧ 255 < b ∧ ¬ b ≤ 255) ∨ (tkByte b ∧ ¬ b < 0 ∧ ¬ 255 < b ∧ b ≤ 255) := by
  by_cases h0 : b < 0
  · exact Or.inl h0
  · by_cases h1 : b ≤ 255
    · exact Or.inr (Or.inr ⟨tkb_byte h0 h1, h0, fun q => by have := tk_lt.mp q; have := tk_le.mp h1; omega, h1⟩)
    · refine Or.inr (Or.inl ⟨h0, tk_lt.mpr ?_, h1⟩)
      have q : ¬ b.toInt ≤ (255 : Int32).toInt := fun q => h1 (tk_le.mpr q)
      omega
theorem tkb_pn {a : Int32} (h : a < 0) : tkT_isPort_r a = 0 := by unfold tkT_isPort_r; rw [if_pos h]
theorem tkb_pg {a : Int32} (h : ¬ a < 0) (h1 : 7 < a) : tkT_isPort_r a = 0 := by unfold tkT_isPort_r; rw [if_neg h, if_pos h1]
theorem tkb_p6 {a : Int32} (h1 : 7 < a) : ¬ a ≤ 6 ∧ ¬ a = 7 := by
  have z : (7 : Int32).toInt = 7 := by decide
  have z1 : (6 : Int32).toInt = 6 := by decide
  have b := tk_lt.mp h1
  exact ⟨fun q => by have := tk_le.mp q; omega, fun q => by subst q; omega⟩
theorem tkb_pp : ((¬ tkT_isPort_r 0 = 0 ∧ ¬ tkT_isPort_r 1 = 0 ∧ ¬ tkT_isPort_r 2 = 0 ∧ ¬ tkT_isPort_r 3 = 0) ∧ ¬ tkT_isPort_r 4 = 0 ∧ ¬ tkT_isPort_r 5 = 0 ∧ ¬ tkT_isPort_r 6 = 0 ∧ ¬ tkT_isPort_r 7 = 0) ∧ (tkT_isCounterPort_r 0 = 0 ∧ tkT_isCounterPort_r 1 = 0 ∧ tkT_isCounterPort_r 2 = 0 ∧ tkT_isCounterPort_r 3 = 0) ∧ ¬ tkT_isCounterPort_r 4 = 0 ∧ ¬ tkT_isCounterPort_r 5 = 0 ∧ ¬ tkT_isCounterPort_r 6 = 0 ∧ tkT_isCounterPort_r 7 = 0 := by decide
theorem tkb_ar : ((0 : Int32) / 2 = 0 ∧ (1 : Int32) / 2 = 0 ∧ (2 : Int32) / 2 = 1 ∧ (3 : Int32) / 2 = 1) ∧ (4 : Int32) - 4 = 0 ∧ (5 : Int32) - 4 = 1 ∧ (6 : Int32) - 4 = 2 := by decide
theorem tkb_md {G : Nat → Nat → Int32} {j : Nat} (h : tkInvN G j) (hm : ¬ G 20 j = (-1)) : 0 ≤ G 20 j := by
  obtain ⟨-, hq, -⟩ := h
  rcases hq with e | e | e | e | e | e | e
  · exact absurd e hm
  all_goals rw [e]; decide
theorem tkb_m9 {G : Nat → Nat → Int32} {j : Nat} (hm : G 20 j = (-1)) : ¬ 0 ≤ G 20 j := by rw [hm]; decide
set_option maxHeartbeats 4000000 in
set_option maxRecDepth 20000 in
theorem tkR_write (G : Nat → Nat → Int32) (h : tkInv G) (a b : Int32) : tkT_write_k (tkPsi G) a b = tkM_write_s G a b 0 0 ∧ tkPsi (tkM_write_s G a b) = (if tkT_write_k (tkPsi G) a b = 0 then tkT_write_s (tkPsi G) a b else tkPsi G) ∧ tkInv (tkM_write_s G a b) := by
  obtain ⟨⟨⟨p0, p1, p2, p3⟩, p4, p5, p6, p7⟩, ⟨q0, q1, q2, q3⟩, q4, q5, q6, q7⟩ := tkb_pp
  obtain ⟨⟨d0, d1, d2, d3⟩, m4, m5, m6⟩ := tkb_ar
  have h0 : tkInv (tk_up G 0 (fun _ => 0)) := tkI_t h 0
  have ht := tkR_t G 0
  obtain ⟨⟨c0, c1⟩, n0, n1, n2⟩ := id h0
  unfold tkM_write_s tkT_write_k tkT_write_s tkT_counterWithMode_k tkN_hasMode_r
  rcases tkb_c8 a with ha | ⟨ha, ha1, ha2⟩ | ⟨hl, ha, ha1, ha2⟩
  · simp (decide := true) only [ha, tkb_pn ha, ↓reduceIte]
    exact ⟨trivial, tkR_t G 1, tkI_t h 1⟩
  · simp (decide := true) only [ha, ha1, tkb_pg ha ha1, ↓reduceIte]
    exact ⟨trivial, tkR_t G 1, tkI_t h 1⟩
  · have hp : ¬ tkT_isPort_r a = 0 := by unfold tkT_isPort_r; rw [if_neg ha, if_neg ha1]; decide
    rcases tkb_bb b with hb | ⟨hb, hb1, hb2⟩ | ⟨hv, hb, hb1, hb2⟩
    · simp (decide := true) only [ha, ha1, hp, hb, ↓reduceIte]
      exact ⟨trivial, tkR_t G 1, tkI_t h 1⟩
    · simp (decide := true) only [ha, ha1, hp, hb, hb1, hb2, ↓reduceIte]
      exact ⟨trivial, tkR_t G 1, tkI_t h 1⟩
    · unfold tkLow at hl
      rcases hl with e | e | e | e | e | e | e | e <;> subst e
      · simp (decide := true) only [p0, q0, hb, hb1, hb2, d0, d1, d2, d3, m4, m5, m6, tkcl_0, tkcl_1, tkcl_2, ↓reduceIte]
        obtain ⟨e1, e2⟩ := tkR_gl (X := tkM_writeFirst_s (tk_up G 0 (fun _ => 0)) 0 b) (tkI_wf0 _ b h0) (by rw [tkR_wf0 _ b hv c0.1 c0.2.1, ht])
        have e0 := (tkH_follow (tkM_writeFirst_s (tk_up G 0 (fun _ => 0)) 0 b)).trans (tkH_writeFirst (tk_up G 0 (fun _ => 0)) _ _)
        exact ⟨e0.symm, e1, e2⟩
      · simp (decide := true) only [p1, q1, hb, hb1, hb2, d0, d1, d2, d3, m4, m5, m6, tkcl_0, tkcl_1, tkcl_2, ↓reduceIte]
        obtain ⟨e1, e2⟩ := tkR_gl (X := tkM_writeSecond_s (tk_up G 0 (fun _ => 0)) 0 b) (tkI_ws0 _ b h0) (by rw [tkR_ws0 _ b hv c0.2.2, ht])
        have e0 := (tkH_follow (tkM_writeSecond_s (tk_up G 0 (fun _ => 0)) 0 b)).trans (tkH_writeSecond (tk_up G 0 (fun _ => 0)) _ _)
        exact ⟨e0.symm, e1, e2⟩
      · simp (decide := true) only [p2, q2, hb, hb1, hb2, d0, d1, d2, d3, m4, m5, m6, tkcl_0, tkcl_1, tkcl_2, ↓reduceIte]
        obtain ⟨e1, e2⟩ := tkR_gl (X := tkM_writeFirst_s (tk_up G 0 (fun _ => 0)) 1 b) (tkI_wf1 _ b h0) (by rw [tkR_wf1 _ b hv c1.1 c1.2.1, ht])
        have e0 := (tkH_follow (tkM_writeFirst_s (tk_up G 0 (fun _ => 0)) 1 b)).trans (tkH_writeFirst (tk_up G 0 (fun _ => 0)) _ _)
        exact ⟨e0.symm, e1, e2⟩
      · simp (decide := true) only [p3, q3, hb, hb1, hb2, d0, d1, d2, d3, m4, m5, m6, tkcl_0, tkcl_1, tkcl_2, ↓reduceIte]
        obtain ⟨e1, e2⟩ := tkR_gl (X := tkM_writeSecond_s (tk_up G 0 (fun _ => 0)) 1 b) (tkI_ws1 _ b h0) (by rw [tkR_ws1 _ b hv c1.2.2, ht])
        have e0 := (tkH_follow (tkM_writeSecond_s (tk_up G 0 (fun _ => 0)) 1 b)).trans (tkH_writeSecond (tk_up G 0 (fun _ => 0)) _ _)
        exact ⟨e0.symm, e1, e2⟩
      · by_cases md : G 20 0 = (-1)
        · have md2 := tkb_m9 md
          simp (decide := true) only [p4, q4, hb, hb1, hb2, m4, m5, m6, tkcl_0, tkcl_1, tkcl_2, tkP4_2, md, md2, ↓reduceIte]
          exact ⟨trivial, tkR_t G 2, tkI_t h 2⟩
        · have md2 : 0 ≤ G 20 0 := tkb_md n0 md
          simp (decide := true) only [p4, q4, hb, hb1, hb2, m4, m5, m6, tkcl_0, tkcl_1, tkcl_2, tkP4_2, md, md2, ↓reduceIte]
          obtain ⟨e1, e2⟩ := tkR_gl (X := tkM_writeCounter_s (tk_up G 0 (fun _ => 0)) 0 b) (tkI_wc0 _ b hv md h0) (by rw [tkR_wc0 _ b hv n0 md, ht])
          have e0 := (tkH_follow (tkM_writeCounter_s (tk_up G 0 (fun _ => 0)) 0 b)).trans (tkH_writeCounter (tk_up G 0 (fun _ => 0)) _ _)
          exact ⟨e0.symm, e1, e2⟩
      · by_cases md : G 20 1 = (-1)
        · have md2 := tkb_m9 md
          simp (decide := true) only [p5, q5, hb, hb1, hb2, m4, m5, m6, tkcl_0, tkcl_1, tkcl_2, tkP5_2, md, md2, ↓reduceIte]
          exact ⟨trivial, tkR_t G 2, tkI_t h 2⟩
        · have md2 : 0 ≤ G 20 1 := tkb_md n1 md
          simp (decide := true) only [p5, q5, hb, hb1, hb2, m4, m5, m6, tkcl_0, tkcl_1, tkcl_2, tkP5_2, md, md2, ↓reduceIte]
          obtain ⟨e1, e2⟩ := tkR_gl (X := tkM_writeCounter_s (tk_up G 0 (fun _ => 0)) 1 b) (tkI_wc1 _ b hv md h0) (by rw [tkR_wc1 _ b hv n1 md, ht])
          have e0 := (tkH_follow (tkM_writeCounter_s (tk_up G 0 (fun _ => 0)) 1 b)).trans (tkH_writeCounter (tk_up G 0 (fun _ => 0)) _ _)
          exact ⟨e0.symm, e1, e2⟩
      · by_cases md : G 20 2 = (-1)
        · have md2 := tkb_m9 md
          simp (decide := true) only [p6, q6, hb, hb1, hb2, m4, m5, m6, tkcl_0, tkcl_1, tkcl_2, tkP6_2, md, md2, ↓reduceIte]
          exact ⟨trivial, tkR_t G 2, tkI_t h 2⟩
        · have md2 : 0 ≤ G 20 2 := tkb_md n2 md
          simp (decide := true) only [p6, q6, hb, hb1, hb2, m4, m5, m6, tkcl_0, tkcl_1, tkcl_2, tkP6_2, md, md2, ↓reduceIte]
          obtain ⟨e1, e2⟩ := tkR_gl (X := tkM_writeCounter_s (tk_up G 0 (fun _ => 0)) 2 b) (tkI_wc2 _ b hv md h0) (by rw [tkR_wc2 _ b hv n2 md, ht])
          have e0 := (tkH_follow (tkM_writeCounter_s (tk_up G 0 (fun _ => 0)) 2 b)).trans (tkH_writeCounter (tk_up G 0 (fun _ => 0)) _ _)
          exact ⟨e0.symm, e1, e2⟩
      · obtain ⟨t1, t2, t3⟩ := tkR_control (tk_up G 0 (fun _ => 0)) h0 b hv
        rw [ht] at t1
        simp (decide := true) only [p7, q7, hb, hb1, hb2, d0, d1, d2, d3, m4, m5, m6, tkcl_0, tkcl_1, tkcl_2, ↓reduceIte]
        obtain ⟨e1, e2⟩ := tkR_gl (X := tkM_control_s (tk_up G 0 (fun _ => 0)) b) t2 t1
        have e0 := (tkH_follow (tkM_control_s (tk_up G 0 (fun _ => 0)) b)).trans (t3)
        exact ⟨e0.symm, e1, e2⟩
set_option maxHeartbeats 4000000 in
set_option maxRecDepth 20000 in
theorem tkR_read (G : Nat → Nat → Int32) (h : tkInv G) (a : Int32) : tkT_read_k (tkPsi G) a = tkM_read_s G a 0 0 ∧ tkPsi (tkM_read_s G a) = (if tkT_read_k (tkPsi G) a = 0 then tkT_read_s (tkPsi G) a else tkPsi G) ∧ tkInv (tkM_read_s G a) ∧ (tkT_read_k (tkPsi G) a = 0 → tkT_read_r (tkPsi G) a = tkM_read_r G a) := by
  obtain ⟨⟨⟨p0, p1, p2, p3⟩, p4, p5, p6, p7⟩, ⟨q0, q1, q2, q3⟩, q4, q5, q6, q7⟩ := tkb_pp
  obtain ⟨⟨d0, d1, d2, d3⟩, m4, m5, m6⟩ := tkb_ar
  have h0 : tkInv (tk_up G 0 (fun _ => 0)) := tkI_t h 0
  have ht := tkR_t G 0
  obtain ⟨⟨c0, c1⟩, n0, n1, n2⟩ := id h0
  unfold tkM_read_s tkM_read_r tkT_read_k tkT_read_s tkT_read_r tkT_counterWithMode_k tkN_hasMode_r
  rcases tkb_c8 a with ha | ⟨ha, ha1, ha2⟩ | ⟨hl, ha, ha1, ha2⟩
  · simp (decide := true) only [ha, tkb_pn ha, ↓reduceIte]
    exact ⟨trivial, tkR_t G 1, tkI_t h 1, (by first | trivial | exact fun q => absurd q (by decide))⟩
  · obtain ⟨a6, a7⟩ := tkb_p6 ha1
    simp (decide := true) only [ha, ha1, a6, a7, tkb_pg ha ha1, ↓reduceIte]
    exact ⟨trivial, tkR_t G 1, tkI_t h 1, (by first | trivial | exact fun q => absurd q (by decide))⟩
  · unfold tkLow at hl
    rcases hl with e | e | e | e | e | e | e | e <;> subst e
    · obtain ⟨r1, r2⟩ := tkR_rf0 (tk_up G 0 (fun _ => 0)) c0.1
      rw [ht] at r1 r2
      simp (decide := true) only [p0, q0, d0, d1, d2, d3, m4, m5, m6, tkcl_0, tkcl_1, tkcl_2, ↓reduceIte]
      obtain ⟨e1, e2⟩ := tkR_gl (X := tkM_readFirst_s (tk_up G 0 (fun _ => 0)) 0) (tkI_rf0 _ h0) r2
      have e0 := (tkH_follow (tkM_readFirst_s (tk_up G 0 (fun _ => 0)) 0)).trans (tkH_readFirst (tk_up G 0 (fun _ => 0)) _)
      exact ⟨e0.symm, e1, e2, (by first | exact fun _ => r1.symm | exact r1.symm)⟩
    · simp (decide := true) only [p1, q1, d0, d1, d2, d3, m4, m5, m6, tkcl_0, tkcl_1, tkcl_2, ↓reduceIte]
      obtain ⟨e1, e2⟩ := tkR_gl (X := (tk_up G 0 (fun _ => 0))) h0 ht
      have e0 := (tkH_follow ((tk_up G 0 (fun _ => 0)))).trans ((rfl : (tk_up G 0 (fun _ => 0)) 0 0 = 0))
      exact ⟨e0.symm, e1, e2, (by first | exact fun _ => rfl | rfl | trivial)⟩
    · obtain ⟨r1, r2⟩ := tkR_rf1 (tk_up G 0 (fun _ => 0)) c1.1
      rw [ht] at r1 r2
      simp (decide := true) only [p2, q2, d0, d1, d2, d3, m4, m5, m6, tkcl_0, tkcl_1, tkcl_2, ↓reduceIte]
      obtain ⟨e1, e2⟩ := tkR_gl (X := tkM_readFirst_s (tk_up G 0 (fun _ => 0)) 1) (tkI_rf1 _ h0) r2
      have e0 := (tkH_follow (tkM_readFirst_s (tk_up G 0 (fun _ => 0)) 1)).trans (tkH_readFirst (tk_up G 0 (fun _ => 0)) _)
      exact ⟨e0.symm, e1, e2, (by first | exact fun _ => r1.symm | exact r1.symm)⟩
    · simp (decide := true) only [p3, q3, d0, d1, d2, d3, m4, m5, m6, tkcl_0, tkcl_1, tkcl_2, ↓reduceIte]
      obtain ⟨e1, e2⟩ := tkR_gl (X := (tk_up G 0 (fun _ => 0))) h0 ht
      have e0 := (tkH_follow ((tk_up G 0 (fun _ => 0)))).trans ((rfl : (tk_up G 0 (fun _ => 0)) 0 0 = 0))
      exact ⟨e0.symm, e1, e2, (by first | exact fun _ => rfl | rfl | trivial)⟩
    · by_cases md : G 20 0 = (-1)
      · have md2 := tkb_m9 md
        simp (decide := true) only [p4, q4, m4, m5, m6, tkcl_0, tkcl_1, tkcl_2, tkP4_2, md, md2, ↓reduceIte]
        exact ⟨trivial, tkR_t G 2, tkI_t h 2, (by first | trivial | exact fun q => absurd q (by decide))⟩
      · have md2 : 0 ≤ G 20 0 := tkb_md n0 md
        obtain ⟨r1, r2⟩ := tkR_rc0 (tk_up G 0 (fun _ => 0)) n0 md
        rw [ht] at r1 r2
        simp (decide := true) only [p4, q4, m4, m5, m6, tkcl_0, tkcl_1, tkcl_2, tkP4_2, md, md2, ↓reduceIte]
        obtain ⟨e1, e2⟩ := tkR_gl (X := tkM_readCounter_s (tk_up G 0 (fun _ => 0)) 0) (tkI_rc0 _ h0) r2
        have e0 := (tkH_follow (tkM_readCounter_s (tk_up G 0 (fun _ => 0)) 0)).trans (tkH_readCounter (tk_up G 0 (fun _ => 0)) _)
        exact ⟨e0.symm, e1, e2, (by first | exact fun _ => r1.symm | exact r1.symm)⟩
    · by_cases md : G 20 1 = (-1)
      · have md2 := tkb_m9 md
        simp (decide := true) only [p5, q5, m4, m5, m6, tkcl_0, tkcl_1, tkcl_2, tkP5_2, md, md2, ↓reduceIte]
        exact ⟨trivial, tkR_t G 2, tkI_t h 2, (by first | trivial | exact fun q => absurd q (by decide))⟩
      · have md2 : 0 ≤ G 20 1 := tkb_md n1 md
        obtain ⟨r1, r2⟩ := tkR_rc1 (tk_up G 0 (fun _ => 0)) n1 md
        rw [ht] at r1 r2
        simp (decide := true) only [p5, q5, m4, m5, m6, tkcl_0, tkcl_1, tkcl_2, tkP5_2, md, md2, ↓reduceIte]
        obtain ⟨e1, e2⟩ := tkR_gl (X := tkM_readCounter_s (tk_up G 0 (fun _ => 0)) 1) (tkI_rc1 _ h0) r2
        have e0 := (tkH_follow (tkM_readCounter_s (tk_up G 0 (fun _ => 0)) 1)).trans (tkH_readCounter (tk_up G 0 (fun _ => 0)) _)
        exact ⟨e0.symm, e1, e2, (by first | exact fun _ => r1.symm | exact r1.symm)⟩
    · by_cases md : G 20 2 = (-1)
      · have md2 := tkb_m9 md
        simp (decide := true) only [p6, q6, m4, m5, m6, tkcl_0, tkcl_1, tkcl_2, tkP6_2, md, md2, ↓reduceIte]
        exact ⟨trivial, tkR_t G 2, tkI_t h 2, (by first | trivial | exact fun q => absurd q (by decide))⟩
      · have md2 : 0 ≤ G 20 2 := tkb_md n2 md
        obtain ⟨r1, r2⟩ := tkR_rc2 (tk_up G 0 (fun _ => 0)) n2 md
        rw [ht] at r1 r2
        simp (decide := true) only [p6, q6, m4, m5, m6, tkcl_0, tkcl_1, tkcl_2, tkP6_2, md, md2, ↓reduceIte]
        obtain ⟨e1, e2⟩ := tkR_gl (X := tkM_readCounter_s (tk_up G 0 (fun _ => 0)) 2) (tkI_rc2 _ h0) r2
        have e0 := (tkH_follow (tkM_readCounter_s (tk_up G 0 (fun _ => 0)) 2)).trans (tkH_readCounter (tk_up G 0 (fun _ => 0)) _)
        exact ⟨e0.symm, e1, e2, (by first | exact fun _ => r1.symm | exact r1.symm)⟩
    · simp (decide := true) only [p7, q7, d0, d1, d2, d3, m4, m5, m6, tkcl_0, tkcl_1, tkcl_2, ↓reduceIte]
      exact ⟨trivial, tkR_t G 1, tkI_t h 1, (by first | trivial | exact fun q => absurd q (by decide))⟩
