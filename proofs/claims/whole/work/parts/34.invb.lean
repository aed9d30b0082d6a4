theorem tkb_stat {a m : Int32} (ha : a = 0 ∨ a = 1 ∨ a = 2 ∨ a = 3) (hm : m = 0 ∨ m = 1 ∨ m = 2 ∨ m = 3 ∨ m = 4 ∨ m = 5) : (¬ ((0 + 0) + (16 * a)) + (2 * m) < 0 ∧ ¬ ((0 + 64) + (16 * a)) + (2 * m) < 0) ∧ ¬ ((128 + 0) + (16 * a)) + (2 * m) < 0 ∧ ¬ ((128 + 64) + (16 * a)) + (2 * m) < 0 := by
  rcases ha with ha | ha | ha | ha <;> rcases hm with hm | hm | hm | hm | hm | hm <;> subst ha <;> subst hm <;> decide
theorem tkb_st0 (m : Int32) : (0 : Int32) = if m = 0 then (if (0 : Int32) = 0 then 0 else 1) else 0 := by
  by_cases h : m = 0 <;> simp [h]
theorem tkb_st1 (m : Int32) : (vp_nar .boolean (if m = 0 then 1 else 0)) = if m = 0 then (if (1 : Int32) = 0 then 0 else 1) else 0 := by
  by_cases h : m = 0
  · simp only [h, if_pos]; rfl
  · simp only [h]; rfl
theorem tkb_rl {x : Int32} (h : ∃ n, n < 65536 ∧ x = nI n) : ∃ n, n ≤ 65536 ∧ (if x = 0 then 65536 else x) = nI n := by
  obtain ⟨n, hn, rfl⟩ := h
  by_cases h0 : nI n = 0
  · rw [if_pos h0]; exact ⟨65536, by omega, rfl⟩
  · rw [if_neg h0]; exact ⟨n, by omega, rfl⟩
theorem tkb_r3 {v l : Int32} (hv : ∃ n, n < 256 ∧ v = nI n) (hl : ∃ n, n < 256 ∧ l = nI n) : ∃ n, n < 65536 ∧ 256 * v + l = nI n := by
  obtain ⟨n, hn, rfl⟩ := hv
  obtain ⟨k, hk, rfl⟩ := hl
  exact ⟨n * 256 + k, by omega, by rw [tkb_256 hn, nI_add]⟩
theorem tkb_r2 {v : Int32} (hv : ∃ n, n < 256 ∧ v = nI n) : ∃ n, n < 65536 ∧ 256 * v = nI n := by
  obtain ⟨n, hn, rfl⟩ := hv
  exact ⟨n * 256, by omega, tkb_256 hn⟩
theorem tkb_r1 {v : Int32} (hv : ∃ n, n < 256 ∧ v = nI n) : ∃ n, n < 65536 ∧ v = nI n := by
  obtain ⟨n, hn, rfl⟩ := hv
  exact ⟨n, by omega, rfl⟩
set_option maxHeartbeats 1000000 in
set_option maxRecDepth 20000 in
theorem tkI_lstat0 (G : Nat → Nat → Int32) (hmd : ¬ G 20 0 = (-1)) (h : tkInv G) : tkInv (tkM_latchStatus_s G 0) := by
  obtain ⟨⟨c0, c1⟩, n0, n1, n2⟩ := h
  obtain ⟨⟨hb19, hb25⟩, hm, ha, hm1, hm2, ha3, hr, hc, hlow, hl, hs, h26⟩ := n0
  obtain ⟨⟨s1, s2⟩, s3, s4⟩ := tkb_stat ha (hm.elim (fun e => absurd e hmd) id)
  unfold tkM_latchStatus_s
  repeat' split
  all_goals exact ⟨⟨c0, c1⟩, ⟨⟨(by first | exact hb19 | exact Or.inl rfl | exact Or.inr rfl | exact tkb_vB _ ), (by first | exact hb25 | exact Or.inl rfl | exact Or.inr rfl | exact tkb_vB _ )⟩, (by first | exact hm ), (by first | exact ha ), (by first | exact hm1 ), (by first | exact hm2 ), (by first | exact ha3 ), (by first | exact hr ), (by first | exact hc | exact tkb_and16 _ ), (by first | exact hlow ), (by first | exact hl | exact Or.inl rfl | exact Or.inr hc ), (by first | exact hs | exact Or.inl rfl | exact Or.inr s1 | exact Or.inr s2 | exact Or.inr s3 | exact Or.inr s4 ), (by first | exact h26 | exact rfl )⟩, n1, n2⟩
set_option maxHeartbeats 4000000 in
set_option maxRecDepth 20000 in
theorem tkI_wc0 (G : Nat → Nat → Int32) (v : Int32) (hv : tkByte v) (hmd : ¬ G 20 0 = (-1)) (h : tkInv G) : tkInv (tkM_writeCounter_s G 0 v) := by
  obtain ⟨⟨c0, c1⟩, n0, n1, n2⟩ := h
  obtain ⟨⟨hb19, hb25⟩, hm, ha, hm1, hm2, ha3, hr, hc, hlow, hl, hs, h26⟩ := n0
  have hb := tkb_byteN hv
  have hv1 : ∃ n, n < 65536 ∧ tkM_writeCounter_v1 G 0 v = nI n := by
    unfold tkM_writeCounter_v1
    repeat' split
    · exact tkb_r1 hb
    · exact tkb_r2 hb
    · exact tkb_r3 hb hlow
  unfold tkM_writeCounter_s
  repeat' split
  all_goals exact ⟨⟨c0, c1⟩, ⟨⟨(by first | exact hb19 | exact Or.inl rfl | exact Or.inr rfl | exact tkb_vB _ ), (by first | exact hb25 | exact Or.inl rfl | exact Or.inr rfl | exact tkb_vB _ )⟩, (by first | exact hm ), (by first | exact ha ), (by first | exact hm1 | exact (fun e => absurd e hmd) ), (by first | exact hm2 ), (by first | exact ha3 | exact (fun e => absurd (by assumption) e) | exact (fun e => ⟨rfl, (ha3 e).2⟩) ), (by first | exact hr | exact tkb_rl hv1 | exact tkb_rl (tkb_r3 hb hlow) ), (by first | exact hc | exact tkb_and16 _ ), (by first | exact hlow | exact hb ), (by first | exact hl | exact Or.inl rfl | exact Or.inr hc ), (by first | exact hs | exact Or.inl rfl ), (by first | exact h26 | exact rfl | exact tkb_st0 _ | exact tkb_st1 _ )⟩, n1, n2⟩
set_option maxHeartbeats 4000000 in
set_option maxRecDepth 20000 in
theorem tkI_rc0 (G : Nat → Nat → Int32) (h : tkInv G) : tkInv (tkM_readCounter_s G 0) := by
  obtain ⟨⟨c0, c1⟩, n0, n1, n2⟩ := h
  obtain ⟨⟨hb19, hb25⟩, hm, ha, hm1, hm2, ha3, hr, hc, hlow, hl, hs, h26⟩ := n0
  unfold tkM_readCounter_s
  repeat' split
  all_goals exact ⟨⟨c0, c1⟩, ⟨⟨(by first | exact hb19 | exact Or.inl rfl | exact Or.inr rfl | exact tkb_vB _ ), (by first | exact hb25 | exact Or.inl rfl | exact Or.inr rfl | exact tkb_vB _ )⟩, (by first | exact hm ), (by first | exact ha ), (by first | exact hm1 ), (by first | exact hm2 ), (by first | exact ha3 | exact (fun e => ⟨(ha3 e).1, rfl⟩) | exact (fun e => absurd (by assumption) e) ), (by first | exact hr ), (by first | exact hc | exact tkb_and16 _ ), (by first | exact hlow ), (by first | exact hl | exact Or.inl rfl | exact Or.inr hc ), (by first | exact hs | exact Or.inl rfl ), (by first | exact h26 | exact rfl )⟩, n1, n2⟩
set_option maxHeartbeats 1000000 in
set_option maxRecDepth 20000 in
theorem tkI_lstat1 (G : Nat → Nat → Int32) (hmd : ¬ G 20 1 = (-1)) (h : tkInv G) : tkInv (tkM_latchStatus_s G 1) := by
  obtain ⟨⟨c0, c1⟩, n0, n1, n2⟩ := h
  obtain ⟨⟨hb19, hb25⟩, hm, ha, hm1, hm2, ha3, hr, hc, hlow, hl, hs, h26⟩ := n1
  obtain ⟨⟨s1, s2⟩, s3, s4⟩ := tkb_stat ha (hm.elim (fun e => absurd e hmd) id)
  unfold tkM_latchStatus_s
  repeat' split
  all_goals exact ⟨⟨c0, c1⟩, n0, ⟨⟨(by first | exact hb19 | exact Or.inl rfl | exact Or.inr rfl | exact tkb_vB _ ), (by first | exact hb25 | exact Or.inl rfl | exact Or.inr rfl | exact tkb_vB _ )⟩, (by first | exact hm ), (by first | exact ha ), (by first | exact hm1 ), (by first | exact hm2 ), (by first | exact ha3 ), (by first | exact hr ), (by first | exact hc | exact tkb_and16 _ ), (by first | exact hlow ), (by first | exact hl | exact Or.inl rfl | exact Or.inr hc ), (by first | exact hs | exact Or.inl rfl | exact Or.inr s1 | exact Or.inr s2 | exact Or.inr s3 | exact Or.inr s4 ), (by first | exact h26 | exact rfl )⟩, n2⟩
set_option maxHeartbeats 4000000 in
set_option maxRecDepth 20000 in
theorem tkI_wc1 (G : Nat → Nat → Int32) (v : Int32) (hv : tkByte v) (hmd : ¬ G 20 1 = (-1)) (h : tkInv G) : tkInv (tkM_writeCounter_s G 1 v) := by
  obtain ⟨⟨c0, c1⟩, n0, n1, n2⟩ := h
  obtain ⟨⟨hb19, hb25⟩, hm, ha, hm1, hm2, ha3, hr, hc, hlow, hl, hs, h26⟩ := n1
  have hb := tkb_byteN hv
  have hv1 : ∃ n, n < 65536 ∧ tkM_writeCounter_v1 G 1 v = nI n := by
    unfold tkM_writeCounter_v1
    repeat' split
    · exact tkb_r1 hb
    · exact tkb_r2 hb
    · exact tkb_r3 hb hlow
  unfold tkM_writeCounter_s
  repeat' split
  all_goals exact ⟨⟨c0, c1⟩, n0, ⟨⟨(by first | exact hb19 | exact Or.inl rfl | exact Or.inr rfl | exact tkb_vB _ ), (by first | exact hb25 | exact Or.inl rfl | exact Or.inr rfl | exact tkb_vB _ )⟩, (by first | exact hm ), (by first | exact ha ), (by first | exact hm1 | exact (fun e => absurd e hmd) ), (by first | exact hm2 ), (by first | exact ha3 | exact (fun e => absurd (by assumption) e) | exact (fun e => ⟨rfl, (ha3 e).2⟩) ), (by first | exact hr | exact tkb_rl hv1 | exact tkb_rl (tkb_r3 hb hlow) ), (by first | exact hc | exact tkb_and16 _ ), (by first | exact hlow | exact hb ), (by first | exact hl | exact Or.inl rfl | exact Or.inr hc ), (by first | exact hs | exact Or.inl rfl ), (by first | exact h26 | exact rfl | exact tkb_st0 _ | exact tkb_st1 _ )⟩, n2⟩
set_option maxHeartbeats 4000000 in
set_option maxRecDepth 20000 in
theorem tkI_rc1 (G : Nat → Nat → Int32) (h : tkInv G) : tkInv (tkM_readCounter_s G 1) := by
  obtain ⟨⟨c0, c1⟩, n0, n1, n2⟩ := h
  obtain ⟨⟨hb19, hb25⟩, hm, ha, hm1, hm2, ha3, hr, hc, hlow, hl, hs, h26⟩ := n1
  unfold tkM_readCounter_s
  repeat' split
  all_goals exact ⟨⟨c0, c1⟩, n0, ⟨⟨(by first | exact hb19 | exact Or.inl rfl | exact Or.inr rfl | exact tkb_vB _ ), (by first | exact hb25 | exact Or.inl rfl | exact Or.inr rfl | exact tkb_vB _ )⟩, (by first | exact hm ), (by first | exact ha ), (by first | exact hm1 ), (by first | exact hm2 ), (by first | exact ha3 | exact (fun e => ⟨(ha3 e).1, rfl⟩) | exact (fun e => absurd (by assumption) e) ), (by first | exact hr ), (by first | exact hc | exact tkb_and16 _ ), (by first | exact hlow ), (by first | exact hl | exact Or.inl rfl | exact Or.inr hc ), (by first | exact hs | exact Or.inl rfl ), (by first | exact h26 | exact rfl )⟩, n2⟩
set_option maxHeartbeats 1000000 in
set_option maxRecDepth 20000 in
theorem tkI_lstat2 (G : Nat → Nat → Int32) (hmd : ¬ G 20 2 = (-1)) (h : tkInv G) : tkInv (tkM_latchStatus_s G 2) := by
  obtain ⟨⟨c0, c1⟩, n0, n1, n2⟩ := h
  obtain ⟨⟨hb19, hb25⟩, hm, ha, hm1, hm2, ha3, hr, hc, hlow, hl, hs, h26⟩ := n2
  obtain ⟨⟨s1, s2⟩, s3, s4⟩ := tkb_stat ha (hm.elim (fun e => absurd e hmd) id)
  unfold tkM_latchStatus_s
  repeat' split
  all_goals exact ⟨⟨c0, c1⟩, n0, n1, ⟨⟨(by first | exact hb19 | exact Or.inl rfl | exact Or.inr rfl | exact tkb_vB _ ), (by first | exact hb25 | exact Or.inl rfl | exact Or.inr rfl | exact tkb_vB _ )⟩, (by first | exact hm ), (by first | exact ha ), (by first | exact hm1 ), (by first | exact hm2 ), (by first | exact ha3 ), (by first | exact hr ), (by first | exact hc | exact tkb_and16 _ ), (by first | exact hlow ), (by first | exact hl | exact Or.inl rfl | exact Or.inr hc ), (by first | exact hs | exact Or.inl rfl | exact Or.inr s1 | exact Or.inr s2 | exact Or.inr s3 | exact Or.inr s4 ), (by first | exact h26 | exact rfl )⟩⟩
set_option maxHeartbeats 4000000 in
set_option maxRecDepth 20000 in
theorem tkI_wc2 (G : Nat → Nat → Int32) (v : Int32) (hv : tkByte v) (hmd : ¬ G 20 2 = (-1)) (h : tkInv G) : tkInv (tkM_writeCounter_s G 2 v) := by
  obtain ⟨⟨c0, c1⟩, n0, n1, n2⟩ := h
  obtain ⟨⟨hb19, hb25⟩, hm, ha, hm1, hm2, ha3, hr, hc, hlow, hl, hs, h26⟩ := n2
  have hb := tkb_byteN hv
  have hv1 : ∃ n, n < 65536 ∧ tkM_writeCounter_v1 G 2 v = nI n := by
    unfold tkM_writeCounter_v1
    repeat' split
    · exact tkb_r1 hb
    · exact tkb_r2 hb
    · exact tkb_r3 hb hlow
  unfold tkM_writeCounter_s
  repeat' split
  all_goals exact ⟨⟨c0, c1⟩, n0, n1, ⟨⟨(by first | exact hb19 | exact Or.inl rfl | exact Or.inr rfl | exact tkb_vB _ ), (by first | exact hb25 | exact Or.inl rfl | exact Or.inr rfl | exact tkb_vB _ )⟩, (by first | exact hm ), (by first | exact ha ), (by first | exact hm1 | exact (fun e => absurd e hmd) ), (by first | exact hm2 ), (by first | exact ha3 | exact (fun e => absurd (by assumption) e) | exact (fun e => ⟨rfl, (ha3 e).2⟩) ), (by first | exact hr | exact tkb_rl hv1 | exact tkb_rl (tkb_r3 hb hlow) ), (by first | exact hc | exact tkb_and16 _ ), (by first | exact hlow | exact hb ), (by first | exact hl | exact Or.inl rfl | exact Or.inr hc ), (by first | exact hs | exact Or.inl rfl ), (by first | exact h26 | exact rfl | exact tkb_st0 _ | exact tkb_st1 _ )⟩⟩
set_option maxHeartbeats 4000000 in
set_option maxRecDepth 20000 in
theorem tkI_rc2 (G : Nat → Nat → Int32) (h : tkInv G) : tkInv (tkM_readCounter_s G 2) := by
  obtain ⟨⟨c0, c1⟩, n0, n1, n2⟩ := h
  obtain ⟨⟨hb19, hb25⟩, hm, ha, hm1, hm2, ha3, hr, hc, hlow, hl, hs, h26⟩ := n2
  unfold tkM_readCounter_s
  repeat' split
  all_goals exact ⟨⟨c0, c1⟩, n0, n1, ⟨⟨(by first | exact hb19 | exact Or.inl rfl | exact Or.inr rfl | exact tkb_vB _ ), (by first | exact hb25 | exact Or.inl rfl | exact Or.inr rfl | exact tkb_vB _ )⟩, (by first | exact hm ), (by first | exact ha ), (by first | exact hm1 ), (by first | exact hm2 ), (by first | exact ha3 | exact (fun e => ⟨(ha3 e).1, rfl⟩) | exact (fun e => absurd (by assumption) e) ), (by first | exact hr ), (by first | exact hc | exact tkb_and16 _ ), (by first | exact hlow ), (by first | exact hl | exact Or.inl rfl | exact Or.inr hc ), (by first | exact hs | exact Or.inl rfl ), (by first | exact h26 | exact rfl )⟩⟩
set_option maxHeartbeats 1000000 in
set_option maxRecDepth 20000 in
theorem tkH_set (G : Nat → Nat → Int32) (x y z : Int32) : tkM_set_s G x y z 0 0 = G 0 0 := by
  unfold tkM_set_s
  repeat' split
  all_goals rfl
set_option maxHeartbeats 1000000 in
set_option maxRecDepth 20000 in
theorem tkH_serve (G : Nat → Nat → Int32) (x y : Int32) : tkM_serve_s G x y 0 0 = G 0 0 := by
  unfold tkM_serve_s
  repeat' split
  all_goals rfl
set_option maxHeartbeats 1000000 in
set_option maxRecDepth 20000 in
theorem tkH_begin (G : Nat → Nat → Int32) (x y : Int32) : tkM_begin_s G x y 0 0 = G 0 0 := by
  unfold tkM_begin_s
  repeat' split
  all_goals rfl
set_option maxHeartbeats 1000000 in
set_option maxRecDepth 20000 in
theorem tkH_rule (G : Nat → Nat → Int32) (x y : Int32) : tkM_rule_s G x y 0 0 = G 0 0 := by
  unfold tkM_rule_s
  repeat' split
  all_goals rfl
set_option maxHeartbeats 1000000 in
set_option maxRecDepth 20000 in
theorem tkH_writeSecond (G : Nat → Nat → Int32) (x y : Int32) : tkM_writeSecond_s G x y 0 0 = G 0 0 := by
  unfold tkM_writeSecond_s
  repeat' split
  all_goals rfl
set_option maxHeartbeats 1000000 in
set_option maxRecDepth 20000 in
theorem tkH_writeFirst (G : Nat → Nat → Int32) (x y : Int32) : tkM_writeFirst_s G x y 0 0 = G 0 0 := by
  unfold tkM_writeFirst_s
  repeat' split
  all_goals first | rfl | exact tkH_rule _ _ _ | exact tkH_begin _ _ _
set_option maxHeartbeats 1000000 in
set_option maxRecDepth 20000 in
theorem tkH_readFirst (G : Nat → Nat → Int32) (x : Int32) : tkM_readFirst_s G x 0 0 = G 0 0 := by
  unfold tkM_readFirst_s
  repeat' split
  all_goals first | rfl | exact tkH_serve _ _ _
set_option maxHeartbeats 1000000 in
set_option maxRecDepth 20000 in
theorem tkH_latch (G : Nat → Nat → Int32) (x : Int32) : tkM_latch_s G x 0 0 = G 0 0 := by
  unfold tkM_latch_s
  repeat' split
  all_goals rfl
set_option maxHeartbeats 1000000 in
set_option maxRecDepth 20000 in
theorem tkH_latchStatus (G : Nat → Nat → Int32) (x : Int32) : tkM_latchStatus_s G x 0 0 = G 0 0 := by
  unfold tkM_latchStatus_s
  repeat' split
  all_goals rfl
set_option maxHeartbeats 1000000 in
set_option maxRecDepth 20000 in
theorem tkH_writeCounter (G : Nat → Nat → Int32) (x y : Int32) : tkM_writeCounter_s G x y 0 0 = G 0 0 := by
  unfold tkM_writeCounter_s
  repeat' split
  all_goals rfl
set_option maxHeartbeats 1000000 in
set_option maxRecDepth 20000 in
theorem tkH_readCounter (G : Nat → Nat → Int32) (x : Int32) : tkM_readCounter_s G x 0 0 = G 0 0 := by
  unfold tkM_readCounter_s
  repeat' split
  all_goals rfl
set_option maxHeartbeats 1000000 in
set_option maxRecDepth 20000 in
theorem tkH_put (G : Nat → Nat → Int32) (x v : Int32) : tkM_put_s G x v 0 0 = G 0 0 := by
  rfl
set_option maxHeartbeats 1000000 in
set_option maxRecDepth 20000 in
theorem tkH_turn (G : Nat → Nat → Int32) (x : Int32) : tkM_turn_s G x 0 0 = G 0 0 := by
  unfold tkM_turn_s
  repeat' split
  all_goals rfl
set_option maxHeartbeats 1000000 in
set_option maxRecDepth 20000 in
theorem tkH_step (G : Nat → Nat → Int32) (x : Int32) : tkM_step_s G x 0 0 = G 0 0 := by
  unfold tkM_step_s
  repeat' split
  all_goals first | rfl | exact tkH_turn _ _
set_option maxHeartbeats 1000000 in
set_option maxRecDepth 20000 in
theorem tkH_tickOne (G : Nat → Nat → Int32) (x : Int32) : tkM_tickOne_s G x 0 0 = G 0 0 := by
  unfold tkM_tickOne_s
  repeat' split
  all_goals first | rfl | exact tkH_step _ _
set_option maxHeartbeats 1000000 in
set_option maxRecDepth 20000 in
theorem tkH_follow (G : Nat → Nat → Int32) : tkM_follow_s G 0 0 = G 0 0 := by
  unfold tkM_follow_s
  split
  · rw [tkH_set, tkH_set]
  · rw [tkH_set, tkH_set]
