def tkInvC (G : Nat → Nat → Int32) (i : Nat) : Prop := tkLow (G 6 i) ∧ tkBl (G 13 i) ∧ (G 17 i = 0 ∨ G 17 i = 2 ∨ G 17 i = 3 ∨ G 17 i = 4)
def tkInv (G : Nat → Nat → Int32) : Prop := (tkInvC G 0 ∧ tkInvC G 1) ∧ tkInvN G 0 ∧ tkInvN G 1 ∧ tkInvN G 2
theorem tkb_vB (x : Int32) : tkBl (vp_nar .boolean x) := by
  have h : vp_nar .boolean x = x &&& 1 := rfl
  rw [h, tkb_lsb]
  cases x.toBitVec.getLsbD 0
  · exact Or.inl rfl
  · exact Or.inr rfl
theorem tkb_l7 : tkLow 7 := by unfold tkLow; decide
theorem tkb_and16 (x : Int32) : ∃ n, n < 65536 ∧ x &&& 65535 = nI n := pk_andE x (m := 65535) 16 (by decide)
theorem tkb_notneg {x : Int32} (h : ¬ x < 0) (hr : x = (-1) ∨ tkLow x) : tkLow x := hr.elim (fun e => absurd (by rw [e]; decide) h) id
theorem tkI_t {G : Nat → Nat → Int32} (h : tkInv G) (k : Int32) : tkInv (tk_up G 0 (fun _ => k)) := h
set_option maxHeartbeats 1000000 in
set_option maxRecDepth 20000 in
theorem tkI_set0 (G : Nat → Nat → Int32) (l b : Int32) (h : tkInv G) : tkInv (tkM_set_s G 0 l b) := by
  obtain ⟨⟨c0, c1⟩, n0, n1, n2⟩ := h
  unfold tkM_set_s
  repeat' split
  all_goals exact ⟨⟨⟨by first | exact c0.1 , by first | exact c0.2.1 | exact Or.inl rfl | exact Or.inr rfl | exact tkb_vB _, (by first | exact c0.2.2 | exact Or.inl rfl | exact Or.inr (Or.inl rfl) | exact Or.inr (Or.inr (Or.inl rfl)) | exact Or.inr (Or.inr (Or.inr rfl)))⟩, c1⟩, n0, n1, n2⟩
set_option maxHeartbeats 1000000 in
set_option maxRecDepth 20000 in
theorem tkI_serve0 (G : Nat → Nat → Int32) (l : Int32) (hl : tkLow l) (h : tkInv G) : tkInv (tkM_serve_s G 0 l) := by
  obtain ⟨⟨c0, c1⟩, n0, n1, n2⟩ := h
  unfold tkM_serve_s
  repeat' split
  all_goals exact ⟨⟨⟨by first | exact c0.1 | exact hl, by first | exact c0.2.1 | exact Or.inl rfl | exact Or.inr rfl | exact tkb_vB _, (by first | exact c0.2.2 | exact Or.inl rfl | exact Or.inr (Or.inl rfl) | exact Or.inr (Or.inr (Or.inl rfl)) | exact Or.inr (Or.inr (Or.inr rfl)))⟩, c1⟩, n0, n1, n2⟩
set_option maxHeartbeats 1000000 in
set_option maxRecDepth 20000 in
theorem tkI_begin0 (G : Nat → Nat → Int32) (v : Int32) (h : tkInv G) : tkInv (tkM_begin_s G 0 v) := by
  obtain ⟨⟨c0, c1⟩, n0, n1, n2⟩ := h
  unfold tkM_begin_s
  repeat' split
  all_goals exact ⟨⟨⟨by first | exact c0.1 | exact tkb_l7, by first | exact c0.2.1 | exact Or.inl rfl | exact Or.inr rfl | exact tkb_vB _, (by first | exact c0.2.2 | exact Or.inl rfl | exact Or.inr (Or.inl rfl) | exact Or.inr (Or.inr (Or.inl rfl)) | exact Or.inr (Or.inr (Or.inr rfl)))⟩, c1⟩, n0, n1, n2⟩
set_option maxHeartbeats 1000000 in
set_option maxRecDepth 20000 in
theorem tkI_rule0 (G : Nat → Nat → Int32) (v : Int32) (h : tkInv G) : tkInv (tkM_rule_s G 0 v) := by
  have hf : tkM_firstHeld_r G 0 = (-1) ∨ tkLow (tkM_firstHeld_r G 0) := by
    rw [tkR_first0 G h.1.1.1]
    exact tkR_frng _
  obtain ⟨⟨c0, c1⟩, n0, n1, n2⟩ := h
  unfold tkM_rule_s
  repeat' split
  all_goals first | exact ⟨⟨c0, c1⟩, n0, n1, n2⟩ | skip
  all_goals exact ⟨⟨⟨by first | exact c0.1 | exact tkb_and7 _| exact tkb_notneg (by assumption) hf, by first | exact c0.2.1 | exact Or.inl rfl | exact Or.inr rfl | exact tkb_vB _, (by first | exact c0.2.2 | exact Or.inl rfl | exact Or.inr (Or.inl rfl) | exact Or.inr (Or.inr (Or.inl rfl)) | exact Or.inr (Or.inr (Or.inr rfl)))⟩, c1⟩, n0, n1, n2⟩
set_option maxHeartbeats 1000000 in
set_option maxRecDepth 20000 in
theorem tkI_wf0 (G : Nat → Nat → Int32) (v : Int32) (h : tkInv G) : tkInv (tkM_writeFirst_s G 0 v) := by
  have hr := tkI_rule0 G v h
  have hb := tkI_begin0 G v h
  obtain ⟨⟨c0, c1⟩, n0, n1, n2⟩ := h
  unfold tkM_writeFirst_s
  repeat' split
  all_goals first | exact hr | exact hb | exact ⟨⟨c0, c1⟩, n0, n1, n2⟩ | skip
  all_goals exact ⟨⟨⟨by first | exact c0.1 , by first | exact c0.2.1 | exact Or.inl rfl | exact Or.inr rfl | exact tkb_vB _, (by first | exact c0.2.2 | exact Or.inl rfl | exact Or.inr (Or.inl rfl) | exact Or.inr (Or.inr (Or.inl rfl)) | exact Or.inr (Or.inr (Or.inr rfl)))⟩, c1⟩, n0, n1, n2⟩
set_option maxHeartbeats 2000000 in
set_option maxRecDepth 20000 in
theorem tkI_ws0 (G : Nat → Nat → Int32) (v : Int32) (h : tkInv G) : tkInv (tkM_writeSecond_s G 0 v) := by
  obtain ⟨⟨c0, c1⟩, n0, n1, n2⟩ := h
  unfold tkM_writeSecond_s
  repeat' split
  all_goals first | exact ⟨⟨c0, c1⟩, n0, n1, n2⟩ | skip
  all_goals exact ⟨⟨⟨by first | exact c0.1 , by first | exact c0.2.1 | exact Or.inl rfl | exact Or.inr rfl | exact tkb_vB _, (by first | exact c0.2.2 | exact Or.inl rfl | exact Or.inr (Or.inl rfl) | exact Or.inr (Or.inr (Or.inl rfl)) | exact Or.inr (Or.inr (Or.inr rfl)))⟩, c1⟩, n0, n1, n2⟩
set_option maxHeartbeats 1000000 in
set_option maxRecDepth 20000 in
theorem tkI_rf0 (G : Nat → Nat → Int32) (h : tkInv G) : tkInv (tkM_readFirst_s G 0) := by
  have h1 : tkInv (tk_up G 15 (upd (G 15) (0 : Int32).toNatClampNeg 0)) := h
  have hc : tkM_choice_r (tk_up G 15 (upd (G 15) (0 : Int32).toNatClampNeg 0)) 0 = (-1) ∨ tkLow (tkM_choice_r (tk_up G 15 (upd (G 15) (0 : Int32).toNatClampNeg 0)) 0) := by
    rw [tkR_choice0 (tk_up G 15 (upd (G 15) (0 : Int32).toNatClampNeg 0)) h1.1.1.1]
    exact tkR_rng _
  unfold tkM_readFirst_s
  split
  · exact h
  · split
    · rename_i hq
      refine tkI_serve0 _ _ (hc.elim (fun e => absurd hq (by rw [e]; decide)) id) h1
    · exact h1
set_option maxHeartbeats 1000000 in
set_option maxRecDepth 20000 in
theorem tkI_set1 (G : Nat → Nat → Int32) (l b : Int32) (h : tkInv G) : tkInv (tkM_set_s G 1 l b) := by
  obtain ⟨⟨c0, c1⟩, n0, n1, n2⟩ := h
  unfold tkM_set_s
  repeat' split
  all_goals exact ⟨⟨c0, ⟨by first | exact c1.1 , by first | exact c1.2.1 | exact Or.inl rfl | exact Or.inr rfl | exact tkb_vB _, (by first | exact c1.2.2 | exact Or.inl rfl | exact Or.inr (Or.inl rfl) | exact Or.inr (Or.inr (Or.inl rfl)) | exact Or.inr (Or.inr (Or.inr rfl)))⟩⟩, n0, n1, n2⟩
set_option maxHeartbeats 1000000 in
set_option maxRecDepth 20000 in
theorem tkI_serve1 (G : Nat → Nat → Int32) (l : Int32) (hl : tkLow l) (h : tkInv G) : tkInv (tkM_serve_s G 1 l) := by
  obtain ⟨⟨c0, c1⟩, n0, n1, n2⟩ := h
  unfold tkM_serve_s
  repeat' split
  all_goals exact ⟨⟨c0, ⟨by first | exact c1.1 | exact hl, by first | exact c1.2.1 | exact Or.inl rfl | exact Or.inr rfl | exact tkb_vB _, (by first | exact c1.2.2 | exact Or.inl rfl | exact Or.inr (Or.inl rfl) | exact Or.inr (Or.inr (Or.inl rfl)) | exact Or.inr (Or.inr (Or.inr rfl)))⟩⟩, n0, n1, n2⟩
set_option maxHeartbeats 1000000 in
set_option maxRecDepth 20000 in
theorem tkI_begin1 (G : Nat → Nat → Int32) (v : Int32) (h : tkInv G) : tkInv (tkM_begin_s G 1 v) := by
  obtain ⟨⟨c0, c1⟩, n0, n1, n2⟩ := h
  unfold tkM_begin_s
  repeat' split
  all_goals exact ⟨⟨c0, ⟨by first | exact c1.1 | exact tkb_l7, by first | exact c1.2.1 | exact Or.inl rfl | exact Or.inr rfl | exact tkb_vB _, (by first | exact c1.2.2 | exact Or.inl rfl | exact Or.inr (Or.inl rfl) | exact Or.inr (Or.inr (Or.inl rfl)) | exact Or.inr (Or.inr (Or.inr rfl)))⟩⟩, n0, n1, n2⟩
set_option maxHeartbeats 1000000 in
set_option maxRecDepth 20000 in
theorem tkI_rule1 (G : Nat → Nat → Int32) (v : Int32) (h : tkInv G) : tkInv (tkM_rule_s G 1 v) := by
  have hf : tkM_firstHeld_r G 1 = (-1) ∨ tkLow (tkM_firstHeld_r G 1) := by
    rw [tkR_first1 G h.1.2.1]
    exact tkR_frng _
  obtain ⟨⟨c0, c1⟩, n0, n1, n2⟩ := h
  unfold tkM_rule_s
  repeat' split
  all_goals first | exact ⟨⟨c0, c1⟩, n0, n1, n2⟩ | skip
  all_goals exact ⟨⟨c0, ⟨by first | exact c1.1 | exact tkb_and7 _| exact tkb_notneg (by assumption) hf, by first | exact c1.2.1 | exact Or.inl rfl | exact Or.inr rfl | exact tkb_vB _, (by first | exact c1.2.2 | exact Or.inl rfl | exact Or.inr (Or.inl rfl) | exact Or.inr (Or.inr (Or.inl rfl)) | exact Or.inr (Or.inr (Or.inr rfl)))⟩⟩, n0, n1, n2⟩
set_option maxHeartbeats 1000000 in
set_option maxRecDepth 20000 in
theorem tkI_wf1 (G : Nat → Nat → Int32) (v : Int32) (h : tkInv G) : tkInv (tkM_writeFirst_s G 1 v) := by
  have hr := tkI_rule1 G v h
  have hb := tkI_begin1 G v h
  obtain ⟨⟨c0, c1⟩, n0, n1, n2⟩ := h
  unfold tkM_writeFirst_s
  repeat' split
  all_goals first | exact hr | exact hb | exact ⟨⟨c0, c1⟩, n0, n1, n2⟩ | skip
  all_goals exact ⟨⟨c0, ⟨by first | exact c1.1 , by first | exact c1.2.1 | exact Or.inl rfl | exact Or.inr rfl | exact tkb_vB _, (by first | exact c1.2.2 | exact Or.inl rfl | exact Or.inr (Or.inl rfl) | exact Or.inr (Or.inr (Or.inl rfl)) | exact Or.inr (Or.inr (Or.inr rfl)))⟩⟩, n0, n1, n2⟩
set_option maxHeartbeats 2000000 in
set_option maxRecDepth 20000 in
theorem tkI_ws1 (G : Nat → Nat → Int32) (v : Int32) (h : tkInv G) : tkInv (tkM_writeSecond_s G 1 v) := by
  obtain ⟨⟨c0, c1⟩, n0, n1, n2⟩ := h
  unfold tkM_writeSecond_s
  repeat' split
  all_goals first | exact ⟨⟨c0, c1⟩, n0, n1, n2⟩ | skip
  all_goals exact ⟨⟨c0, ⟨by first | exact c1.1 , by first | exact c1.2.1 | exact Or.inl rfl | exact Or.inr rfl | exact tkb_vB _, (by first | exact c1.2.2 | exact Or.inl rfl | exact Or.inr (Or.inl rfl) | exact Or.inr (Or.inr (Or.inl rfl)) | exact Or.inr (Or.inr (Or.inr rfl)))⟩⟩, n0, n1, n2⟩
set_option maxHeartbeats 1000000 in
set_option maxRecDepth 20000 in
theorem tkI_rf1 (G : Nat → Nat → Int32) (h : tkInv G) : tkInv (tkM_readFirst_s G 1) := by
  have h1 : tkInv (tk_up G 15 (upd (G 15) (1 : Int32).toNatClampNeg 0)) := h
  have hc : tkM_choice_r (tk_up G 15 (upd (G 15) (1 : Int32).toNatClampNeg 0)) 1 = (-1) ∨ tkLow (tkM_choice_r (tk_up G 15 (upd (G 15) (1 : Int32).toNatClampNeg 0)) 1) := by
    rw [tkR_choice1 (tk_up G 15 (upd (G 15) (1 : Int32).toNatClampNeg 0)) h1.1.2.1]
    exact tkR_rng _
  unfold tkM_readFirst_s
  split
  · exact h
  · split
    · rename_i hq
      refine tkI_serve1 _ _ (hc.elim (fun e => absurd hq (by rw [e]; decide)) id) h1
    · exact h1
set_option maxHeartbeats 1000000 in
set_option maxRecDepth 20000 in
theorem tkI_follow (G : Nat → Nat → Int32) (h : tkInv G) : tkInv (tkM_follow_s G) := by
  unfold tkM_follow_s
  split
  · exact tkI_set0 _ _ _ (tkI_set0 _ _ _ h)
  · exact tkI_set0 _ _ _ (tkI_set0 _ _ _ h)
set_option maxHeartbeats 1000000 in
set_option maxRecDepth 20000 in
theorem tkI_latch0 (G : Nat → Nat → Int32) (h : tkInv G) : tkInv (tkM_latch_s G 0) := by
  obtain ⟨⟨c0, c1⟩, n0, n1, n2⟩ := h
  obtain ⟨⟨hb19, hb25⟩, hm, ha, hm1, hm2, ha3, hr, hc, hlow, hl, hs, h26⟩ := n0
  unfold tkM_latch_s
  repeat' split
  all_goals exact ⟨⟨c0, c1⟩, ⟨⟨(by first | exact hb19 | exact Or.inl rfl | exact Or.inr rfl | exact tkb_vB _ ), (by first | exact hb25 | exact Or.inl rfl | exact Or.inr rfl | exact tkb_vB _ )⟩, (by first | exact hm ), (by first | exact ha ), (by first | exact hm1 ), (by first | exact hm2 ), (by first | exact ha3 ), (by first | exact hr ), (by first | exact hc | exact tkb_and16 _ ), (by first | exact hlow ), (by first | exact hl | exact Or.inl rfl | exact Or.inr hc ), (by first | exact hs | exact Or.inl rfl ), (by first | exact h26 | exact rfl )⟩, n1, n2⟩
set_option maxHeartbeats 1000000 in
set_option maxRecDepth 20000 in
theorem tkI_put0 (G : Nat → Nat → Int32) (v : Int32) (h : tkInv G) : tkInv (tkM_put_s G 0 v) := by
  obtain ⟨⟨c0, c1⟩, n0, n1, n2⟩ := h
  obtain ⟨⟨hb19, hb25⟩, hm, ha, hm1, hm2, ha3, hr, hc, hlow, hl, hs, h26⟩ := n0
  unfold tkM_put_s
  exact ⟨⟨c0, c1⟩, ⟨⟨(by first | exact hb19 | exact Or.inl rfl | exact Or.inr rfl | exact tkb_vB _ ), (by first | exact hb25 | exact Or.inl rfl | exact Or.inr rfl | exact tkb_vB _ )⟩, (by first | exact hm ), (by first | exact ha ), (by first | exact hm1 ), (by first | exact hm2 ), (by first | exact ha3 ), (by first | exact hr ), (by first | exact hc | exact tkb_and16 _ ), (by first | exact hlow ), (by first | exact hl | exact Or.inl rfl | exact Or.inr hc ), (by first | exact hs | exact Or.inl rfl ), (by first | exact h26 | exact rfl )⟩, n1, n2⟩
set_option maxHeartbeats 4000000 in
set_option maxRecDepth 20000 in
theorem tkI_turn0 (G : Nat → Nat → Int32) (h : tkInv G) : tkInv (tkM_turn_s G 0) := by
  obtain ⟨⟨c0, c1⟩, n0, n1, n2⟩ := h
  obtain ⟨⟨hb19, hb25⟩, hm, ha, hm1, hm2, ha3, hr, hc, hlow, hl, hs, h26⟩ := n0
  unfold tkM_turn_s
  repeat' split
  all_goals exact ⟨⟨c0, c1⟩, ⟨⟨(by first | exact hb19 | exact Or.inl rfl | exact Or.inr rfl | exact tkb_vB _ ), (by first | exact hb25 | exact Or.inl rfl | exact Or.inr rfl | exact tkb_vB _ )⟩, (by first | exact hm ), (by first | exact ha ), (by first | exact hm1 ), (by first | exact hm2 ), (by first | exact ha3 ), (by first | exact hr ), (by first | exact hc | exact tkb_and16 _ ), (by first | exact hlow ), (by first | exact hl | exact Or.inl rfl | exact Or.inr hc ), (by first | exact hs | exact Or.inl rfl ), (by first | exact h26 | exact rfl )⟩, n1, n2⟩
set_option maxHeartbeats 4000000 in
set_option maxRecDepth 20000 in
theorem tkI_cd0 (G : Nat → Nat → Int32) (h : tkInv G) : tkInv (tkM_step_s G 0) := by
  have h0 := h
  obtain ⟨⟨c0, c1⟩, n0, n1, n2⟩ := h
  obtain ⟨⟨hb19, hb25⟩, hm, ha, hm1, hm2, ha3, hr, hc, hlow, hl, hs, h26⟩ := n0
  unfold tkM_step_s
  repeat' split
  all_goals first | exact tkI_turn0 _ (tkI_put0 _ _ h0) | exact tkI_put0 _ _ h0 | skip
  all_goals exact ⟨⟨c0, c1⟩, ⟨⟨(by first | exact hb19 | exact Or.inl rfl | exact Or.inr rfl | exact tkb_vB _ ), (by first | exact hb25 | exact Or.inl rfl | exact Or.inr rfl | exact tkb_vB _ )⟩, (by first | exact hm ), (by first | exact ha ), (by first | exact hm1 ), (by first | exact hm2 ), (by first | exact ha3 ), (by first | exact hr ), (by first | exact hc | exact tkb_and16 _ ), (by first | exact hlow ), (by first | exact hl | exact Or.inl rfl | exact Or.inr hc ), (by first | exact hs | exact Or.inl rfl ), (by first | exact h26 | exact rfl )⟩, n1, n2⟩
set_option maxHeartbeats 4000000 in
set_option maxRecDepth 20000 in
theorem tkI_tick0 (G : Nat → Nat → Int32) (h : tkInv G) : tkInv (tkM_tickOne_s G 0) := by
  have hcdI := tkI_cd0 G h
  have h0 := h
  obtain ⟨⟨c0, c1⟩, n0, n1, n2⟩ := h
  obtain ⟨⟨hb19, hb25⟩, hm, ha, hm1, hm2, ha3, hr, hc, hlow, hl, hs, h26⟩ := n0
  unfold tkM_tickOne_s
  repeat' split
  all_goals first | exact h0 | exact hcdI | skip
  all_goals exact ⟨⟨c0, c1⟩, ⟨⟨(by first | exact hb19 | exact Or.inl rfl | exact Or.inr rfl | exact tkb_vB _ ), (by first | exact hb25 | exact Or.inl rfl | exact Or.inr rfl | exact tkb_vB _ )⟩, (by first | exact hm ), (by first | exact ha ), (by first | exact hm1 ), (by first | exact hm2 ), (by first | exact ha3 ), (by first | exact hr ), (by first | exact hc | exact tkb_and16 _ ), (by first | exact hlow ), (by first | exact hl | exact Or.inl rfl | exact Or.inr hc ), (by first | exact hs | exact Or.inl rfl ), (by first | exact h26 | exact rfl )⟩, n1, n2⟩
set_option maxHeartbeats 1000000 in
set_option maxRecDepth 20000 in
theorem tkI_latch1 (G : Nat → Nat → Int32) (h : tkInv G) : tkInv (tkM_latch_s G 1) := by
  obtain ⟨⟨c0, c1⟩, n0, n1, n2⟩ := h
  obtain ⟨⟨hb19, hb25⟩, hm, ha, hm1, hm2, ha3, hr, hc, hlow, hl, hs, h26⟩ := n1
  unfold tkM_latch_s
  repeat' split
  all_goals exact ⟨⟨c0, c1⟩, n0, ⟨⟨(by first | exact hb19 | exact Or.inl rfl | exact Or.inr rfl | exact tkb_vB _ ), (by first | exact hb25 | exact Or.inl rfl | exact Or.inr rfl | exact tkb_vB _ )⟩, (by first | exact hm ), (by first | exact ha ), (by first | exact hm1 ), (by first | exact hm2 ), (by first | exact ha3 ), (by first | exact hr ), (by first | exact hc | exact tkb_and16 _ ), (by first | exact hlow ), (by first | exact hl | exact Or.inl rfl | exact Or.inr hc ), (by first | exact hs | exact Or.inl rfl ), (by first | exact h26 | exact rfl )⟩, n2⟩
set_option maxHeartbeats 1000000 in
set_option maxRecDepth 20000 in
theorem tkI_put1 (G : Nat → Nat → Int32) (v : Int32) (h : tkInv G) : tkInv (tkM_put_s G 1 v) := by
  obtain ⟨⟨c0, c1⟩, n0, n1, n2⟩ := h
  obtain ⟨⟨hb19, hb25⟩, hm, ha, hm1, hm2, ha3, hr, hc, hlow, hl, hs, h26⟩ := n1
  unfold tkM_put_s
  exact ⟨⟨c0, c1⟩, n0, ⟨⟨(by first | exact hb19 | exact Or.inl rfl | exact Or.inr rfl | exact tkb_vB _ ), (by first | exact hb25 | exact Or.inl rfl | exact Or.inr rfl | exact tkb_vB _ )⟩, (by first | exact hm ), (by first | exact ha ), (by first | exact hm1 ), (by first | exact hm2 ), (by first | exact ha3 ), (by first | exact hr ), (by first | exact hc | exact tkb_and16 _ ), (by first | exact hlow ), (by first | exact hl | exact Or.inl rfl | exact Or.inr hc ), (by first | exact hs | exact Or.inl rfl ), (by first | exact h26 | exact rfl )⟩, n2⟩
set_option maxHeartbeats 4000000 in
set_option maxRecDepth 20000 in
theorem tkI_turn1 (G : Nat → Nat → Int32) (h : tkInv G) : tkInv (tkM_turn_s G 1) := by
  obtain ⟨⟨c0, c1⟩, n0, n1, n2⟩ := h
  obtain ⟨⟨hb19, hb25⟩, hm, ha, hm1, hm2, ha3, hr, hc, hlow, hl, hs, h26⟩ := n1
  unfold tkM_turn_s
  repeat' split
  all_goals exact ⟨⟨c0, c1⟩, n0, ⟨⟨(by first | exact hb19 | exact Or.inl rfl | exact Or.inr rfl | exact tkb_vB _ ), (by first | exact hb25 | exact Or.inl rfl | exact Or.inr rfl | exact tkb_vB _ )⟩, (by first | exact hm ), (by first | exact ha ), (by first | exact hm1 ), (by first | exact hm2 ), (by first | exact ha3 ), (by first | exact hr ), (by first | exact hc | exact tkb_and16 _ ), (by first | exact hlow ), (by first | exact hl | exact Or.inl rfl | exact Or.inr hc ), (by first | exact hs | exact Or.inl rfl ), (by first | exact h26 | exact rfl )⟩, n2⟩
set_option maxHeartbeats 4000000 in
set_option maxRecDepth 20000 in
theorem tkI_cd1 (G : Nat → Nat → Int32) (h : tkInv G) : tkInv (tkM_step_s G 1) := by
  have h0 := h
  obtain ⟨⟨c0, c1⟩, n0, n1, n2⟩ := h
  obtain ⟨⟨hb19, hb25⟩, hm, ha, hm1, hm2, ha3, hr, hc, hlow, hl, hs, h26⟩ := n1
  unfold tkM_step_s
  repeat' split
  all_goals first | exact tkI_turn1 _ (tkI_put1 _ _ h0) | exact tkI_put1 _ _ h0 | skip
  all_goals exact ⟨⟨c0, c1⟩, n0, ⟨⟨(by first | exact hb19 | exact Or.inl rfl | exact Or.inr rfl | exact tkb_vB _ ), (by first | exact hb25 | exact Or.inl rfl | exact Or.inr rfl | exact tkb_vB _ )⟩, (by first | exact hm ), (by first | exact ha ), (by first | exact hm1 ), (by first | exact hm2 ), (by first | exact ha3 ), (by first | exact hr ), (by first | exact hc | exact tkb_and16 _ ), (by first | exact hlow ), (by first | exact hl | exact Or.inl rfl | exact Or.inr hc ), (by first | exact hs | exact Or.inl rfl ), (by first | exact h26 | exact rfl )⟩, n2⟩
set_option maxHeartbeats 4000000 in
set_option maxRecDepth 20000 in
theorem tkI_tick1 (G : Nat → Nat → Int32) (h : tkInv G) : tkInv (tkM_tickOne_s G 1) := by
  have hcdI := tkI_cd1 G h
  have h0 := h
  obtain ⟨⟨c0, c1⟩, n0, n1, n2⟩ := h
  obtain ⟨⟨hb19, hb25⟩, hm, ha, hm1, hm2, ha3, hr, hc, hlow, hl, hs, h26⟩ := n1
  unfold tkM_tickOne_s
  repeat' split
  all_goals first | exact h0 | exact hcdI | skip
  all_goals exact ⟨⟨c0, c1⟩, n0, ⟨⟨(by first | exact hb19 | exact Or.inl rfl | exact Or.inr rfl | exact tkb_vB _ ), (by first | exact hb25 | exact Or.inl rfl | exact Or.inr rfl | exact tkb_vB _ )⟩, (by first | exact hm ), (by first | exact ha ), (by first | exact hm1 ), (by first | exact hm2 ), (by first | exact ha3 ), (by first | exact hr ), (by first | exact hc | exact tkb_and16 _ ), (by first | exact hlow ), (by first | exact hl | exact Or.inl rfl | exact Or.inr hc ), (by first | exact hs | exact Or.inl rfl ), (by first | exact h26 | exact rfl )⟩, n2⟩
set_option maxHeartbeats 1000000 in
set_option maxRecDepth 20000 in
theorem tkI_latch2 (G : Nat → Nat → Int32) (h : tkInv G) : tkInv (tkM_latch_s G 2) := by
  obtain ⟨⟨c0, c1⟩, n0, n1, n2⟩ := h
  obtain ⟨⟨hb19, hb25⟩, hm, ha, hm1, hm2, ha3, hr, hc, hlow, hl, hs, h26⟩ := n2
  unfold tkM_latch_s
  repeat' split
  all_goals exact ⟨⟨c0, c1⟩, n0, n1, ⟨⟨(by first | exact hb19 | exact Or.inl rfl | exact Or.inr rfl | exact tkb_vB _ ), (by first | exact hb25 | exact Or.inl rfl | exact Or.inr rfl | exact tkb_vB _ )⟩, (by first | exact hm ), (by first | exact ha ), (by first | exact hm1 ), (by first | exact hm2 ), (by first | exact ha3 ), (by first | exact hr ), (by first | exact hc | exact tkb_and16 _ ), (by first | exact hlow ), (by first | exact hl | exact Or.inl rfl | exact Or.inr hc ), (by first | exact hs | exact Or.inl rfl ), (by first | exact h26 | exact rfl )⟩⟩
set_option maxHeartbeats 1000000 in
set_option maxRecDepth 20000 in
theorem tkI_put2 (G : Nat → Nat → Int32) (v : Int32) (h : tkInv G) : tkInv (tkM_put_s G 2 v) := by
  obtain ⟨⟨c0, c1⟩, n0, n1, n2⟩ := h
  obtain ⟨⟨hb19, hb25⟩, hm, ha, hm1, hm2, ha3, hr, hc, hlow, hl, hs, h26⟩ := n2
  unfold tkM_put_s
  exact ⟨⟨c0, c1⟩, n0, n1, ⟨⟨(by first | exact hb19 | exact Or.inl rfl | exact Or.inr rfl | exact tkb_vB _ ), (by first | exact hb25 | exact Or.inl rfl | exact Or.inr rfl | exact tkb_vB _ )⟩, (by first | exact hm ), (by first | exact ha ), (by first | exact hm1 ), (by first | exact hm2 ), (by first | exact ha3 ), (by first | exact hr ), (by first | exact hc | exact tkb_and16 _ ), (by first | exact hlow ), (by first | exact hl | exact Or.inl rfl | exact Or.inr hc ), (by first | exact hs | exact Or.inl rfl ), (by first | exact h26 | exact rfl )⟩⟩
set_option maxHeartbeats 4000000 in
set_option maxRecDepth 20000 in
theorem tkI_turn2 (G : Nat → Nat → Int32) (h : tkInv G) : tkInv (tkM_turn_s G 2) := by
  obtain ⟨⟨c0, c1⟩, n0, n1, n2⟩ := h
  obtain ⟨⟨hb19, hb25⟩, hm, ha, hm1, hm2, ha3, hr, hc, hlow, hl, hs, h26⟩ := n2
  unfold tkM_turn_s
  repeat' split
  all_goals exact ⟨⟨c0, c1⟩, n0, n1, ⟨⟨(by first | exact hb19 | exact Or.inl rfl | exact Or.inr rfl | exact tkb_vB _ ), (by first | exact hb25 | exact Or.inl rfl | exact Or.inr rfl | exact tkb_vB _ )⟩, (by first | exact hm ), (by first | exact ha ), (by first | exact hm1 ), (by first | exact hm2 ), (by first | exact ha3 ), (by first | exact hr ), (by first | exact hc | exact tkb_and16 _ ), (by first | exact hlow ), (by first | exact hl | exact Or.inl rfl | exact Or.inr hc ), (by first | exact hs | exact Or.inl rfl ), (by first | exact h26 | exact rfl )⟩⟩
set_option maxHeartbeats 4000000 in
set_option maxRecDepth 20000 in
theorem tkI_cd2 (G : Nat → Nat → Int32) (h : tkInv G) : tkInv (tkM_step_s G 2) := by
  have h0 := h
  obtain ⟨⟨c0, c1⟩, n0, n1, n2⟩ := h
  obtain ⟨⟨hb19, hb25⟩, hm, ha, hm1, hm2, ha3, hr, hc, hlow, hl, hs, h26⟩ := n2
  unfold tkM_step_s
  repeat' split
  all_goals first | exact tkI_turn2 _ (tkI_put2 _ _ h0) | exact tkI_put2 _ _ h0 | skip
  all_goals exact ⟨⟨c0, c1⟩, n0, n1, ⟨⟨(by first | exact hb19 | exact Or.inl rfl | exact Or.inr rfl | exact tkb_vB _ ), (by first | exact hb25 | exact Or.inl rfl | exact Or.inr rfl | exact tkb_vB _ )⟩, (by first | exact hm ), (by first | exact ha ), (by first | exact hm1 ), (by first | exact hm2 ), (by first | exact ha3 ), (by first | exact hr ), (by first | exact hc | exact tkb_and16 _ ), (by first | exact hlow ), (by first | exact hl | exact Or.inl rfl | exact Or.inr hc ), (by first | exact hs | exact Or.inl rfl ), (by first | exact h26 | exact rfl )⟩⟩
set_option maxHeartbeats 4000000 in
set_option maxRecDepth 20000 in
theorem tkI_tick2 (G : Nat → Nat → Int32) (h : tkInv G) : tkInv (tkM_tickOne_s G 2) := by
  have hcdI := tkI_cd2 G h
  have h0 := h
  obtain ⟨⟨c0, c1⟩, n0, n1, n2⟩ := h
  obtain ⟨⟨hb19, hb25⟩, hm, ha, hm1, hm2, ha3, hr, hc, hlow, hl, hs, h26⟩ := n2
  unfold tkM_tickOne_s
  repeat' split
  all_goals first | exact h0 | exact hcdI | skip
  all_goals exact ⟨⟨c0, c1⟩, n0, n1, ⟨⟨(by first | exact hb19 | exact Or.inl rfl | exact Or.inr rfl | exact tkb_vB _ ), (by first | exact hb25 | exact Or.inl rfl | exact Or.inr rfl | exact tkb_vB _ )⟩, (by first | exact hm ), (by first | exact ha ), (by first | exact hm1 ), (by first | exact hm2 ), (by first | exact ha3 ), (by first | exact hr ), (by first | exact hc | exact tkb_and16 _ ), (by first | exact hlow ), (by first | exact hl | exact Or.inl rfl | exact Or.inr hc ), (by first | exact hs | exact Or.inl rfl ), (by first | exact h26 | exact rfl )⟩⟩
