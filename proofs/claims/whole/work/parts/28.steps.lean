theorem tkb_or0 (x : Int32) : x ||| 0 = x := Int32.or_zero
theorem tkb_bitL {l : Int32} (h : tkLow l) (n : Int32) : ((1 : Int32) <<< (l &&& 31)) &&& (n ^^^ (-1)) = if (n >>> (l &&& 31)) &&& 1 = 1 then 0 else ((1 : Int32) <<< (l &&& 31)) := by
  rcases h with h | h | h | h | h | h | h | h <;> subst h
  · exact tkb_bit n 0 (by decide) _ rfl _ rfl
  · exact tkb_bit n 1 (by decide) _ rfl _ rfl
  · exact tkb_bit n 2 (by decide) _ rfl _ rfl
  · exact tkb_bit n 3 (by decide) _ rfl _ rfl
  · exact tkb_bit n 4 (by decide) _ rfl _ rfl
  · exact tkb_bit n 5 (by decide) _ rfl _ rfl
  · exact tkb_bit n 6 (by decide) _ rfl _ rfl
  · exact tkb_bit n 7 (by decide) _ rfl _ rfl
def tkByte (v : Int32) : Prop := ∃ n : Nat, n < 256 ∧ v = Int32.ofInt n
theorem tkb_ite {x y : Int32} (h : y = 0 ∨ y = 1) (e : x = 0 ↔ y = 0) : y = if x = 0 then 0 else 1 := by
  by_cases hx : x = 0
  · rw [if_pos hx]; exact e.mp hx
  · rw [if_neg hx]; exact h.elim (fun z => absurd (e.mpr z) hx) id
theorem tkb_ms {v : Int32} (h : tkByte v) : ((tkT_hasBit_r v 0 = if v &&& 1 = 0 then 0 else 1) ∧ (tkT_hasBit_r v 1 = if v &&& 2 = 0 then 0 else 1) ∧ (tkT_hasBit_r v 2 = if v &&& 4 = 0 then 0 else 1) ∧ (tkT_hasBit_r v 3 = if v &&& 8 = 0 then 0 else 1)) ∧ (tkT_hasBit_r v 4 = if v &&& 16 = 0 then 0 else 1) ∧ (tkT_hasBit_r v 5 = if v &&& 32 = 0 then 0 else 1) ∧ (tkT_hasBit_r v 6 = if v &&& 64 = 0 then 0 else 1) := by
  obtain ⟨n, hn, rfl⟩ := h
  obtain ⟨⟨⟨a0, a1, a2, a3⟩, a4, a5, a6⟩, -⟩ := tkb_msk n hn
  exact ⟨⟨tkb_ite (tkT_hasBit_b _ _) a0, tkb_ite (tkT_hasBit_b _ _) a1, tkb_ite (tkT_hasBit_b _ _) a2, tkb_ite (tkT_hasBit_b _ _) a3⟩, tkb_ite (tkT_hasBit_b _ _) a4, tkb_ite (tkT_hasBit_b _ _) a5, tkb_ite (tkT_hasBit_b _ _) a6⟩
set_option maxHeartbeats 400000 in
set_option maxRecDepth 20000 in
theorem tkR_serve0 (G : Nat → Nat → Int32) (l : Int32) : tkPsi (tkM_serve_s G 0 l) = tk_up (tkPsi G) 1 (tkC_serve_s (tkPsi G 1) l) := by
  unfold tkM_serve_s tkC_serve_s
  by_cases h1 : G 11 0 = 0 <;> by_cases h2 : G 14 0 = 0 <;> simp only [tkPsi_1, tkcl_0, tkFc_12, tkFc_15, tkCol, h1, h2, ↓reduceIte]
  all_goals exact tk_fxP rfl (tk_fx18 rfl rfl rfl rfl rfl rfl rfl rfl rfl rfl rfl rfl rfl rfl rfl rfl rfl rfl (fun _ => rfl)) (tk_fx18 rfl rfl rfl rfl rfl rfl rfl rfl rfl rfl rfl rfl rfl rfl rfl rfl rfl rfl (fun _ => rfl)) rfl (tk_fx14 rfl rfl rfl rfl rfl rfl rfl rfl rfl rfl rfl rfl rfl rfl (fun _ => rfl)) (tk_fx14 rfl rfl rfl rfl rfl rfl rfl rfl rfl rfl rfl rfl rfl rfl (fun _ => rfl)) (tk_fx14 rfl rfl rfl rfl rfl rfl rfl rfl rfl rfl rfl rfl rfl rfl (fun _ => rfl)) (fun _ => rfl)
set_option maxHeartbeats 400000 in
set_option maxRecDepth 20000 in
theorem tkR_set0 (G : Nat → Nat → Int32) (l b : Int32) (hl : tkLow l) : tkPsi (tkM_set_s G 0 l b) = tk_up (tkPsi G) 1 (tkC_setLine_s (tkPsi G 1) l b) := by
  unfold tkM_set_s tkC_setLine_s
  by_cases h1 : ((G 1 0) >>> (l &&& 31)) &&& 1 = 1 <;> by_cases h2 : b = 0 <;> simp only [tkPsi_1, tkcl_0, tkFc_1, tkFc_2, tkCol, tkb_bitL hl, tkb_or0, h1, h2, ↓reduceIte]
  all_goals exact tk_fxP rfl (tk_fx18 rfl rfl rfl rfl rfl rfl rfl rfl rfl rfl rfl rfl rfl rfl rfl rfl rfl rfl (fun _ => rfl)) (tk_fx18 rfl rfl rfl rfl rfl rfl rfl rfl rfl rfl rfl rfl rfl rfl rfl rfl rfl rfl (fun _ => rfl)) rfl (tk_fx14 rfl rfl rfl rfl rfl rfl rfl rfl rfl rfl rfl rfl rfl rfl (fun _ => rfl)) (tk_fx14 rfl rfl rfl rfl rfl rfl rfl rfl rfl rfl rfl rfl rfl rfl (fun _ => rfl)) (tk_fx14 rfl rfl rfl rfl rfl rfl rfl rfl rfl rfl rfl rfl rfl rfl (fun _ => rfl)) (fun _ => rfl)
set_option maxHeartbeats 400000 in
set_option maxRecDepth 20000 in
theorem tkR_begin0 (G : Nat → Nat → Int32) (v : Int32) (hv : tkByte v) : tkPsi (tkM_begin_s G 0 v) = tk_up (tkPsi G) 1 (tkC_beginSettingUp_s (tkPsi G 1) v) := by
  obtain ⟨⟨b0, b1, b2, b3⟩, b4, b5, b6⟩ := tkb_ms hv
  unfold tkM_begin_s tkC_beginSettingUp_s
  by_cases h1 : v &&& 8 = 0 <;> by_cases h2 : v &&& 2 = 0 <;> by_cases h3 : v &&& 1 = 0 <;> simp only [tkPsi_1, tkcl_0, b0, b1, b3, h1, h2, h3, ↓reduceIte]
  all_goals exact tk_fxP rfl (tk_fx18 rfl rfl rfl rfl rfl rfl rfl rfl rfl rfl rfl rfl rfl rfl rfl rfl rfl rfl (fun _ => rfl)) (tk_fx18 rfl rfl rfl rfl rfl rfl rfl rfl rfl rfl rfl rfl rfl rfl rfl rfl rfl rfl (fun _ => rfl)) rfl (tk_fx14 rfl rfl rfl rfl rfl rfl rfl rfl rfl rfl rfl rfl rfl rfl (fun _ => rfl)) (tk_fx14 rfl rfl rfl rfl rfl rfl rfl rfl rfl rfl rfl rfl rfl rfl (fun _ => rfl)) (tk_fx14 rfl rfl rfl rfl rfl rfl rfl rfl rfl rfl rfl rfl rfl rfl (fun _ => rfl)) (fun _ => rfl)
set_option maxHeartbeats 400000 in
set_option maxRecDepth 20000 in
theorem tkR_serve1 (G : Nat → Nat → Int32) (l : Int32) : tkPsi (tkM_serve_s G 1 l) = tk_up (tkPsi G) 2 (tkC_serve_s (tkPsi G 2) l) := by
  unfold tkM_serve_s tkC_serve_s
  by_cases h1 : G 11 1 = 0 <;> by_cases h2 : G 14 1 = 0 <;> simp only [tkPsi_2, tkcl_1, tkFc_12, tkFc_15, tkCol, h1, h2, ↓reduceIte]
  all_goals exact tk_fxP rfl (tk_fx18 rfl rfl rfl rfl rfl rfl rfl rfl rfl rfl rfl rfl rfl rfl rfl rfl rfl rfl (fun _ => rfl)) (tk_fx18 rfl rfl rfl rfl rfl rfl rfl rfl rfl rfl rfl rfl rfl rfl rfl rfl rfl rfl (fun _ => rfl)) rfl (tk_fx14 rfl rfl rfl rfl rfl rfl rfl rfl rfl rfl rfl rfl rfl rfl (fun _ => rfl)) (tk_fx14 rfl rfl rfl rfl rfl rfl rfl rfl rfl rfl rfl rfl rfl rfl (fun _ => rfl)) (tk_fx14 rfl rfl rfl rfl rfl rfl rfl rfl rfl rfl rfl rfl rfl rfl (fun _ => rfl)) (fun _ => rfl)
set_option maxHeartbeats 400000 in
set_option maxRecDepth 20000 in
theorem tkR_set1 (G : Nat → Nat → Int32) (l b : Int32) (hl : tkLow l) : tkPsi (tkM_set_s G 1 l b) = tk_up (tkPsi G) 2 (tkC_setLine_s (tkPsi G 2) l b) := by
  unfold tkM_set_s tkC_setLine_s
  by_cases h1 : ((G 1 1) >>> (l &&& 31)) &&& 1 = 1 <;> by_cases h2 : b = 0 <;> simp only [tkPsi_2, tkcl_1, tkFc_1, tkFc_2, tkCol, tkb_bitL hl, tkb_or0, h1, h2, ↓reduceIte]
  all_goals exact tk_fxP rfl (tk_fx18 rfl rfl rfl rfl rfl rfl rfl rfl rfl rfl rfl rfl rfl rfl rfl rfl rfl rfl (fun _ => rfl)) (tk_fx18 rfl rfl rfl rfl rfl rfl rfl rfl rfl rfl rfl rfl rfl rfl rfl rfl rfl rfl (fun _ => rfl)) rfl (tk_fx14 rfl rfl rfl rfl rfl rfl rfl rfl rfl rfl rfl rfl rfl rfl (fun _ => rfl)) (tk_fx14 rfl rfl rfl rfl rfl rfl rfl rfl rfl rfl rfl rfl rfl rfl (fun _ => rfl)) (tk_fx14 rfl rfl rfl rfl rfl rfl rfl rfl rfl rfl rfl rfl rfl rfl (fun _ => rfl)) (fun _ => rfl)
set_option maxHeartbeats 400000 in
set_option maxRecDepth 20000 in
theorem tkR_begin1 (G : Nat → Nat → Int32) (v : Int32) (hv : tkByte v) : tkPsi (tkM_begin_s G 1 v) = tk_up (tkPsi G) 2 (tkC_beginSettingUp_s (tkPsi G 2) v) := by
  obtain ⟨⟨b0, b1, b2, b3⟩, b4, b5, b6⟩ := tkb_ms hv
  unfold tkM_begin_s tkC_beginSettingUp_s
  by_cases h1 : v &&& 8 = 0 <;> by_cases h2 : v &&& 2 = 0 <;> by_cases h3 : v &&& 1 = 0 <;> simp only [tkPsi_2, tkcl_1, b0, b1, b3, h1, h2, h3, ↓reduceIte]
  all_goals exact tk_fxP rfl (tk_fx18 rfl rfl rfl rfl rfl rfl rfl rfl rfl rfl rfl rfl rfl rfl rfl rfl rfl rfl (fun _ => rfl)) (tk_fx18 rfl rfl rfl rfl rfl rfl rfl rfl rfl rfl rfl rfl rfl rfl rfl rfl rfl rfl (fun _ => rfl)) rfl (tk_fx14 rfl rfl rfl rfl rfl rfl rfl rfl rfl rfl rfl rfl rfl rfl (fun _ => rfl)) (tk_fx14 rfl rfl rfl rfl rfl rfl rfl rfl rfl rfl rfl rfl rfl rfl (fun _ => rfl)) (tk_fx14 rfl rfl rfl rfl rfl rfl rfl rfl rfl rfl rfl rfl rfl rfl (fun _ => rfl)) (fun _ => rfl)
