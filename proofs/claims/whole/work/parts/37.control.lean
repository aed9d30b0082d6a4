set_option maxHeartbeats 1000000 in
set_option maxRecDepth 20000 in
theorem tkb_ctl : ∀ n : Nat, n < 256 → ((((nI n) >>> ((6 : Int32) &&& 31) = 0 ∨ (nI n) >>> ((6 : Int32) &&& 31) = 1 ∨ (nI n) >>> ((6 : Int32) &&& 31) = 2 ∨ (nI n) >>> ((6 : Int32) &&& 31) = 3) ∧ (((nI n) >>> ((4 : Int32) &&& 31)) &&& 3 = 0 ∨ ((nI n) >>> ((4 : Int32) &&& 31)) &&& 3 = 1 ∨ ((nI n) >>> ((4 : Int32) &&& 31)) &&& 3 = 2 ∨ ((nI n) >>> ((4 : Int32) &&& 31)) &&& 3 = 3)) ∧ (((nI n) &&& 32 = 0 ↔ tkT_hasBit_r (nI n) 5 = 0) ∧ ((nI n) &&& 16 = 0 ↔ tkT_hasBit_r (nI n) 4 = 0))) := by
  decide +kernel
theorem tkb_hb1 (v s : Int32) : (if (v >>> (s &&& 31)) &&& 1 = 1 then (1 : Int32) else 0) = tkT_hasBit_r v s := by
  unfold tkT_hasBit_r
  by_cases h : (v >>> (s &&& 31)) &&& 1 = 0
  · rw [if_pos h, if_neg (fun q => (tkb_01 _).mp q h)]
  · rw [if_neg h, if_pos ((tkb_01 _).mpr h)]
theorem tkb_m1 {G : Nat → Nat → Int32} {j : Nat} (h : tkInvN G j) : (G 20 j < 0) = (G 20 j = (-1)) := by
  obtain ⟨-, hm, -⟩ := h
  rcases hm with e | e | e | e | e | e | e <;> rw [e] <;> decide
theorem tkN_lc {c : Nat → Int32} (e : c 2 = (-1)) : tkN_latchCount_s c = c ∧ tkN_latchStatus_s c = c := by
  unfold tkN_latchCount_s tkN_latchStatus_s tkN_hasMode_r
  simp (decide := true) only [e, ↓reduceIte]
  first | done | exact ⟨trivial, trivial⟩
def tkLA0 (X : Nat → Nat → Int32) (v : Int32) : Int32 :=
  if (v >>> ((1 + 0) &&& 31)) &&& 1 = 1 then (if (X 20) (0 : Int32).toNatClampNeg < 0 then 0
    else 1)
  else 0
def tkLB0 (X : Nat → Nat → Int32) (v : Int32) : Nat → Nat → Int32 :=
  if tkLA0 X v = 0 then X
  else if v &&& 32 = 0 then tkM_latch_s X 0
    else X
def tkLD0 (X : Nat → Nat → Int32) (v : Int32) : Nat → Nat → Int32 :=
  if tkLA0 X v = 0 then tkLB0 X v
  else if v &&& 16 = 0 then tkM_latchStatus_s (tkLB0 X v) 0
    else tkLB0 X v
def tkLE0 (g : Nat → Nat → Int32) (v : Int32) : Nat → Nat → Int32 :=
  if tkT_hasBit_r v 5 = 0 then tk_up g 4 (tkN_latchCount_s (g 4))
  else g
def tkLF0 (g : Nat → Nat → Int32) (v : Int32) : Nat → Nat → Int32 :=
  if tkT_hasBit_r v (1 + 0) = 0 then g
  else if tkT_hasBit_r v 4 = 0 then tk_up (tkLE0 g v) 4 (tkN_latchStatus_s ((tkLE0 g v) 4))
    else tkLE0 g v
theorem tkM_l20_0 (X : Nat → Nat → Int32) : (tkM_latch_s X 0) 20 0 = X 20 0 := by
  unfold tkM_latch_s
  repeat' split
  all_goals rfl
set_option maxHeartbeats 1000000 in
set_option maxRecDepth 20000 in
theorem tkR_lm0 (X : Nat → Nat → Int32) (h : tkInv X) (v : Int32) (e5 : v &&& 32 = 0 ↔ tkT_hasBit_r v 5 = 0) (e4 : v &&& 16 = 0 ↔ tkT_hasBit_r v 4 = 0) : tkPsi (tkLD0 X v) = tkLF0 (tkPsi X) v ∧ tkInv (tkLD0 X v) ∧ (tkLD0 X v) 0 0 = X 0 0 := by
  have hn : tkInvN X 0 := h.2.1
  have hm := tkb_m1 hn
  have hbit := tkb_01 (v >>> ((1 + 0) &&& 31))
  by_cases b : (v >>> ((1 + 0) &&& 31)) &&& 1 = 0
  · have b1 : ¬ (v >>> ((1 + 0) &&& 31)) &&& 1 = 1 := fun q => hbit.mp q b
    unfold tkLD0 tkLB0 tkLA0 tkLF0
    have b2 : tkT_hasBit_r v (1 + 0) = 0 := by unfold tkT_hasBit_r; rw [if_pos b]
    simp (decide := true) only [b1, b2, ↓reduceIte]
    exact ⟨trivial, h, trivial⟩
  · have b1 : (v >>> ((1 + 0) &&& 31)) &&& 1 = 1 := hbit.mpr b
    have b2 : ¬ tkT_hasBit_r v (1 + 0) = 0 := by unfold tkT_hasBit_r; rw [if_neg b]; decide
    by_cases m : X 20 0 = (-1)
    · have m2 : X 20 0 < 0 := hm.mpr m
      obtain ⟨q1, q2⟩ := tkN_lc (c := tkPsi X 4) m
      have q3 : tkLE0 (tkPsi X) v = tkPsi X := by
        unfold tkLE0
        rw [q1, tk_Pid]
        split <;> rfl
      unfold tkLD0 tkLB0 tkLA0 tkLF0
      rw [q3, q2, tk_Pid]
      simp (decide := true) only [b1, b2, m2, tkcl_0, ↓reduceIte]
      refine ⟨?_, h, trivial⟩
      split <;> rfl
    · have m2 : ¬ X 20 0 < 0 := fun q => m (hm.mp q)
      have eA : tkLA0 X v = 1 := by unfold tkLA0; rw [if_pos b1]; exact if_neg m2
      have k : tkPsi (tkLB0 X v) = tkLE0 (tkPsi X) v ∧ tkInv (tkLB0 X v) ∧ (tkLB0 X v) 0 0 = X 0 0 ∧ ¬ (tkLB0 X v) 20 0 = (-1) := by
        unfold tkLB0 tkLE0
        rw [eA, if_neg (by decide)]
        by_cases b5 : v &&& 32 = 0
        · rw [if_pos b5, if_pos (e5.mp b5)]
          exact ⟨tkR_latch0 X hn m, tkI_latch0 X h, tkH_latch X 0, fun q => m ((tkM_l20_0 X).symm.trans q)⟩
        · rw [if_neg b5, if_neg (fun q => b5 (e5.mpr q))]
          exact ⟨rfl, h, rfl, m⟩
      obtain ⟨k1, k2, k3, k4⟩ := k
      unfold tkLD0 tkLF0
      rw [eA, if_neg (by decide), if_neg b2]
      by_cases b4 : v &&& 16 = 0
      · rw [if_pos b4, if_pos (e4.mp b4), ← k1]
        exact ⟨tkR_lstat0 _ k2.2.1 k4, tkI_lstat0 _ k4 k2, (tkH_latchStatus _ 0).trans k3⟩
      · rw [if_neg b4, if_neg (fun q => b4 (e4.mpr q))]
        exact ⟨k1, k2, k3⟩
def tkLA1 (X : Nat → Nat → Int32) (v : Int32) : Int32 :=
  if (v >>> ((1 + 1) &&& 31)) &&& 1 = 1 then (if (X 20) (1 : Int32).toNatClampNeg < 0 then 0
    else 1)
  else 0
def tkLB1 (X : Nat → Nat → Int32) (v : Int32) : Nat → Nat → Int32 :=
  if tkLA1 X v = 0 then X
  else if v &&& 32 = 0 then tkM_latch_s X 1
    else X
def tkLD1 (X : Nat → Nat → Int32) (v : Int32) : Nat → Nat → Int32 :=
  if tkLA1 X v = 0 then tkLB1 X v
  else if v &&& 16 = 0 then tkM_latchStatus_s (tkLB1 X v) 1
    else tkLB1 X v
def tkLE1 (g : Nat → Nat → Int32) (v : Int32) : Nat → Nat → Int32 :=
  if tkT_hasBit_r v 5 = 0 then tk_up g 5 (tkN_latchCount_s (g 5))
  else g
def tkLF1 (g : Nat → Nat → Int32) (v : Int32) : Nat → Nat → Int32 :=
  if tkT_hasBit_r v (1 + 1) = 0 then g
  else if tkT_hasBit_r v 4 = 0 then tk_up (tkLE1 g v) 5 (tkN_latchStatus_s ((tkLE1 g v) 5))
    else tkLE1 g v
theorem tkM_l20_1 (X : Nat → Nat → Int32) : (tkM_latch_s X 1) 20 1 = X 20 1 := by
  unfold tkM_latch_s
  repeat' split
  all_goals rfl
set_option maxHeartbeats 1000000 in
set_option maxRecDepth 20000 in
theorem tkR_lm1 (X : Nat → Nat → Int32) (h : tkInv X) (v : Int32) (e5 : v &&& 32 = 0 ↔ tkT_hasBit_r v 5 = 0) (e4 : v &&& 16 = 0 ↔ tkT_hasBit_r v 4 = 0) : tkPsi (tkLD1 X v) = tkLF1 (tkPsi X) v ∧ tkInv (tkLD1 X v) ∧ (tkLD1 X v) 0 0 = X 0 0 := by
  have hn : tkInvN X 1 := h.2.2.1
  have hm := tkb_m1 hn
  have hbit := tkb_01 (v >>> ((1 + 1) &&& 31))
  by_cases b : (v >>> ((1 + 1) &&& 31)) &&& 1 = 0
  · have b1 : ¬ (v >>> ((1 + 1) &&& 31)) &&& 1 = 1 := fun q => hbit.mp q b
    unfold tkLD1 tkLB1 tkLA1 tkLF1
    have b2 : tkT_hasBit_r v (1 + 1) = 0 := by unfold tkT_hasBit_r; rw [if_pos b]
    simp (decide := true) only [b1, b2, ↓reduceIte]
    exact ⟨trivial, h, trivial⟩
  · have b1 : (v >>> ((1 + 1) &&& 31)) &&& 1 = 1 := hbit.mpr b
    have b2 : ¬ tkT_hasBit_r v (1 + 1) = 0 := by unfold tkT_hasBit_r; rw [if_neg b]; decide
    by_cases m : X 20 1 = (-1)
    · have m2 : X 20 1 < 0 := hm.mpr m
      obtain ⟨q1, q2⟩ := tkN_lc (c := tkPsi X 5) m
      have q3 : tkLE1 (tkPsi X) v = tkPsi X := by
        unfold tkLE1
        rw [q1, tk_Pid]
        split <;> rfl
      unfold tkLD1 tkLB1 tkLA1 tkLF1
      rw [q3, q2, tk_Pid]
      simp (decide := true) only [b1, b2, m2, tkcl_1, ↓reduceIte]
      refine ⟨?_, h, trivial⟩
      split <;> rfl
    · have m2 : ¬ X 20 1 < 0 := fun q => m (hm.mp q)
      have eA : tkLA1 X v = 1 := by unfold tkLA1; rw [if_pos b1]; exact if_neg m2
      have k : tkPsi (tkLB1 X v) = tkLE1 (tkPsi X) v ∧ tkInv (tkLB1 X v) ∧ (tkLB1 X v) 0 0 = X 0 0 ∧ ¬ (tkLB1 X v) 20 1 = (-1) := by
        unfold tkLB1 tkLE1
        rw [eA, if_neg (by decide)]
        by_cases b5 : v &&& 32 = 0
        · rw [if_pos b5, if_pos (e5.mp b5)]
          exact ⟨tkR_latch1 X hn m, tkI_latch1 X h, tkH_latch X 1, fun q => m ((tkM_l20_1 X).symm.trans q)⟩
        · rw [if_neg b5, if_neg (fun q => b5 (e5.mpr q))]
          exact ⟨rfl, h, rfl, m⟩
      obtain ⟨k1, k2, k3, k4⟩ := k
      unfold tkLD1 tkLF1
      rw [eA, if_neg (by decide), if_neg b2]
      by_cases b4 : v &&& 16 = 0
      · rw [if_pos b4, if_pos (e4.mp b4), ← k1]
        exact ⟨tkR_lstat1 _ k2.2.2.1 k4, tkI_lstat1 _ k4 k2, (tkH_latchStatus _ 1).trans k3⟩
      · rw [if_neg b4, if_neg (fun q => b4 (e4.mpr q))]
        exact ⟨k1, k2, k3⟩
def tkLA2 (X : Nat → Nat → Int32) (v : Int32) : Int32 :=
  if (v >>> ((1 + 2) &&& 31)) &&& 1 = 1 then (if (X 20) (2 : Int32).toNatClampNeg < 0 then 0
    else 1)
  else 0
def tkLB2 (X : Nat → Nat → Int32) (v : Int32) : Nat → Nat → Int32 :=
  if tkLA2 X v = 0 then X
  else if v &&& 32 = 0 then tkM_latch_s X 2
    else X
def tkLD2 (X : Nat → Nat → Int32) (v : Int32) : Nat → Nat → Int32 :=
  if tkLA2 X v = 0 then tkLB2 X v
  else if v &&& 16 = 0 then tkM_latchStatus_s (tkLB2 X v) 2
    else tkLB2 X v
def tkLE2 (g : Nat → Nat → Int32) (v : Int32) : Nat → Nat → Int32 :=
  if tkT_hasBit_r v 5 = 0 then tk_up g 6 (tkN_latchCount_s (g 6))
  else g
def tkLF2 (g : Nat → Nat → Int32) (v : Int32) : Nat → Nat → Int32 :=
  if tkT_hasBit_r v (1 + 2) = 0 then g
  else if tkT_hasBit_r v 4 = 0 then tk_up (tkLE2 g v) 6 (tkN_latchStatus_s ((tkLE2 g v) 6))
    else tkLE2 g v
theorem tkM_l20_2 (X : Nat → Nat → Int32) : (tkM_latch_s X 2) 20 2 = X 20 2 := by
  unfold tkM_latch_s
  repeat' split
  all_goals rfl
set_option maxHeartbeats 1000000 in
set_option maxRecDepth 20000 in
theorem tkR_lm2 (X : Nat → Nat → Int32) (h : tkInv X) (v : Int32) (e5 : v &&& 32 = 0 ↔ tkT_hasBit_r v 5 = 0) (e4 : v &&& 16 = 0 ↔ tkT_hasBit_r v 4 = 0) : tkPsi (tkLD2 X v) = tkLF2 (tkPsi X) v ∧ tkInv (tkLD2 X v) ∧ (tkLD2 X v) 0 0 = X 0 0 := by
  have hn : tkInvN X 2 := h.2.2.2
  have hm := tkb_m1 hn
  have hbit := tkb_01 (v >>> ((1 + 2) &&& 31))
  by_cases b : (v >>> ((1 + 2) &&& 31)) &&& 1 = 0
  · have b1 : ¬ (v >>> ((1 + 2) &&& 31)) &&& 1 = 1 := fun q => hbit.mp q b
    unfold tkLD2 tkLB2 tkLA2 tkLF2
    have b2 : tkT_hasBit_r v (1 + 2) = 0 := by unfold tkT_hasBit_r; rw [if_pos b]
    simp (decide := true) only [b1, b2, ↓reduceIte]
    exact ⟨trivial, h, trivial⟩
  · have b1 : (v >>> ((1 + 2) &&& 31)) &&& 1 = 1 := hbit.mpr b
    have b2 : ¬ tkT_hasBit_r v (1 + 2) = 0 := by unfold tkT_hasBit_r; rw [if_neg b]; decide
    by_cases m : X 20 2 = (-1)
    · have m2 : X 20 2 < 0 := hm.mpr m
      obtain ⟨q1, q2⟩ := tkN_lc (c := tkPsi X 6) m
      have q3 : tkLE2 (tkPsi X) v = tkPsi X := by
        unfold tkLE2
        rw [q1, tk_Pid]
        split <;> rfl
      unfold tkLD2 tkLB2 tkLA2 tkLF2
      rw [q3, q2, tk_Pid]
      simp (decide := true) only [b1, b2, m2, tkcl_2, ↓reduceIte]
      refine ⟨?_, h, trivial⟩
      split <;> rfl
    · have m2 : ¬ X 20 2 < 0 := fun q => m (hm.mp q)
      have eA : tkLA2 X v = 1 := by unfold tkLA2; rw [if_pos b1]; exact if_neg m2
      have k : tkPsi (tkLB2 X v) = tkLE2 (tkPsi X) v ∧ tkInv (tkLB2 X v) ∧ (tkLB2 X v) 0 0 = X 0 0 ∧ ¬ (tkLB2 X v) 20 2 = (-1) := by
        unfold tkLB2 tkLE2
        rw [eA, if_neg (by decide)]
        by_cases b5 : v &&& 32 = 0
        · rw [if_pos b5, if_pos (e5.mp b5)]
          exact ⟨tkR_latch2 X hn m, tkI_latch2 X h, tkH_latch X 2, fun q => m ((tkM_l20_2 X).symm.trans q)⟩
        · rw [if_neg b5, if_neg (fun q => b5 (e5.mpr q))]
          exact ⟨rfl, h, rfl, m⟩
      obtain ⟨k1, k2, k3, k4⟩ := k
      unfold tkLD2 tkLF2
      rw [eA, if_neg (by decide), if_neg b2]
      by_cases b4 : v &&& 16 = 0
      · rw [if_pos b4, if_pos (e4.mp b4), ← k1]
        exact ⟨tkR_lstat2 _ k2.2.2.2 k4, tkI_lstat2 _ k4 k2, (tkH_latchStatus _ 2).trans k3⟩
      · rw [if_neg b4, if_neg (fun q => b4 (e4.mpr q))]
        exact ⟨k1, k2, k3⟩
theorem tkR_lm (X : Nat → Nat → Int32) (h : tkInv X) (v : Int32) (e5 : v &&& 32 = 0 ↔ tkT_hasBit_r v 5 = 0) (e4 : v &&& 16 = 0 ↔ tkT_hasBit_r v 4 = 0) : tkPsi (tkM_control_w25 X v) = tkT_latchMany_s (tkPsi X) v ∧ tkInv (tkM_control_w25 X v) ∧ (tkM_control_w25 X v) 0 0 = X 0 0 := by
  obtain ⟨a1, a2, a3⟩ := tkR_lm0 X h v e5 e4
  obtain ⟨b1, b2, b3⟩ := tkR_lm1 _ a2 v e5 e4
  obtain ⟨c1, c2, c3⟩ := tkR_lm2 _ b2 v e5 e4
  rw [b1, a1] at c1
  exact ⟨c1, c2, c3.trans (b3.trans a3)⟩
set_option maxHeartbeats 1000000 in
set_option maxRecDepth 20000 in
theorem tkR_sm0 (G : Nat → Nat → Int32) (h : tkInv G) (a c y : Int32) (a0 : ¬ a = 0) (ha : a = 0 ∨ a = 1 ∨ a = 2 ∨ a = 3) (hc9 : c = 0 ∨ c = 1 ∨ c = 2 ∨ c = 3 ∨ c = 4 ∨ c = 5) (hy : tkBl y) : tkPsi (tk_up (tk_up (tk_up (tk_up (tk_up (tk_up (tk_up (tk_up (tk_up (tk_up (tk_up (tk_up G 21 (upd (G 21) 0 a)) 20 (upd (G 20) 0 c)) 22 (upd (G 22) 0 0)) 24 (upd (G 24) 0 0)) 25 (upd (G 25) 0 0)) 26 (upd (G 26) 0 0)) 31 (upd (G 31) 0 (-1))) 32 (upd (G 32) 0 (-1))) 28 (upd (G 28) 0 0)) 30 (upd (G 30) 0 0)) 27 (upd (G 27) 0 1)) 19 (upd (G 19) 0 y)) = tk_up (tkPsi G) 4 (tk_up (tk_up (tk_up (tk_up (tk_up (tk_up (tk_up (tk_up (tk_up (tk_up (tk_up (tkPsi G 4) 3 a) 2 c) 4 0) 6 0) 7 0) 8 1) 10 0) 11 0) 12 (-1)) 13 (-1)) 1 y) ∧ tkInv (tk_up (tk_up (tk_up (tk_up (tk_up (tk_up (tk_up (tk_up (tk_up (tk_up (tk_up (tk_up G 21 (upd (G 21) 0 a)) 20 (upd (G 20) 0 c)) 22 (upd (G 22) 0 0)) 24 (upd (G 24) 0 0)) 25 (upd (G 25) 0 0)) 26 (upd (G 26) 0 0)) 31 (upd (G 31) 0 (-1))) 32 (upd (G 32) 0 (-1))) 28 (upd (G 28) 0 0)) 30 (upd (G 30) 0 0)) 27 (upd (G 27) 0 1)) 19 (upd (G 19) 0 y)) ∧ (tk_up (tk_up (tk_up (tk_up (tk_up (tk_up (tk_up (tk_up (tk_up (tk_up (tk_up (tk_up G 21 (upd (G 21) 0 a)) 20 (upd (G 20) 0 c)) 22 (upd (G 22) 0 0)) 24 (upd (G 24) 0 0)) 25 (upd (G 25) 0 0)) 26 (upd (G 26) 0 0)) 31 (upd (G 31) 0 (-1))) 32 (upd (G 32) 0 (-1))) 28 (upd (G 28) 0 0)) 30 (upd (G 30) 0 0)) 27 (upd (G 27) 0 1)) 19 (upd (G 19) 0 y)) 0 0 = G 0 0 := by
  obtain ⟨⟨c0, c1⟩, n0, n1, n2⟩ := h
  obtain ⟨⟨hb19, hb25⟩, hm, ha_, hm1, hm2, ha3, hr, hc, hlow, hl, hs, h26⟩ := n0
  exact ⟨tk_fxP rfl (tk_fx18 rfl rfl rfl rfl rfl rfl rfl rfl rfl rfl rfl rfl rfl rfl rfl rfl rfl rfl (fun _ => rfl)) (tk_fx18 rfl rfl rfl rfl rfl rfl rfl rfl rfl rfl rfl rfl rfl rfl rfl rfl rfl rfl (fun _ => rfl)) rfl (tk_fx14 rfl rfl rfl rfl rfl rfl rfl rfl rfl rfl rfl rfl rfl rfl (fun _ => rfl)) (tk_fx14 rfl rfl rfl rfl rfl rfl rfl rfl rfl rfl rfl rfl rfl rfl (fun _ => rfl)) (tk_fx14 rfl rfl rfl rfl rfl rfl rfl rfl rfl rfl rfl rfl rfl rfl (fun _ => rfl)) (fun _ => rfl), ⟨⟨c0, c1⟩, ⟨⟨hy, Or.inl rfl⟩, Or.inr hc9, ha, fun _ => rfl, fun _ => a0, fun _ => ⟨rfl, rfl⟩, ⟨0, by decide, (by decide : (0 : Int32) = nI 0)⟩, hc, hlow, Or.inl rfl, Or.inl rfl, tkb_st0 _⟩, n1, n2⟩, rfl⟩
set_option maxHeartbeats 1000000 in
set_option maxRecDepth 20000 in
theorem tkR_sm1 (G : Nat → Nat → Int32) (h : tkInv G) (a c y : Int32) (a0 : ¬ a = 0) (ha : a = 0 ∨ a = 1 ∨ a = 2 ∨ a = 3) (hc9 : c = 0 ∨ c = 1 ∨ c = 2 ∨ c = 3 ∨ c = 4 ∨ c = 5) (hy : tkBl y) : tkPsi (tk_up (tk_up (tk_up (tk_up (tk_up (tk_up (tk_up (tk_up (tk_up (tk_up (tk_up (tk_up G 21 (upd (G 21) 1 a)) 20 (upd (G 20) 1 c)) 22 (upd (G 22) 1 0)) 24 (upd (G 24) 1 0)) 25 (upd (G 25) 1 0)) 26 (upd (G 26) 1 0)) 31 (upd (G 31) 1 (-1))) 32 (upd (G 32) 1 (-1))) 28 (upd (G 28) 1 0)) 30 (upd (G 30) 1 0)) 27 (upd (G 27) 1 1)) 19 (upd (G 19) 1 y)) = tk_up (tkPsi G) 5 (tk_up (tk_up (tk_up (tk_up (tk_up (tk_up (tk_up (tk_up (tk_up (tk_up (tk_up (tkPsi G 5) 3 a) 2 c) 4 0) 6 0) 7 0) 8 1) 10 0) 11 0) 12 (-1)) 13 (-1)) 1 y) ∧ tkInv (tk_up (tk_up (tk_up (tk_up (tk_up (tk_up (tk_up (tk_up (tk_up (tk_up (tk_up (tk_up G 21 (upd (G 21) 1 a)) 20 (upd (G 20) 1 c)) 22 (upd (G 22) 1 0)) 24 (upd (G 24) 1 0)) 25 (upd (G 25) 1 0)) 26 (upd (G 26) 1 0)) 31 (upd (G 31) 1 (-1))) 32 (upd (G 32) 1 (-1))) 28 (upd (G 28) 1 0)) 30 (upd (G 30) 1 0)) 27 (upd (G 27) 1 1)) 19 (upd (G 19) 1 y)) ∧ (tk_up (tk_up (tk_up (tk_up (tk_up (tk_up (tk_up (tk_up (tk_up (tk_up (tk_up (tk_up G 21 (upd (G 21) 1 a)) 20 (upd (G 20) 1 c)) 22 (upd (G 22) 1 0)) 24 (upd (G 24) 1 0)) 25 (upd (G 25) 1 0)) 26 (upd (G 26) 1 0)) 31 (upd (G 31) 1 (-1))) 32 (upd (G 32) 1 (-1))) 28 (upd (G 28) 1 0)) 30 (upd (G 30) 1 0)) 27 (upd (G 27) 1 1)) 19 (upd (G 19) 1 y)) 0 0 = G 0 0 := by
  obtain ⟨⟨c0, c1⟩, n0, n1, n2⟩ := h
  obtain ⟨⟨hb19, hb25⟩, hm, ha_, hm1, hm2, ha3, hr, hc, hlow, hl, hs, h26⟩ := n1
  exact ⟨tk_fxP rfl (tk_fx18 rfl rfl rfl rfl rfl rfl rfl rfl rfl rfl rfl rfl rfl rfl rfl rfl rfl rfl (fun _ => rfl)) (tk_fx18 rfl rfl rfl rfl rfl rfl rfl rfl rfl rfl rfl rfl rfl rfl rfl rfl rfl rfl (fun _ => rfl)) rfl (tk_fx14 rfl rfl rfl rfl rfl rfl rfl rfl rfl rfl rfl rfl rfl rfl (fun _ => rfl)) (tk_fx14 rfl rfl rfl rfl rfl rfl rfl rfl rfl rfl rfl rfl rfl rfl (fun _ => rfl)) (tk_fx14 rfl rfl rfl rfl rfl rfl rfl rfl rfl rfl rfl rfl rfl rfl (fun _ => rfl)) (fun _ => rfl), ⟨⟨c0, c1⟩, n0, ⟨⟨hy, Or.inl rfl⟩, Or.inr hc9, ha, fun _ => rfl, fun _ => a0, fun _ => ⟨rfl, rfl⟩, ⟨0, by decide, (by decide : (0 : Int32) = nI 0)⟩, hc, hlow, Or.inl rfl, Or.inl rfl, tkb_st0 _⟩, n2⟩, rfl⟩
set_option maxHeartbeats 1000000 in
set_option maxRecDepth 20000 in
theorem tkR_sm2 (G : Nat → Nat → Int32) (h : tkInv G) (a c y : Int32) (a0 : ¬ a = 0) (ha : a = 0 ∨ a = 1 ∨ a = 2 ∨ a = 3) (hc9 : c = 0 ∨ c = 1 ∨ c = 2 ∨ c = 3 ∨ c = 4 ∨ c = 5) (hy : tkBl y) : tkPsi (tk_up (tk_up (tk_up (tk_up (tk_up (tk_up (tk_up (tk_up (tk_up (tk_up (tk_up (tk_up G 21 (upd (G 21) 2 a)) 20 (upd (G 20) 2 c)) 22 (upd (G 22) 2 0)) 24 (upd (G 24) 2 0)) 25 (upd (G 25) 2 0)) 26 (upd (G 26) 2 0)) 31 (upd (G 31) 2 (-1))) 32 (upd (G 32) 2 (-1))) 28 (upd (G 28) 2 0)) 30 (upd (G 30) 2 0)) 27 (upd (G 27) 2 1)) 19 (upd (G 19) 2 y)) = tk_up (tkPsi G) 6 (tk_up (tk_up (tk_up (tk_up (tk_up (tk_up (tk_up (tk_up (tk_up (tk_up (tk_up (tkPsi G 6) 3 a) 2 c) 4 0) 6 0) 7 0) 8 1) 10 0) 11 0) 12 (-1)) 13 (-1)) 1 y) ∧ tkInv (tk_up (tk_up (tk_up (tk_up (tk_up (tk_up (tk_up (tk_up (tk_up (tk_up (tk_up (tk_up G 21 (upd (G 21) 2 a)) 20 (upd (G 20) 2 c)) 22 (upd (G 22) 2 0)) 24 (upd (G 24) 2 0)) 25 (upd (G 25) 2 0)) 26 (upd (G 26) 2 0)) 31 (upd (G 31) 2 (-1))) 32 (upd (G 32) 2 (-1))) 28 (upd (G 28) 2 0)) 30 (upd (G 30) 2 0)) 27 (upd (G 27) 2 1)) 19 (upd (G 19) 2 y)) ∧ (tk_up (tk_up (tk_up (tk_up (tk_up (tk_up (tk_up (tk_up (tk_up (tk_up (tk_up (tk_up G 21 (upd (G 21) 2 a)) 20 (upd (G 20) 2 c)) 22 (upd (G 22) 2 0)) 24 (upd (G 24) 2 0)) 25 (upd (G 25) 2 0)) 26 (upd (G 26) 2 0)) 31 (upd (G 31) 2 (-1))) 32 (upd (G 32) 2 (-1))) 28 (upd (G 28) 2 0)) 30 (upd (G 30) 2 0)) 27 (upd (G 27) 2 1)) 19 (upd (G 19) 2 y)) 0 0 = G 0 0 := by
  obtain ⟨⟨c0, c1⟩, n0, n1, n2⟩ := h
  obtain ⟨⟨hb19, hb25⟩, hm, ha_, hm1, hm2, ha3, hr, hc, hlow, hl, hs, h26⟩ := n2
  exact ⟨tk_fxP rfl (tk_fx18 rfl rfl rfl rfl rfl rfl rfl rfl rfl rfl rfl rfl rfl rfl rfl rfl rfl rfl (fun _ => rfl)) (tk_fx18 rfl rfl rfl rfl rfl rfl rfl rfl rfl rfl rfl rfl rfl rfl rfl rfl rfl rfl (fun _ => rfl)) rfl (tk_fx14 rfl rfl rfl rfl rfl rfl rfl rfl rfl rfl rfl rfl rfl rfl (fun _ => rfl)) (tk_fx14 rfl rfl rfl rfl rfl rfl rfl rfl rfl rfl rfl rfl rfl rfl (fun _ => rfl)) (tk_fx14 rfl rfl rfl rfl rfl rfl rfl rfl rfl rfl rfl rfl rfl rfl (fun _ => rfl)) (fun _ => rfl), ⟨⟨c0, c1⟩, n0, n1, ⟨⟨hy, Or.inl rfl⟩, Or.inr hc9, ha, fun _ => rfl, fun _ => a0, fun _ => ⟨rfl, rfl⟩, ⟨0, by decide, (by decide : (0 : Int32) = nI 0)⟩, hc, hlow, Or.inl rfl, Or.inl rfl, tkb_st0 _⟩⟩, rfl⟩
set_option maxHeartbeats 4000000 in
set_option maxRecDepth 20000 in
theorem tkR_ctl0 (G : Nat → Nat → Int32) (h : tkInv G) (v : Int32) (hk : v >>> ((6 : Int32) &&& 31) = 0) (ha : (v >>> ((4 : Int32) &&& 31)) &&& 3 = 0 ∨ (v >>> ((4 : Int32) &&& 31)) &&& 3 = 1 ∨ (v >>> ((4 : Int32) &&& 31)) &&& 3 = 2 ∨ (v >>> ((4 : Int32) &&& 31)) &&& 3 = 3) : tkPsi (tkM_control_s G v) = tkT_takeControl_s (tkPsi G) v ∧ tkInv (tkM_control_s G v) ∧ (tkM_control_s G v) 0 0 = G 0 0 := by
  obtain ⟨⟨c0, c1⟩, n0, n1, n2⟩ := id h
  have hmm := tkb_m1 n0
  obtain ⟨⟨k0, k1⟩, k2, k3, k4⟩ := tkb_cc
  have hq := tkb_and7 (v >>> ((1 : Int32) &&& 31))
  unfold tkLow at hq
  unfold tkM_control_s tkM_control_w16 tkM_control_v15 tkM_control_v14 tkT_takeControl_s tkT_takeControl_w1 tkN_setMode_s
  generalize (v >>> ((4 : Int32) &&& 31)) &&& 3 = a at ha ⊢
  generalize (v >>> ((1 : Int32) &&& 31)) &&& 7 = m at hq ⊢
  simp (decide := true) only [hk, tkcl_0, k2, ↓reduceIte]
  by_cases a0 : a = 0
  · rw [if_pos a0, if_pos a0]
    by_cases m1 : G 20 0 = (-1)
    · rw [if_pos (hmm.mpr m1)]
      have q : tkN_latchCount_s (tkPsi G 4) = tkPsi G 4 := (tkN_lc (c := tkPsi G 4) m1).1
      rw [q, tk_Pid]
      exact ⟨rfl, h, rfl⟩
    · rw [if_neg (fun q => m1 (hmm.mp q))]
      exact ⟨tkR_latch0 G n0 m1, tkI_latch0 G h, tkH_latch G 0⟩
  · rw [if_neg a0, if_neg a0]
    rcases hq with q | q | q | q | q | q | q | q <;> subst q
    · have q := tkR_sm0 G h a (0) 0 a0 ha (by decide) (by unfold tkBl; decide)
      simp (decide := true) only [tkb_n0, tkb_n1, ↓reduceIte]
      first | exact q | exact ⟨q.1, q.2.1, trivial⟩
    · have q := tkR_sm0 G h a (1) 1 a0 ha (by decide) (by unfold tkBl; decide)
      simp (decide := true) only [tkb_n0, tkb_n1, ↓reduceIte]
      first | exact q | exact ⟨q.1, q.2.1, trivial⟩
    · have q := tkR_sm0 G h a (2) 1 a0 ha (by decide) (by unfold tkBl; decide)
      simp (decide := true) only [tkb_n0, tkb_n1, ↓reduceIte]
      first | exact q | exact ⟨q.1, q.2.1, trivial⟩
    · have q := tkR_sm0 G h a (3) 1 a0 ha (by decide) (by unfold tkBl; decide)
      simp (decide := true) only [tkb_n0, tkb_n1, ↓reduceIte]
      first | exact q | exact ⟨q.1, q.2.1, trivial⟩
    · have q := tkR_sm0 G h a (4) 1 a0 ha (by decide) (by unfold tkBl; decide)
      simp (decide := true) only [tkb_n0, tkb_n1, ↓reduceIte]
      first | exact q | exact ⟨q.1, q.2.1, trivial⟩
    · have q := tkR_sm0 G h a (5) 1 a0 ha (by decide) (by unfold tkBl; decide)
      simp (decide := true) only [tkb_n0, tkb_n1, ↓reduceIte]
      first | exact q | exact ⟨q.1, q.2.1, trivial⟩
    · have q := tkR_sm0 G h a (6 - 4) 1 a0 ha (by decide) (by unfold tkBl; decide)
      simp (decide := true) only [tkb_n0, tkb_n1, ↓reduceIte]
      first | exact q | exact ⟨q.1, q.2.1, trivial⟩
    · have q := tkR_sm0 G h a (7 - 4) 1 a0 ha (by decide) (by unfold tkBl; decide)
      simp (decide := true) only [tkb_n0, tkb_n1, ↓reduceIte]
      first | exact q | exact ⟨q.1, q.2.1, trivial⟩
set_option maxHeartbeats 4000000 in
set_option maxRecDepth 20000 in
theorem tkR_ctl1 (G : Nat → Nat → Int32) (h : tkInv G) (v : Int32) (hk : v >>> ((6 : Int32) &&& 31) = 1) (ha : (v >>> ((4 : Int32) &&& 31)) &&& 3 = 0 ∨ (v >>> ((4 : Int32) &&& 31)) &&& 3 = 1 ∨ (v >>> ((4 : Int32) &&& 31)) &&& 3 = 2 ∨ (v >>> ((4 : Int32) &&& 31)) &&& 3 = 3) : tkPsi (tkM_control_s G v) = tkT_takeControl_s (tkPsi G) v ∧ tkInv (tkM_control_s G v) ∧ (tkM_control_s G v) 0 0 = G 0 0 := by
  obtain ⟨⟨c0, c1⟩, n0, n1, n2⟩ := id h
  have hmm := tkb_m1 n1
  obtain ⟨⟨k0, k1⟩, k2, k3, k4⟩ := tkb_cc
  have hq := tkb_and7 (v >>> ((1 : Int32) &&& 31))
  unfold tkLow at hq
  unfold tkM_control_s tkM_control_w16 tkM_control_v15 tkM_control_v14 tkT_takeControl_s tkT_takeControl_w1 tkN_setMode_s
  generalize (v >>> ((4 : Int32) &&& 31)) &&& 3 = a at ha ⊢
  generalize (v >>> ((1 : Int32) &&& 31)) &&& 7 = m at hq ⊢
  simp (decide := true) only [hk, tkcl_1, k3, ↓reduceIte]
  by_cases a0 : a = 0
  · rw [if_pos a0, if_pos a0]
    by_cases m1 : G 20 1 = (-1)
    · rw [if_pos (hmm.mpr m1)]
      have q : tkN_latchCount_s (tkPsi G 5) = tkPsi G 5 := (tkN_lc (c := tkPsi G 5) m1).1
      rw [q, tk_Pid]
      exact ⟨rfl, h, rfl⟩
    · rw [if_neg (fun q => m1 (hmm.mp q))]
      exact ⟨tkR_latch1 G n1 m1, tkI_latch1 G h, tkH_latch G 1⟩
  · rw [if_neg a0, if_neg a0]
    rcases hq with q | q | q | q | q | q | q | q <;> subst q
    · have q := tkR_sm1 G h a (0) 0 a0 ha (by decide) (by unfold tkBl; decide)
      simp (decide := true) only [tkb_n0, tkb_n1, ↓reduceIte]
      first | exact q | exact ⟨q.1, q.2.1, trivial⟩
    · have q := tkR_sm1 G h a (1) 1 a0 ha (by decide) (by unfold tkBl; decide)
      simp (decide := true) only [tkb_n0, tkb_n1, ↓reduceIte]
      first | exact q | exact ⟨q.1, q.2.1, trivial⟩
    · have q := tkR_sm1 G h a (2) 1 a0 ha (by decide) (by unfold tkBl; decide)
      simp (decide := true) only [tkb_n0, tkb_n1, ↓reduceIte]
      first | exact q | exact ⟨q.1, q.2.1, trivial⟩
    · have q := tkR_sm1 G h a (3) 1 a0 ha (by decide) (by unfold tkBl; decide)
      simp (decide := true) only [tkb_n0, tkb_n1, ↓reduceIte]
      first | exact q | exact ⟨q.1, q.2.1, trivial⟩
    · have q := tkR_sm1 G h a (4) 1 a0 ha (by decide) (by unfold tkBl; decide)
      simp (decide := true) only [tkb_n0, tkb_n1, ↓reduceIte]
      first | exact q | exact ⟨q.1, q.2.1, trivial⟩
    · have q := tkR_sm1 G h a (5) 1 a0 ha (by decide) (by unfold tkBl; decide)
      simp (decide := true) only [tkb_n0, tkb_n1, ↓reduceIte]
      first | exact q | exact ⟨q.1, q.2.1, trivial⟩
    · have q := tkR_sm1 G h a (6 - 4) 1 a0 ha (by decide) (by unfold tkBl; decide)
      simp (decide := true) only [tkb_n0, tkb_n1, ↓reduceIte]
      first | exact q | exact ⟨q.1, q.2.1, trivial⟩
    · have q := tkR_sm1 G h a (7 - 4) 1 a0 ha (by decide) (by unfold tkBl; decide)
      simp (decide := true) only [tkb_n0, tkb_n1, ↓reduceIte]
      first | exact q | exact ⟨q.1, q.2.1, trivial⟩
set_option maxHeartbeats 4000000 in
set_option maxRecDepth 20000 in
theorem tkR_ctl2 (G : Nat → Nat → Int32) (h : tkInv G) (v : Int32) (hk : v >>> ((6 : Int32) &&& 31) = 2) (ha : (v >>> ((4 : Int32) &&& 31)) &&& 3 = 0 ∨ (v >>> ((4 : Int32) &&& 31)) &&& 3 = 1 ∨ (v >>> ((4 : Int32) &&& 31)) &&& 3 = 2 ∨ (v >>> ((4 : Int32) &&& 31)) &&& 3 = 3) : tkPsi (tkM_control_s G v) = tkT_takeControl_s (tkPsi G) v ∧ tkInv (tkM_control_s G v) ∧ (tkM_control_s G v) 0 0 = G 0 0 := by
  obtain ⟨⟨c0, c1⟩, n0, n1, n2⟩ := id h
  have hmm := tkb_m1 n2
  obtain ⟨⟨k0, k1⟩, k2, k3, k4⟩ := tkb_cc
  have hq := tkb_and7 (v >>> ((1 : Int32) &&& 31))
  unfold tkLow at hq
  unfold tkM_control_s tkM_control_w16 tkM_control_v15 tkM_control_v14 tkT_takeControl_s tkT_takeControl_w1 tkN_setMode_s
  generalize (v >>> ((4 : Int32) &&& 31)) &&& 3 = a at ha ⊢
  generalize (v >>> ((1 : Int32) &&& 31)) &&& 7 = m at hq ⊢
  simp (decide := true) only [hk, tkcl_2, k4, ↓reduceIte]
  by_cases a0 : a = 0
  · rw [if_pos a0, if_pos a0]
    by_cases m1 : G 20 2 = (-1)
    · rw [if_pos (hmm.mpr m1)]
      have q : tkN_latchCount_s (tkPsi G 6) = tkPsi G 6 := (tkN_lc (c := tkPsi G 6) m1).1
      rw [q, tk_Pid]
      exact ⟨rfl, h, rfl⟩
    · rw [if_neg (fun q => m1 (hmm.mp q))]
      exact ⟨tkR_latch2 G n2 m1, tkI_latch2 G h, tkH_latch G 2⟩
  · rw [if_neg a0, if_neg a0]
    rcases hq with q | q | q | q | q | q | q | q <;> subst q
    · have q := tkR_sm2 G h a (0) 0 a0 ha (by decide) (by unfold tkBl; decide)
      simp (decide := true) only [tkb_n0, tkb_n1, ↓reduceIte]
      first | exact q | exact ⟨q.1, q.2.1, trivial⟩
    · have q := tkR_sm2 G h a (1) 1 a0 ha (by decide) (by unfold tkBl; decide)
      simp (decide := true) only [tkb_n0, tkb_n1, ↓reduceIte]
      first | exact q | exact ⟨q.1, q.2.1, trivial⟩
    · have q := tkR_sm2 G h a (2) 1 a0 ha (by decide) (by unfold tkBl; decide)
      simp (decide := true) only [tkb_n0, tkb_n1, ↓reduceIte]
      first | exact q | exact ⟨q.1, q.2.1, trivial⟩
    · have q := tkR_sm2 G h a (3) 1 a0 ha (by decide) (by unfold tkBl; decide)
      simp (decide := true) only [tkb_n0, tkb_n1, ↓reduceIte]
      first | exact q | exact ⟨q.1, q.2.1, trivial⟩
    · have q := tkR_sm2 G h a (4) 1 a0 ha (by decide) (by unfold tkBl; decide)
      simp (decide := true) only [tkb_n0, tkb_n1, ↓reduceIte]
      first | exact q | exact ⟨q.1, q.2.1, trivial⟩
    · have q := tkR_sm2 G h a (5) 1 a0 ha (by decide) (by unfold tkBl; decide)
      simp (decide := true) only [tkb_n0, tkb_n1, ↓reduceIte]
      first | exact q | exact ⟨q.1, q.2.1, trivial⟩
    · have q := tkR_sm2 G h a (6 - 4) 1 a0 ha (by decide) (by unfold tkBl; decide)
      simp (decide := true) only [tkb_n0, tkb_n1, ↓reduceIte]
      first | exact q | exact ⟨q.1, q.2.1, trivial⟩
    · have q := tkR_sm2 G h a (7 - 4) 1 a0 ha (by decide) (by unfold tkBl; decide)
      simp (decide := true) only [tkb_n0, tkb_n1, ↓reduceIte]
      first | exact q | exact ⟨q.1, q.2.1, trivial⟩
set_option maxHeartbeats 1000000 in
set_option maxRecDepth 20000 in
theorem tkR_control (G : Nat → Nat → Int32) (h : tkInv G) (v : Int32) (hv : tkByte v) : tkPsi (tkM_control_s G v) = tkT_takeControl_s (tkPsi G) v ∧ tkInv (tkM_control_s G v) ∧ (tkM_control_s G v) 0 0 = G 0 0 := by
  obtain ⟨n, hn, rfl⟩ := tkb_byteN hv
  obtain ⟨⟨hk, ha⟩, e5, e4⟩ := tkb_ctl n hn
  generalize nI n = v at *
  rcases hk with hk | hk | hk | hk
  · exact tkR_ctl0 G h v hk ha
  · exact tkR_ctl1 G h v hk ha
  · exact tkR_ctl2 G h v hk ha
  · unfold tkM_control_s tkT_takeControl_s tkT_takeControl_w1
    simp (decide := true) only [hk, ↓reduceIte]
    exact tkR_lm G h v e5 e4
