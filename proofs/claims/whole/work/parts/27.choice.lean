def tkLv (K : Nat → Int32) (l N : Int32) : Int32 := if tkT_hasBit_r ((tkC_requests_r K) &&& ((K 3) ^^^ (-1))) l = 0 then (if tkT_hasBit_r (tkC_holdingLevels_r K) l = 0 then N else (-1)) else if tkT_hasBit_r (tkC_holdingLevels_r K) l = 0 then l else if tkC_mayNest_r K l = 0 then (-1) else l
def tkLv8 (K : Nat → Int32) (l : Int32) : Int32 := if tkT_hasBit_r ((tkC_requests_r K) &&& ((K 3) ^^^ (-1))) l = 0 then (-1) else if tkT_hasBit_r (tkC_holdingLevels_r K) l = 0 then l else if tkC_mayNest_r K l = 0 then (-1) else l
def tkMv (G : Nat → Nat → Int32) (x l N : Int32) : Int32 := if (((tkM_requests_r G x) &&& ((G 3 x.toNatClampNeg) ^^^ (-1))) >>> ((l - l / 8 * 8) &&& 31)) <<< ((31 : Int32) &&& 31) = 0 then (if tkM_holds_r G x l = 0 then N else (-1)) else if tkM_holds_r G x l = 0 then l else if G 12 x.toNatClampNeg = 0 then (-1) else if x = 0 then (if l = 2 then l else (-1)) else (-1)
def tkMv8 (G : Nat → Nat → Int32) (x l : Int32) : Int32 := if (((tkM_requests_r G x) &&& ((G 3 x.toNatClampNeg) ^^^ (-1))) >>> ((l - l / 8 * 8) &&& 31)) <<< ((31 : Int32) &&& 31) = 0 then (-1) else if tkM_holds_r G x l = 0 then l else if G 12 x.toNatClampNeg = 0 then (-1) else if x = 0 then (if l = 2 then l else (-1)) else (-1)
set_option maxHeartbeats 200000 in
theorem tkC_chosen_eq (K : Nat → Int32) : tkC_chosenLevel_r K = if K 7 = 0 then (-1) else tkLv K ((K 6 + 1) &&& 7) (tkLv K ((K 6 + 2) &&& 7) (tkLv K ((K 6 + 3) &&& 7) (tkLv K ((K 6 + 4) &&& 7) (tkLv K ((K 6 + 5) &&& 7) (tkLv K ((K 6 + 6) &&& 7) (tkLv K ((K 6 + 7) &&& 7) (tkLv8 K ((K 6 + 8) &&& 7)))))))) := rfl
set_option maxHeartbeats 200000 in
theorem tkM_choice_eq (G : Nat → Nat → Int32) (x : Int32) : tkM_choice_r G x = if G 7 x.toNatClampNeg = 0 then (-1) else tkMv G x (((G 6 x.toNatClampNeg) + 1) - ((G 6 x.toNatClampNeg) + 1) / 8 * 8) (tkMv G x (((G 6 x.toNatClampNeg) + 2) - ((G 6 x.toNatClampNeg) + 2) / 8 * 8) (tkMv G x (((G 6 x.toNatClampNeg) + 3) - ((G 6 x.toNatClampNeg) + 3) / 8 * 8) (tkMv G x (((G 6 x.toNatClampNeg) + 4) - ((G 6 x.toNatClampNeg) + 4) / 8 * 8) (tkMv G x (((G 6 x.toNatClampNeg) + 5) - ((G 6 x.toNatClampNeg) + 5) / 8 * 8) (tkMv G x (((G 6 x.toNatClampNeg) + 6) - ((G 6 x.toNatClampNeg) + 6) / 8 * 8) (tkMv G x (((G 6 x.toNatClampNeg) + 7) - ((G 6 x.toNatClampNeg) + 7) / 8 * 8) (tkMv8 G x (((G 6 x.toNatClampNeg) + 8) - ((G 6 x.toNatClampNeg) + 8) / 8 * 8)))))))) := rfl
theorem tkR_req0 (G : Nat → Nat → Int32) : tkM_requests_r G 0 = tkC_requests_r (tkFc 1 (tkCol 0 G)) := rfl
theorem tkR_holds0 (G : Nat → Nat → Int32) (l : Int32) : tkM_holds_r G 0 l = tkT_hasBit_r (tkC_holdingLevels_r (tkFc 1 (tkCol 0 G))) l := tkb_holdR _ _ _ _
theorem tkR_nest0 (G : Nat → Nat → Int32) (l : Int32) : (if G 12 (0 : Int32).toNatClampNeg = 0 then (-1) else if (0 : Int32) = 0 then (if l = 2 then l else (-1)) else (-1)) = if tkC_mayNest_r (tkFc 1 (tkCol 0 G)) l = 0 then (-1) else l := by
  rw [tkb_nest, tkFc_13, tkFc_0, tkcl_0]
  by_cases h : G 12 0 = 0
  · rw [if_pos h, if_pos h]
  · rw [if_neg h, if_neg h]
    rw [if_pos (rfl : (0 : Int32) = 0), if_neg (show ¬ (1 : Int32) = 0 by decide)]
set_option maxHeartbeats 200000 in
theorem tkR_lv0 (G : Nat → Nat → Int32) (l N : Int32) (h : tkLow l) : tkMv G 0 l N = tkLv (tkFc 1 (tkCol 0 G)) l N := by
  unfold tkMv tkLv
  rw [tkR_nest0, tkb_mod8 h, tkR_holds0, tkR_req0]
  simp only [tkb_s31, tkb_hb0]
  rfl
set_option maxHeartbeats 200000 in
theorem tkR_lve0 (G : Nat → Nat → Int32) (l : Int32) (h : tkLow l) : tkMv8 G 0 l = tkLv8 (tkFc 1 (tkCol 0 G)) l := by
  unfold tkMv8 tkLv8
  rw [tkR_nest0, tkb_mod8 h, tkR_holds0, tkR_req0]
  simp only [tkb_s31, tkb_hb0]
  rfl
set_option maxHeartbeats 200000 in
theorem tkR_choice0 (G : Nat → Nat → Int32) (hl : tkLow (G 6 0)) : tkM_choice_r G 0 = tkC_chosenLevel_r (tkFc 1 (tkCol 0 G)) := by
  obtain ⟨⟨m1, m2, m3, m4⟩, m5, m6, m7, m8⟩ := tkb_mod hl
  rw [tkM_choice_eq, tkC_chosen_eq, tkcl_0, m1, m2, m3, m4, m5, m6, m7, m8, tkR_lv0 G _ _ (tkb_and7 _), tkR_lv0 G _ _ (tkb_and7 _), tkR_lv0 G _ _ (tkb_and7 _), tkR_lv0 G _ _ (tkb_and7 _), tkR_lv0 G _ _ (tkb_and7 _), tkR_lv0 G _ _ (tkb_and7 _), tkR_lv0 G _ _ (tkb_and7 _), tkR_lve0 G _ (tkb_and7 _), tkFc_7, tkFc_6]
set_option maxHeartbeats 200000 in
theorem tkR_first0 (G : Nat → Nat → Int32) (hl : tkLow (G 6 0)) : tkM_firstHeld_r G 0 = tkC_firstHolding_r (tkFc 1 (tkCol 0 G)) := by
  obtain ⟨⟨m1, m2, m3, m4⟩, m5, m6, m7, m8⟩ := tkb_mod hl
  unfold tkM_firstHeld_r tkC_firstHolding_r
  simp only [tkcl_0, m1, m2, m3, m4, m5, m6, m7, m8, tkR_holds0, tkFc_6, tkCol]
  rfl
theorem tkR_req1 (G : Nat → Nat → Int32) : tkM_requests_r G 1 = tkC_requests_r (tkFc 0 (tkCol 1 G)) := rfl
theorem tkR_holds1 (G : Nat → Nat → Int32) (l : Int32) : tkM_holds_r G 1 l = tkT_hasBit_r (tkC_holdingLevels_r (tkFc 0 (tkCol 1 G))) l := tkb_holdR _ _ _ _
theorem tkR_nest1 (G : Nat → Nat → Int32) (l : Int32) : (if G 12 (1 : Int32).toNatClampNeg = 0 then (-1) else if (1 : Int32) = 0 then (if l = 2 then l else (-1)) else (-1)) = if tkC_mayNest_r (tkFc 0 (tkCol 1 G)) l = 0 then (-1) else l := by
  rw [tkb_nest, tkFc_13, tkFc_0, tkcl_1]
  by_cases h : G 12 1 = 0
  · rw [if_pos h, if_pos h]
  · rw [if_neg h, if_neg h]
    rw [if_neg (show ¬ (1 : Int32) = 0 by decide), if_pos (rfl : (0 : Int32) = 0)]
set_option maxHeartbeats 200000 in
theorem tkR_lv1 (G : Nat → Nat → Int32) (l N : Int32) (h : tkLow l) : tkMv G 1 l N = tkLv (tkFc 0 (tkCol 1 G)) l N := by
  unfold tkMv tkLv
  rw [tkR_nest1, tkb_mod8 h, tkR_holds1, tkR_req1]
  simp only [tkb_s31, tkb_hb0]
  rfl
set_option maxHeartbeats 200000 in
theorem tkR_lve1 (G : Nat → Nat → Int32) (l : Int32) (h : tkLow l) : tkMv8 G 1 l = tkLv8 (tkFc 0 (tkCol 1 G)) l := by
  unfold tkMv8 tkLv8
  rw [tkR_nest1, tkb_mod8 h, tkR_holds1, tkR_req1]
  simp only [tkb_s31, tkb_hb0]
  rfl
set_option maxHeartbeats 200000 in
theorem tkR_choice1 (G : Nat → Nat → Int32) (hl : tkLow (G 6 1)) : tkM_choice_r G 1 = tkC_chosenLevel_r (tkFc 0 (tkCol 1 G)) := by
  obtain ⟨⟨m1, m2, m3, m4⟩, m5, m6, m7, m8⟩ := tkb_mod hl
  rw [tkM_choice_eq, tkC_chosen_eq, tkcl_1, m1, m2, m3, m4, m5, m6, m7, m8, tkR_lv1 G _ _ (tkb_and7 _), tkR_lv1 G _ _ (tkb_and7 _), tkR_lv1 G _ _ (tkb_and7 _), tkR_lv1 G _ _ (tkb_and7 _), tkR_lv1 G _ _ (tkb_and7 _), tkR_lv1 G _ _ (tkb_and7 _), tkR_lv1 G _ _ (tkb_and7 _), tkR_lve1 G _ (tkb_and7 _), tkFc_7, tkFc_6]
set_option maxHeartbeats 200000 in
theorem tkR_first1 (G : Nat → Nat → Int32) (hl : tkLow (G 6 1)) : tkM_firstHeld_r G 1 = tkC_firstHolding_r (tkFc 0 (tkCol 1 G)) := by
  obtain ⟨⟨m1, m2, m3, m4⟩, m5, m6, m7, m8⟩ := tkb_mod hl
  unfold tkM_firstHeld_r tkC_firstHolding_r
  simp only [tkcl_1, m1, m2, m3, m4, m5, m6, m7, m8, tkR_holds1, tkFc_6, tkCol]
  rfl
