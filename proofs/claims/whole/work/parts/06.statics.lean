/-- the fields of TickLines$Counter in their places: 0 gateIsOn, 1 output, 2 mode, 3 access, 4 reload, 5 count, 6 runs, 7 toBeLoaded, 8 pending, 9 lowWritten, 10 highIsWrittenNext, 11 highIsReadNext, 12 latchedCount, 13 latchedStatus -/
abbrev FN (c : Nat → Int32) : List Value := [.int (c 0), .int (c 1), .int (c 2), .int (c 3), .int (c 4), .int (c 5), .int (c 6), .int (c 7), .int (c 8), .int (c 9), .int (c 10), .int (c 11), .int (c 12), .int (c 13)]
theorem tk_ewN {h0 : Nat} {c c1 : Nat → Int32} (h : c = c1) : ([(h0, .inr (1, FN c))] : va_W) = [(h0, .inr (1, FN c1))] := by rw [h]
/-- the fields of TickLines$Controller in their places: 0 leads, 1 lines, 2 latches, 3 mask, 4 service, 5 base, 6 lowest, 7 ready, 8 awaited, 9 levelMode, 10 single, 11 fourthComes, 12 auto, 13 nested, 14 special, 15 turns, 16 serviceIsRead, 17 polled -/
abbrev FC (c : Nat → Int32) : List Value := [.int (c 0), .int (c 1), .int (c 2), .int (c 3), .int (c 4), .int (c 5), .int (c 6), .int (c 7), .int (c 8), .int (c 9), .int (c 10), .int (c 11), .int (c 12), .int (c 13), .int (c 14), .int (c 15), .int (c 16), .int (c 17)]
theorem tk_ewC {h0 : Nat} {c c1 : Nat → Int32} (h : c = c1) : ([(h0, .inr (0, FC c))] : va_W) = [(h0, .inr (0, FC c1))] := by rw [h]
def tkT_asBit_r (x0 : Int32) : Int32 :=
  if x0 = 0 then 0
  else 1
set_option maxHeartbeats 4000000 in
set_option maxRecDepth 100000 in
theorem kT_asBit (l : Launch) (D : va_G) (x0 : Int32) : tk_M l yT_asBit wsT_asBit { frames := 0, cells := 0, slots := 0, locals := 0 } D [] [.int x0] [] [] (some (.int (tkT_asBit_r x0))) := by
  refine tk_M.of (cc := cT_asBit) (maxL := 1) (ret := (some .int)) (by decide) rfl (Nat.le_of_ble_eq_true rfl) ?_
  intro p e s m below meth co A H locs ls hB hK hN hA hP hD hS hl
  obtain ⟨hx, hb, hr, hml, hown, hlk, hnm, hts⟩ := hB
  have hown : s.vm.findClass RT = some m.cls := hown
  have hl : lv_has ls 1 [(0, .int x0)] := hl
  have hw : ∀ w ∈ tkW, w.before _ s = true := fun w h => hts w (List.mem_cons_of_mem _ h)
  refine lv_iload_n hx hb dT_asBit_0 rfl (lv_at hl 0 rfl) ?_
  refine lv_if_eq (tgt := 8) hx hb dT_asBit_1 (by decide) (fun (h1_ : x0 = 0) => ?_) (fun (h1_ : ¬ (x0 = 0)) => ?_)
  · refine lv_iconst (v := 0) hx hb dT_asBit_8 (by decide) ?_
    exact tk_iret hx hb hr hlk hP hD hS dT_asBit_9 (by unfold tkT_asBit_r; rw [if_pos h1_]) rfl
  · refine lv_iconst (v := 1) hx hb dT_asBit_4 (by decide) ?_
    refine lv_goto (tgt := 9) hx hb dT_asBit_5 (by decide) ?_
    exact tk_iret hx hb hr hlk hP hD hS dT_asBit_9 (by unfold tkT_asBit_r; rw [if_neg h1_]) rfl
def tkT_hasBit_r (x0 x1 : Int32) : Int32 :=
  if (x0 >>> (x1 &&& 31)) &&& 1 = 0 then 0
  else 1
theorem tkT_hasBit_b (x0 x1 : Int32) : tkT_hasBit_r x0 x1 = 0 ∨ tkT_hasBit_r x0 x1 = 1 := by
  unfold tkT_hasBit_r
  repeat' split
  all_goals first | exact Or.inl rfl | exact Or.inr rfl
set_option maxHeartbeats 4000000 in
set_option maxRecDepth 100000 in
theorem kT_hasBit (l : Launch) (D : va_G) (x0 x1 : Int32) : tk_M l yT_hasBit wsT_hasBit { frames := 0, cells := 0, slots := 0, locals := 0 } D [] [.int x0, .int x1] [] [] (some (.int (tkT_hasBit_r x0 x1))) := by
  refine tk_M.of (cc := cT_hasBit) (maxL := 2) (ret := (some .boolean)) (by decide) rfl (Nat.le_of_ble_eq_true rfl) ?_
  intro p e s m below meth co A H locs ls hB hK hN hA hP hD hS hl
  obtain ⟨hx, hb, hr, hml, hown, hlk, hnm, hts⟩ := hB
  have hown : s.vm.findClass RT = some m.cls := hown
  have hl : lv_has ls 2 [(0, .int x0), (1, .int x1)] := hl
  have hw : ∀ w ∈ tkW, w.before _ s = true := fun w h => hts w (List.mem_cons_of_mem _ h)
  refine lv_iload_n hx hb dT_hasBit_0 rfl (lv_at hl 0 rfl) ?_
  refine lv_iload_n hx hb dT_hasBit_1 rfl (lv_at hl 1 rfl) ?_
  refine lv_ishr hx hb dT_hasBit_2 ?_
  refine lv_iconst (v := 1) hx hb dT_hasBit_3 (by decide) ?_
  refine lv_iand hx hb dT_hasBit_4 ?_
  refine lv_if_eq (tgt := 12) hx hb dT_hasBit_5 (by decide) (fun (h1_ : (x0 >>> (x1 &&& 31)) &&& 1 = 0) => ?_) (fun (h1_ : ¬ ((x0 >>> (x1 &&& 31)) &&& 1 = 0)) => ?_)
  · refine lv_iconst (v := 0) hx hb dT_hasBit_12 (by decide) ?_
    exact tk_zret hx hb hr hlk hP hD hS dT_hasBit_13 rfl (by unfold tkT_hasBit_r; rw [if_pos h1_]) rfl
  · refine lv_iconst (v := 1) hx hb dT_hasBit_8 (by decide) ?_
    refine lv_goto (tgt := 13) hx hb dT_hasBit_9 (by decide) ?_
    exact tk_zret hx hb hr hlk hP hD hS dT_hasBit_13 rfl (by unfold tkT_hasBit_r; rw [if_neg h1_]) rfl
def tkT_isPort_r (x0 : Int32) : Int32 :=
  if x0 < 0 then 0
  else if 7 < x0 then 0
    else 1
theorem tkT_isPort_b (x0 : Int32) : tkT_isPort_r x0 = 0 ∨ tkT_isPort_r x0 = 1 := by
  unfold tkT_isPort_r
  repeat' split
  all_goals first | exact Or.inl rfl | exact Or.inr rfl
set_option maxHeartbeats 4000000 in
set_option maxRecDepth 100000 in
theorem kT_isPort (l : Launch) (D : va_G) (x0 : Int32) : tk_M l yT_isPort wsT_isPort { frames := 0, cells := 0, slots := 0, locals := 0 } D [] [.int x0] [] [] (some (.int (tkT_isPort_r x0))) := by
  refine tk_M.of (cc := cT_isPort) (maxL := 1) (ret := (some .boolean)) (by decide) rfl (Nat.le_of_ble_eq_true rfl) ?_
  intro p e s m below meth co A H locs ls hB hK hN hA hP hD hS hl
  obtain ⟨hx, hb, hr, hml, hown, hlk, hnm, hts⟩ := hB
  have hown : s.vm.findClass RT = some m.cls := hown
  have hl : lv_has ls 1 [(0, .int x0)] := hl
  have hw : ∀ w ∈ tkW, w.before _ s = true := fun w h => hts w (List.mem_cons_of_mem _ h)
  refine lv_iload_n hx hb dT_isPort_0 rfl (lv_at hl 0 rfl) ?_
  refine lv_if_lt (tgt := 14) hx hb dT_isPort_1 (by decide) (fun (h1_ : x0 < 0) => ?_) (fun (h1_ : ¬ (x0 < 0)) => ?_)
  · refine lv_iconst (v := 0) hx hb dT_isPort_14 (by decide) ?_
    exact tk_zret hx hb hr hlk hP hD hS dT_isPort_15 rfl (by unfold tkT_isPort_r; rw [if_pos h1_]) rfl
  · refine lv_iload_n hx hb dT_isPort_4 rfl (lv_at hl 0 rfl) ?_
    refine lv_bipush (v := 7) hx hb dT_isPort_5 (by decide) ?_
    refine lv_icmp_gt (tgt := 14) hx hb dT_isPort_7 (by decide) (fun (h2_ : 7 < x0) => ?_) (fun (h2_ : ¬ (7 < x0)) => ?_)
    · refine lv_iconst (v := 0) hx hb dT_isPort_14 (by decide) ?_
      exact tk_zret hx hb hr hlk hP hD hS dT_isPort_15 rfl (by unfold tkT_isPort_r; rw [if_neg h1_, if_pos h2_]) rfl
    · refine lv_iconst (v := 1) hx hb dT_isPort_10 (by decide) ?_
      refine lv_goto (tgt := 15) hx hb dT_isPort_11 (by decide) ?_
      exact tk_zret hx hb hr hlk hP hD hS dT_isPort_15 rfl (by unfold tkT_isPort_r; rw [if_neg h1_, if_neg h2_]) rfl
def tkT_isController_r (x0 : Int32) : Int32 :=
  if x0 < 0 then 0
  else if 2 ≤ x0 then 0
    else 1
theorem tkT_isController_b (x0 : Int32) : tkT_isController_r x0 = 0 ∨ tkT_isController_r x0 = 1 := by
  unfold tkT_isController_r
  repeat' split
  all_goals first | exact Or.inl rfl | exact Or.inr rfl
set_option maxHeartbeats 4000000 in
set_option maxRecDepth 100000 in
theorem kT_isController (l : Launch) (D : va_G) (x0 : Int32) : tk_M l yT_isController wsT_isController { frames := 0, cells := 0, slots := 0, locals := 0 } D [] [.int x0] [] [] (some (.int (tkT_isController_r x0))) := by
  refine tk_M.of (cc := cT_isController) (maxL := 1) (ret := (some .boolean)) (by decide) rfl (Nat.le_of_ble_eq_true rfl) ?_
  intro p e s m below meth co A H locs ls hB hK hN hA hP hD hS hl
  obtain ⟨hx, hb, hr, hml, hown, hlk, hnm, hts⟩ := hB
  have hown : s.vm.findClass RT = some m.cls := hown
  have hl : lv_has ls 1 [(0, .int x0)] := hl
  have hw : ∀ w ∈ tkW, w.before _ s = true := fun w h => hts w (List.mem_cons_of_mem _ h)
  refine lv_iload_n hx hb dT_isController_0 rfl (lv_at hl 0 rfl) ?_
  refine lv_if_lt (tgt := 13) hx hb dT_isController_1 (by decide) (fun (h1_ : x0 < 0) => ?_) (fun (h1_ : ¬ (x0 < 0)) => ?_)
  · refine lv_iconst (v := 0) hx hb dT_isController_13 (by decide) ?_
    exact tk_zret hx hb hr hlk hP hD hS dT_isController_14 rfl (by unfold tkT_isController_r; rw [if_pos h1_]) rfl
  · refine lv_iload_n hx hb dT_isController_4 rfl (lv_at hl 0 rfl) ?_
    refine lv_iconst (v := 2) hx hb dT_isController_5 (by decide) ?_
    refine lv_icmp_ge (tgt := 13) hx hb dT_isController_6 (by decide) (fun (h2_ : 2 ≤ x0) => ?_) (fun (h2_ : ¬ (2 ≤ x0)) => ?_)
    · refine lv_iconst (v := 0) hx hb dT_isController_13 (by decide) ?_
      exact tk_zret hx hb hr hlk hP hD hS dT_isController_14 rfl (by unfold tkT_isController_r; rw [if_neg h1_, if_pos h2_]) rfl
    · refine lv_iconst (v := 1) hx hb dT_isController_9 (by decide) ?_
      refine lv_goto (tgt := 14) hx hb dT_isController_10 (by decide) ?_
      exact tk_zret hx hb hr hlk hP hD hS dT_isController_14 rfl (by unfold tkT_isController_r; rw [if_neg h1_, if_neg h2_]) rfl
def tkT_isCounter_r (x0 : Int32) : Int32 :=
  if x0 < 0 then 0
  else if 3 ≤ x0 then 0
    else 1
theorem tkT_isCounter_b (x0 : Int32) : tkT_isCounter_r x0 = 0 ∨ tkT_isCounter_r x0 = 1 := by
  unfold tkT_isCounter_r
  repeat' split
  all_goals first | exact Or.inl rfl | exact Or.inr rfl
set_option maxHeartbeats 4000000 in
set_option maxRecDepth 100000 in
theorem kT_isCounter (l : Launch) (D : va_G) (x0 : Int32) : tk_M l yT_isCounter wsT_isCounter { frames := 0, cells := 0, slots := 0, locals := 0 } D [] [.int x0] [] [] (some (.int (tkT_isCounter_r x0))) := by
  refine tk_M.of (cc := cT_isCounter) (maxL := 1) (ret := (some .boolean)) (by decide) rfl (Nat.le_of_ble_eq_true rfl) ?_
  intro p e s m below meth co A H locs ls hB hK hN hA hP hD hS hl
  obtain ⟨hx, hb, hr, hml, hown, hlk, hnm, hts⟩ := hB
  have hown : s.vm.findClass RT = some m.cls := hown
  have hl : lv_has ls 1 [(0, .int x0)] := hl
  have hw : ∀ w ∈ tkW, w.before _ s = true := fun w h => hts w (List.mem_cons_of_mem _ h)
  refine lv_iload_n hx hb dT_isCounter_0 rfl (lv_at hl 0 rfl) ?_
  refine lv_if_lt (tgt := 13) hx hb dT_isCounter_1 (by decide) (fun (h1_ : x0 < 0) => ?_) (fun (h1_ : ¬ (x0 < 0)) => ?_)
  · refine lv_iconst (v := 0) hx hb dT_isCounter_13 (by decide) ?_
    exact tk_zret hx hb hr hlk hP hD hS dT_isCounter_14 rfl (by unfold tkT_isCounter_r; rw [if_pos h1_]) rfl
  · refine lv_iload_n hx hb dT_isCounter_4 rfl (lv_at hl 0 rfl) ?_
    refine lv_iconst (v := 3) hx hb dT_isCounter_5 (by decide) ?_
    refine lv_icmp_ge (tgt := 13) hx hb dT_isCounter_6 (by decide) (fun (h2_ : 3 ≤ x0) => ?_) (fun (h2_ : ¬ (3 ≤ x0)) => ?_)
    · refine lv_iconst (v := 0) hx hb dT_isCounter_13 (by decide) ?_
      exact tk_zret hx hb hr hlk hP hD hS dT_isCounter_14 rfl (by unfold tkT_isCounter_r; rw [if_neg h1_, if_pos h2_]) rfl
    · refine lv_iconst (v := 1) hx hb dT_isCounter_9 (by decide) ?_
      refine lv_goto (tgt := 14) hx hb dT_isCounter_10 (by decide) ?_
      exact tk_zret hx hb hr hlk hP hD hS dT_isCounter_14 rfl (by unfold tkT_isCounter_r; rw [if_neg h1_, if_neg h2_]) rfl
def tkT_isCounterPort_r (x0 : Int32) : Int32 :=
  tkT_isCounter_r (x0 - 4)
set_option maxHeartbeats 4000000 in
set_option maxRecDepth 100000 in
theorem kT_isCounterPort (l : Launch) (D : va_G) (x0 : Int32) : tk_M l yT_isCounterPort wsT_isCounterPort { frames := 1, cells := 0, slots := 0, locals := 20 } D [] [.int x0] [] [] (some (.int (tkT_isCounterPort_r x0))) := by
  refine tk_M.of (cc := cT_isCounterPort) (maxL := 1) (ret := (some .boolean)) (by decide) rfl (Nat.le_of_ble_eq_true rfl) ?_
  intro p e s m below meth co A H locs ls hB hK hN hA hP hD hS hl
  obtain ⟨hx, hb, hr, hml, hown, hlk, hnm, hts⟩ := hB
  have hown : s.vm.findClass RT = some m.cls := hown
  have hl : lv_has ls 1 [(0, .int x0)] := hl
  have hw : ∀ w ∈ tkW, w.before _ s = true := fun w h => hts w (List.mem_cons_of_mem _ h)
  refine lv_iload_n hx hb dT_isCounterPort_0 rfl (lv_at hl 0 rfl) ?_
  refine lv_iconst (v := 4) hx hb dT_isCounterPort_1 (by decide) ?_
  refine lv_isub hx hb dT_isCounterPort_2 ?_
  refine tk_call0 hP hD hS hA (va_runS (As := [.int (x0 - 4)]) (rest := []) ⟨hx, hb, hml, hown, hw⟩ (kT_isCounter l D (x0 - 4) H.size) (va_cwS 1 hw (tk_gS tkW_good wM_T_80 wT_T_isCounter wZ_T wC_T_isCounter) rfl rfl rfl (by decide +kernel) ⟨Nat.le_of_ble_eq_true rfl, Nat.le_of_ble_eq_true rfl⟩) (tk_preS hK hN hP hD [] [] rfl rfl rfl) rfl rfl hl.1 rfl (lv_room (Nat.le_of_ble_eq_true rfl)) dT_isCounterPort_3 ⟨Nat.zero_le _, Nat.zero_le _⟩) (fun H locs hP hD hS => ?_)
  refine W.eq (g2 := F0 m 6 ls [.int (tkT_isCounter_r (x0 - 4))]) rfl ?_
  exact tk_zret hx hb hr hlk hP hD hS dT_isCounterPort_6 (tk_nb (tkT_isCounter_b (x0 - 4))) rfl rfl
