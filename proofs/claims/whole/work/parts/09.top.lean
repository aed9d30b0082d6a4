/-- the outer class: ad 0 its object, ad 1, ad 2 the controllers, ad 3 the array, ad 4, 5, 6 the counters; g by the same places -/
abbrev tkAr (ad : Nat → Nat) : Nat → Option Nat := va_up (va_up (va_up (fun _ => none) 0 (some (ad 4))) 1 (some (ad 5))) 2 (some (ad 6))
abbrev WT (ad : Nat → Nat) (cA : ClassId) (g : Nat → Nat → Int32) : va_W := [(ad 0, .inr (2, [.ref (ad 1), .ref (ad 2), .ref (ad 3)])), (ad 1, .inr (0, FC (g 1))), (ad 2, .inr (0, FC (g 2))), (ad 3, .inl (cA, 3, .inr (.inr (.inr (.inr (tkAr ad)))))), (ad 4, .inr (1, FN (g 4))), (ad 5, .inr (1, FN (g 5))), (ad 6, .inr (1, FN (g 6)))]
set_option maxRecDepth 100000 in
theorem tk_preT {s : State} {H : Heap} {D : va_G} {A : Nat → Prop} {ad : Nat → Nat} {cA : ClassId} {g : Nat → Nat → Int32} {As : List Value} (hK : va_K D vwCl [(cA, .object "TickLines$Counter")] s) (hN : tk_N s) (hP : va_P D vwCl (WT ad cA g) H) (hD : va_D A (WT ad cA g)) : PreV s H RT (ad 0) (va_Pc (.ref (ad 0) :: As) (tk_P D [(cA, .object "TickLines$Counter")] (WT ad cA g) H.size)) As :=
  tk_preV (q0 := 0) (T := TT) (N := 3) hK hN hP hD [0, 1, 2, 3, 4, 5, 6] [0] (by decide) rfl rfl rfl rfl
theorem tkT_isCounter_c (x : Int32) (h : ¬ tkT_isCounter_r x = 0) : x = 0 ∨ x = 1 ∨ x = 2 := by
  unfold tkT_isCounter_r at h
  by_cases h0 : x < 0
  · rw [if_pos h0] at h; exact absurd rfl h
  · rw [if_neg h0] at h
    by_cases h1 : 3 ≤ x
    · rw [if_pos h1] at h; exact absurd rfl h
    · have z : (0 : Int32).toInt = 0 := by decide
      have z3 : (3 : Int32).toInt = 3 := by decide
      have a : ¬ x.toInt < (0 : Int32).toInt := fun q => h0 (tk_lt.mpr q)
      have b : ¬ (3 : Int32).toInt ≤ x.toInt := fun q => h1 (tk_le.mpr q)
      rcases (by omega : x.toInt = 0 ∨ x.toInt = 1 ∨ x.toInt = 2) with q | q | q
      · exact Or.inl (tk_eqI q)
      · exact Or.inr (Or.inl (tk_eqI q))
      · exact Or.inr (Or.inr (tk_eqI q))
def tkT_controllerOf_r (ad : Nat → Nat) (x0 : Int32) : Nat :=
  if x0 = 0 then (ad 1)
  else (ad 2)
set_option maxHeartbeats 1000000 in
set_option maxRecDepth 100000 in
theorem kT_controllerOf (l : Launch) (D : va_G) (ad : Nat → Nat) (cA : ClassId) (g : Nat → Nat → Int32) (x0 : Int32) : tk_M l yT_controllerOf wsT_controllerOf { frames := 0, cells := 0, slots := 0, locals := 0 } D [(cA, .object "TickLines$Counter")] [.ref (ad 0), .int x0] (WT ad cA g) (WT ad cA g) (some (.ref (tkT_controllerOf_r ad x0))) := by
  refine tk_M.of (cc := cT_controllerOf) (maxL := 2) (ret := (some (.object "TickLines$Controller"))) (by decide) rfl (Nat.le_of_ble_eq_true rfl) ?_
  intro p e s m below meth co A H locs ls hB hK hN hA hP hD hS hl
  obtain ⟨hx, hb, hr, hml, hown, hlk, hnm, hts⟩ := hB
  have hown : s.vm.findClass RT = some m.cls := hown
  have hl : lv_has ls 2 [(0, .ref (ad 0)), (1, .int x0)] := hl
  have hw : ∀ w ∈ tkW, w.before _ s = true := fun w h => hts w (List.mem_cons_of_mem _ h)
  have f18 := hw _ wF_T_18
  have f12 := hw _ wF_T_12
  refine lv_iload_n hx hb dT_controllerOf_0 rfl (lv_at hl 1 rfl) ?_
  refine lv_if_ne (tgt := 11) hx hb dT_controllerOf_1 (by decide) (fun (h1_ : ¬ (x0 = 0)) => ?_) (fun (h1_ : x0 = 0) => ?_)
  · refine lv_aload_n hx hb dT_controllerOf_11 rfl (lv_at hl 0 rfl) ?_
    refine va_get (D := D) (ci := 2) (v := .ref (ad 2)) (C := RT) (T := TT) (N := 3) hx hb hw inT hown hK hP 0 rfl rfl 1 (by decide) f18 (fun _ h9 => h9) rfl dT_controllerOf_12 ?_
    exact tk_aret hx hb hr (Or.inl ⟨_, rfl⟩) hlk hP hD hS dT_controllerOf_15 (by unfold tkT_controllerOf_r; rw [if_neg h1_]) rfl
  · refine lv_aload_n hx hb dT_controllerOf_4 rfl (lv_at hl 0 rfl) ?_
    refine va_get (D := D) (ci := 2) (v := .ref (ad 1)) (C := RT) (T := TT) (N := 3) hx hb hw inT hown hK hP 0 rfl rfl 0 (by decide) f12 (fun _ h9 => h9) rfl dT_controllerOf_5 ?_
    refine lv_goto (tgt := 15) hx hb dT_controllerOf_8 (by decide) ?_
    exact tk_aret hx hb hr (Or.inl ⟨_, rfl⟩) hlk hP hD hS dT_controllerOf_15 (by unfold tkT_controllerOf_r; rw [if_pos h1_]) rfl
def tkT_latchMany_w3 (g : Nat → Nat → Int32) (x0 : Int32) : Nat → Nat → Int32 :=
  if tkT_hasBit_r x0 5 = 0 then tk_up g 4 (tkN_latchCount_s (g 4))
  else g
def tkT_latchMany_w2 (g : Nat → Nat → Int32) (x0 : Int32) : Nat → Nat → Int32 :=
  if tkT_hasBit_r x0 (1 + 0) = 0 then g
  else if tkT_hasBit_r x0 4 = 0 then tk_up (tkT_latchMany_w3 g x0) 4 (tkN_latchStatus_s ((tkT_latchMany_w3 g x0) 4))
    else tkT_latchMany_w3 g x0
def tkT_latchMany_w6 (g : Nat → Nat → Int32) (x0 : Int32) : Nat → Nat → Int32 :=
  if tkT_hasBit_r x0 5 = 0 then tk_up (tkT_latchMany_w2 g x0) 5 (tkN_latchCount_s ((tkT_latchMany_w2 g x0) 5))
  else tkT_latchMany_w2 g x0
def tkT_latchMany_w5 (g : Nat → Nat → Int32) (x0 : Int32) : Nat → Nat → Int32 :=
  if tkT_hasBit_r x0 (1 + 1) = 0 then tkT_latchMany_w2 g x0
  else if tkT_hasBit_r x0 4 = 0 then tk_up (tkT_latchMany_w6 g x0) 5 (tkN_latchStatus_s ((tkT_latchMany_w6 g x0) 5))
    else tkT_latchMany_w6 g x0
def tkT_latchMany_w9 (g : Nat → Nat → Int32) (x0 : Int32) : Nat → Nat → Int32 :=
  if tkT_hasBit_r x0 5 = 0 then tk_up (tkT_latchMany_w5 g x0) 6 (tkN_latchCount_s ((tkT_latchMany_w5 g x0) 6))
  else tkT_latchMany_w5 g x0
def tkT_latchMany_w8 (g : Nat → Nat → Int32) (x0 : Int32) : Nat → Nat → Int32 :=
  if tkT_hasBit_r x0 (1 + 2) = 0 then tkT_latchMany_w5 g x0
  else if tkT_hasBit_r x0 4 = 0 then tk_up (tkT_latchMany_w9 g x0) 6 (tkN_latchStatus_s ((tkT_latchMany_w9 g x0) 6))
    else tkT_latchMany_w9 g x0
def tkT_latchMany_s (g : Nat → Nat → Int32) (x0 : Int32) : Nat → Nat → Int32 :=
  tkT_latchMany_w8 g x0
set_option maxHeartbeats 1000000 in
set_option maxRecDepth 100000 in
theorem kT_latchMany (l : Launch) (D : va_G) (ad : Nat → Nat) (cA : ClassId) (g : Nat → Nat → Int32) (x0 : Int32) : tk_M l yT_latchMany wsT_latchMany { frames := 2, cells := 0, slots := 0, locals := 40 } D [(cA, .object "TickLines$Counter")] [.ref (ad 0), .int x0] (WT ad cA g) (WT ad cA (tkT_latchMany_s g x0)) none := by
  refine tk_M.of (cc := cT_latchMany) (maxL := 3) (ret := none) (by decide) rfl (Nat.le_of_ble_eq_true rfl) ?_
  intro p e s m below meth co A H locs ls hB hK hN hA hP hD hS hl
  obtain ⟨hx, hb, hr, hml, hown, hlk, hnm, hts⟩ := hB
  have hown : s.vm.findClass RT = some m.cls := hown
  have hl : lv_has ls 3 [(0, .ref (ad 0)), (1, .int x0)] := hl
  have hw : ∀ w ∈ tkW, w.before _ s = true := fun w h => hts w (List.mem_cons_of_mem _ h)
  have f24 := hw _ wF_T_24
  refine lv_iconst (v := 0) hx hb dT_latchMany_0 (by decide) ?_
  refine lv_istore_n hx hb dT_latchMany_1 rfl hl (by decide) rfl (fun ls hl => ?_)
  have hl : lv_has ls 3 [(2, .int 0), (0, .ref (ad 0)), (1, .int x0)] := hl
  refine lv_iload_n hx hb dT_latchMany_2 rfl (lv_at hl 0 rfl) ?_
  refine lv_iconst (v := 3) hx hb dT_latchMany_3 (by decide) ?_
  refine lv_icmp_ge (tgt := 57) hx hb dT_latchMany_4 (by decide) (fun h => absurd h (by decide)) (fun _ => ?_)
  refine lv_iload_n hx hb dT_latchMany_7 rfl (lv_at hl 2 rfl) ?_
  refine lv_iconst (v := 1) hx hb dT_latchMany_8 (by decide) ?_
  refine lv_iload_n hx hb dT_latchMany_9 rfl (lv_at hl 0 rfl) ?_
  refine lv_iadd hx hb dT_latchMany_10 ?_
  refine tk_call0 hP hD hS hA (va_runS (As := [.int x0, .int (1 + 0)]) (rest := []) ⟨hx, hb, hml, hown, hw⟩ (kT_hasBit l D x0 (1 + 0) H.size) (va_cwS 2 hw (tk_gS tkW_good wM_T_130 wT_T_hasBit wZ_T wC_T_hasBit) rfl rfl rfl (by decide +kernel) ⟨Nat.le_of_ble_eq_true rfl, Nat.le_of_ble_eq_true rfl⟩) (tk_preS hK hN hP hD [] [] rfl rfl rfl) rfl rfl hl.1 rfl (lv_room (Nat.le_of_ble_eq_true rfl)) dT_latchMany_11 ⟨Nat.zero_le _, Nat.zero_le _⟩) (fun H locs hP hD hS => ?_)
  refine W.eq (g2 := F0 m 14 ls [.int (tkT_hasBit_r x0 (1 + 0))]) rfl ?_
  refine tk_mrg (D := D) (ws1 := (WT ad cA (tkT_latchMany_w2 g x0))) (g2 := F0 m 51 ls []) hD hS (fun key => ?_) (fun H locs hP hD hS => ?_)
  · refine lv_if_eq (tgt := 51) hx hb dT_latchMany_14 (by decide) (fun (h1_ : tkT_hasBit_r x0 (1 + 0) = 0) => ?_) (fun (h1_ : ¬ (tkT_hasBit_r x0 (1 + 0) = 0)) => ?_)
    · exact key H locs (tk_Pw (congrArg (WT ad cA) (by unfold tkT_latchMany_w2; rw [if_pos h1_])) hP) (tk_Dw (congrArg (WT ad cA) (by unfold tkT_latchMany_w2; rw [if_pos h1_])) hD) hS
    · refine lv_iload_n hx hb dT_latchMany_17 rfl (lv_at hl 2 rfl) ?_
      refine lv_iconst (v := 5) hx hb dT_latchMany_18 (by decide) ?_
      refine tk_call0 hP hD hS hA (va_runS (As := [.int x0, .int 5]) (rest := []) ⟨hx, hb, hml, hown, hw⟩ (kT_hasBit l D x0 5 H.size) (va_cwS 2 hw (tk_gS tkW_good wM_T_130 wT_T_hasBit wZ_T wC_T_hasBit) rfl rfl rfl (by decide +kernel) ⟨Nat.le_of_ble_eq_true rfl, Nat.le_of_ble_eq_true rfl⟩) (tk_preS hK hN hP hD [] [] rfl rfl rfl) rfl rfl hl.1 rfl (lv_room (Nat.le_of_ble_eq_true rfl)) dT_latchMany_19 ⟨Nat.zero_le _, Nat.zero_le _⟩) (fun H locs hP hD hS => ?_)
      refine W.eq (g2 := F0 m 22 ls [.int (tkT_hasBit_r x0 5)]) rfl ?_
      refine tk_mrg (D := D) (ws1 := (WT ad cA (tkT_latchMany_w3 g x0))) (g2 := F0 m 34 ls []) hD hS (fun key => ?_) (fun H locs hP hD hS => ?_)
      · refine lv_if_ne (tgt := 34) hx hb dT_latchMany_22 (by decide) (fun (h2_ : ¬ (tkT_hasBit_r x0 5 = 0)) => ?_) (fun (h2_ : tkT_hasBit_r x0 5 = 0) => ?_)
        · exact key H locs (tk_Pw (congrArg (WT ad cA) (by unfold tkT_latchMany_w3; rw [if_neg h2_])) hP) (tk_Dw (congrArg (WT ad cA) (by unfold tkT_latchMany_w3; rw [if_neg h2_])) hD) hS
        · refine lv_aload_n hx hb dT_latchMany_25 rfl (lv_at hl 1 rfl) ?_
          refine va_get (D := D) (ci := 2) (v := .ref (ad 3)) (C := RT) (T := TT) (N := 3) hx hb hw inT hown hK hP 0 rfl rfl 2 (by decide) f24 (fun _ h9 => h9) rfl dT_latchMany_26 ?_
          refine lv_iload_n hx hb dT_latchMany_29 rfl (lv_at hl 0 rfl) ?_
          refine va_aldq hx hb hK hP 3 0 rfl rfl (by unfold vp_in; decide) dT_latchMany_30 ?_
          refine W.eq (g2 := F0 m 31 ls [.ref (ad 4)]) rfl ?_
          refine tk_call1 (cell := (ad 4, .inr (1, FN (g 4)))) (cell' := (ad 4, .inr (1, FN (tkN_latchCount_s (g 4))))) 4 hP hD hS hA rfl rfl (va_runV (As := []) (rest := []) ⟨hx, hb, hml, hown, hw⟩ (kN_latchCount l D (ad 4) (g 4) H.size) (cwV 0 hw (tk_gV tkW_good wM_T_123 wI_N_latchCount wS_N_latchCount wZ_N wC_N_latchCount) rfl rfl rfl (by decide +kernel) ⟨Nat.le_of_ble_eq_true rfl, Nat.le_of_ble_eq_true rfl⟩) (tk_preV (q0 := 4) hK hN hP hD [4] [] rfl rfl rfl rfl rfl) rfl rfl hl.1 rfl (lv_room (Nat.le_of_ble_eq_true rfl)) dT_latchMany_31 ⟨Nat.zero_le _, Nat.zero_le _⟩) (fun H locs hP hD hS => ?_)
          have hP : va_P D vwCl (WT ad cA (tk_up g 4 (tkN_latchCount_s (g 4)))) H := hP
          have hD : va_D A (WT ad cA (tk_up g 4 (tkN_latchCount_s (g 4)))) := hD
          refine W.eq (g2 := F0 m 34 ls []) rfl ?_
          exact key H locs (tk_Pw (congrArg (WT ad cA) (by unfold tkT_latchMany_w3; rw [if_pos h2_])) hP) (tk_Dw (congrArg (WT ad cA) (by unfold tkT_latchMany_w3; rw [if_pos h2_])) hD) hS
      · refine lv_iload_n hx hb dT_latchMany_34 rfl (lv_at hl 2 rfl) ?_
        refine lv_iconst (v := 4) hx hb dT_latchMany_35 (by decide) ?_
        refine tk_call0 hP hD hS hA (va_runS (As := [.int x0, .int 4]) (rest := []) ⟨hx, hb, hml, hown, hw⟩ (kT_hasBit l D x0 4 H.size) (va_cwS 2 hw (tk_gS tkW_good wM_T_130 wT_T_hasBit wZ_T wC_T_hasBit) rfl rfl rfl (by decide +kernel) ⟨Nat.le_of_ble_eq_true rfl, Nat.le_of_ble_eq_true rfl⟩) (tk_preS hK hN hP hD [] [] rfl rfl rfl) rfl rfl hl.1 rfl (lv_room (Nat.le_of_ble_eq_true rfl)) dT_latchMany_36 ⟨Nat.zero_le _, Nat.zero_le _⟩) (fun H locs hP hD hS => ?_)
        refine W.eq (g2 := F0 m 39 ls [.int (tkT_hasBit_r x0 4)]) rfl ?_
        refine lv_if_ne (tgt := 51) hx hb dT_latchMany_39 (by decide) (fun (h3_ : ¬ (tkT_hasBit_r x0 4 = 0)) => ?_) (fun (h3_ : tkT_hasBit_r x0 4 = 0) => ?_)
        · exact key H locs (tk_Pw (congrArg (WT ad cA) (by unfold tkT_latchMany_w2; rw [if_neg h1_, if_neg h3_])) hP) (tk_Dw (congrArg (WT ad cA) (by unfold tkT_latchMany_w2; rw [if_neg h1_, if_neg h3_])) hD) hS
        · refine lv_aload_n hx hb dT_latchMany_42 rfl (lv_at hl 1 rfl) ?_
          refine va_get (D := D) (ci := 2) (v := .ref (ad 3)) (C := RT) (T := TT) (N := 3) hx hb hw inT hown hK hP 0 rfl rfl 2 (by decide) f24 (fun _ h9 => h9) rfl dT_latchMany_43 ?_
          refine lv_iload_n hx hb dT_latchMany_46 rfl (lv_at hl 0 rfl) ?_
          refine va_aldq hx hb hK hP 3 0 rfl rfl (by unfold vp_in; decide) dT_latchMany_47 ?_
          refine W.eq (g2 := F0 m 48 ls [.ref (ad 4)]) rfl ?_
          refine tk_call1 (cell := (ad 4, .inr (1, FN ((tkT_latchMany_w3 g x0) 4)))) (cell' := (ad 4, .inr (1, FN (tkN_latchStatus_s ((tkT_latchMany_w3 g x0) 4))))) 4 hP hD hS hA rfl rfl (va_runV (As := []) (rest := []) ⟨hx, hb, hml, hown, hw⟩ (kN_latchStatus l D (ad 4) ((tkT_latchMany_w3 g x0) 4) H.size) (cwV 0 hw (tk_gV tkW_good wM_T_134 wI_N_latchStatus wS_N_latchStatus wZ_N wC_N_latchStatus) rfl rfl rfl (by decide +kernel) ⟨Nat.le_of_ble_eq_true rfl, Nat.le_of_ble_eq_true rfl⟩) (tk_preV (q0 := 4) hK hN hP hD [4] [] rfl rfl rfl rfl rfl) rfl rfl hl.1 rfl (lv_room (Nat.le_of_ble_eq_true rfl)) dT_latchMany_48 ⟨Nat.zero_le _, Nat.zero_le _⟩) (fun H locs hP hD hS => ?_)
          have hP : va_P D vwCl (WT ad cA (tk_up (tkT_latchMany_w3 g x0) 4 (tkN_latchStatus_s ((tkT_latchMany_w3 g x0) 4)))) H := hP
          have hD : va_D A (WT ad cA (tk_up (tkT_latchMany_w3 g x0) 4 (tkN_latchStatus_s ((tkT_latchMany_w3 g x0) 4)))) := hD
          refine W.eq (g2 := F0 m 51 ls []) rfl ?_
          exact key H locs (tk_Pw (congrArg (WT ad cA) (by unfold tkT_latchMany_w2; rw [if_neg h1_, if_pos h3_])) hP) (tk_Dw (congrArg (WT ad cA) (by unfold tkT_latchMany_w2; rw [if_neg h1_, if_pos h3_])) hD) hS
  · refine lv_iinc (k := 0) (v := 1) hx hb dT_latchMany_51 hl rfl (by decide) (by decide) rfl (fun ls hl => ?_)
    have hl : lv_has ls 3 [(2, .int 1), (0, .ref (ad 0)), (1, .int x0)] := hl
    refine lv_goto (tgt := 2) hx hb dT_latchMany_54 (by decide) ?_
    refine lv_iload_n hx hb dT_latchMany_2 rfl (lv_at hl 0 rfl) ?_
    refine lv_iconst (v := 3) hx hb dT_latchMany_3 (by decide) ?_
    refine lv_icmp_ge (tgt := 57) hx hb dT_latchMany_4 (by decide) (fun h => absurd h (by decide)) (fun _ => ?_)
    refine lv_iload_n hx hb dT_latchMany_7 rfl (lv_at hl 2 rfl) ?_
    refine lv_iconst (v := 1) hx hb dT_latchMany_8 (by decide) ?_
    refine lv_iload_n hx hb dT_latchMany_9 rfl (lv_at hl 0 rfl) ?_
    refine lv_iadd hx hb dT_latchMany_10 ?_
    refine tk_call0 hP hD hS hA (va_runS (As := [.int x0, .int (1 + 1)]) (rest := []) ⟨hx, hb, hml, hown, hw⟩ (kT_hasBit l D x0 (1 + 1) H.size) (va_cwS 2 hw (tk_gS tkW_good wM_T_130 wT_T_hasBit wZ_T wC_T_hasBit) rfl rfl rfl (by decide +kernel) ⟨Nat.le_of_ble_eq_true rfl, Nat.le_of_ble_eq_true rfl⟩) (tk_preS hK hN hP hD [] [] rfl rfl rfl) rfl rfl hl.1 rfl (lv_room (Nat.le_of_ble_eq_true rfl)) dT_latchMany_11 ⟨Nat.zero_le _, Nat.zero_le _⟩) (fun H locs hP hD hS => ?_)
    refine W.eq (g2 := F0 m 14 ls [.int (tkT_hasBit_r x0 (1 + 1))]) rfl ?_
    refine tk_mrg (D := D) (ws1 := (WT ad cA (tkT_latchMany_w5 g x0))) (g2 := F0 m 51 ls []) hD hS (fun key => ?_) (fun H locs hP hD hS => ?_)
    · refine lv_if_eq (tgt := 51) hx hb dT_latchMany_14 (by decide) (fun (h4_ : tkT_hasBit_r x0 (1 + 1) = 0) => ?_) (fun (h4_ : ¬ (tkT_hasBit_r x0 (1 + 1) = 0)) => ?_)
      · exact key H locs (tk_Pw (congrArg (WT ad cA) (by unfold tkT_latchMany_w5; rw [if_pos h4_])) hP) (tk_Dw (congrArg (WT ad cA) (by unfold tkT_latchMany_w5; rw [if_pos h4_])) hD) hS
      · refine lv_iload_n hx hb dT_latchMany_17 rfl (lv_at hl 2 rfl) ?_
        refine lv_iconst (v := 5) hx hb dT_latchMany_18 (by decide) ?_
        refine tk_call0 hP hD hS hA (va_runS (As := [.int x0, .int 5]) (rest := []) ⟨hx, hb, hml, hown, hw⟩ (kT_hasBit l D x0 5 H.size) (va_cwS 2 hw (tk_gS tkW_good wM_T_130 wT_T_hasBit wZ_T wC_T_hasBit) rfl rfl rfl (by decide +kernel) ⟨Nat.le_of_ble_eq_true rfl, Nat.le_of_ble_eq_true rfl⟩) (tk_preS hK hN hP hD [] [] rfl rfl rfl) rfl rfl hl.1 rfl (lv_room (Nat.le_of_ble_eq_true rfl)) dT_latchMany_19 ⟨Nat.zero_le _, Nat.zero_le _⟩) (fun H locs hP hD hS => ?_)
        refine W.eq (g2 := F0 m 22 ls [.int (tkT_hasBit_r x0 5)]) rfl ?_
        refine tk_mrg (D := D) (ws1 := (WT ad cA (tkT_latchMany_w6 g x0))) (g2 := F0 m 34 ls []) hD hS (fun key => ?_) (fun H locs hP hD hS => ?_)
        · refine lv_if_ne (tgt := 34) hx hb dT_latchMany_22 (by decide) (fun (h5_ : ¬ (tkT_hasBit_r x0 5 = 0)) => ?_) (fun (h5_ : tkT_hasBit_r x0 5 = 0) => ?_)
          · exact key H locs (tk_Pw (congrArg (WT ad cA) (by unfold tkT_latchMany_w6; rw [if_neg h5_])) hP) (tk_Dw (congrArg (WT ad cA) (by unfold tkT_latchMany_w6; rw [if_neg h5_])) hD) hS
          · refine lv_aload_n hx hb dT_latchMany_25 rfl (lv_at hl 1 rfl) ?_
            refine va_get (D := D) (ci := 2) (v := .ref (ad 3)) (C := RT) (T := TT) (N := 3) hx hb hw inT hown hK hP 0 rfl rfl 2 (by decide) f24 (fun _ h9 => h9) rfl dT_latchMany_26 ?_
            refine lv_iload_n hx hb dT_latchMany_29 rfl (lv_at hl 0 rfl) ?_
            refine va_aldq hx hb hK hP 3 0 rfl rfl (by unfold vp_in; decide) dT_latchMany_30 ?_
            refine W.eq (g2 := F0 m 31 ls [.ref (ad 5)]) rfl ?_
            refine tk_call1 (cell := (ad 5, .inr (1, FN ((tkT_latchMany_w2 g x0) 5)))) (cell' := (ad 5, .inr (1, FN (tkN_latchCount_s ((tkT_latchMany_w2 g x0) 5))))) 5 hP hD hS hA rfl rfl (va_runV (As := []) (rest := []) ⟨hx, hb, hml, hown, hw⟩ (kN_latchCount l D (ad 5) ((tkT_latchMany_w2 g x0) 5) H.size) (cwV 0 hw (tk_gV tkW_good wM_T_123 wI_N_latchCount wS_N_latchCount wZ_N wC_N_latchCount) rfl rfl rfl (by decide +kernel) ⟨Nat.le_of_ble_eq_true rfl, Nat.le_of_ble_eq_true rfl⟩) (tk_preV (q0 := 5) hK hN hP hD [5] [] rfl rfl rfl rfl rfl) rfl rfl hl.1 rfl (lv_room (Nat.le_of_ble_eq_true rfl)) dT_latchMany_31 ⟨Nat.zero_le _, Nat.zero_le _⟩) (fun H locs hP hD hS => ?_)
            have hP : va_P D vwCl (WT ad cA (tk_up (tkT_latchMany_w2 g x0) 5 (tkN_latchCount_s ((tkT_latchMany_w2 g x0) 5)))) H := hP
            have hD : va_D A (WT ad cA (tk_up (tkT_latchMany_w2 g x0) 5 (tkN_latchCount_s ((tkT_latchMany_w2 g x0) 5)))) := hD
            refine W.eq (g2 := F0 m 34 ls []) rfl ?_
            exact key H locs (tk_Pw (congrArg (WT ad cA) (by unfold tkT_latchMany_w6; rw [if_pos h5_])) hP) (tk_Dw (congrArg (WT ad cA) (by unfold tkT_latchMany_w6; rw [if_pos h5_])) hD) hS
        · refine lv_iload_n hx hb dT_latchMany_34 rfl (lv_at hl 2 rfl) ?_
          refine lv_iconst (v := 4) hx hb dT_latchMany_35 (by decide) ?_
          refine tk_call0 hP hD hS hA (va_runS (As := [.int x0, .int 4]) (rest := []) ⟨hx, hb, hml, hown, hw⟩ (kT_hasBit l D x0 4 H.size) (va_cwS 2 hw (tk_gS tkW_good wM_T_130 wT_T_hasBit wZ_T wC_T_hasBit) rfl rfl rfl (by decide +kernel) ⟨Nat.le_of_ble_eq_true rfl, Nat.le_of_ble_eq_true rfl⟩) (tk_preS hK hN hP hD [] [] rfl rfl rfl) rfl rfl hl.1 rfl (lv_room (Nat.le_of_ble_eq_true rfl)) dT_latchMany_36 ⟨Nat.zero_le _, Nat.zero_le _⟩) (fun H locs hP hD hS => ?_)
          refine W.eq (g2 := F0 m 39 ls [.int (tkT_hasBit_r x0 4)]) rfl ?_
          refine lv_if_ne (tgt := 51) hx hb dT_latchMany_39 (by decide) (fun (h6_ : ¬ (tkT_hasBit_r x0 4 = 0)) => ?_) (fun (h6_ : tkT_hasBit_r x0 4 = 0) => ?_)
          · exact key H locs (tk_Pw (congrArg (WT ad cA) (by unfold tkT_latchMany_w5; rw [if_neg h4_, if_neg h6_])) hP) (tk_Dw (congrArg (WT ad cA) (by unfold tkT_latchMany_w5; rw [if_neg h4_, if_neg h6_])) hD) hS
          · refine lv_aload_n hx hb dT_latchMany_42 rfl (lv_at hl 1 rfl) ?_
            refine va_get (D := D) (ci := 2) (v := .ref (ad 3)) (C := RT) (T := TT) (N := 3) hx hb hw inT hown hK hP 0 rfl rfl 2 (by decide) f24 (fun _ h9 => h9) rfl dT_latchMany_43 ?_
            refine lv_iload_n hx hb dT_latchMany_46 rfl (lv_at hl 0 rfl) ?_
            refine va_aldq hx hb hK hP 3 0 rfl rfl (by unfold vp_in; decide) dT_latchMany_47 ?_
            refine W.eq (g2 := F0 m 48 ls [.ref (ad 5)]) rfl ?_
            refine tk_call1 (cell := (ad 5, .inr (1, FN ((tkT_latchMany_w6 g x0) 5)))) (cell' := (ad 5, .inr (1, FN (tkN_latchStatus_s ((tkT_latchMany_w6 g x0) 5))))) 5 hP hD hS hA rfl rfl (va_runV (As := []) (rest := []) ⟨hx, hb, hml, hown, hw⟩ (kN_latchStatus l D (ad 5) ((tkT_latchMany_w6 g x0) 5) H.size) (cwV 0 hw (tk_gV tkW_good wM_T_134 wI_N_latchStatus wS_N_latchStatus wZ_N wC_N_latchStatus) rfl rfl rfl (by decide +kernel) ⟨Nat.le_of_ble_eq_true rfl, Nat.le_of_ble_eq_true rfl⟩) (tk_preV (q0 := 5) hK hN hP hD [5] [] rfl rfl rfl rfl rfl) rfl rfl hl.1 rfl (lv_room (Nat.le_of_ble_eq_true rfl)) dT_latchMany_48 ⟨Nat.zero_le _, Nat.zero_le _⟩) (fun H locs hP hD hS => ?_)
            have hP : va_P D vwCl (WT ad cA (tk_up (tkT_latchMany_w6 g x0) 5 (tkN_latchStatus_s ((tkT_latchMany_w6 g x0) 5)))) H := hP
            have hD : va_D A (WT ad cA (tk_up (tkT_latchMany_w6 g x0) 5 (tkN_latchStatus_s ((tkT_latchMany_w6 g x0) 5)))) := hD
            refine W.eq (g2 := F0 m 51 ls []) rfl ?_
            exact key H locs (tk_Pw (congrArg (WT ad cA) (by unfold tkT_latchMany_w5; rw [if_neg h4_, if_pos h6_])) hP) (tk_Dw (congrArg (WT ad cA) (by unfold tkT_latchMany_w5; rw [if_neg h4_, if_pos h6_])) hD) hS
    · refine lv_iinc (k := 0) (v := 2) hx hb dT_latchMany_51 hl rfl (by decide) (by decide) rfl (fun ls hl => ?_)
      have hl : lv_has ls 3 [(2, .int 2), (0, .ref (ad 0)), (1, .int x0)] := hl
      refine lv_goto (tgt := 2) hx hb dT_latchMany_54 (by decide) ?_
      refine lv_iload_n hx hb dT_latchMany_2 rfl (lv_at hl 0 rfl) ?_
      refine lv_iconst (v := 3) hx hb dT_latchMany_3 (by decide) ?_
      refine lv_icmp_ge (tgt := 57) hx hb dT_latchMany_4 (by decide) (fun h => absurd h (by decide)) (fun _ => ?_)
      refine lv_iload_n hx hb dT_latchMany_7 rfl (lv_at hl 2 rfl) ?_
      refine lv_iconst (v := 1) hx hb dT_latchMany_8 (by decide) ?_
      refine lv_iload_n hx hb dT_latchMany_9 rfl (lv_at hl 0 rfl) ?_
      refine lv_iadd hx hb dT_latchMany_10 ?_
      refine tk_call0 hP hD hS hA (va_runS (As := [.int x0, .int (1 + 2)]) (rest := []) ⟨hx, hb, hml, hown, hw⟩ (kT_hasBit l D x0 (1 + 2) H.size) (va_cwS 2 hw (tk_gS tkW_good wM_T_130 wT_T_hasBit wZ_T wC_T_hasBit) rfl rfl rfl (by decide +kernel) ⟨Nat.le_of_ble_eq_true rfl, Nat.le_of_ble_eq_true rfl⟩) (tk_preS hK hN hP hD [] [] rfl rfl rfl) rfl rfl hl.1 rfl (lv_room (Nat.le_of_ble_eq_true rfl)) dT_latchMany_11 ⟨Nat.zero_le _, Nat.zero_le _⟩) (fun H locs hP hD hS => ?_)
      refine W.eq (g2 := F0 m 14 ls [.int (tkT_hasBit_r x0 (1 + 2))]) rfl ?_
      refine tk_mrg (D := D) (ws1 := (WT ad cA (tkT_latchMany_w8 g x0))) (g2 := F0 m 51 ls []) hD hS (fun key => ?_) (fun H locs hP hD hS => ?_)
      · refine lv_if_eq (tgt := 51) hx hb dT_latchMany_14 (by decide) (fun (h7_ : tkT_hasBit_r x0 (1 + 2) = 0) => ?_) (fun (h7_ : ¬ (tkT_hasBit_r x0 (1 + 2) = 0)) => ?_)
        · exact key H locs (tk_Pw (congrArg (WT ad cA) (by unfold tkT_latchMany_w8; rw [if_pos h7_])) hP) (tk_Dw (congrArg (WT ad cA) (by unfold tkT_latchMany_w8; rw [if_pos h7_])) hD) hS
        · refine lv_iload_n hx hb dT_latchMany_17 rfl (lv_at hl 2 rfl) ?_
          refine lv_iconst (v := 5) hx hb dT_latchMany_18 (by decide) ?_
          refine tk_call0 hP hD hS hA (va_runS (As := [.int x0, .int 5]) (rest := []) ⟨hx, hb, hml, hown, hw⟩ (kT_hasBit l D x0 5 H.size) (va_cwS 2 hw (tk_gS tkW_good wM_T_130 wT_T_hasBit wZ_T wC_T_hasBit) rfl rfl rfl (by decide +kernel) ⟨Nat.le_of_ble_eq_true rfl, Nat.le_of_ble_eq_true rfl⟩) (tk_preS hK hN hP hD [] [] rfl rfl rfl) rfl rfl hl.1 rfl (lv_room (Nat.le_of_ble_eq_true rfl)) dT_latchMany_19 ⟨Nat.zero_le _, Nat.zero_le _⟩) (fun H locs hP hD hS => ?_)
          refine W.eq (g2 := F0 m 22 ls [.int (tkT_hasBit_r x0 5)]) rfl ?_
          refine tk_mrg (D := D) (ws1 := (WT ad cA (tkT_latchMany_w9 g x0))) (g2 := F0 m 34 ls []) hD hS (fun key => ?_) (fun H locs hP hD hS => ?_)
          · refine lv_if_ne (tgt := 34) hx hb dT_latchMany_22 (by decide) (fun (h8_ : ¬ (tkT_hasBit_r x0 5 = 0)) => ?_) (fun (h8_ : tkT_hasBit_r x0 5 = 0) => ?_)
            · exact key H locs (tk_Pw (congrArg (WT ad cA) (by unfold tkT_latchMany_w9; rw [if_neg h8_])) hP) (tk_Dw (congrArg (WT ad cA) (by unfold tkT_latchMany_w9; rw [if_neg h8_])) hD) hS
            · refine lv_aload_n hx hb dT_latchMany_25 rfl (lv_at hl 1 rfl) ?_
              refine va_get (D := D) (ci := 2) (v := .ref (ad 3)) (C := RT) (T := TT) (N := 3) hx hb hw inT hown hK hP 0 rfl rfl 2 (by decide) f24 (fun _ h9 => h9) rfl dT_latchMany_26 ?_
              refine lv_iload_n hx hb dT_latchMany_29 rfl (lv_at hl 0 rfl) ?_
              refine va_aldq hx hb hK hP 3 0 rfl rfl (by unfold vp_in; decide) dT_latchMany_30 ?_
              refine W.eq (g2 := F0 m 31 ls [.ref (ad 6)]) rfl ?_
              refine tk_call1 (cell := (ad 6, .inr (1, FN ((tkT_latchMany_w5 g x0) 6)))) (cell' := (ad 6, .inr (1, FN (tkN_latchCount_s ((tkT_latchMany_w5 g x0) 6))))) 6 hP hD hS hA rfl rfl (va_runV (As := []) (rest := []) ⟨hx, hb, hml, hown, hw⟩ (kN_latchCount l D (ad 6) ((tkT_latchMany_w5 g x0) 6) H.size) (cwV 0 hw (tk_gV tkW_good wM_T_123 wI_N_latchCount wS_N_latchCount wZ_N wC_N_latchCount) rfl rfl rfl (by decide +kernel) ⟨Nat.le_of_ble_eq_true rfl, Nat.le_of_ble_eq_true rfl⟩) (tk_preV (q0 := 6) hK hN hP hD [6] [] rfl rfl rfl rfl rfl) rfl rfl hl.1 rfl (lv_room (Nat.le_of_ble_eq_true rfl)) dT_latchMany_31 ⟨Nat.zero_le _, Nat.zero_le _⟩) (fun H locs hP hD hS => ?_)
              have hP : va_P D vwCl (WT ad cA (tk_up (tkT_latchMany_w5 g x0) 6 (tkN_latchCount_s ((tkT_latchMany_w5 g x0) 6)))) H := hP
              have hD : va_D A (WT ad cA (tk_up (tkT_latchMany_w5 g x0) 6 (tkN_latchCount_s ((tkT_latchMany_w5 g x0) 6)))) := hD
              refine W.eq (g2 := F0 m 34 ls []) rfl ?_
              exact key H locs (tk_Pw (congrArg (WT ad cA) (by unfold tkT_latchMany_w9; rw [if_pos h8_])) hP) (tk_Dw (congrArg (WT ad cA) (by unfold tkT_latchMany_w9; rw [if_pos h8_])) hD) hS
          · refine lv_iload_n hx hb dT_latchMany_34 rfl (lv_at hl 2 rfl) ?_
            refine lv_iconst (v := 4) hx hb dT_latchMany_35 (by decide) ?_
            refine tk_call0 hP hD hS hA (va_runS (As := [.int x0, .int 4]) (rest := []) ⟨hx, hb, hml, hown, hw⟩ (kT_hasBit l D x0 4 H.size) (va_cwS 2 hw (tk_gS tkW_good wM_T_130 wT_T_hasBit wZ_T wC_T_hasBit) rfl rfl rfl (by decide +kernel) ⟨Nat.le_of_ble_eq_true rfl, Nat.le_of_ble_eq_true rfl⟩) (tk_preS hK hN hP hD [] [] rfl rfl rfl) rfl rfl hl.1 rfl (lv_room (Nat.le_of_ble_eq_true rfl)) dT_latchMany_36 ⟨Nat.zero_le _, Nat.zero_le _⟩) (fun H locs hP hD hS => ?_)
            refine W.eq (g2 := F0 m 39 ls [.int (tkT_hasBit_r x0 4)]) rfl ?_
            refine lv_if_ne (tgt := 51) hx hb dT_latchMany_39 (by decide) (fun (h9_ : ¬ (tkT_hasBit_r x0 4 = 0)) => ?_) (fun (h9_ : tkT_hasBit_r x0 4 = 0) => ?_)
            · exact key H locs (tk_Pw (congrArg (WT ad cA) (by unfold tkT_latchMany_w8; rw [if_neg h7_, if_neg h9_])) hP) (tk_Dw (congrArg (WT ad cA) (by unfold tkT_latchMany_w8; rw [if_neg h7_, if_neg h9_])) hD) hS
            · refine lv_aload_n hx hb dT_latchMany_42 rfl (lv_at hl 1 rfl) ?_
              refine va_get (D := D) (ci := 2) (v := .ref (ad 3)) (C := RT) (T := TT) (N := 3) hx hb hw inT hown hK hP 0 rfl rfl 2 (by decide) f24 (fun _ h9 => h9) rfl dT_latchMany_43 ?_
              refine lv_iload_n hx hb dT_latchMany_46 rfl (lv_at hl 0 rfl) ?_
              refine va_aldq hx hb hK hP 3 0 rfl rfl (by unfold vp_in; decide) dT_latchMany_47 ?_
              refine W.eq (g2 := F0 m 48 ls [.ref (ad 6)]) rfl ?_
              refine tk_call1 (cell := (ad 6, .inr (1, FN ((tkT_latchMany_w9 g x0) 6)))) (cell' := (ad 6, .inr (1, FN (tkN_latchStatus_s ((tkT_latchMany_w9 g x0) 6))))) 6 hP hD hS hA rfl rfl (va_runV (As := []) (rest := []) ⟨hx, hb, hml, hown, hw⟩ (kN_latchStatus l D (ad 6) ((tkT_latchMany_w9 g x0) 6) H.size) (cwV 0 hw (tk_gV tkW_good wM_T_134 wI_N_latchStatus wS_N_latchStatus wZ_N wC_N_latchStatus) rfl rfl rfl (by decide +kernel) ⟨Nat.le_of_ble_eq_true rfl, Nat.le_of_ble_eq_true rfl⟩) (tk_preV (q0 := 6) hK hN hP hD [6] [] rfl rfl rfl rfl rfl) rfl rfl hl.1 rfl (lv_room (Nat.le_of_ble_eq_true rfl)) dT_latchMany_48 ⟨Nat.zero_le _, Nat.zero_le _⟩) (fun H locs hP hD hS => ?_)
              have hP : va_P D vwCl (WT ad cA (tk_up (tkT_latchMany_w9 g x0) 6 (tkN_latchStatus_s ((tkT_latchMany_w9 g x0) 6)))) H := hP
              have hD : va_D A (WT ad cA (tk_up (tkT_latchMany_w9 g x0) 6 (tkN_latchStatus_s ((tkT_latchMany_w9 g x0) 6)))) := hD
              refine W.eq (g2 := F0 m 51 ls []) rfl ?_
              exact key H locs (tk_Pw (congrArg (WT ad cA) (by unfold tkT_latchMany_w8; rw [if_neg h7_, if_pos h9_])) hP) (tk_Dw (congrArg (WT ad cA) (by unfold tkT_latchMany_w8; rw [if_neg h7_, if_pos h9_])) hD) hS
      · refine lv_iinc (k := 0) (v := 3) hx hb dT_latchMany_51 hl rfl (by decide) (by decide) rfl (fun ls hl => ?_)
        have hl : lv_has ls 3 [(2, .int 3), (0, .ref (ad 0)), (1, .int x0)] := hl
        refine lv_goto (tgt := 2) hx hb dT_latchMany_54 (by decide) ?_
        refine lv_iload_n hx hb dT_latchMany_2 rfl (lv_at hl 0 rfl) ?_
        refine lv_iconst (v := 3) hx hb dT_latchMany_3 (by decide) ?_
        refine lv_icmp_ge (tgt := 57) hx hb dT_latchMany_4 (by decide) (fun _ => ?_) (fun h => absurd (by decide) h)
        exact tk_vret hx hb hr hlk hP hD hS dT_latchMany_57 (congrArg (WT ad cA) rfl)
def tkT_takeControl_w1 (g : Nat → Nat → Int32) (x0 : Int32) : Nat → Nat → Int32 :=
  if tkT_isCounter_r (x0 >>> ((6 : Int32) &&& 31)) = 0 then tkT_latchMany_s g x0
  else if (x0 >>> ((4 : Int32) &&& 31)) &&& 3 = 0 then (if x0 >>> ((6 : Int32) &&& 31) = 0 then tk_up g 4 (tkN_latchCount_s (g 4))
      else if x0 >>> ((6 : Int32) &&& 31) = 1 then tk_up g 5 (tkN_latchCount_s (g 5))
        else tk_up g 6 (tkN_latchCount_s (g 6)))
    else if x0 >>> ((6 : Int32) &&& 31) = 0 then tk_up g 4 (tkN_setMode_s (g 4) ((x0 >>> ((4 : Int32) &&& 31)) &&& 3) ((x0 >>> ((1 : Int32) &&& 31)) &&& 7))
      else if x0 >>> ((6 : Int32) &&& 31) = 1 then tk_up g 5 (tkN_setMode_s (g 5) ((x0 >>> ((4 : Int32) &&& 31)) &&& 3) ((x0 >>> ((1 : Int32) &&& 31)) &&& 7))
        else tk_up g 6 (tkN_setMode_s (g 6) ((x0 >>> ((4 : Int32) &&& 31)) &&& 3) ((x0 >>> ((1 : Int32) &&& 31)) &&& 7))
def tkT_takeControl_s (g : Nat → Nat → Int32) (x0 : Int32) : Nat → Nat → Int32 :=
  tkT_takeControl_w1 g x0
set_option maxHeartbeats 1000000 in
set_option maxRecDepth 100000 in
theorem kT_takeControl (l : Launch) (D : va_G) (ad : Nat → Nat) (cA : ClassId) (g : Nat → Nat → Int32) (x0 : Int32) : tk_M l yT_takeControl wsT_takeControl { frames := 3, cells := 0, slots := 0, locals := 62 } D [(cA, .object "TickLines$Counter")] [.ref (ad 0), .int x0] (WT ad cA g) (WT ad cA (tkT_takeControl_s g x0)) none := by
  refine tk_M.of (cc := cT_takeControl) (maxL := 4) (ret := none) (by decide) rfl (Nat.le_of_ble_eq_true rfl) ?_
  intro p e s m below meth co A H locs ls hB hK hN hA hP hD hS hl
  obtain ⟨hx, hb, hr, hml, hown, hlk, hnm, hts⟩ := hB
  have hown : s.vm.findClass RT = some m.cls := hown
  have hl : lv_has ls 4 [(0, .ref (ad 0)), (1, .int x0)] := hl
  have hw : ∀ w ∈ tkW, w.before _ s = true := fun w h => hts w (List.mem_cons_of_mem _ h)
  have f24 := hw _ wF_T_24
  refine lv_iload_n hx hb dT_takeControl_0 rfl (lv_at hl 1 rfl) ?_
  refine lv_bipush (v := 6) hx hb dT_takeControl_1 (by decide) ?_
  refine lv_ishr hx hb dT_takeControl_3 ?_
  refine lv_istore_n hx hb dT_takeControl_4 rfl hl (by decide) rfl (fun ls hl => ?_)
  have hl : lv_has ls 4 [(2, .int (x0 >>> ((6 : Int32) &&& 31))), (0, .ref (ad 0)), (1, .int x0)] := hl
  refine lv_iload_n hx hb dT_takeControl_5 rfl (lv_at hl 2 rfl) ?_
  refine lv_iconst (v := 4) hx hb dT_takeControl_6 (by decide) ?_
  refine lv_ishr hx hb dT_takeControl_7 ?_
  refine lv_iconst (v := 3) hx hb dT_takeControl_8 (by decide) ?_
  refine lv_iand hx hb dT_takeControl_9 ?_
  refine lv_istore_n hx hb dT_takeControl_10 rfl hl (by decide) rfl (fun ls hl => ?_)
  have hl : lv_has ls 4 [(3, .int ((x0 >>> ((4 : Int32) &&& 31)) &&& 3)), (2, .int (x0 >>> ((6 : Int32) &&& 31))), (0, .ref (ad 0)), (1, .int x0)] := hl
  refine lv_iload_n hx hb dT_takeControl_11 rfl (lv_at hl 1 rfl) ?_
  refine tk_call0 hP hD hS hA (va_runS (As := [.int (x0 >>> ((6 : Int32) &&& 31))]) (rest := []) ⟨hx, hb, hml, hown, hw⟩ (kT_isCounter l D (x0 >>> ((6 : Int32) &&& 31)) H.size) (va_cwS 1 hw (tk_gS tkW_good wM_T_80 wT_T_isCounter wZ_T wC_T_isCounter) rfl rfl rfl (by decide +kernel) ⟨Nat.le_of_ble_eq_true rfl, Nat.le_of_ble_eq_true rfl⟩) (tk_preS hK hN hP hD [] [] rfl rfl rfl) rfl rfl hl.1 rfl (lv_room (Nat.le_of_ble_eq_true rfl)) dT_takeControl_12 ⟨Nat.zero_le _, Nat.zero_le _⟩) (fun H locs hP hD hS => ?_)
  refine W.eq (g2 := F0 m 15 ls [.int (tkT_isCounter_r (x0 >>> ((6 : Int32) &&& 31)))]) rfl ?_
  refine tk_mrg (D := D) (ws1 := (WT ad cA (tkT_takeControl_w1 g x0))) (g2 := F0 m 58 ls []) hD hS (fun key => ?_) (fun H locs hP hD hS => ?_)
  · refine lv_if_ne (tgt := 26) hx hb dT_takeControl_15 (by decide) (fun (h1_ : ¬ (tkT_isCounter_r (x0 >>> ((6 : Int32) &&& 31)) = 0)) => ?_) (fun (h1_ : tkT_isCounter_r (x0 >>> ((6 : Int32) &&& 31)) = 0) => ?_)
    · refine lv_iload_n hx hb dT_takeControl_26 rfl (lv_at hl 0 rfl) ?_
      refine lv_if_ne (tgt := 42) hx hb dT_takeControl_27 (by decide) (fun (h2_ : ¬ ((x0 >>> ((4 : Int32) &&& 31)) &&& 3 = 0)) => ?_) (fun (h2_ : (x0 >>> ((4 : Int32) &&& 31)) &&& 3 = 0) => ?_)
      · refine lv_aload_n hx hb dT_takeControl_42 rfl (lv_at hl 2 rfl) ?_
        refine va_get (D := D) (ci := 2) (v := .ref (ad 3)) (C := RT) (T := TT) (N := 3) hx hb hw inT hown hK hP 0 rfl rfl 2 (by decide) f24 (fun _ h9 => h9) rfl dT_takeControl_43 ?_
        refine lv_iload_n hx hb dT_takeControl_46 rfl (lv_at hl 1 rfl) ?_
        rcases (tkT_isCounter_c _ h1_) with h3_ | h3_ | h3_
        · refine tk_top h3_ ?_
          refine va_aldq hx hb hK hP 3 0 rfl rfl (by unfold vp_in; decide) dT_takeControl_47 ?_
          refine W.eq (g2 := F0 m 48 ls [.ref (ad 4)]) rfl ?_
          refine lv_iload_n hx hb dT_takeControl_48 rfl (lv_at hl 0 rfl) ?_
          refine lv_iload_n hx hb dT_takeControl_49 rfl (lv_at hl 3 rfl) ?_
          refine lv_iconst (v := 1) hx hb dT_takeControl_50 (by decide) ?_
          refine lv_ishr hx hb dT_takeControl_51 ?_
          refine lv_bipush (v := 7) hx hb dT_takeControl_52 (by decide) ?_
          refine lv_iand hx hb dT_takeControl_54 ?_
          refine tk_call1 (cell := (ad 4, .inr (1, FN (g 4)))) (cell' := (ad 4, .inr (1, FN (tkN_setMode_s (g 4) ((x0 >>> ((4 : Int32) &&& 31)) &&& 3) ((x0 >>> ((1 : Int32) &&& 31)) &&& 7))))) 4 hP hD hS hA rfl rfl (va_runV (As := [.int ((x0 >>> ((4 : Int32) &&& 31)) &&& 3), .int ((x0 >>> ((1 : Int32) &&& 31)) &&& 7)]) (rest := []) ⟨hx, hb, hml, hown, hw⟩ (kN_setMode l D (ad 4) (g 4) ((x0 >>> ((4 : Int32) &&& 31)) &&& 3) ((x0 >>> ((1 : Int32) &&& 31)) &&& 7) H.size) (cwV 2 hw (tk_gV tkW_good wM_T_126 wI_N_setMode wS_N_setMode wZ_N wC_N_setMode) rfl rfl rfl (by decide +kernel) ⟨Nat.le_of_ble_eq_true rfl, Nat.le_of_ble_eq_true rfl⟩) (tk_preV (q0 := 4) hK hN hP hD [4] [] rfl rfl rfl rfl rfl) rfl rfl hl.1 rfl (lv_room (Nat.le_of_ble_eq_true rfl)) dT_takeControl_55 ⟨Nat.zero_le _, Nat.zero_le _⟩) (fun H locs hP hD hS => ?_)
          have hP : va_P D vwCl (WT ad cA (tk_up g 4 (tkN_setMode_s (g 4) ((x0 >>> ((4 : Int32) &&& 31)) &&& 3) ((x0 >>> ((1 : Int32) &&& 31)) &&& 7)))) H := hP
          have hD : va_D A (WT ad cA (tk_up g 4 (tkN_setMode_s (g 4) ((x0 >>> ((4 : Int32) &&& 31)) &&& 3) ((x0 >>> ((1 : Int32) &&& 31)) &&& 7)))) := hD
          refine W.eq (g2 := F0 m 58 ls []) rfl ?_
          exact key H locs (tk_Pw (congrArg (WT ad cA) (by unfold tkT_takeControl_w1; rw [if_neg h1_, if_neg h2_, if_pos h3_])) hP) (tk_Dw (congrArg (WT ad cA) (by unfold tkT_takeControl_w1; rw [if_neg h1_, if_neg h2_, if_pos h3_])) hD) hS
        · have h4_ : ¬ x0 >>> ((6 : Int32) &&& 31) = 0 := by rw [h3_]; decide
          refine tk_top h3_ ?_
          refine va_aldq hx hb hK hP 3 0 rfl rfl (by unfold vp_in; decide) dT_takeControl_47 ?_
          refine W.eq (g2 := F0 m 48 ls [.ref (ad 5)]) rfl ?_
          refine lv_iload_n hx hb dT_takeControl_48 rfl (lv_at hl 0 rfl) ?_
          refine lv_iload_n hx hb dT_takeControl_49 rfl (lv_at hl 3 rfl) ?_
          refine lv_iconst (v := 1) hx hb dT_takeControl_50 (by decide) ?_
          refine lv_ishr hx hb dT_takeControl_51 ?_
          refine lv_bipush (v := 7) hx hb dT_takeControl_52 (by decide) ?_
          refine lv_iand hx hb dT_takeControl_54 ?_
          refine tk_call1 (cell := (ad 5, .inr (1, FN (g 5)))) (cell' := (ad 5, .inr (1, FN (tkN_setMode_s (g 5) ((x0 >>> ((4 : Int32) &&& 31)) &&& 3) ((x0 >>> ((1 : Int32) &&& 31)) &&& 7))))) 5 hP hD hS hA rfl rfl (va_runV (As := [.int ((x0 >>> ((4 : Int32) &&& 31)) &&& 3), .int ((x0 >>> ((1 : Int32) &&& 31)) &&& 7)]) (rest := []) ⟨hx, hb, hml, hown, hw⟩ (kN_setMode l D (ad 5) (g 5) ((x0 >>> ((4 : Int32) &&& 31)) &&& 3) ((x0 >>> ((1 : Int32) &&& 31)) &&& 7) H.size) (cwV 2 hw (tk_gV tkW_good wM_T_126 wI_N_setMode wS_N_setMode wZ_N wC_N_setMode) rfl rfl rfl (by decide +kernel) ⟨Nat.le_of_ble_eq_true rfl, Nat.le_of_ble_eq_true rfl⟩) (tk_preV (q0 := 5) hK hN hP hD [5] [] rfl rfl rfl rfl rfl) rfl rfl hl.1 rfl (lv_room (Nat.le_of_ble_eq_true rfl)) dT_takeControl_55 ⟨Nat.zero_le _, Nat.zero_le _⟩) (fun H locs hP hD hS => ?_)
          have hP : va_P D vwCl (WT ad cA (tk_up g 5 (tkN_setMode_s (g 5) ((x0 >>> ((4 : Int32) &&& 31)) &&& 3) ((x0 >>> ((1 : Int32) &&& 31)) &&& 7)))) H := hP
          have hD : va_D A (WT ad cA (tk_up g 5 (tkN_setMode_s (g 5) ((x0 >>> ((4 : Int32) &&& 31)) &&& 3) ((x0 >>> ((1 : Int32) &&& 31)) &&& 7)))) := hD
          refine W.eq (g2 := F0 m 58 ls []) rfl ?_
          exact key H locs (tk_Pw (congrArg (WT ad cA) (by unfold tkT_takeControl_w1; rw [if_neg h1_, if_neg h2_, if_neg h4_, if_pos h3_])) hP) (tk_Dw (congrArg (WT ad cA) (by unfold tkT_takeControl_w1; rw [if_neg h1_, if_neg h2_, if_neg h4_, if_pos h3_])) hD) hS
        · have h5_ : ¬ x0 >>> ((6 : Int32) &&& 31) = 0 := by rw [h3_]; decide
          have h6_ : ¬ x0 >>> ((6 : Int32) &&& 31) = 1 := by rw [h3_]; decide
          refine tk_top h3_ ?_
          refine va_aldq hx hb hK hP 3 0 rfl rfl (by unfold vp_in; decide) dT_takeControl_47 ?_
          refine W.eq (g2 := F0 m 48 ls [.ref (ad 6)]) rfl ?_
          refine lv_iload_n hx hb dT_takeControl_48 rfl (lv_at hl 0 rfl) ?_
          refine lv_iload_n hx hb dT_takeControl_49 rfl (lv_at hl 3 rfl) ?_
          refine lv_iconst (v := 1) hx hb dT_takeControl_50 (by decide) ?_
          refine lv_ishr hx hb dT_takeControl_51 ?_
          refine lv_bipush (v := 7) hx hb dT_takeControl_52 (by decide) ?_
          refine lv_iand hx hb dT_takeControl_54 ?_
          refine tk_call1 (cell := (ad 6, .inr (1, FN (g 6)))) (cell' := (ad 6, .inr (1, FN (tkN_setMode_s (g 6) ((x0 >>> ((4 : Int32) &&& 31)) &&& 3) ((x0 >>> ((1 : Int32) &&& 31)) &&& 7))))) 6 hP hD hS hA rfl rfl (va_runV (As := [.int ((x0 >>> ((4 : Int32) &&& 31)) &&& 3), .int ((x0 >>> ((1 : Int32) &&& 31)) &&& 7)]) (rest := []) ⟨hx, hb, hml, hown, hw⟩ (kN_setMode l D (ad 6) (g 6) ((x0 >>> ((4 : Int32) &&& 31)) &&& 3) ((x0 >>> ((1 : Int32) &&& 31)) &&& 7) H.size) (cwV 2 hw (tk_gV tkW_good wM_T_126 wI_N_setMode wS_N_setMode wZ_N wC_N_setMode) rfl rfl rfl (by decide +kernel) ⟨Nat.le_of_ble_eq_true rfl, Nat.le_of_ble_eq_true rfl⟩) (tk_preV (q0 := 6) hK hN hP hD [6] [] rfl rfl rfl rfl rfl) rfl rfl hl.1 rfl (lv_room (Nat.le_of_ble_eq_true rfl)) dT_takeControl_55 ⟨Nat.zero_le _, Nat.zero_le _⟩) (fun H locs hP hD hS => ?_)
          have hP : va_P D vwCl (WT ad cA (tk_up g 6 (tkN_setMode_s (g 6) ((x0 >>> ((4 : Int32) &&& 31)) &&& 3) ((x0 >>> ((1 : Int32) &&& 31)) &&& 7)))) H := hP
          have hD : va_D A (WT ad cA (tk_up g 6 (tkN_setMode_s (g 6) ((x0 >>> ((4 : Int32) &&& 31)) &&& 3) ((x0 >>> ((1 : Int32) &&& 31)) &&& 7)))) := hD
          refine W.eq (g2 := F0 m 58 ls []) rfl ?_
          exact key H locs (tk_Pw (congrArg (WT ad cA) (by unfold tkT_takeControl_w1; rw [if_neg h1_, if_neg h2_, if_neg h5_, if_neg h6_])) hP) (tk_Dw (congrArg (WT ad cA) (by unfold tkT_takeControl_w1; rw [if_neg h1_, if_neg h2_, if_neg h5_, if_neg h6_])) hD) hS
      · refine lv_aload_n hx hb dT_takeControl_30 rfl (lv_at hl 2 rfl) ?_
        refine va_get (D := D) (ci := 2) (v := .ref (ad 3)) (C := RT) (T := TT) (N := 3) hx hb hw inT hown hK hP 0 rfl rfl 2 (by decide) f24 (fun _ h9 => h9) rfl dT_takeControl_31 ?_
        refine lv_iload_n hx hb dT_takeControl_34 rfl (lv_at hl 1 rfl) ?_
        rcases (tkT_isCounter_c _ h1_) with h7_ | h7_ | h7_
        · refine tk_top h7_ ?_
          refine va_aldq hx hb hK hP 3 0 rfl rfl (by unfold vp_in; decide) dT_takeControl_35 ?_
          refine W.eq (g2 := F0 m 36 ls [.ref (ad 4)]) rfl ?_
          refine tk_call1 (cell := (ad 4, .inr (1, FN (g 4)))) (cell' := (ad 4, .inr (1, FN (tkN_latchCount_s (g 4))))) 4 hP hD hS hA rfl rfl (va_runV (As := []) (rest := []) ⟨hx, hb, hml, hown, hw⟩ (kN_latchCount l D (ad 4) (g 4) H.size) (cwV 0 hw (tk_gV tkW_good wM_T_123 wI_N_latchCount wS_N_latchCount wZ_N wC_N_latchCount) rfl rfl rfl (by decide +kernel) ⟨Nat.le_of_ble_eq_true rfl, Nat.le_of_ble_eq_true rfl⟩) (tk_preV (q0 := 4) hK hN hP hD [4] [] rfl rfl rfl rfl rfl) rfl rfl hl.1 rfl (lv_room (Nat.le_of_ble_eq_true rfl)) dT_takeControl_36 ⟨Nat.zero_le _, Nat.zero_le _⟩) (fun H locs hP hD hS => ?_)
          have hP : va_P D vwCl (WT ad cA (tk_up g 4 (tkN_latchCount_s (g 4)))) H := hP
          have hD : va_D A (WT ad cA (tk_up g 4 (tkN_latchCount_s (g 4)))) := hD
          refine W.eq (g2 := F0 m 39 ls []) rfl ?_
          refine lv_goto (tgt := 58) hx hb dT_takeControl_39 (by decide) ?_
          exact key H locs (tk_Pw (congrArg (WT ad cA) (by unfold tkT_takeControl_w1; rw [if_neg h1_, if_pos h2_, if_pos h7_])) hP) (tk_Dw (congrArg (WT ad cA) (by unfold tkT_takeControl_w1; rw [if_neg h1_, if_pos h2_, if_pos h7_])) hD) hS
        · have h8_ : ¬ x0 >>> ((6 : Int32) &&& 31) = 0 := by rw [h7_]; decide
          refine tk_top h7_ ?_
          refine va_aldq hx hb hK hP 3 0 rfl rfl (by unfold vp_in; decide) dT_takeControl_35 ?_
          refine W.eq (g2 := F0 m 36 ls [.ref (ad 5)]) rfl ?_
          refine tk_call1 (cell := (ad 5, .inr (1, FN (g 5)))) (cell' := (ad 5, .inr (1, FN (tkN_latchCount_s (g 5))))) 5 hP hD hS hA rfl rfl (va_runV (As := []) (rest := []) ⟨hx, hb, hml, hown, hw⟩ (kN_latchCount l D (ad 5) (g 5) H.size) (cwV 0 hw (tk_gV tkW_good wM_T_123 wI_N_latchCount wS_N_latchCount wZ_N wC_N_latchCount) rfl rfl rfl (by decide +kernel) ⟨Nat.le_of_ble_eq_true rfl, Nat.le_of_ble_eq_true rfl⟩) (tk_preV (q0 := 5) hK hN hP hD [5] [] rfl rfl rfl rfl rfl) rfl rfl hl.1 rfl (lv_room (Nat.le_of_ble_eq_true rfl)) dT_takeControl_36 ⟨Nat.zero_le _, Nat.zero_le _⟩) (fun H locs hP hD hS => ?_)
          have hP : va_P D vwCl (WT ad cA (tk_up g 5 (tkN_latchCount_s (g 5)))) H := hP
          have hD : va_D A (WT ad cA (tk_up g 5 (tkN_latchCount_s (g 5)))) := hD
          refine W.eq (g2 := F0 m 39 ls []) rfl ?_
          refine lv_goto (tgt := 58) hx hb dT_takeControl_39 (by decide) ?_
          exact key H locs (tk_Pw (congrArg (WT ad cA) (by unfold tkT_takeControl_w1; rw [if_neg h1_, if_pos h2_, if_neg h8_, if_pos h7_])) hP) (tk_Dw (congrArg (WT ad cA) (by unfold tkT_takeControl_w1; rw [if_neg h1_, if_pos h2_, if_neg h8_, if_pos h7_])) hD) hS
        · have h9_ : ¬ x0 >>> ((6 : Int32) &&& 31) = 0 := by rw [h7_]; decide
          have h10_ : ¬ x0 >>> ((6 : Int32) &&& 31) = 1 := by rw [h7_]; decide
          refine tk_top h7_ ?_
          refine va_aldq hx hb hK hP 3 0 rfl rfl (by unfold vp_in; decide) dT_takeControl_35 ?_
          refine W.eq (g2 := F0 m 36 ls [.ref (ad 6)]) rfl ?_
          refine tk_call1 (cell := (ad 6, .inr (1, FN (g 6)))) (cell' := (ad 6, .inr (1, FN (tkN_latchCount_s (g 6))))) 6 hP hD hS hA rfl rfl (va_runV (As := []) (rest := []) ⟨hx, hb, hml, hown, hw⟩ (kN_latchCount l D (ad 6) (g 6) H.size) (cwV 0 hw (tk_gV tkW_good wM_T_123 wI_N_latchCount wS_N_latchCount wZ_N wC_N_latchCount) rfl rfl rfl (by decide +kernel) ⟨Nat.le_of_ble_eq_true rfl, Nat.le_of_ble_eq_true rfl⟩) (tk_preV (q0 := 6) hK hN hP hD [6] [] rfl rfl rfl rfl rfl) rfl rfl hl.1 rfl (lv_room (Nat.le_of_ble_eq_true rfl)) dT_takeControl_36 ⟨Nat.zero_le _, Nat.zero_le _⟩) (fun H locs hP hD hS => ?_)
          have hP : va_P D vwCl (WT ad cA (tk_up g 6 (tkN_latchCount_s (g 6)))) H := hP
          have hD : va_D A (WT ad cA (tk_up g 6 (tkN_latchCount_s (g 6)))) := hD
          refine W.eq (g2 := F0 m 39 ls []) rfl ?_
          refine lv_goto (tgt := 58) hx hb dT_takeControl_39 (by decide) ?_
          exact key H locs (tk_Pw (congrArg (WT ad cA) (by unfold tkT_takeControl_w1; rw [if_neg h1_, if_pos h2_, if_neg h9_, if_neg h10_])) hP) (tk_Dw (congrArg (WT ad cA) (by unfold tkT_takeControl_w1; rw [if_neg h1_, if_pos h2_, if_neg h9_, if_neg h10_])) hD) hS
    · refine lv_aload_n hx hb dT_takeControl_18 rfl (lv_at hl 2 rfl) ?_
      refine lv_iload_n hx hb dT_takeControl_19 rfl (lv_at hl 3 rfl) ?_
      refine tk_callA hD hS hA (va_runV (As := [.int x0]) (rest := []) ⟨hx, hb, hml, hown, hw⟩ (kT_latchMany l D ad cA g x0 H.size) (cwV 1 hw (tk_gV tkW_good wM_T_120 wI_T_latchMany wS_T_latchMany wZ_T wC_T_latchMany) rfl rfl rfl (by decide +kernel) ⟨Nat.le_of_ble_eq_true rfl, Nat.le_of_ble_eq_true rfl⟩) (tk_preT hK hN hP hD) rfl rfl hl.1 rfl (lv_room (Nat.le_of_ble_eq_true rfl)) dT_takeControl_20 ⟨Nat.zero_le _, Nat.zero_le _⟩) (fun H locs hP hD hS => ?_)
      refine W.eq (g2 := F0 m 23 ls []) rfl ?_
      refine lv_goto (tgt := 58) hx hb dT_takeControl_23 (by decide) ?_
      exact key H locs (tk_Pw (congrArg (WT ad cA) (by unfold tkT_takeControl_w1; rw [if_pos h1_])) hP) (tk_Dw (congrArg (WT ad cA) (by unfold tkT_takeControl_w1; rw [if_pos h1_])) hD) hS
  · exact tk_vret hx hb hr hlk hP hD hS dT_takeControl_58 (congrArg (WT ad cA) rfl)
def tkT_followLines_s (g : Nat → Nat → Int32) : Nat → Nat → Int32 :=
  if tkC_chosenLevel_r (g 2) = (-1) then tk_up g 1 (tkC_setLine_s (tkC_setLine_s (g 1) 0 ((g 4) 1)) 2 0)
  else tk_up g 1 (tkC_setLine_s (tkC_setLine_s (g 1) 0 ((g 4) 1)) 2 1)
set_option maxHeartbeats 1000000 in
set_option maxRecDepth 100000 in
theorem kT_followLines (l : Launch) (D : va_G) (ad : Nat → Nat) (cA : ClassId) (g : Nat → Nat → Int32) : tk_M l yT_followLines wsT_followLines { frames := 2, cells := 0, slots := 0, locals := 46 } D [(cA, .object "TickLines$Counter")] [.ref (ad 0)] (WT ad cA g) (WT ad cA (tkT_followLines_s g)) none := by
  refine tk_M.of (cc := cT_followLines) (maxL := 1) (ret := none) (by decide) rfl (Nat.le_of_ble_eq_true rfl) ?_
  intro p e s m below meth co A H locs ls hB hK hN hA hP hD hS hl
  obtain ⟨hx, hb, hr, hml, hown, hlk, hnm, hts⟩ := hB
  have hown : s.vm.findClass RT = some m.cls := hown
  have hl : lv_has ls 1 [(0, .ref (ad 0))] := hl
  have hw : ∀ w ∈ tkW, w.before _ s = true := fun w h => hts w (List.mem_cons_of_mem _ h)
  have f12 := hw _ wF_T_12
  have f24 := hw _ wF_T_24
  have f18 := hw _ wF_T_18
  refine lv_aload_n hx hb dT_followLines_0 rfl (lv_at hl 0 rfl) ?_
  refine va_get (D := D) (ci := 2) (v := .ref (ad 1)) (C := RT) (T := TT) (N := 3) hx hb hw inT hown hK hP 0 rfl rfl 0 (by decide) f12 (fun _ h9 => h9) rfl dT_followLines_1 ?_
  refine lv_iconst (v := 0) hx hb dT_followLines_4 (by decide) ?_
  refine lv_aload_n hx hb dT_followLines_5 rfl (lv_at hl 0 rfl) ?_
  refine va_get (D := D) (ci := 2) (v := .ref (ad 3)) (C := RT) (T := TT) (N := 3) hx hb hw inT hown hK hP 0 rfl rfl 2 (by decide) f24 (fun _ h9 => h9) rfl dT_followLines_6 ?_
  refine lv_iconst (v := 0) hx hb dT_followLines_9 (by decide) ?_
  refine va_aldq hx hb hK hP 3 0 rfl rfl (by unfold vp_in; decide) dT_followLines_10 ?_
  refine W.eq (g2 := F0 m 11 ls [.ref (ad 4), .int 0, .ref (ad 1)]) rfl ?_
  refine va_getN (D := D) (ci := 1) (v := .int ((g 4) 1)) (C := RN) (T := TN) (N := 14) hx hb hw inN hown hK hP 4 rfl rfl 1 (by decide) (va_Nw.use rfl (hN (.fieldLinkNest RT 86 "TickLines$Counter" "output" "Z" "TickLines") (by decide +kernel))) (fun _ h9 => h9) rfl dT_followLines_11 ?_
  refine tk_call1 (cell := (ad 1, .inr (0, FC (g 1)))) (cell' := (ad 1, .inr (0, FC (tkC_setLine_s (g 1) 0 ((g 4) 1))))) 1 hP hD hS hA rfl rfl (va_runV (As := [.int 0, .int ((g 4) 1)]) (rest := []) ⟨hx, hb, hml, hown, hw⟩ (kC_setLine l D (ad 1) (g 1) 0 ((g 4) 1) H.size) (cwV 2 hw (tk_gV tkW_good wM_T_76 wI_C_setLine wS_C_setLine wZ_C wC_C_setLine) rfl rfl rfl (by decide +kernel) ⟨Nat.le_of_ble_eq_true rfl, Nat.le_of_ble_eq_true rfl⟩) (tk_preV (q0 := 1) hK hN hP hD [1] [] rfl rfl rfl rfl rfl) rfl rfl hl.1 rfl (lv_room (Nat.le_of_ble_eq_true rfl)) dT_followLines_14 ⟨Nat.zero_le _, Nat.zero_le _⟩) (fun H locs hP hD hS => ?_)
  have hP : va_P D vwCl (WT ad cA (tk_up g 1 (tkC_setLine_s (g 1) 0 ((g 4) 1)))) H := hP
  have hD : va_D A (WT ad cA (tk_up g 1 (tkC_setLine_s (g 1) 0 ((g 4) 1)))) := hD
  refine W.eq (g2 := F0 m 17 ls []) rfl ?_
  refine lv_aload_n hx hb dT_followLines_17 rfl (lv_at hl 0 rfl) ?_
  refine va_get (D := D) (ci := 2) (v := .ref (ad 1)) (C := RT) (T := TT) (N := 3) hx hb hw inT hown hK hP 0 rfl rfl 0 (by decide) f12 (fun _ h9 => h9) rfl dT_followLines_18 ?_
  refine lv_iconst (v := 2) hx hb dT_followLines_21 (by decide) ?_
  refine lv_aload_n hx hb dT_followLines_22 rfl (lv_at hl 0 rfl) ?_
  refine va_get (D := D) (ci := 2) (v := .ref (ad 2)) (C := RT) (T := TT) (N := 3) hx hb hw inT hown hK hP 0 rfl rfl 1 (by decide) f18 (fun _ h9 => h9) rfl dT_followLines_23 ?_
  refine tk_call1 (cell := (ad 2, .inr (0, FC (g 2)))) (cell' := (ad 2, .inr (0, FC (g 2)))) 2 hP hD hS hA rfl rfl (va_runV (As := []) (rest := [.int 2, .ref (ad 1)]) ⟨hx, hb, hml, hown, hw⟩ (kC_chosenLevel l D (ad 2) (g 2) H.size) (cwV 0 hw (tk_gV tkW_good wM_T_109 wI_C_chosenLevel wS_C_chosenLevel wZ_C wC_C_chosenLevel) rfl rfl rfl (by decide +kernel) ⟨Nat.le_of_ble_eq_true rfl, Nat.le_of_ble_eq_true rfl⟩) (tk_preV (q0 := 2) hK hN hP hD [2] [] rfl rfl rfl rfl rfl) rfl rfl hl.1 rfl (lv_room (Nat.le_of_ble_eq_true rfl)) dT_followLines_26 ⟨Nat.zero_le _, Nat.zero_le _⟩) (fun H locs hP hD hS => ?_)
  have hP : va_P D vwCl (WT ad cA (tk_up g 1 (tkC_setLine_s (g 1) 0 ((g 4) 1)))) H := hP
  have hD : va_D A (WT ad cA (tk_up g 1 (tkC_setLine_s (g 1) 0 ((g 4) 1)))) := hD
  refine W.eq (g2 := F0 m 29 ls [.int (tkC_chosenLevel_r (g 2)), .int 2, .ref (ad 1)]) rfl ?_
  refine lv_iconst (v := -1) hx hb dT_followLines_29 (by decide) ?_
  refine lv_icmp_eq (tgt := 37) hx hb dT_followLines_30 (by decide) (fun (h1_ : tkC_chosenLevel_r (g 2) = (-1)) => ?_) (fun (h1_ : ¬ (tkC_chosenLevel_r (g 2) = (-1))) => ?_)
  · refine lv_iconst (v := 0) hx hb dT_followLines_37 (by decide) ?_
    refine tk_call1 (cell := (ad 1, .inr (0, FC (tkC_setLine_s (g 1) 0 ((g 4) 1))))) (cell' := (ad 1, .inr (0, FC (tkC_setLine_s (tkC_setLine_s (g 1) 0 ((g 4) 1)) 2 0)))) 1 hP hD hS hA rfl rfl (va_runV (As := [.int 2, .int 0]) (rest := []) ⟨hx, hb, hml, hown, hw⟩ (kC_setLine l D (ad 1) (tkC_setLine_s (g 1) 0 ((g 4) 1)) 2 0 H.size) (cwV 2 hw (tk_gV tkW_good wM_T_76 wI_C_setLine wS_C_setLine wZ_C wC_C_setLine) rfl rfl rfl (by decide +kernel) ⟨Nat.le_of_ble_eq_true rfl, Nat.le_of_ble_eq_true rfl⟩) (tk_preV (q0 := 1) hK hN hP hD [1] [] rfl rfl rfl rfl rfl) rfl rfl hl.1 rfl (lv_room (Nat.le_of_ble_eq_true rfl)) dT_followLines_38 ⟨Nat.zero_le _, Nat.zero_le _⟩) (fun H locs hP hD hS => ?_)
    have hP : va_P D vwCl (WT ad cA (tk_up g 1 (tkC_setLine_s (tkC_setLine_s (g 1) 0 ((g 4) 1)) 2 0))) H := hP
    have hD : va_D A (WT ad cA (tk_up g 1 (tkC_setLine_s (tkC_setLine_s (g 1) 0 ((g 4) 1)) 2 0))) := hD
    refine W.eq (g2 := F0 m 41 ls []) rfl ?_
    exact tk_vret hx hb hr hlk hP hD hS dT_followLines_41 (congrArg (WT ad cA) (by unfold tkT_followLines_s; rw [if_pos h1_]))
  · refine lv_iconst (v := 1) hx hb dT_followLines_33 (by decide) ?_
    refine lv_goto (tgt := 38) hx hb dT_followLines_34 (by decide) ?_
    refine tk_call1 (cell := (ad 1, .inr (0, FC (tkC_setLine_s (g 1) 0 ((g 4) 1))))) (cell' := (ad 1, .inr (0, FC (tkC_setLine_s (tkC_setLine_s (g 1) 0 ((g 4) 1)) 2 1)))) 1 hP hD hS hA rfl rfl (va_runV (As := [.int 2, .int 1]) (rest := []) ⟨hx, hb, hml, hown, hw⟩ (kC_setLine l D (ad 1) (tkC_setLine_s (g 1) 0 ((g 4) 1)) 2 1 H.size) (cwV 2 hw (tk_gV tkW_good wM_T_76 wI_C_setLine wS_C_setLine wZ_C wC_C_setLine) rfl rfl rfl (by decide +kernel) ⟨Nat.le_of_ble_eq_true rfl, Nat.le_of_ble_eq_true rfl⟩) (tk_preV (q0 := 1) hK hN hP hD [1] [] rfl rfl rfl rfl rfl) rfl rfl hl.1 rfl (lv_room (Nat.le_of_ble_eq_true rfl)) dT_followLines_38 ⟨Nat.zero_le _, Nat.zero_le _⟩) (fun H locs hP hD hS => ?_)
    have hP : va_P D vwCl (WT ad cA (tk_up g 1 (tkC_setLine_s (tkC_setLine_s (g 1) 0 ((g 4) 1)) 2 1))) H := hP
    have hD : va_D A (WT ad cA (tk_up g 1 (tkC_setLine_s (tkC_setLine_s (g 1) 0 ((g 4) 1)) 2 1))) := hD
    refine W.eq (g2 := F0 m 41 ls []) rfl ?_
    exact tk_vret hx hb hr hlk hP hD hS dT_followLines_41 (congrArg (WT ad cA) (by unfold tkT_followLines_s; rw [if_neg h1_]))
def tkT_line_r (g : Nat → Nat → Int32) (x0 x1 x2 : Int32) : Int32 :=
  if tkT_isController_r x0 = 0 then 0
  else if x1 < 0 then 0
    else if x1 < 8 then (if x0 = 0 then (if x1 = 0 then 0
          else if x1 = 2 then 0
            else 1)
        else 1)
      else 0
def tkT_line_s (g : Nat → Nat → Int32) (x0 x1 x2 : Int32) : Nat → Nat → Int32 :=
  if tkT_isController_r x0 = 0 then g
  else if x1 < 0 then g
    else if x1 < 8 then (if x0 = 0 then (if x1 = 0 then g
          else if x1 = 2 then g
            else tkT_followLines_s (tk_up g 1 (tkC_setLine_s (g 1) x1 x2)))
        else tkT_followLines_s (tk_up g 2 (tkC_setLine_s (g 2) x1 x2)))
      else g
set_option maxHeartbeats 1000000 in
set_option maxRecDepth 100000 in
theorem kT_line (l : Launch) (D : va_G) (ad : Nat → Nat) (cA : ClassId) (g : Nat → Nat → Int32) (x0 x1 x2 : Int32) : tk_M l yT_line wsT_line { frames := 3, cells := 0, slots := 0, locals := 66 } D [(cA, .object "TickLines$Counter")] [.ref (ad 0), .int x0, .int x1, .int x2] (WT ad cA g) (WT ad cA (tkT_line_s g x0 x1 x2)) (some (.int (tkT_line_r g x0 x1 x2))) := by
  refine tk_M.of (cc := cT_line) (maxL := 4) (ret := (some .boolean)) (by decide) rfl (Nat.le_of_ble_eq_true rfl) ?_
  intro p e s m below meth co A H locs ls hB hK hN hA hP hD hS hl
  obtain ⟨hx, hb, hr, hml, hown, hlk, hnm, hts⟩ := hB
  have hown : s.vm.findClass RT = some m.cls := hown
  have hl : lv_has ls 4 [(0, .ref (ad 0)), (1, .int x0), (2, .int x1), (3, .int x2)] := hl
  have hw : ∀ w ∈ tkW, w.before _ s = true := fun w h => hts w (List.mem_cons_of_mem _ h)
  refine lv_iload_n hx hb dT_line_0 rfl (lv_at hl 1 rfl) ?_
  refine tk_call0 hP hD hS hA (va_runS (As := [.int x0]) (rest := []) ⟨hx, hb, hml, hown, hw⟩ (kT_isController l D x0 H.size) (va_cwS 1 hw (tk_gS tkW_good wM_T_73 wT_T_isController wZ_T wC_T_isController) rfl rfl rfl (by decide +kernel) ⟨Nat.le_of_ble_eq_true rfl, Nat.le_of_ble_eq_true rfl⟩) (tk_preS hK hN hP hD [] [] rfl rfl rfl) rfl rfl hl.1 rfl (lv_room (Nat.le_of_ble_eq_true rfl)) dT_line_1 ⟨Nat.zero_le _, Nat.zero_le _⟩) (fun H locs hP hD hS => ?_)
  refine W.eq (g2 := F0 m 4 ls [.int (tkT_isController_r x0)]) rfl ?_
  refine lv_if_eq (tgt := 17) hx hb dT_line_4 (by decide) (fun (h1_ : tkT_isController_r x0 = 0) => ?_) (fun (h1_ : ¬ (tkT_isController_r x0 = 0)) => ?_)
  · refine lv_iconst (v := 0) hx hb dT_line_17 (by decide) ?_
    exact tk_zret hx hb hr hlk hP hD hS dT_line_18 rfl (by unfold tkT_line_r; rw [if_pos h1_]) (congrArg (WT ad cA) (by unfold tkT_line_s; rw [if_pos h1_]))
  · refine lv_iload_n hx hb dT_line_7 rfl (lv_at hl 2 rfl) ?_
    refine lv_if_lt (tgt := 17) hx hb dT_line_8 (by decide) (fun (h2_ : x1 < 0) => ?_) (fun (h2_ : ¬ (x1 < 0)) => ?_)
    · refine lv_iconst (v := 0) hx hb dT_line_17 (by decide) ?_
      exact tk_zret hx hb hr hlk hP hD hS dT_line_18 rfl (by unfold tkT_line_r; rw [if_neg h1_, if_pos h2_]) (congrArg (WT ad cA) (by unfold tkT_line_s; rw [if_neg h1_, if_pos h2_]))
    · refine lv_iload_n hx hb dT_line_11 rfl (lv_at hl 2 rfl) ?_
      refine lv_bipush (v := 8) hx hb dT_line_12 (by decide) ?_
      refine lv_icmp_lt (tgt := 19) hx hb dT_line_14 (by decide) (fun (h3_ : x1 < 8) => ?_) (fun (h3_ : ¬ (x1 < 8)) => ?_)
      · refine lv_iload_n hx hb dT_line_19 rfl (lv_at hl 1 rfl) ?_
        refine lv_if_ne (tgt := 34) hx hb dT_line_20 (by decide) (fun (h4_ : ¬ (x0 = 0)) => ?_) (fun (h4_ : x0 = 0) => ?_)
        · refine lv_aload_n hx hb dT_line_34 rfl (lv_at hl 0 rfl) ?_
          refine lv_iload_n hx hb dT_line_35 rfl (lv_at hl 1 rfl) ?_
          refine tk_callA hD hS hA (va_runV (As := [.int x0]) (rest := []) ⟨hx, hb, hml, hown, hw⟩ (kT_controllerOf l D ad cA g x0 H.size) (cwV 1 hw (tk_gV tkW_good wM_T_49 wI_T_controllerOf wS_T_controllerOf wZ_T wC_T_controllerOf) rfl rfl rfl (by decide +kernel) ⟨Nat.le_of_ble_eq_true rfl, Nat.le_of_ble_eq_true rfl⟩) (tk_preT hK hN hP hD) rfl rfl hl.1 rfl (lv_room (Nat.le_of_ble_eq_true rfl)) dT_line_36 ⟨Nat.zero_le _, Nat.zero_le _⟩) (fun H locs hP hD hS => ?_)
          refine W.eq (g2 := F0 m 39 ls (.ref (tkT_controllerOf_r ad x0) :: [])) rfl ?_
          refine tk_topr (show tkT_controllerOf_r ad x0 = ad 2 from if_neg h4_) ?_
          refine W.eq (g2 := F0 m 39 ls [.ref (ad 2)]) rfl ?_
          refine lv_iload_n hx hb dT_line_39 rfl (lv_at hl 2 rfl) ?_
          refine lv_iload_n hx hb dT_line_40 rfl (lv_at hl 3 rfl) ?_
          refine tk_call1 (cell := (ad 2, .inr (0, FC (g 2)))) (cell' := (ad 2, .inr (0, FC (tkC_setLine_s (g 2) x1 x2)))) 2 hP hD hS hA rfl rfl (va_runV (As := [.int x1, .int x2]) (rest := []) ⟨hx, hb, hml, hown, hw⟩ (kC_setLine l D (ad 2) (g 2) x1 x2 H.size) (cwV 2 hw (tk_gV tkW_good wM_T_76 wI_C_setLine wS_C_setLine wZ_C wC_C_setLine) rfl rfl rfl (by decide +kernel) ⟨Nat.le_of_ble_eq_true rfl, Nat.le_of_ble_eq_true rfl⟩) (tk_preV (q0 := 2) hK hN hP hD [2] [] rfl rfl rfl rfl rfl) rfl rfl hl.1 rfl (lv_room (Nat.le_of_ble_eq_true rfl)) dT_line_41 ⟨Nat.zero_le _, Nat.zero_le _⟩) (fun H locs hP hD hS => ?_)
          have hP : va_P D vwCl (WT ad cA (tk_up g 2 (tkC_setLine_s (g 2) x1 x2))) H := hP
          have hD : va_D A (WT ad cA (tk_up g 2 (tkC_setLine_s (g 2) x1 x2))) := hD
          refine W.eq (g2 := F0 m 44 ls []) rfl ?_
          refine lv_aload_n hx hb dT_line_44 rfl (lv_at hl 0 rfl) ?_
          refine tk_callA hD hS hA (va_runV (As := []) (rest := []) ⟨hx, hb, hml, hown, hw⟩ (kT_followLines l D ad cA (tk_up g 2 (tkC_setLine_s (g 2) x1 x2)) H.size) (cwV 0 hw (tk_gV tkW_good wM_T_59 wI_T_followLines wS_T_followLines wZ_T wC_T_followLines) rfl rfl rfl (by decide +kernel) ⟨Nat.le_of_ble_eq_true rfl, Nat.le_of_ble_eq_true rfl⟩) (tk_preT hK hN hP hD) rfl rfl hl.1 rfl (lv_room (Nat.le_of_ble_eq_true rfl)) dT_line_45 ⟨Nat.zero_le _, Nat.zero_le _⟩) (fun H locs hP hD hS => ?_)
          refine W.eq (g2 := F0 m 48 ls []) rfl ?_
          refine lv_iconst (v := 1) hx hb dT_line_48 (by decide) ?_
          exact tk_zret hx hb hr hlk hP hD hS dT_line_49 rfl (by unfold tkT_line_r; rw [if_neg h1_, if_neg h2_, if_pos h3_, if_neg h4_]) (congrArg (WT ad cA) (by unfold tkT_line_s; rw [if_neg h1_, if_neg h2_, if_pos h3_, if_neg h4_]))
        · refine lv_iload_n hx hb dT_line_23 rfl (lv_at hl 2 rfl) ?_
          refine lv_if_eq (tgt := 32) hx hb dT_line_24 (by decide) (fun (h5_ : x1 = 0) => ?_) (fun (h5_ : ¬ (x1 = 0)) => ?_)
          · refine lv_iconst (v := 0) hx hb dT_line_32 (by decide) ?_
            exact tk_zret hx hb hr hlk hP hD hS dT_line_33 rfl (by unfold tkT_line_r; rw [if_neg h1_, if_neg h2_, if_pos h3_, if_pos h4_, if_pos h5_]) (congrArg (WT ad cA) (by unfold tkT_line_s; rw [if_neg h1_, if_neg h2_, if_pos h3_, if_pos h4_, if_pos h5_]))
          · refine lv_iload_n hx hb dT_line_27 rfl (lv_at hl 2 rfl) ?_
            refine lv_iconst (v := 2) hx hb dT_line_28 (by decide) ?_
            refine lv_icmp_ne (tgt := 34) hx hb dT_line_29 (by decide) (fun (h6_ : ¬ (x1 = 2)) => ?_) (fun (h6_ : x1 = 2) => ?_)
            · refine lv_aload_n hx hb dT_line_34 rfl (lv_at hl 0 rfl) ?_
              refine lv_iload_n hx hb dT_line_35 rfl (lv_at hl 1 rfl) ?_
              refine tk_callA hD hS hA (va_runV (As := [.int x0]) (rest := []) ⟨hx, hb, hml, hown, hw⟩ (kT_controllerOf l D ad cA g x0 H.size) (cwV 1 hw (tk_gV tkW_good wM_T_49 wI_T_controllerOf wS_T_controllerOf wZ_T wC_T_controllerOf) rfl rfl rfl (by decide +kernel) ⟨Nat.le_of_ble_eq_true rfl, Nat.le_of_ble_eq_true rfl⟩) (tk_preT hK hN hP hD) rfl rfl hl.1 rfl (lv_room (Nat.le_of_ble_eq_true rfl)) dT_line_36 ⟨Nat.zero_le _, Nat.zero_le _⟩) (fun H locs hP hD hS => ?_)
              refine W.eq (g2 := F0 m 39 ls (.ref (tkT_controllerOf_r ad x0) :: [])) rfl ?_
              refine tk_topr (show tkT_controllerOf_r ad x0 = ad 1 from if_pos h4_) ?_
              refine W.eq (g2 := F0 m 39 ls [.ref (ad 1)]) rfl ?_
              refine lv_iload_n hx hb dT_line_39 rfl (lv_at hl 2 rfl) ?_
              refine lv_iload_n hx hb dT_line_40 rfl (lv_at hl 3 rfl) ?_
              refine tk_call1 (cell := (ad 1, .inr (0, FC (g 1)))) (cell' := (ad 1, .inr (0, FC (tkC_setLine_s (g 1) x1 x2)))) 1 hP hD hS hA rfl rfl (va_runV (As := [.int x1, .int x2]) (rest := []) ⟨hx, hb, hml, hown, hw⟩ (kC_setLine l D (ad 1) (g 1) x1 x2 H.size) (cwV 2 hw (tk_gV tkW_good wM_T_76 wI_C_setLine wS_C_setLine wZ_C wC_C_setLine) rfl rfl rfl (by decide +kernel) ⟨Nat.le_of_ble_eq_true rfl, Nat.le_of_ble_eq_true rfl⟩) (tk_preV (q0 := 1) hK hN hP hD [1] [] rfl rfl rfl rfl rfl) rfl rfl hl.1 rfl (lv_room (Nat.le_of_ble_eq_true rfl)) dT_line_41 ⟨Nat.zero_le _, Nat.zero_le _⟩) (fun H locs hP hD hS => ?_)
              have hP : va_P D vwCl (WT ad cA (tk_up g 1 (tkC_setLine_s (g 1) x1 x2))) H := hP
              have hD : va_D A (WT ad cA (tk_up g 1 (tkC_setLine_s (g 1) x1 x2))) := hD
              refine W.eq (g2 := F0 m 44 ls []) rfl ?_
              refine lv_aload_n hx hb dT_line_44 rfl (lv_at hl 0 rfl) ?_
              refine tk_callA hD hS hA (va_runV (As := []) (rest := []) ⟨hx, hb, hml, hown, hw⟩ (kT_followLines l D ad cA (tk_up g 1 (tkC_setLine_s (g 1) x1 x2)) H.size) (cwV 0 hw (tk_gV tkW_good wM_T_59 wI_T_followLines wS_T_followLines wZ_T wC_T_followLines) rfl rfl rfl (by decide +kernel) ⟨Nat.le_of_ble_eq_true rfl, Nat.le_of_ble_eq_true rfl⟩) (tk_preT hK hN hP hD) rfl rfl hl.1 rfl (lv_room (Nat.le_of_ble_eq_true rfl)) dT_line_45 ⟨Nat.zero_le _, Nat.zero_le _⟩) (fun H locs hP hD hS => ?_)
              refine W.eq (g2 := F0 m 48 ls []) rfl ?_
              refine lv_iconst (v := 1) hx hb dT_line_48 (by decide) ?_
              exact tk_zret hx hb hr hlk hP hD hS dT_line_49 rfl (by unfold tkT_line_r; rw [if_neg h1_, if_neg h2_, if_pos h3_, if_pos h4_, if_neg h5_, if_neg h6_]) (congrArg (WT ad cA) (by unfold tkT_line_s; rw [if_neg h1_, if_neg h2_, if_pos h3_, if_pos h4_, if_neg h5_, if_neg h6_]))
            · refine lv_iconst (v := 0) hx hb dT_line_32 (by decide) ?_
              exact tk_zret hx hb hr hlk hP hD hS dT_line_33 rfl (by unfold tkT_line_r; rw [if_neg h1_, if_neg h2_, if_pos h3_, if_pos h4_, if_neg h5_, if_pos h6_]) (congrArg (WT ad cA) (by unfold tkT_line_s; rw [if_neg h1_, if_neg h2_, if_pos h3_, if_pos h4_, if_neg h5_, if_pos h6_]))
      · refine lv_iconst (v := 0) hx hb dT_line_17 (by decide) ?_
        exact tk_zret hx hb hr hlk hP hD hS dT_line_18 rfl (by unfold tkT_line_r; rw [if_neg h1_, if_neg h2_, if_neg h3_]) (congrArg (WT ad cA) (by unfold tkT_line_s; rw [if_neg h1_, if_neg h2_, if_neg h3_]))
def tkT_gate_r (g : Nat → Nat → Int32) (x0 x1 : Int32) : Int32 :=
  if tkT_isCounter_r x0 = 0 then 0
  else 1
def tkT_gate_s (g : Nat → Nat → Int32) (x0 x1 : Int32) : Nat → Nat → Int32 :=
  if tkT_isCounter_r x0 = 0 then g
  else if x0 = 0 then tkT_followLines_s (tk_up g 4 (tkN_setGate_s (g 4) x1))
    else if x0 = 1 then tkT_followLines_s (tk_up g 5 (tkN_setGate_s (g 5) x1))
      else tkT_followLines_s (tk_up g 6 (tkN_setGate_s (g 6) x1))
set_option maxHeartbeats 1000000 in
set_option maxRecDepth 100000 in
theorem kT_gate (l : Launch) (D : va_G) (ad : Nat → Nat) (cA : ClassId) (g : Nat → Nat → Int32) (x0 x1 : Int32) (hb1 : x1 = 0 ∨ x1 = 1) : tk_M l yT_gate wsT_gate { frames := 3, cells := 0, slots := 0, locals := 66 } D [(cA, .object "TickLines$Counter")] [.ref (ad 0), .int x0, .int x1] (WT ad cA g) (WT ad cA (tkT_gate_s g x0 x1)) (some (.int (tkT_gate_r g x0 x1))) := by
  refine tk_M.of (cc := cT_gate) (maxL := 3) (ret := (some .boolean)) (by decide) rfl (Nat.le_of_ble_eq_true rfl) ?_
  intro p e s m below meth co A H locs ls hB hK hN hA hP hD hS hl
  obtain ⟨hx, hb, hr, hml, hown, hlk, hnm, hts⟩ := hB
  have hown : s.vm.findClass RT = some m.cls := hown
  have hl : lv_has ls 3 [(0, .ref (ad 0)), (1, .int x0), (2, .int x1)] := hl
  have hw : ∀ w ∈ tkW, w.before _ s = true := fun w h => hts w (List.mem_cons_of_mem _ h)
  have f24 := hw _ wF_T_24
  refine lv_iload_n hx hb dT_gate_0 rfl (lv_at hl 1 rfl) ?_
  refine tk_call0 hP hD hS hA (va_runS (As := [.int x0]) (rest := []) ⟨hx, hb, hml, hown, hw⟩ (kT_isCounter l D x0 H.size) (va_cwS 1 hw (tk_gS tkW_good wM_T_80 wT_T_isCounter wZ_T wC_T_isCounter) rfl rfl rfl (by decide +kernel) ⟨Nat.le_of_ble_eq_true rfl, Nat.le_of_ble_eq_true rfl⟩) (tk_preS hK hN hP hD [] [] rfl rfl rfl) rfl rfl hl.1 rfl (lv_room (Nat.le_of_ble_eq_true rfl)) dT_gate_1 ⟨Nat.zero_le _, Nat.zero_le _⟩) (fun H locs hP hD hS => ?_)
  refine W.eq (g2 := F0 m 4 ls [.int (tkT_isCounter_r x0)]) rfl ?_
  refine lv_if_ne (tgt := 9) hx hb dT_gate_4 (by decide) (fun (h1_ : ¬ (tkT_isCounter_r x0 = 0)) => ?_) (fun (h1_ : tkT_isCounter_r x0 = 0) => ?_)
  · refine lv_aload_n hx hb dT_gate_9 rfl (lv_at hl 0 rfl) ?_
    refine va_get (D := D) (ci := 2) (v := .ref (ad 3)) (C := RT) (T := TT) (N := 3) hx hb hw inT hown hK hP 0 rfl rfl 2 (by decide) f24 (fun _ h9 => h9) rfl dT_gate_10 ?_
    refine lv_iload_n hx hb dT_gate_13 rfl (lv_at hl 1 rfl) ?_
    rcases (tkT_isCounter_c _ h1_) with h2_ | h2_ | h2_
    · refine tk_top h2_ ?_
      refine va_aldq hx hb hK hP 3 0 rfl rfl (by unfold vp_in; decide) dT_gate_14 ?_
      refine W.eq (g2 := F0 m 15 ls [.ref (ad 4)]) rfl ?_
      refine lv_iload_n hx hb dT_gate_15 rfl (lv_at hl 2 rfl) ?_
      refine tk_call1 (cell := (ad 4, .inr (1, FN (g 4)))) (cell' := (ad 4, .inr (1, FN (tkN_setGate_s (g 4) x1)))) 4 hP hD hS hA rfl rfl (va_runV (As := [.int x1]) (rest := []) ⟨hx, hb, hml, hown, hw⟩ (kN_setGate l D (ad 4) (g 4) x1 hb1 H.size) (cwV 1 hw (tk_gV tkW_good wM_T_83 wI_N_setGate wS_N_setGate wZ_N wC_N_setGate) rfl rfl rfl (by decide +kernel) ⟨Nat.le_of_ble_eq_true rfl, Nat.le_of_ble_eq_true rfl⟩) (tk_preV (q0 := 4) hK hN hP hD [4] [] rfl rfl rfl rfl rfl) rfl rfl hl.1 rfl (lv_room (Nat.le_of_ble_eq_true rfl)) dT_gate_16 ⟨Nat.zero_le _, Nat.zero_le _⟩) (fun H locs hP hD hS => ?_)
      have hP : va_P D vwCl (WT ad cA (tk_up g 4 (tkN_setGate_s (g 4) x1))) H := hP
      have hD : va_D A (WT ad cA (tk_up g 4 (tkN_setGate_s (g 4) x1))) := hD
      refine W.eq (g2 := F0 m 19 ls []) rfl ?_
      refine lv_aload_n hx hb dT_gate_19 rfl (lv_at hl 0 rfl) ?_
      refine tk_callA hD hS hA (va_runV (As := []) (rest := []) ⟨hx, hb, hml, hown, hw⟩ (kT_followLines l D ad cA (tk_up g 4 (tkN_setGate_s (g 4) x1)) H.size) (cwV 0 hw (tk_gV tkW_good wM_T_59 wI_T_followLines wS_T_followLines wZ_T wC_T_followLines) rfl rfl rfl (by decide +kernel) ⟨Nat.le_of_ble_eq_true rfl, Nat.le_of_ble_eq_true rfl⟩) (tk_preT hK hN hP hD) rfl rfl hl.1 rfl (lv_room (Nat.le_of_ble_eq_true rfl)) dT_gate_20 ⟨Nat.zero_le _, Nat.zero_le _⟩) (fun H locs hP hD hS => ?_)
      refine W.eq (g2 := F0 m 23 ls []) rfl ?_
      refine lv_iconst (v := 1) hx hb dT_gate_23 (by decide) ?_
      exact tk_zret hx hb hr hlk hP hD hS dT_gate_24 rfl (by unfold tkT_gate_r; rw [if_neg h1_]) (congrArg (WT ad cA) (by unfold tkT_gate_s; rw [if_neg h1_, if_pos h2_]))
    · have h3_ : ¬ x0 = 0 := by rw [h2_]; decide
      refine tk_top h2_ ?_
      refine va_aldq hx hb hK hP 3 0 rfl rfl (by unfold vp_in; decide) dT_gate_14 ?_
      refine W.eq (g2 := F0 m 15 ls [.ref (ad 5)]) rfl ?_
      refine lv_iload_n hx hb dT_gate_15 rfl (lv_at hl 2 rfl) ?_
      refine tk_call1 (cell := (ad 5, .inr (1, FN (g 5)))) (cell' := (ad 5, .inr (1, FN (tkN_setGate_s (g 5) x1)))) 5 hP hD hS hA rfl rfl (va_runV (As := [.int x1]) (rest := []) ⟨hx, hb, hml, hown, hw⟩ (kN_setGate l D (ad 5) (g 5) x1 hb1 H.size) (cwV 1 hw (tk_gV tkW_good wM_T_83 wI_N_setGate wS_N_setGate wZ_N wC_N_setGate) rfl rfl rfl (by decide +kernel) ⟨Nat.le_of_ble_eq_true rfl, Nat.le_of_ble_eq_true rfl⟩) (tk_preV (q0 := 5) hK hN hP hD [5] [] rfl rfl rfl rfl rfl) rfl rfl hl.1 rfl (lv_room (Nat.le_of_ble_eq_true rfl)) dT_gate_16 ⟨Nat.zero_le _, Nat.zero_le _⟩) (fun H locs hP hD hS => ?_)
      have hP : va_P D vwCl (WT ad cA (tk_up g 5 (tkN_setGate_s (g 5) x1))) H := hP
      have hD : va_D A (WT ad cA (tk_up g 5 (tkN_setGate_s (g 5) x1))) := hD
      refine W.eq (g2 := F0 m 19 ls []) rfl ?_
      refine lv_aload_n hx hb dT_gate_19 rfl (lv_at hl 0 rfl) ?_
      refine tk_callA hD hS hA (va_runV (As := []) (rest := []) ⟨hx, hb, hml, hown, hw⟩ (kT_followLines l D ad cA (tk_up g 5 (tkN_setGate_s (g 5) x1)) H.size) (cwV 0 hw (tk_gV tkW_good wM_T_59 wI_T_followLines wS_T_followLines wZ_T wC_T_followLines) rfl rfl rfl (by decide +kernel) ⟨Nat.le_of_ble_eq_true rfl, Nat.le_of_ble_eq_true rfl⟩) (tk_preT hK hN hP hD) rfl rfl hl.1 rfl (lv_room (Nat.le_of_ble_eq_true rfl)) dT_gate_20 ⟨Nat.zero_le _, Nat.zero_le _⟩) (fun H locs hP hD hS => ?_)
      refine W.eq (g2 := F0 m 23 ls []) rfl ?_
      refine lv_iconst (v := 1) hx hb dT_gate_23 (by decide) ?_
      exact tk_zret hx hb hr hlk hP hD hS dT_gate_24 rfl (by unfold tkT_gate_r; rw [if_neg h1_]) (congrArg (WT ad cA) (by unfold tkT_gate_s; rw [if_neg h1_, if_neg h3_, if_pos h2_]))
    · have h4_ : ¬ x0 = 0 := by rw [h2_]; decide
      have h5_ : ¬ x0 = 1 := by rw [h2_]; decide
      refine tk_top h2_ ?_
      refine va_aldq hx hb hK hP 3 0 rfl rfl (by unfold vp_in; decide) dT_gate_14 ?_
      refine W.eq (g2 := F0 m 15 ls [.ref (ad 6)]) rfl ?_
      refine lv_iload_n hx hb dT_gate_15 rfl (lv_at hl 2 rfl) ?_
      refine tk_call1 (cell := (ad 6, .inr (1, FN (g 6)))) (cell' := (ad 6, .inr (1, FN (tkN_setGate_s (g 6) x1)))) 6 hP hD hS hA rfl rfl (va_runV (As := [.int x1]) (rest := []) ⟨hx, hb, hml, hown, hw⟩ (kN_setGate l D (ad 6) (g 6) x1 hb1 H.size) (cwV 1 hw (tk_gV tkW_good wM_T_83 wI_N_setGate wS_N_setGate wZ_N wC_N_setGate) rfl rfl rfl (by decide +kernel) ⟨Nat.le_of_ble_eq_true rfl, Nat.le_of_ble_eq_true rfl⟩) (tk_preV (q0 := 6) hK hN hP hD [6] [] rfl rfl rfl rfl rfl) rfl rfl hl.1 rfl (lv_room (Nat.le_of_ble_eq_true rfl)) dT_gate_16 ⟨Nat.zero_le _, Nat.zero_le _⟩) (fun H locs hP hD hS => ?_)
      have hP : va_P D vwCl (WT ad cA (tk_up g 6 (tkN_setGate_s (g 6) x1))) H := hP
      have hD : va_D A (WT ad cA (tk_up g 6 (tkN_setGate_s (g 6) x1))) := hD
      refine W.eq (g2 := F0 m 19 ls []) rfl ?_
      refine lv_aload_n hx hb dT_gate_19 rfl (lv_at hl 0 rfl) ?_
      refine tk_callA hD hS hA (va_runV (As := []) (rest := []) ⟨hx, hb, hml, hown, hw⟩ (kT_followLines l D ad cA (tk_up g 6 (tkN_setGate_s (g 6) x1)) H.size) (cwV 0 hw (tk_gV tkW_good wM_T_59 wI_T_followLines wS_T_followLines wZ_T wC_T_followLines) rfl rfl rfl (by decide +kernel) ⟨Nat.le_of_ble_eq_true rfl, Nat.le_of_ble_eq_true rfl⟩) (tk_preT hK hN hP hD) rfl rfl hl.1 rfl (lv_room (Nat.le_of_ble_eq_true rfl)) dT_gate_20 ⟨Nat.zero_le _, Nat.zero_le _⟩) (fun H locs hP hD hS => ?_)
      refine W.eq (g2 := F0 m 23 ls []) rfl ?_
      refine lv_iconst (v := 1) hx hb dT_gate_23 (by decide) ?_
      exact tk_zret hx hb hr hlk hP hD hS dT_gate_24 rfl (by unfold tkT_gate_r; rw [if_neg h1_]) (congrArg (WT ad cA) (by unfold tkT_gate_s; rw [if_neg h1_, if_neg h4_, if_neg h5_]))
  · refine lv_iconst (v := 0) hx hb dT_gate_7 (by decide) ?_
    exact tk_zret hx hb hr hlk hP hD hS dT_gate_8 rfl (by unfold tkT_gate_r; rw [if_pos h1_]) (congrArg (WT ad cA) (by unfold tkT_gate_s; rw [if_pos h1_]))
def tkT_chosen_r (g : Nat → Nat → Int32) (x0 : Int32) : Int32 :=
  if tkT_isController_r x0 = 0 then (-1)
  else if x0 = 0 then tkC_chosenLevel_r (g 1)
    else tkC_chosenLevel_r (g 2)
set_option maxHeartbeats 1000000 in
set_option maxRecDepth 100000 in
theorem kT_chosen (l : Launch) (D : va_G) (ad : Nat → Nat) (cA : ClassId) (g : Nat → Nat → Int32) (x0 : Int32) : tk_M l yT_chosen wsT_chosen { frames := 2, cells := 0, slots := 0, locals := 46 } D [(cA, .object "TickLines$Counter")] [.ref (ad 0), .int x0] (WT ad cA g) (WT ad cA g) (some (.int (tkT_chosen_r g x0))) := by
  refine tk_M.of (cc := cT_chosen) (maxL := 2) (ret := (some .int)) (by decide) rfl (Nat.le_of_ble_eq_true rfl) ?_
  intro p e s m below meth co A H locs ls hB hK hN hA hP hD hS hl
  obtain ⟨hx, hb, hr, hml, hown, hlk, hnm, hts⟩ := hB
  have hown : s.vm.findClass RT = some m.cls := hown
  have hl : lv_has ls 2 [(0, .ref (ad 0)), (1, .int x0)] := hl
  have hw : ∀ w ∈ tkW, w.before _ s = true := fun w h => hts w (List.mem_cons_of_mem _ h)
  refine lv_iload_n hx hb dT_chosen_0 rfl (lv_at hl 1 rfl) ?_
  refine tk_call0 hP hD hS hA (va_runS (As := [.int x0]) (rest := []) ⟨hx, hb, hml, hown, hw⟩ (kT_isController l D x0 H.size) (va_cwS 1 hw (tk_gS tkW_good wM_T_73 wT_T_isController wZ_T wC_T_isController) rfl rfl rfl (by decide +kernel) ⟨Nat.le_of_ble_eq_true rfl, Nat.le_of_ble_eq_true rfl⟩) (tk_preS hK hN hP hD [] [] rfl rfl rfl) rfl rfl hl.1 rfl (lv_room (Nat.le_of_ble_eq_true rfl)) dT_chosen_1 ⟨Nat.zero_le _, Nat.zero_le _⟩) (fun H locs hP hD hS => ?_)
  refine W.eq (g2 := F0 m 4 ls [.int (tkT_isController_r x0)]) rfl ?_
  refine lv_if_eq (tgt := 18) hx hb dT_chosen_4 (by decide) (fun (h1_ : tkT_isController_r x0 = 0) => ?_) (fun (h1_ : ¬ (tkT_isController_r x0 = 0)) => ?_)
  · refine lv_iconst (v := -1) hx hb dT_chosen_18 (by decide) ?_
    exact tk_iret hx hb hr hlk hP hD hS dT_chosen_19 (by unfold tkT_chosen_r; rw [if_pos h1_]) rfl
  · refine lv_aload_n hx hb dT_chosen_7 rfl (lv_at hl 0 rfl) ?_
    refine lv_iload_n hx hb dT_chosen_8 rfl (lv_at hl 1 rfl) ?_
    refine tk_callA hD hS hA (va_runV (As := [.int x0]) (rest := []) ⟨hx, hb, hml, hown, hw⟩ (kT_controllerOf l D ad cA g x0 H.size) (cwV 1 hw (tk_gV tkW_good wM_T_49 wI_T_controllerOf wS_T_controllerOf wZ_T wC_T_controllerOf) rfl rfl rfl (by decide +kernel) ⟨Nat.le_of_ble_eq_true rfl, Nat.le_of_ble_eq_true rfl⟩) (tk_preT hK hN hP hD) rfl rfl hl.1 rfl (lv_room (Nat.le_of_ble_eq_true rfl)) dT_chosen_9 ⟨Nat.zero_le _, Nat.zero_le _⟩) (fun H locs hP hD hS => ?_)
    refine W.eq (g2 := F0 m 12 ls (.ref (tkT_controllerOf_r ad x0) :: [])) rfl ?_
    by_cases h2_ : x0 = 0
    · refine tk_topr (show tkT_controllerOf_r ad x0 = ad 1 from if_pos h2_) ?_
      refine W.eq (g2 := F0 m 12 ls [.ref (ad 1)]) rfl ?_
      refine tk_call1 (cell := (ad 1, .inr (0, FC (g 1)))) (cell' := (ad 1, .inr (0, FC (g 1)))) 1 hP hD hS hA rfl rfl (va_runV (As := []) (rest := []) ⟨hx, hb, hml, hown, hw⟩ (kC_chosenLevel l D (ad 1) (g 1) H.size) (cwV 0 hw (tk_gV tkW_good wM_T_109 wI_C_chosenLevel wS_C_chosenLevel wZ_C wC_C_chosenLevel) rfl rfl rfl (by decide +kernel) ⟨Nat.le_of_ble_eq_true rfl, Nat.le_of_ble_eq_true rfl⟩) (tk_preV (q0 := 1) hK hN hP hD [1] [] rfl rfl rfl rfl rfl) rfl rfl hl.1 rfl (lv_room (Nat.le_of_ble_eq_true rfl)) dT_chosen_12 ⟨Nat.zero_le _, Nat.zero_le _⟩) (fun H locs hP hD hS => ?_)
      have hP : va_P D vwCl (WT ad cA g) H := hP
      have hD : va_D A (WT ad cA g) := hD
      refine W.eq (g2 := F0 m 15 ls [.int (tkC_chosenLevel_r (g 1))]) rfl ?_
      refine lv_goto (tgt := 19) hx hb dT_chosen_15 (by decide) ?_
      exact tk_iret hx hb hr hlk hP hD hS dT_chosen_19 (by unfold tkT_chosen_r; rw [if_neg h1_, if_pos h2_]) rfl
    · refine tk_topr (show tkT_controllerOf_r ad x0 = ad 2 from if_neg h2_) ?_
      refine W.eq (g2 := F0 m 12 ls [.ref (ad 2)]) rfl ?_
      refine tk_call1 (cell := (ad 2, .inr (0, FC (g 2)))) (cell' := (ad 2, .inr (0, FC (g 2)))) 2 hP hD hS hA rfl rfl (va_runV (As := []) (rest := []) ⟨hx, hb, hml, hown, hw⟩ (kC_chosenLevel l D (ad 2) (g 2) H.size) (cwV 0 hw (tk_gV tkW_good wM_T_109 wI_C_chosenLevel wS_C_chosenLevel wZ_C wC_C_chosenLevel) rfl rfl rfl (by decide +kernel) ⟨Nat.le_of_ble_eq_true rfl, Nat.le_of_ble_eq_true rfl⟩) (tk_preV (q0 := 2) hK hN hP hD [2] [] rfl rfl rfl rfl rfl) rfl rfl hl.1 rfl (lv_room (Nat.le_of_ble_eq_true rfl)) dT_chosen_12 ⟨Nat.zero_le _, Nat.zero_le _⟩) (fun H locs hP hD hS => ?_)
      have hP : va_P D vwCl (WT ad cA g) H := hP
      have hD : va_D A (WT ad cA g) := hD
      refine W.eq (g2 := F0 m 15 ls [.int (tkC_chosenLevel_r (g 2))]) rfl ?_
      refine lv_goto (tgt := 19) hx hb dT_chosen_15 (by decide) ?_
      exact tk_iret hx hb hr hlk hP hD hS dT_chosen_19 (by unfold tkT_chosen_r; rw [if_neg h1_, if_neg h2_]) rfl
def tkT_about_r (g : Nat → Nat → Int32) (x0 x1 : Int32) : Int32 :=
  if tkT_isController_r x0 = 0 then (-1)
  else if x0 = 0 then tkC_tell_r (g 1) x1
    else tkC_tell_r (g 2) x1
set_option maxHeartbeats 1000000 in
set_option maxRecDepth 100000 in
theorem kT_about (l : Launch) (D : va_G) (ad : Nat → Nat) (cA : ClassId) (g : Nat → Nat → Int32) (x0 x1 : Int32) : tk_M l yT_about wsT_about { frames := 2, cells := 0, slots := 0, locals := 41 } D [(cA, .object "TickLines$Counter")] [.ref (ad 0), .int x0, .int x1] (WT ad cA g) (WT ad cA g) (some (.int (tkT_about_r g x0 x1))) := by
  refine tk_M.of (cc := cT_about) (maxL := 3) (ret := (some .int)) (by decide) rfl (Nat.le_of_ble_eq_true rfl) ?_
  intro p e s m below meth co A H locs ls hB hK hN hA hP hD hS hl
  obtain ⟨hx, hb, hr, hml, hown, hlk, hnm, hts⟩ := hB
  have hown : s.vm.findClass RT = some m.cls := hown
  have hl : lv_has ls 3 [(0, .ref (ad 0)), (1, .int x0), (2, .int x1)] := hl
  have hw : ∀ w ∈ tkW, w.before _ s = true := fun w h => hts w (List.mem_cons_of_mem _ h)
  refine lv_iload_n hx hb dT_about_0 rfl (lv_at hl 1 rfl) ?_
  refine tk_call0 hP hD hS hA (va_runS (As := [.int x0]) (rest := []) ⟨hx, hb, hml, hown, hw⟩ (kT_isController l D x0 H.size) (va_cwS 1 hw (tk_gS tkW_good wM_T_73 wT_T_isController wZ_T wC_T_isController) rfl rfl rfl (by decide +kernel) ⟨Nat.le_of_ble_eq_true rfl, Nat.le_of_ble_eq_true rfl⟩) (tk_preS hK hN hP hD [] [] rfl rfl rfl) rfl rfl hl.1 rfl (lv_room (Nat.le_of_ble_eq_true rfl)) dT_about_1 ⟨Nat.zero_le _, Nat.zero_le _⟩) (fun H locs hP hD hS => ?_)
  refine W.eq (g2 := F0 m 4 ls [.int (tkT_isController_r x0)]) rfl ?_
  refine lv_if_eq (tgt := 19) hx hb dT_about_4 (by decide) (fun (h1_ : tkT_isController_r x0 = 0) => ?_) (fun (h1_ : ¬ (tkT_isController_r x0 = 0)) => ?_)
  · refine lv_iconst (v := -1) hx hb dT_about_19 (by decide) ?_
    exact tk_iret hx hb hr hlk hP hD hS dT_about_20 (by unfold tkT_about_r; rw [if_pos h1_]) rfl
  · refine lv_aload_n hx hb dT_about_7 rfl (lv_at hl 0 rfl) ?_
    refine lv_iload_n hx hb dT_about_8 rfl (lv_at hl 1 rfl) ?_
    refine tk_callA hD hS hA (va_runV (As := [.int x0]) (rest := []) ⟨hx, hb, hml, hown, hw⟩ (kT_controllerOf l D ad cA g x0 H.size) (cwV 1 hw (tk_gV tkW_good wM_T_49 wI_T_controllerOf wS_T_controllerOf wZ_T wC_T_controllerOf) rfl rfl rfl (by decide +kernel) ⟨Nat.le_of_ble_eq_true rfl, Nat.le_of_ble_eq_true rfl⟩) (tk_preT hK hN hP hD) rfl rfl hl.1 rfl (lv_room (Nat.le_of_ble_eq_true rfl)) dT_about_9 ⟨Nat.zero_le _, Nat.zero_le _⟩) (fun H locs hP hD hS => ?_)
    refine W.eq (g2 := F0 m 12 ls (.ref (tkT_controllerOf_r ad x0) :: [])) rfl ?_
    by_cases h2_ : x0 = 0
    · refine tk_topr (show tkT_controllerOf_r ad x0 = ad 1 from if_pos h2_) ?_
      refine W.eq (g2 := F0 m 12 ls [.ref (ad 1)]) rfl ?_
      refine lv_iload_n hx hb dT_about_12 rfl (lv_at hl 2 rfl) ?_
      refine tk_call1 (cell := (ad 1, .inr (0, FC (g 1)))) (cell' := (ad 1, .inr (0, FC (g 1)))) 1 hP hD hS hA rfl rfl (va_runV (As := [.int x1]) (rest := []) ⟨hx, hb, hml, hown, hw⟩ (kC_tell l D (ad 1) (g 1) x1 H.size) (cwV 1 hw (tk_gV tkW_good wM_T_112 wI_C_tell wS_C_tell wZ_C wC_C_tell) rfl rfl rfl (by decide +kernel) ⟨Nat.le_of_ble_eq_true rfl, Nat.le_of_ble_eq_true rfl⟩) (tk_preV (q0 := 1) hK hN hP hD [1] [] rfl rfl rfl rfl rfl) rfl rfl hl.1 rfl (lv_room (Nat.le_of_ble_eq_true rfl)) dT_about_13 ⟨Nat.zero_le _, Nat.zero_le _⟩) (fun H locs hP hD hS => ?_)
      have hP : va_P D vwCl (WT ad cA g) H := hP
      have hD : va_D A (WT ad cA g) := hD
      refine W.eq (g2 := F0 m 16 ls [.int (tkC_tell_r (g 1) x1)]) rfl ?_
      refine lv_goto (tgt := 20) hx hb dT_about_16 (by decide) ?_
      exact tk_iret hx hb hr hlk hP hD hS dT_about_20 (by unfold tkT_about_r; rw [if_neg h1_, if_pos h2_]) rfl
    · refine tk_topr (show tkT_controllerOf_r ad x0 = ad 2 from if_neg h2_) ?_
      refine W.eq (g2 := F0 m 12 ls [.ref (ad 2)]) rfl ?_
      refine lv_iload_n hx hb dT_about_12 rfl (lv_at hl 2 rfl) ?_
      refine tk_call1 (cell := (ad 2, .inr (0, FC (g 2)))) (cell' := (ad 2, .inr (0, FC (g 2)))) 2 hP hD hS hA rfl rfl (va_runV (As := [.int x1]) (rest := []) ⟨hx, hb, hml, hown, hw⟩ (kC_tell l D (ad 2) (g 2) x1 H.size) (cwV 1 hw (tk_gV tkW_good wM_T_112 wI_C_tell wS_C_tell wZ_C wC_C_tell) rfl rfl rfl (by decide +kernel) ⟨Nat.le_of_ble_eq_true rfl, Nat.le_of_ble_eq_true rfl⟩) (tk_preV (q0 := 2) hK hN hP hD [2] [] rfl rfl rfl rfl rfl) rfl rfl hl.1 rfl (lv_room (Nat.le_of_ble_eq_true rfl)) dT_about_13 ⟨Nat.zero_le _, Nat.zero_le _⟩) (fun H locs hP hD hS => ?_)
      have hP : va_P D vwCl (WT ad cA g) H := hP
      have hD : va_D A (WT ad cA g) := hD
      refine W.eq (g2 := F0 m 16 ls [.int (tkC_tell_r (g 2) x1)]) rfl ?_
      refine lv_goto (tgt := 20) hx hb dT_about_16 (by decide) ?_
      exact tk_iret hx hb hr hlk hP hD hS dT_about_20 (by unfold tkT_about_r; rw [if_neg h1_, if_neg h2_]) rfl
def tkT_counter_r (g : Nat → Nat → Int32) (x0 x1 : Int32) : Int32 :=
  if tkT_isCounter_r x0 = 0 then (-1)
  else if x0 = 0 then tkN_tell_r (g 4) x1
    else if x0 = 1 then tkN_tell_r (g 5) x1
      else tkN_tell_r (g 6) x1
set_option maxHeartbeats 1000000 in
set_option maxRecDepth 100000 in
theorem kT_counter (l : Launch) (D : va_G) (ad : Nat → Nat) (cA : ClassId) (g : Nat → Nat → Int32) (x0 x1 : Int32) : tk_M l yT_counter wsT_counter { frames := 2, cells := 0, slots := 0, locals := 41 } D [(cA, .object "TickLines$Counter")] [.ref (ad 0), .int x0, .int x1] (WT ad cA g) (WT ad cA g) (some (.int (tkT_counter_r g x0 x1))) := by
  refine tk_M.of (cc := cT_counter) (maxL := 3) (ret := (some .int)) (by decide) rfl (Nat.le_of_ble_eq_true rfl) ?_
  intro p e s m below meth co A H locs ls hB hK hN hA hP hD hS hl
  obtain ⟨hx, hb, hr, hml, hown, hlk, hnm, hts⟩ := hB
  have hown : s.vm.findClass RT = some m.cls := hown
  have hl : lv_has ls 3 [(0, .ref (ad 0)), (1, .int x0), (2, .int x1)] := hl
  have hw : ∀ w ∈ tkW, w.before _ s = true := fun w h => hts w (List.mem_cons_of_mem _ h)
  have f24 := hw _ wF_T_24
  refine lv_iload_n hx hb dT_counter_0 rfl (lv_at hl 1 rfl) ?_
  refine tk_call0 hP hD hS hA (va_runS (As := [.int x0]) (rest := []) ⟨hx, hb, hml, hown, hw⟩ (kT_isCounter l D x0 H.size) (va_cwS 1 hw (tk_gS tkW_good wM_T_80 wT_T_isCounter wZ_T wC_T_isCounter) rfl rfl rfl (by decide +kernel) ⟨Nat.le_of_ble_eq_true rfl, Nat.le_of_ble_eq_true rfl⟩) (tk_preS hK hN hP hD [] [] rfl rfl rfl) rfl rfl hl.1 rfl (lv_room (Nat.le_of_ble_eq_true rfl)) dT_counter_1 ⟨Nat.zero_le _, Nat.zero_le _⟩) (fun H locs hP hD hS => ?_)
  refine W.eq (g2 := F0 m 4 ls [.int (tkT_isCounter_r x0)]) rfl ?_
  refine lv_if_eq (tgt := 20) hx hb dT_counter_4 (by decide) (fun (h1_ : tkT_isCounter_r x0 = 0) => ?_) (fun (h1_ : ¬ (tkT_isCounter_r x0 = 0)) => ?_)
  · refine lv_iconst (v := -1) hx hb dT_counter_20 (by decide) ?_
    exact tk_iret hx hb hr hlk hP hD hS dT_counter_21 (by unfold tkT_counter_r; rw [if_pos h1_]) rfl
  · refine lv_aload_n hx hb dT_counter_7 rfl (lv_at hl 0 rfl) ?_
    refine va_get (D := D) (ci := 2) (v := .ref (ad 3)) (C := RT) (T := TT) (N := 3) hx hb hw inT hown hK hP 0 rfl rfl 2 (by decide) f24 (fun _ h9 => h9) rfl dT_counter_8 ?_
    refine lv_iload_n hx hb dT_counter_11 rfl (lv_at hl 1 rfl) ?_
    rcases (tkT_isCounter_c _ h1_) with h2_ | h2_ | h2_
    · refine tk_top h2_ ?_
      refine va_aldq hx hb hK hP 3 0 rfl rfl (by unfold vp_in; decide) dT_counter_12 ?_
      refine W.eq (g2 := F0 m 13 ls [.ref (ad 4)]) rfl ?_
      refine lv_iload_n hx hb dT_counter_13 rfl (lv_at hl 2 rfl) ?_
      refine tk_call1 (cell := (ad 4, .inr (1, FN (g 4)))) (cell' := (ad 4, .inr (1, FN (g 4)))) 4 hP hD hS hA rfl rfl (va_runV (As := [.int x1]) (rest := []) ⟨hx, hb, hml, hown, hw⟩ (kN_tell l D (ad 4) (g 4) x1 H.size) (cwV 1 hw (tk_gV tkW_good wM_T_115 wI_N_tell wS_N_tell wZ_N wC_N_tell) rfl rfl rfl (by decide +kernel) ⟨Nat.le_of_ble_eq_true rfl, Nat.le_of_ble_eq_true rfl⟩) (tk_preV (q0 := 4) hK hN hP hD [4] [] rfl rfl rfl rfl rfl) rfl rfl hl.1 rfl (lv_room (Nat.le_of_ble_eq_true rfl)) dT_counter_14 ⟨Nat.zero_le _, Nat.zero_le _⟩) (fun H locs hP hD hS => ?_)
      have hP : va_P D vwCl (WT ad cA g) H := hP
      have hD : va_D A (WT ad cA g) := hD
      refine W.eq (g2 := F0 m 17 ls [.int (tkN_tell_r (g 4) x1)]) rfl ?_
      refine lv_goto (tgt := 21) hx hb dT_counter_17 (by decide) ?_
      exact tk_iret hx hb hr hlk hP hD hS dT_counter_21 (by unfold tkT_counter_r; rw [if_neg h1_, if_pos h2_]) rfl
    · have h3_ : ¬ x0 = 0 := by rw [h2_]; decide
      refine tk_top h2_ ?_
      refine va_aldq hx hb hK hP 3 0 rfl rfl (by unfold vp_in; decide) dT_counter_12 ?_
      refine W.eq (g2 := F0 m 13 ls [.ref (ad 5)]) rfl ?_
      refine lv_iload_n hx hb dT_counter_13 rfl (lv_at hl 2 rfl) ?_
      refine tk_call1 (cell := (ad 5, .inr (1, FN (g 5)))) (cell' := (ad 5, .inr (1, FN (g 5)))) 5 hP hD hS hA rfl rfl (va_runV (As := [.int x1]) (rest := []) ⟨hx, hb, hml, hown, hw⟩ (kN_tell l D (ad 5) (g 5) x1 H.size) (cwV 1 hw (tk_gV tkW_good wM_T_115 wI_N_tell wS_N_tell wZ_N wC_N_tell) rfl rfl rfl (by decide +kernel) ⟨Nat.le_of_ble_eq_true rfl, Nat.le_of_ble_eq_true rfl⟩) (tk_preV (q0 := 5) hK hN hP hD [5] [] rfl rfl rfl rfl rfl) rfl rfl hl.1 rfl (lv_room (Nat.le_of_ble_eq_true rfl)) dT_counter_14 ⟨Nat.zero_le _, Nat.zero_le _⟩) (fun H locs hP hD hS => ?_)
      have hP : va_P D vwCl (WT ad cA g) H := hP
      have hD : va_D A (WT ad cA g) := hD
      refine W.eq (g2 := F0 m 17 ls [.int (tkN_tell_r (g 5) x1)]) rfl ?_
      refine lv_goto (tgt := 21) hx hb dT_counter_17 (by decide) ?_
      exact tk_iret hx hb hr hlk hP hD hS dT_counter_21 (by unfold tkT_counter_r; rw [if_neg h1_, if_neg h3_, if_pos h2_]) rfl
    · have h4_ : ¬ x0 = 0 := by rw [h2_]; decide
      have h5_ : ¬ x0 = 1 := by rw [h2_]; decide
      refine tk_top h2_ ?_
      refine va_aldq hx hb hK hP 3 0 rfl rfl (by unfold vp_in; decide) dT_counter_12 ?_
      refine W.eq (g2 := F0 m 13 ls [.ref (ad 6)]) rfl ?_
      refine lv_iload_n hx hb dT_counter_13 rfl (lv_at hl 2 rfl) ?_
      refine tk_call1 (cell := (ad 6, .inr (1, FN (g 6)))) (cell' := (ad 6, .inr (1, FN (g 6)))) 6 hP hD hS hA rfl rfl (va_runV (As := [.int x1]) (rest := []) ⟨hx, hb, hml, hown, hw⟩ (kN_tell l D (ad 6) (g 6) x1 H.size) (cwV 1 hw (tk_gV tkW_good wM_T_115 wI_N_tell wS_N_tell wZ_N wC_N_tell) rfl rfl rfl (by decide +kernel) ⟨Nat.le_of_ble_eq_true rfl, Nat.le_of_ble_eq_true rfl⟩) (tk_preV (q0 := 6) hK hN hP hD [6] [] rfl rfl rfl rfl rfl) rfl rfl hl.1 rfl (lv_room (Nat.le_of_ble_eq_true rfl)) dT_counter_14 ⟨Nat.zero_le _, Nat.zero_le _⟩) (fun H locs hP hD hS => ?_)
      have hP : va_P D vwCl (WT ad cA g) H := hP
      have hD : va_D A (WT ad cA g) := hD
      refine W.eq (g2 := F0 m 17 ls [.int (tkN_tell_r (g 6) x1)]) rfl ?_
      refine lv_goto (tgt := 21) hx hb dT_counter_17 (by decide) ?_
      exact tk_iret hx hb hr hlk hP hD hS dT_counter_21 (by unfold tkT_counter_r; rw [if_neg h1_, if_neg h4_, if_neg h5_]) rfl
