def tkN_hasMode_r (c : Nat → Int32) : Int32 :=
  if c 2 = (-1) then 0
  else 1
set_option maxHeartbeats 1000000 in
set_option maxRecDepth 100000 in
theorem kN_hasMode (l : Launch) (D : va_G) (h0 : Nat) (c : Nat → Int32) : tk_M l yN_hasMode wsN_hasMode { frames := 0, cells := 0, slots := 0, locals := 0 } D [] [.ref h0] [(h0, .inr (1, FN c))] [(h0, .inr (1, FN c))] (some (.int (tkN_hasMode_r c))) := by
  refine tk_M.of (cc := cN_hasMode) (maxL := 1) (ret := (some .boolean)) (by decide) rfl (Nat.le_of_ble_eq_true rfl) ?_
  intro p e s m below meth co A H locs ls hB hK hN hA hP hD hS hl
  obtain ⟨hx, hb, hr, hml, hown, hlk, hnm, hts⟩ := hB
  have hown : s.vm.findClass RN = some m.cls := hown
  have hl : lv_has ls 1 [(0, .ref h0)] := hl
  have hw : ∀ w ∈ tkW, w.before _ s = true := fun w h => hts w (List.mem_cons_of_mem _ h)
  have f15 := hw _ wF_N_15
  refine lv_aload_n hx hb dN_hasMode_0 rfl (lv_at hl 0 rfl) ?_
  refine va_get (D := D) (ci := 1) (v := .int (c 2)) (C := RN) (T := TN) (N := 14) hx hb hw inN hown hK hP 0 rfl rfl 2 (by decide) f15 (fun _ h9 => h9) rfl dN_hasMode_1 ?_
  refine lv_iconst (v := -1) hx hb dN_hasMode_4 (by decide) ?_
  refine lv_icmp_eq (tgt := 12) hx hb dN_hasMode_5 (by decide) (fun (h1_ : c 2 = (-1)) => ?_) (fun (h1_ : ¬ (c 2 = (-1))) => ?_)
  · refine lv_iconst (v := 0) hx hb dN_hasMode_12 (by decide) ?_
    exact tk_zret hx hb hr hlk hP hD hS dN_hasMode_13 rfl (by unfold tkN_hasMode_r; rw [if_pos h1_]) rfl
  · refine lv_iconst (v := 1) hx hb dN_hasMode_8 (by decide) ?_
    refine lv_goto (tgt := 13) hx hb dN_hasMode_9 (by decide) ?_
    exact tk_zret hx hb hr hlk hP hD hS dN_hasMode_13 rfl (by unfold tkN_hasMode_r; rw [if_neg h1_]) rfl
def tkN_setMode_s (c : Nat → Int32) (x0 x1 : Int32) : Nat → Int32 :=
  if x1 ≤ 5 then (if x1 = 0 then tk_up (tk_up (tk_up (tk_up (tk_up (tk_up (tk_up (tk_up (tk_up (tk_up (tk_up c 3 x0) 2 x1) 4 0) 6 0) 7 0) 8 1) 10 0) 11 0) 12 (-1)) 13 (-1)) 1 0
    else tk_up (tk_up (tk_up (tk_up (tk_up (tk_up (tk_up (tk_up (tk_up (tk_up (tk_up c 3 x0) 2 x1) 4 0) 6 0) 7 0) 8 1) 10 0) 11 0) 12 (-1)) 13 (-1)) 1 1)
  else if x1 - 4 = 0 then tk_up (tk_up (tk_up (tk_up (tk_up (tk_up (tk_up (tk_up (tk_up (tk_up (tk_up c 3 x0) 2 (x1 - 4)) 4 0) 6 0) 7 0) 8 1) 10 0) 11 0) 12 (-1)) 13 (-1)) 1 0
    else tk_up (tk_up (tk_up (tk_up (tk_up (tk_up (tk_up (tk_up (tk_up (tk_up (tk_up c 3 x0) 2 (x1 - 4)) 4 0) 6 0) 7 0) 8 1) 10 0) 11 0) 12 (-1)) 13 (-1)) 1 1
set_option maxHeartbeats 1000000 in
set_option maxRecDepth 100000 in
theorem kN_setMode (l : Launch) (D : va_G) (h0 : Nat) (c : Nat → Int32) (x0 x1 : Int32) : tk_M l yN_setMode wsN_setMode { frames := 0, cells := 0, slots := 0, locals := 0 } D [] [.ref h0, .int x0, .int x1] [(h0, .inr (1, FN c))] [(h0, .inr (1, FN (tkN_setMode_s c x0 x1)))] none := by
  refine tk_M.of (cc := cN_setMode) (maxL := 3) (ret := none) (by decide) rfl (Nat.le_of_ble_eq_true rfl) ?_
  intro p e s m below meth co A H locs ls hB hK hN hA hP hD hS hl
  obtain ⟨hx, hb, hr, hml, hown, hlk, hnm, hts⟩ := hB
  have hown : s.vm.findClass RN = some m.cls := hown
  have hl : lv_has ls 3 [(0, .ref h0), (1, .int x0), (2, .int x1)] := hl
  have hw : ∀ w ∈ tkW, w.before _ s = true := fun w h => hts w (List.mem_cons_of_mem _ h)
  have f25 := hw _ wF_N_25
  have f15 := hw _ wF_N_15
  have f28 := hw _ wF_N_28
  have f31 := hw _ wF_N_31
  have f34 := hw _ wF_N_34
  have f37 := hw _ wF_N_37
  have f40 := hw _ wF_N_40
  have f43 := hw _ wF_N_43
  have f19 := hw _ wF_N_19
  have f22 := hw _ wF_N_22
  have f46 := hw _ wF_N_46
  refine lv_aload_n hx hb dN_setMode_0 rfl (lv_at hl 0 rfl) ?_
  refine lv_iload_n hx hb dN_setMode_1 rfl (lv_at hl 1 rfl) ?_
  refine va_put (D := D) (ci := 1) (v := .int x0) (ty := .int) (C := RN) (T := TN) (N := 14) hx hb hw inN tyN tyN_ok nmN hown hK hP hD hS 0 rfl rfl 3 (by decide) f25 (fun _ h9 => h9) rfl (tyN_ok 3 (by decide)) rfl rfl (Nat.le_of_ble_eq_true rfl) dN_setMode_2 (fun H locs hP hD hS => ?_)
  have hP : va_P D vwCl [(h0, .inr (1, FN (tk_up c 3 x0)))] H := hP
  have hD : va_D A [(h0, .inr (1, FN (tk_up c 3 x0)))] := hD
  refine lv_aload_n hx hb dN_setMode_5 rfl (lv_at hl 0 rfl) ?_
  refine lv_iload_n hx hb dN_setMode_6 rfl (lv_at hl 2 rfl) ?_
  refine lv_iconst (v := 5) hx hb dN_setMode_7 (by decide) ?_
  refine lv_icmp_le (tgt := 17) hx hb dN_setMode_8 (by decide) (fun (h1_ : x1 ≤ 5) => ?_) (fun (h1_ : ¬ (x1 ≤ 5)) => ?_)
  · refine lv_iload_n hx hb dN_setMode_17 rfl (lv_at hl 2 rfl) ?_
    refine va_put (D := D) (ci := 1) (v := .int x1) (ty := .int) (C := RN) (T := TN) (N := 14) hx hb hw inN tyN tyN_ok nmN hown hK hP hD hS 0 rfl rfl 2 (by decide) f15 (fun _ h9 => h9) rfl (tyN_ok 2 (by decide)) rfl rfl (Nat.le_of_ble_eq_true rfl) dN_setMode_18 (fun H locs hP hD hS => ?_)
    have hP : va_P D vwCl [(h0, .inr (1, FN (tk_up (tk_up c 3 x0) 2 x1)))] H := hP
    have hD : va_D A [(h0, .inr (1, FN (tk_up (tk_up c 3 x0) 2 x1)))] := hD
    refine lv_aload_n hx hb dN_setMode_21 rfl (lv_at hl 0 rfl) ?_
    refine lv_iconst (v := 0) hx hb dN_setMode_22 (by decide) ?_
    refine va_put (D := D) (ci := 1) (v := .int 0) (ty := .int) (C := RN) (T := TN) (N := 14) hx hb hw inN tyN tyN_ok nmN hown hK hP hD hS 0 rfl rfl 4 (by decide) f28 (fun _ h9 => h9) rfl (tyN_ok 4 (by decide)) rfl rfl (Nat.le_of_ble_eq_true rfl) dN_setMode_23 (fun H locs hP hD hS => ?_)
    have hP : va_P D vwCl [(h0, .inr (1, FN (tk_up (tk_up (tk_up c 3 x0) 2 x1) 4 0)))] H := hP
    have hD : va_D A [(h0, .inr (1, FN (tk_up (tk_up (tk_up c 3 x0) 2 x1) 4 0)))] := hD
    refine lv_aload_n hx hb dN_setMode_26 rfl (lv_at hl 0 rfl) ?_
    refine lv_iconst (v := 0) hx hb dN_setMode_27 (by decide) ?_
    refine va_put (D := D) (ci := 1) (v := .int 0) (ty := .boolean) (C := RN) (T := TN) (N := 14) hx hb hw inN tyN tyN_ok nmN hown hK hP hD hS 0 rfl rfl 6 (by decide) f31 (fun _ h9 => h9) rfl (tyN_ok 6 (by decide)) rfl rfl (Nat.le_of_ble_eq_true rfl) dN_setMode_28 (fun H locs hP hD hS => ?_)
    have hP : va_P D vwCl [(h0, .inr (1, FN (tk_up (tk_up (tk_up (tk_up c 3 x0) 2 x1) 4 0) 6 0)))] H := hP
    have hD : va_D A [(h0, .inr (1, FN (tk_up (tk_up (tk_up (tk_up c 3 x0) 2 x1) 4 0) 6 0)))] := hD
    refine lv_aload_n hx hb dN_setMode_31 rfl (lv_at hl 0 rfl) ?_
    refine lv_iconst (v := 0) hx hb dN_setMode_32 (by decide) ?_
    refine va_put (D := D) (ci := 1) (v := .int 0) (ty := .boolean) (C := RN) (T := TN) (N := 14) hx hb hw inN tyN tyN_ok nmN hown hK hP hD hS 0 rfl rfl 7 (by decide) f34 (fun _ h9 => h9) rfl (tyN_ok 7 (by decide)) rfl rfl (Nat.le_of_ble_eq_true rfl) dN_setMode_33 (fun H locs hP hD hS => ?_)
    have hP : va_P D vwCl [(h0, .inr (1, FN (tk_up (tk_up (tk_up (tk_up (tk_up c 3 x0) 2 x1) 4 0) 6 0) 7 0)))] H := hP
    have hD : va_D A [(h0, .inr (1, FN (tk_up (tk_up (tk_up (tk_up (tk_up c 3 x0) 2 x1) 4 0) 6 0) 7 0)))] := hD
    refine lv_aload_n hx hb dN_setMode_36 rfl (lv_at hl 0 rfl) ?_
    refine lv_iconst (v := 1) hx hb dN_setMode_37 (by decide) ?_
    refine va_put (D := D) (ci := 1) (v := .int 1) (ty := .boolean) (C := RN) (T := TN) (N := 14) hx hb hw inN tyN tyN_ok nmN hown hK hP hD hS 0 rfl rfl 8 (by decide) f37 (fun _ h9 => h9) rfl (tyN_ok 8 (by decide)) rfl rfl (Nat.le_of_ble_eq_true rfl) dN_setMode_38 (fun H locs hP hD hS => ?_)
    have hP : va_P D vwCl [(h0, .inr (1, FN (tk_up (tk_up (tk_up (tk_up (tk_up (tk_up c 3 x0) 2 x1) 4 0) 6 0) 7 0) 8 1)))] H := hP
    have hD : va_D A [(h0, .inr (1, FN (tk_up (tk_up (tk_up (tk_up (tk_up (tk_up c 3 x0) 2 x1) 4 0) 6 0) 7 0) 8 1)))] := hD
    refine lv_aload_n hx hb dN_setMode_41 rfl (lv_at hl 0 rfl) ?_
    refine lv_iconst (v := 0) hx hb dN_setMode_42 (by decide) ?_
    refine va_put (D := D) (ci := 1) (v := .int 0) (ty := .boolean) (C := RN) (T := TN) (N := 14) hx hb hw inN tyN tyN_ok nmN hown hK hP hD hS 0 rfl rfl 10 (by decide) f40 (fun _ h9 => h9) rfl (tyN_ok 10 (by decide)) rfl rfl (Nat.le_of_ble_eq_true rfl) dN_setMode_43 (fun H locs hP hD hS => ?_)
    have hP : va_P D vwCl [(h0, .inr (1, FN (tk_up (tk_up (tk_up (tk_up (tk_up (tk_up (tk_up c 3 x0) 2 x1) 4 0) 6 0) 7 0) 8 1) 10 0)))] H := hP
    have hD : va_D A [(h0, .inr (1, FN (tk_up (tk_up (tk_up (tk_up (tk_up (tk_up (tk_up c 3 x0) 2 x1) 4 0) 6 0) 7 0) 8 1) 10 0)))] := hD
    refine lv_aload_n hx hb dN_setMode_46 rfl (lv_at hl 0 rfl) ?_
    refine lv_iconst (v := 0) hx hb dN_setMode_47 (by decide) ?_
    refine va_put (D := D) (ci := 1) (v := .int 0) (ty := .boolean) (C := RN) (T := TN) (N := 14) hx hb hw inN tyN tyN_ok nmN hown hK hP hD hS 0 rfl rfl 11 (by decide) f43 (fun _ h9 => h9) rfl (tyN_ok 11 (by decide)) rfl rfl (Nat.le_of_ble_eq_true rfl) dN_setMode_48 (fun H locs hP hD hS => ?_)
    have hP : va_P D vwCl [(h0, .inr (1, FN (tk_up (tk_up (tk_up (tk_up (tk_up (tk_up (tk_up (tk_up c 3 x0) 2 x1) 4 0) 6 0) 7 0) 8 1) 10 0) 11 0)))] H := hP
    have hD : va_D A [(h0, .inr (1, FN (tk_up (tk_up (tk_up (tk_up (tk_up (tk_up (tk_up (tk_up c 3 x0) 2 x1) 4 0) 6 0) 7 0) 8 1) 10 0) 11 0)))] := hD
    refine lv_aload_n hx hb dN_setMode_51 rfl (lv_at hl 0 rfl) ?_
    refine lv_iconst (v := -1) hx hb dN_setMode_52 (by decide) ?_
    refine va_put (D := D) (ci := 1) (v := .int (-1)) (ty := .int) (C := RN) (T := TN) (N := 14) hx hb hw inN tyN tyN_ok nmN hown hK hP hD hS 0 rfl rfl 12 (by decide) f19 (fun _ h9 => h9) rfl (tyN_ok 12 (by decide)) rfl rfl (Nat.le_of_ble_eq_true rfl) dN_setMode_53 (fun H locs hP hD hS => ?_)
    have hP : va_P D vwCl [(h0, .inr (1, FN (tk_up (tk_up (tk_up (tk_up (tk_up (tk_up (tk_up (tk_up (tk_up c 3 x0) 2 x1) 4 0) 6 0) 7 0) 8 1) 10 0) 11 0) 12 (-1))))] H := hP
    have hD : va_D A [(h0, .inr (1, FN (tk_up (tk_up (tk_up (tk_up (tk_up (tk_up (tk_up (tk_up (tk_up c 3 x0) 2 x1) 4 0) 6 0) 7 0) 8 1) 10 0) 11 0) 12 (-1))))] := hD
    refine lv_aload_n hx hb dN_setMode_56 rfl (lv_at hl 0 rfl) ?_
    refine lv_iconst (v := -1) hx hb dN_setMode_57 (by decide) ?_
    refine va_put (D := D) (ci := 1) (v := .int (-1)) (ty := .int) (C := RN) (T := TN) (N := 14) hx hb hw inN tyN tyN_ok nmN hown hK hP hD hS 0 rfl rfl 13 (by decide) f22 (fun _ h9 => h9) rfl (tyN_ok 13 (by decide)) rfl rfl (Nat.le_of_ble_eq_true rfl) dN_setMode_58 (fun H locs hP hD hS => ?_)
    have hP : va_P D vwCl [(h0, .inr (1, FN (tk_up (tk_up (tk_up (tk_up (tk_up (tk_up (tk_up (tk_up (tk_up (tk_up c 3 x0) 2 x1) 4 0) 6 0) 7 0) 8 1) 10 0) 11 0) 12 (-1)) 13 (-1))))] H := hP
    have hD : va_D A [(h0, .inr (1, FN (tk_up (tk_up (tk_up (tk_up (tk_up (tk_up (tk_up (tk_up (tk_up (tk_up c 3 x0) 2 x1) 4 0) 6 0) 7 0) 8 1) 10 0) 11 0) 12 (-1)) 13 (-1))))] := hD
    refine lv_aload_n hx hb dN_setMode_61 rfl (lv_at hl 0 rfl) ?_
    refine lv_aload_n hx hb dN_setMode_62 rfl (lv_at hl 0 rfl) ?_
    refine va_get (D := D) (ci := 1) (v := .int x1) (C := RN) (T := TN) (N := 14) hx hb hw inN hown hK hP 0 rfl rfl 2 (by decide) f15 (fun _ h9 => h9) rfl dN_setMode_63 ?_
    refine lv_if_eq (tgt := 73) hx hb dN_setMode_66 (by decide) (fun (h2_ : x1 = 0) => ?_) (fun (h2_ : ¬ (x1 = 0)) => ?_)
    · refine lv_iconst (v := 0) hx hb dN_setMode_73 (by decide) ?_
      refine va_put (D := D) (ci := 1) (v := .int 0) (ty := .boolean) (C := RN) (T := TN) (N := 14) hx hb hw inN tyN tyN_ok nmN hown hK hP hD hS 0 rfl rfl 1 (by decide) f46 (fun _ h9 => h9) rfl (tyN_ok 1 (by decide)) rfl rfl (Nat.le_of_ble_eq_true rfl) dN_setMode_74 (fun H locs hP hD hS => ?_)
      have hP : va_P D vwCl [(h0, .inr (1, FN (tk_up (tk_up (tk_up (tk_up (tk_up (tk_up (tk_up (tk_up (tk_up (tk_up (tk_up c 3 x0) 2 x1) 4 0) 6 0) 7 0) 8 1) 10 0) 11 0) 12 (-1)) 13 (-1)) 1 0)))] H := hP
      have hD : va_D A [(h0, .inr (1, FN (tk_up (tk_up (tk_up (tk_up (tk_up (tk_up (tk_up (tk_up (tk_up (tk_up (tk_up c 3 x0) 2 x1) 4 0) 6 0) 7 0) 8 1) 10 0) 11 0) 12 (-1)) 13 (-1)) 1 0)))] := hD
      exact tk_vret hx hb hr hlk hP hD hS dN_setMode_77 (tk_ewN (by unfold tkN_setMode_s; rw [if_pos h1_, if_pos h2_]))
    · refine lv_iconst (v := 1) hx hb dN_setMode_69 (by decide) ?_
      refine lv_goto (tgt := 74) hx hb dN_setMode_70 (by decide) ?_
      refine va_put (D := D) (ci := 1) (v := .int 1) (ty := .boolean) (C := RN) (T := TN) (N := 14) hx hb hw inN tyN tyN_ok nmN hown hK hP hD hS 0 rfl rfl 1 (by decide) f46 (fun _ h9 => h9) rfl (tyN_ok 1 (by decide)) rfl rfl (Nat.le_of_ble_eq_true rfl) dN_setMode_74 (fun H locs hP hD hS => ?_)
      have hP : va_P D vwCl [(h0, .inr (1, FN (tk_up (tk_up (tk_up (tk_up (tk_up (tk_up (tk_up (tk_up (tk_up (tk_up (tk_up c 3 x0) 2 x1) 4 0) 6 0) 7 0) 8 1) 10 0) 11 0) 12 (-1)) 13 (-1)) 1 1)))] H := hP
      have hD : va_D A [(h0, .inr (1, FN (tk_up (tk_up (tk_up (tk_up (tk_up (tk_up (tk_up (tk_up (tk_up (tk_up (tk_up c 3 x0) 2 x1) 4 0) 6 0) 7 0) 8 1) 10 0) 11 0) 12 (-1)) 13 (-1)) 1 1)))] := hD
      exact tk_vret hx hb hr hlk hP hD hS dN_setMode_77 (tk_ewN (by unfold tkN_setMode_s; rw [if_pos h1_, if_neg h2_]))
  · refine lv_iload_n hx hb dN_setMode_11 rfl (lv_at hl 2 rfl) ?_
    refine lv_iconst (v := 4) hx hb dN_setMode_12 (by decide) ?_
    refine lv_isub hx hb dN_setMode_13 ?_
    refine lv_goto (tgt := 18) hx hb dN_setMode_14 (by decide) ?_
    refine va_put (D := D) (ci := 1) (v := .int (x1 - 4)) (ty := .int) (C := RN) (T := TN) (N := 14) hx hb hw inN tyN tyN_ok nmN hown hK hP hD hS 0 rfl rfl 2 (by decide) f15 (fun _ h9 => h9) rfl (tyN_ok 2 (by decide)) rfl rfl (Nat.le_of_ble_eq_true rfl) dN_setMode_18 (fun H locs hP hD hS => ?_)
    have hP : va_P D vwCl [(h0, .inr (1, FN (tk_up (tk_up c 3 x0) 2 (x1 - 4))))] H := hP
    have hD : va_D A [(h0, .inr (1, FN (tk_up (tk_up c 3 x0) 2 (x1 - 4))))] := hD
    refine lv_aload_n hx hb dN_setMode_21 rfl (lv_at hl 0 rfl) ?_
    refine lv_iconst (v := 0) hx hb dN_setMode_22 (by decide) ?_
    refine va_put (D := D) (ci := 1) (v := .int 0) (ty := .int) (C := RN) (T := TN) (N := 14) hx hb hw inN tyN tyN_ok nmN hown hK hP hD hS 0 rfl rfl 4 (by decide) f28 (fun _ h9 => h9) rfl (tyN_ok 4 (by decide)) rfl rfl (Nat.le_of_ble_eq_true rfl) dN_setMode_23 (fun H locs hP hD hS => ?_)
    have hP : va_P D vwCl [(h0, .inr (1, FN (tk_up (tk_up (tk_up c 3 x0) 2 (x1 - 4)) 4 0)))] H := hP
    have hD : va_D A [(h0, .inr (1, FN (tk_up (tk_up (tk_up c 3 x0) 2 (x1 - 4)) 4 0)))] := hD
    refine lv_aload_n hx hb dN_setMode_26 rfl (lv_at hl 0 rfl) ?_
    refine lv_iconst (v := 0) hx hb dN_setMode_27 (by decide) ?_
    refine va_put (D := D) (ci := 1) (v := .int 0) (ty := .boolean) (C := RN) (T := TN) (N := 14) hx hb hw inN tyN tyN_ok nmN hown hK hP hD hS 0 rfl rfl 6 (by decide) f31 (fun _ h9 => h9) rfl (tyN_ok 6 (by decide)) rfl rfl (Nat.le_of_ble_eq_true rfl) dN_setMode_28 (fun H locs hP hD hS => ?_)
    have hP : va_P D vwCl [(h0, .inr (1, FN (tk_up (tk_up (tk_up (tk_up c 3 x0) 2 (x1 - 4)) 4 0) 6 0)))] H := hP
    have hD : va_D A [(h0, .inr (1, FN (tk_up (tk_up (tk_up (tk_up c 3 x0) 2 (x1 - 4)) 4 0) 6 0)))] := hD
    refine lv_aload_n hx hb dN_setMode_31 rfl (lv_at hl 0 rfl) ?_
    refine lv_iconst (v := 0) hx hb dN_setMode_32 (by decide) ?_
    refine va_put (D := D) (ci := 1) (v := .int 0) (ty := .boolean) (C := RN) (T := TN) (N := 14) hx hb hw inN tyN tyN_ok nmN hown hK hP hD hS 0 rfl rfl 7 (by decide) f34 (fun _ h9 => h9) rfl (tyN_ok 7 (by decide)) rfl rfl (Nat.le_of_ble_eq_true rfl) dN_setMode_33 (fun H locs hP hD hS => ?_)
    have hP : va_P D vwCl [(h0, .inr (1, FN (tk_up (tk_up (tk_up (tk_up (tk_up c 3 x0) 2 (x1 - 4)) 4 0) 6 0) 7 0)))] H := hP
    have hD : va_D A [(h0, .inr (1, FN (tk_up (tk_up (tk_up (tk_up (tk_up c 3 x0) 2 (x1 - 4)) 4 0) 6 0) 7 0)))] := hD
    refine lv_aload_n hx hb dN_setMode_36 rfl (lv_at hl 0 rfl) ?_
    refine lv_iconst (v := 1) hx hb dN_setMode_37 (by decide) ?_
    refine va_put (D := D) (ci := 1) (v := .int 1) (ty := .boolean) (C := RN) (T := TN) (N := 14) hx hb hw inN tyN tyN_ok nmN hown hK hP hD hS 0 rfl rfl 8 (by decide) f37 (fun _ h9 => h9) rfl (tyN_ok 8 (by decide)) rfl rfl (Nat.le_of_ble_eq_true rfl) dN_setMode_38 (fun H locs hP hD hS => ?_)
    have hP : va_P D vwCl [(h0, .inr (1, FN (tk_up (tk_up (tk_up (tk_up (tk_up (tk_up c 3 x0) 2 (x1 - 4)) 4 0) 6 0) 7 0) 8 1)))] H := hP
    have hD : va_D A [(h0, .inr (1, FN (tk_up (tk_up (tk_up (tk_up (tk_up (tk_up c 3 x0) 2 (x1 - 4)) 4 0) 6 0) 7 0) 8 1)))] := hD
    refine lv_aload_n hx hb dN_setMode_41 rfl (lv_at hl 0 rfl) ?_
    refine lv_iconst (v := 0) hx hb dN_setMode_42 (by decide) ?_
    refine va_put (D := D) (ci := 1) (v := .int 0) (ty := .boolean) (C := RN) (T := TN) (N := 14) hx hb hw inN tyN tyN_ok nmN hown hK hP hD hS 0 rfl rfl 10 (by decide) f40 (fun _ h9 => h9) rfl (tyN_ok 10 (by decide)) rfl rfl (Nat.le_of_ble_eq_true rfl) dN_setMode_43 (fun H locs hP hD hS => ?_)
    have hP : va_P D vwCl [(h0, .inr (1, FN (tk_up (tk_up (tk_up (tk_up (tk_up (tk_up (tk_up c 3 x0) 2 (x1 - 4)) 4 0) 6 0) 7 0) 8 1) 10 0)))] H := hP
    have hD : va_D A [(h0, .inr (1, FN (tk_up (tk_up (tk_up (tk_up (tk_up (tk_up (tk_up c 3 x0) 2 (x1 - 4)) 4 0) 6 0) 7 0) 8 1) 10 0)))] := hD
    refine lv_aload_n hx hb dN_setMode_46 rfl (lv_at hl 0 rfl) ?_
    refine lv_iconst (v := 0) hx hb dN_setMode_47 (by decide) ?_
    refine va_put (D := D) (ci := 1) (v := .int 0) (ty := .boolean) (C := RN) (T := TN) (N := 14) hx hb hw inN tyN tyN_ok nmN hown hK hP hD hS 0 rfl rfl 11 (by decide) f43 (fun _ h9 => h9) rfl (tyN_ok 11 (by decide)) rfl rfl (Nat.le_of_ble_eq_true rfl) dN_setMode_48 (fun H locs hP hD hS => ?_)
    have hP : va_P D vwCl [(h0, .inr (1, FN (tk_up (tk_up (tk_up (tk_up (tk_up (tk_up (tk_up (tk_up c 3 x0) 2 (x1 - 4)) 4 0) 6 0) 7 0) 8 1) 10 0) 11 0)))] H := hP
    have hD : va_D A [(h0, .inr (1, FN (tk_up (tk_up (tk_up (tk_up (tk_up (tk_up (tk_up (tk_up c 3 x0) 2 (x1 - 4)) 4 0) 6 0) 7 0) 8 1) 10 0) 11 0)))] := hD
    refine lv_aload_n hx hb dN_setMode_51 rfl (lv_at hl 0 rfl) ?_
    refine lv_iconst (v := -1) hx hb dN_setMode_52 (by decide) ?_
    refine va_put (D := D) (ci := 1) (v := .int (-1)) (ty := .int) (C := RN) (T := TN) (N := 14) hx hb hw inN tyN tyN_ok nmN hown hK hP hD hS 0 rfl rfl 12 (by decide) f19 (fun _ h9 => h9) rfl (tyN_ok 12 (by decide)) rfl rfl (Nat.le_of_ble_eq_true rfl) dN_setMode_53 (fun H locs hP hD hS => ?_)
    have hP : va_P D vwCl [(h0, .inr (1, FN (tk_up (tk_up (tk_up (tk_up (tk_up (tk_up (tk_up (tk_up (tk_up c 3 x0) 2 (x1 - 4)) 4 0) 6 0) 7 0) 8 1) 10 0) 11 0) 12 (-1))))] H := hP
    have hD : va_D A [(h0, .inr (1, FN (tk_up (tk_up (tk_up (tk_up (tk_up (tk_up (tk_up (tk_up (tk_up c 3 x0) 2 (x1 - 4)) 4 0) 6 0) 7 0) 8 1) 10 0) 11 0) 12 (-1))))] := hD
    refine lv_aload_n hx hb dN_setMode_56 rfl (lv_at hl 0 rfl) ?_
    refine lv_iconst (v := -1) hx hb dN_setMode_57 (by decide) ?_
    refine va_put (D := D) (ci := 1) (v := .int (-1)) (ty := .int) (C := RN) (T := TN) (N := 14) hx hb hw inN tyN tyN_ok nmN hown hK hP hD hS 0 rfl rfl 13 (by decide) f22 (fun _ h9 => h9) rfl (tyN_ok 13 (by decide)) rfl rfl (Nat.le_of_ble_eq_true rfl) dN_setMode_58 (fun H locs hP hD hS => ?_)
    have hP : va_P D vwCl [(h0, .inr (1, FN (tk_up (tk_up (tk_up (tk_up (tk_up (tk_up (tk_up (tk_up (tk_up (tk_up c 3 x0) 2 (x1 - 4)) 4 0) 6 0) 7 0) 8 1) 10 0) 11 0) 12 (-1)) 13 (-1))))] H := hP
    have hD : va_D A [(h0, .inr (1, FN (tk_up (tk_up (tk_up (tk_up (tk_up (tk_up (tk_up (tk_up (tk_up (tk_up c 3 x0) 2 (x1 - 4)) 4 0) 6 0) 7 0) 8 1) 10 0) 11 0) 12 (-1)) 13 (-1))))] := hD
    refine lv_aload_n hx hb dN_setMode_61 rfl (lv_at hl 0 rfl) ?_
    refine lv_aload_n hx hb dN_setMode_62 rfl (lv_at hl 0 rfl) ?_
    refine va_get (D := D) (ci := 1) (v := .int (x1 - 4)) (C := RN) (T := TN) (N := 14) hx hb hw inN hown hK hP 0 rfl rfl 2 (by decide) f15 (fun _ h9 => h9) rfl dN_setMode_63 ?_
    refine lv_if_eq (tgt := 73) hx hb dN_setMode_66 (by decide) (fun (h3_ : x1 - 4 = 0) => ?_) (fun (h3_ : ¬ (x1 - 4 = 0)) => ?_)
    · refine lv_iconst (v := 0) hx hb dN_setMode_73 (by decide) ?_
      refine va_put (D := D) (ci := 1) (v := .int 0) (ty := .boolean) (C := RN) (T := TN) (N := 14) hx hb hw inN tyN tyN_ok nmN hown hK hP hD hS 0 rfl rfl 1 (by decide) f46 (fun _ h9 => h9) rfl (tyN_ok 1 (by decide)) rfl rfl (Nat.le_of_ble_eq_true rfl) dN_setMode_74 (fun H locs hP hD hS => ?_)
      have hP : va_P D vwCl [(h0, .inr (1, FN (tk_up (tk_up (tk_up (tk_up (tk_up (tk_up (tk_up (tk_up (tk_up (tk_up (tk_up c 3 x0) 2 (x1 - 4)) 4 0) 6 0) 7 0) 8 1) 10 0) 11 0) 12 (-1)) 13 (-1)) 1 0)))] H := hP
      have hD : va_D A [(h0, .inr (1, FN (tk_up (tk_up (tk_up (tk_up (tk_up (tk_up (tk_up (tk_up (tk_up (tk_up (tk_up c 3 x0) 2 (x1 - 4)) 4 0) 6 0) 7 0) 8 1) 10 0) 11 0) 12 (-1)) 13 (-1)) 1 0)))] := hD
      exact tk_vret hx hb hr hlk hP hD hS dN_setMode_77 (tk_ewN (by unfold tkN_setMode_s; rw [if_neg h1_, if_pos h3_]))
    · refine lv_iconst (v := 1) hx hb dN_setMode_69 (by decide) ?_
      refine lv_goto (tgt := 74) hx hb dN_setMode_70 (by decide) ?_
      refine va_put (D := D) (ci := 1) (v := .int 1) (ty := .boolean) (C := RN) (T := TN) (N := 14) hx hb hw inN tyN tyN_ok nmN hown hK hP hD hS 0 rfl rfl 1 (by decide) f46 (fun _ h9 => h9) rfl (tyN_ok 1 (by decide)) rfl rfl (Nat.le_of_ble_eq_true rfl) dN_setMode_74 (fun H locs hP hD hS => ?_)
      have hP : va_P D vwCl [(h0, .inr (1, FN (tk_up (tk_up (tk_up (tk_up (tk_up (tk_up (tk_up (tk_up (tk_up (tk_up (tk_up c 3 x0) 2 (x1 - 4)) 4 0) 6 0) 7 0) 8 1) 10 0) 11 0) 12 (-1)) 13 (-1)) 1 1)))] H := hP
      have hD : va_D A [(h0, .inr (1, FN (tk_up (tk_up (tk_up (tk_up (tk_up (tk_up (tk_up (tk_up (tk_up (tk_up (tk_up c 3 x0) 2 (x1 - 4)) 4 0) 6 0) 7 0) 8 1) 10 0) 11 0) 12 (-1)) 13 (-1)) 1 1)))] := hD
      exact tk_vret hx hb hr hlk hP hD hS dN_setMode_77 (tk_ewN (by unfold tkN_setMode_s; rw [if_neg h1_, if_neg h3_]))
def tkN_latchCount_s (c : Nat → Int32) : Nat → Int32 :=
  if tkN_hasMode_r c = 0 then c
  else if c 12 = (-1) then tk_up c 12 (c 5)
    else c
set_option maxHeartbeats 1000000 in
set_option maxRecDepth 100000 in
theorem kN_latchCount (l : Launch) (D : va_G) (h0 : Nat) (c : Nat → Int32) : tk_M l yN_latchCount wsN_latchCount { frames := 1, cells := 0, slots := 0, locals := 20 } D [] [.ref h0] [(h0, .inr (1, FN c))] [(h0, .inr (1, FN (tkN_latchCount_s c)))] none := by
  refine tk_M.of (cc := cN_latchCount) (maxL := 1) (ret := none) (by decide) rfl (Nat.le_of_ble_eq_true rfl) ?_
  intro p e s m below meth co A H locs ls hB hK hN hA hP hD hS hl
  obtain ⟨hx, hb, hr, hml, hown, hlk, hnm, hts⟩ := hB
  have hown : s.vm.findClass RN = some m.cls := hown
  have hl : lv_has ls 1 [(0, .ref h0)] := hl
  have hw : ∀ w ∈ tkW, w.before _ s = true := fun w h => hts w (List.mem_cons_of_mem _ h)
  have f19 := hw _ wF_N_19
  have f53 := hw _ wF_N_53
  refine lv_aload_n hx hb dN_latchCount_0 rfl (lv_at hl 0 rfl) ?_
  refine tk_callA hD hS hA (va_runV (As := []) (rest := []) ⟨hx, hb, hml, hown, hw⟩ (kN_hasMode l D h0 c H.size) (cwV 0 hw (tk_gV tkW_good wM_N_49 wI_N_hasMode wS_N_hasMode wZ_N wC_N_hasMode) rfl rfl rfl (by decide +kernel) ⟨Nat.le_of_ble_eq_true rfl, Nat.le_of_ble_eq_true rfl⟩) (tk_preV (q0 := 0) hK hN hP hD [0] [] rfl rfl rfl rfl rfl) rfl rfl hl.1 rfl (lv_room (Nat.le_of_ble_eq_true rfl)) dN_latchCount_1 ⟨Nat.zero_le _, Nat.zero_le _⟩) (fun H locs hP hD hS => ?_)
  refine W.eq (g2 := F0 m 4 ls [.int (tkN_hasMode_r c)]) rfl ?_
  refine lv_if_eq (tgt := 23) hx hb dN_latchCount_4 (by decide) (fun (h1_ : tkN_hasMode_r c = 0) => ?_) (fun (h1_ : ¬ (tkN_hasMode_r c = 0)) => ?_)
  · exact tk_vret hx hb hr hlk hP hD hS dN_latchCount_23 (tk_ewN (by unfold tkN_latchCount_s; rw [if_pos h1_]))
  · refine lv_aload_n hx hb dN_latchCount_7 rfl (lv_at hl 0 rfl) ?_
    refine va_get (D := D) (ci := 1) (v := .int (c 12)) (C := RN) (T := TN) (N := 14) hx hb hw inN hown hK hP 0 rfl rfl 12 (by decide) f19 (fun _ h9 => h9) rfl dN_latchCount_8 ?_
    refine lv_iconst (v := -1) hx hb dN_latchCount_11 (by decide) ?_
    refine lv_icmp_ne (tgt := 23) hx hb dN_latchCount_12 (by decide) (fun (h2_ : ¬ (c 12 = (-1))) => ?_) (fun (h2_ : c 12 = (-1)) => ?_)
    · exact tk_vret hx hb hr hlk hP hD hS dN_latchCount_23 (tk_ewN (by unfold tkN_latchCount_s; rw [if_neg h1_, if_neg h2_]))
    · refine lv_aload_n hx hb dN_latchCount_15 rfl (lv_at hl 0 rfl) ?_
      refine lv_aload_n hx hb dN_latchCount_16 rfl (lv_at hl 0 rfl) ?_
      refine va_get (D := D) (ci := 1) (v := .int (c 5)) (C := RN) (T := TN) (N := 14) hx hb hw inN hown hK hP 0 rfl rfl 5 (by decide) f53 (fun _ h9 => h9) rfl dN_latchCount_17 ?_
      refine va_put (D := D) (ci := 1) (v := .int (c 5)) (ty := .int) (C := RN) (T := TN) (N := 14) hx hb hw inN tyN tyN_ok nmN hown hK hP hD hS 0 rfl rfl 12 (by decide) f19 (fun _ h9 => h9) rfl (tyN_ok 12 (by decide)) rfl rfl (Nat.le_of_ble_eq_true rfl) dN_latchCount_20 (fun H locs hP hD hS => ?_)
      have hP : va_P D vwCl [(h0, .inr (1, FN (tk_up c 12 (c 5))))] H := hP
      have hD : va_D A [(h0, .inr (1, FN (tk_up c 12 (c 5))))] := hD
      exact tk_vret hx hb hr hlk hP hD hS dN_latchCount_23 (tk_ewN (by unfold tkN_latchCount_s; rw [if_neg h1_, if_pos h2_]))
def tkN_latchStatus_s (c : Nat → Int32) : Nat → Int32 :=
  if tkN_hasMode_r c = 0 then c
  else if c 13 = (-1) then tk_up c 13 ((((128 * (tkT_asBit_r (c 1))) + (64 * (tkT_asBit_r (c 8)))) + (16 * (c 3))) + (2 * (c 2)))
    else c
set_option maxHeartbeats 1000000 in
set_option maxRecDepth 100000 in
theorem kN_latchStatus (l : Launch) (D : va_G) (h0 : Nat) (c : Nat → Int32) : tk_M l yN_latchStatus wsN_latchStatus { frames := 1, cells := 0, slots := 0, locals := 20 } D [] [.ref h0] [(h0, .inr (1, FN c))] [(h0, .inr (1, FN (tkN_latchStatus_s c)))] none := by
  refine tk_M.of (cc := cN_latchStatus) (maxL := 1) (ret := none) (by decide) rfl (Nat.le_of_ble_eq_true rfl) ?_
  intro p e s m below meth co A H locs ls hB hK hN hA hP hD hS hl
  obtain ⟨hx, hb, hr, hml, hown, hlk, hnm, hts⟩ := hB
  have hown : s.vm.findClass RN = some m.cls := hown
  have hl : lv_has ls 1 [(0, .ref h0)] := hl
  have hw : ∀ w ∈ tkW, w.before _ s = true := fun w h => hts w (List.mem_cons_of_mem _ h)
  have f22 := hw _ wF_N_22
  have f46 := hw _ wF_N_46
  have f37 := hw _ wF_N_37
  have f25 := hw _ wF_N_25
  have f15 := hw _ wF_N_15
  refine lv_aload_n hx hb dN_latchStatus_0 rfl (lv_at hl 0 rfl) ?_
  refine tk_callA hD hS hA (va_runV (As := []) (rest := []) ⟨hx, hb, hml, hown, hw⟩ (kN_hasMode l D h0 c H.size) (cwV 0 hw (tk_gV tkW_good wM_N_49 wI_N_hasMode wS_N_hasMode wZ_N wC_N_hasMode) rfl rfl rfl (by decide +kernel) ⟨Nat.le_of_ble_eq_true rfl, Nat.le_of_ble_eq_true rfl⟩) (tk_preV (q0 := 0) hK hN hP hD [0] [] rfl rfl rfl rfl rfl) rfl rfl hl.1 rfl (lv_room (Nat.le_of_ble_eq_true rfl)) dN_latchStatus_1 ⟨Nat.zero_le _, Nat.zero_le _⟩) (fun H locs hP hD hS => ?_)
  refine W.eq (g2 := F0 m 4 ls [.int (tkN_hasMode_r c)]) rfl ?_
  refine lv_if_eq (tgt := 56) hx hb dN_latchStatus_4 (by decide) (fun (h1_ : tkN_hasMode_r c = 0) => ?_) (fun (h1_ : ¬ (tkN_hasMode_r c = 0)) => ?_)
  · exact tk_vret hx hb hr hlk hP hD hS dN_latchStatus_56 (tk_ewN (by unfold tkN_latchStatus_s; rw [if_pos h1_]))
  · refine lv_aload_n hx hb dN_latchStatus_7 rfl (lv_at hl 0 rfl) ?_
    refine va_get (D := D) (ci := 1) (v := .int (c 13)) (C := RN) (T := TN) (N := 14) hx hb hw inN hown hK hP 0 rfl rfl 13 (by decide) f22 (fun _ h9 => h9) rfl dN_latchStatus_8 ?_
    refine lv_iconst (v := -1) hx hb dN_latchStatus_11 (by decide) ?_
    refine lv_icmp_ne (tgt := 56) hx hb dN_latchStatus_12 (by decide) (fun (h2_ : ¬ (c 13 = (-1))) => ?_) (fun (h2_ : c 13 = (-1)) => ?_)
    · exact tk_vret hx hb hr hlk hP hD hS dN_latchStatus_56 (tk_ewN (by unfold tkN_latchStatus_s; rw [if_neg h1_, if_neg h2_]))
    · refine lv_aload_n hx hb dN_latchStatus_15 rfl (lv_at hl 0 rfl) ?_
      refine lv_sipush (v := 128) hx hb dN_latchStatus_16 (by decide) ?_
      refine lv_aload_n hx hb dN_latchStatus_19 rfl (lv_at hl 0 rfl) ?_
      refine va_get (D := D) (ci := 1) (v := .int (c 1)) (C := RN) (T := TN) (N := 14) hx hb hw inN hown hK hP 0 rfl rfl 1 (by decide) f46 (fun _ h9 => h9) rfl dN_latchStatus_20 ?_
      refine tk_call0 hP hD hS hA (va_runSN (As := [.int (c 1)]) (rest := [.int 128, .ref h0]) ⟨hx, hb, hml, hown, hw⟩ (kT_asBit l D (c 1) H.size) ⟨va_cnB 1 hw (tk_g0 tkW_good wC_T_asBit) rfl rfl rfl (hN (.methodLinkNest RN 56 yT_asBit "TickLines") (by decide +kernel)) (hw _ wZ_T) (by decide +kernel) ⟨Nat.le_of_ble_eq_true rfl, Nat.le_of_ble_eq_true rfl⟩, hw _ wT_T_asBit, trivial⟩ (tk_preS hK hN hP hD [] [] rfl rfl rfl) rfl rfl hl.1 rfl (lv_room (Nat.le_of_ble_eq_true rfl)) dN_latchStatus_23 ⟨Nat.zero_le _, Nat.zero_le _⟩) (fun H locs hP hD hS => ?_)
      refine W.eq (g2 := F0 m 26 ls [.int (tkT_asBit_r (c 1)), .int 128, .ref h0]) rfl ?_
      refine lv_imul hx hb dN_latchStatus_26 ?_
      refine lv_bipush (v := 64) hx hb dN_latchStatus_27 (by decide) ?_
      refine lv_aload_n hx hb dN_latchStatus_29 rfl (lv_at hl 0 rfl) ?_
      refine va_get (D := D) (ci := 1) (v := .int (c 8)) (C := RN) (T := TN) (N := 14) hx hb hw inN hown hK hP 0 rfl rfl 8 (by decide) f37 (fun _ h9 => h9) rfl dN_latchStatus_30 ?_
      refine tk_call0 hP hD hS hA (va_runSN (As := [.int (c 8)]) (rest := [.int 64, .int (128 * (tkT_asBit_r (c 1))), .ref h0]) ⟨hx, hb, hml, hown, hw⟩ (kT_asBit l D (c 8) H.size) ⟨va_cnB 1 hw (tk_g0 tkW_good wC_T_asBit) rfl rfl rfl (hN (.methodLinkNest RN 56 yT_asBit "TickLines") (by decide +kernel)) (hw _ wZ_T) (by decide +kernel) ⟨Nat.le_of_ble_eq_true rfl, Nat.le_of_ble_eq_true rfl⟩, hw _ wT_T_asBit, trivial⟩ (tk_preS hK hN hP hD [] [] rfl rfl rfl) rfl rfl hl.1 rfl (lv_room (Nat.le_of_ble_eq_true rfl)) dN_latchStatus_33 ⟨Nat.zero_le _, Nat.zero_le _⟩) (fun H locs hP hD hS => ?_)
      refine W.eq (g2 := F0 m 36 ls [.int (tkT_asBit_r (c 8)), .int 64, .int (128 * (tkT_asBit_r (c 1))), .ref h0]) rfl ?_
      refine lv_imul hx hb dN_latchStatus_36 ?_
      refine lv_iadd hx hb dN_latchStatus_37 ?_
      refine lv_bipush (v := 16) hx hb dN_latchStatus_38 (by decide) ?_
      refine lv_aload_n hx hb dN_latchStatus_40 rfl (lv_at hl 0 rfl) ?_
      refine va_get (D := D) (ci := 1) (v := .int (c 3)) (C := RN) (T := TN) (N := 14) hx hb hw inN hown hK hP 0 rfl rfl 3 (by decide) f25 (fun _ h9 => h9) rfl dN_latchStatus_41 ?_
      refine lv_imul hx hb dN_latchStatus_44 ?_
      refine lv_iadd hx hb dN_latchStatus_45 ?_
      refine lv_iconst (v := 2) hx hb dN_latchStatus_46 (by decide) ?_
      refine lv_aload_n hx hb dN_latchStatus_47 rfl (lv_at hl 0 rfl) ?_
      refine va_get (D := D) (ci := 1) (v := .int (c 2)) (C := RN) (T := TN) (N := 14) hx hb hw inN hown hK hP 0 rfl rfl 2 (by decide) f15 (fun _ h9 => h9) rfl dN_latchStatus_48 ?_
      refine lv_imul hx hb dN_latchStatus_51 ?_
      refine lv_iadd hx hb dN_latchStatus_52 ?_
      refine va_put (D := D) (ci := 1) (v := .int ((((128 * (tkT_asBit_r (c 1))) + (64 * (tkT_asBit_r (c 8)))) + (16 * (c 3))) + (2 * (c 2)))) (ty := .int) (C := RN) (T := TN) (N := 14) hx hb hw inN tyN tyN_ok nmN hown hK hP hD hS 0 rfl rfl 13 (by decide) f22 (fun _ h9 => h9) rfl (tyN_ok 13 (by decide)) rfl rfl (Nat.le_of_ble_eq_true rfl) dN_latchStatus_53 (fun H locs hP hD hS => ?_)
      have hP : va_P D vwCl [(h0, .inr (1, FN (tk_up c 13 ((((128 * (tkT_asBit_r (c 1))) + (64 * (tkT_asBit_r (c 8)))) + (16 * (c 3))) + (2 * (c 2))))))] H := hP
      have hD : va_D A [(h0, .inr (1, FN (tk_up c 13 ((((128 * (tkT_asBit_r (c 1))) + (64 * (tkT_asBit_r (c 8)))) + (16 * (c 3))) + (2 * (c 2))))))] := hD
      exact tk_vret hx hb hr hlk hP hD hS dN_latchStatus_56 (tk_ewN (by unfold tkN_latchStatus_s; rw [if_neg h1_, if_pos h2_]))
def tkN_isEmpty_r (c : Nat → Int32) : Int32 :=
  if c 4 = 0 then 1
  else 0
set_option maxHeartbeats 1000000 in
set_option maxRecDepth 100000 in
theorem kN_isEmpty (l : Launch) (D : va_G) (h0 : Nat) (c : Nat → Int32) : tk_M l yN_isEmpty wsN_isEmpty { frames := 0, cells := 0, slots := 0, locals := 0 } D [] [.ref h0] [(h0, .inr (1, FN c))] [(h0, .inr (1, FN c))] (some (.int (tkN_isEmpty_r c))) := by
  refine tk_M.of (cc := cN_isEmpty) (maxL := 1) (ret := (some .boolean)) (by decide) rfl (Nat.le_of_ble_eq_true rfl) ?_
  intro p e s m below meth co A H locs ls hB hK hN hA hP hD hS hl
  obtain ⟨hx, hb, hr, hml, hown, hlk, hnm, hts⟩ := hB
  have hown : s.vm.findClass RN = some m.cls := hown
  have hl : lv_has ls 1 [(0, .ref h0)] := hl
  have hw : ∀ w ∈ tkW, w.before _ s = true := fun w h => hts w (List.mem_cons_of_mem _ h)
  have f28 := hw _ wF_N_28
  refine lv_aload_n hx hb dN_isEmpty_0 rfl (lv_at hl 0 rfl) ?_
  refine va_get (D := D) (ci := 1) (v := .int (c 4)) (C := RN) (T := TN) (N := 14) hx hb hw inN hown hK hP 0 rfl rfl 4 (by decide) f28 (fun _ h9 => h9) rfl dN_isEmpty_1 ?_
  refine lv_if_ne (tgt := 11) hx hb dN_isEmpty_4 (by decide) (fun (h1_ : ¬ (c 4 = 0)) => ?_) (fun (h1_ : c 4 = 0) => ?_)
  · refine lv_iconst (v := 0) hx hb dN_isEmpty_11 (by decide) ?_
    exact tk_zret hx hb hr hlk hP hD hS dN_isEmpty_12 rfl (by unfold tkN_isEmpty_r; rw [if_neg h1_]) rfl
  · refine lv_iconst (v := 1) hx hb dN_isEmpty_7 (by decide) ?_
    refine lv_goto (tgt := 12) hx hb dN_isEmpty_8 (by decide) ?_
    exact tk_zret hx hb hr hlk hP hD hS dN_isEmpty_12 rfl (by unfold tkN_isEmpty_r; rw [if_pos h1_]) rfl
def tkN_isPeriodic_r (c : Nat → Int32) : Int32 :=
  if c 2 = 2 then 1
  else if c 2 = 3 then 1
    else 0
set_option maxHeartbeats 1000000 in
set_option maxRecDepth 100000 in
theorem kN_isPeriodic (l : Launch) (D : va_G) (h0 : Nat) (c : Nat → Int32) : tk_M l yN_isPeriodic wsN_isPeriodic { frames := 0, cells := 0, slots := 0, locals := 0 } D [] [.ref h0] [(h0, .inr (1, FN c))] [(h0, .inr (1, FN c))] (some (.int (tkN_isPeriodic_r c))) := by
  refine tk_M.of (cc := cN_isPeriodic) (maxL := 1) (ret := (some .boolean)) (by decide) rfl (Nat.le_of_ble_eq_true rfl) ?_
  intro p e s m below meth co A H locs ls hB hK hN hA hP hD hS hl
  obtain ⟨hx, hb, hr, hml, hown, hlk, hnm, hts⟩ := hB
  have hown : s.vm.findClass RN = some m.cls := hown
  have hl : lv_has ls 1 [(0, .ref h0)] := hl
  have hw : ∀ w ∈ tkW, w.before _ s = true := fun w h => hts w (List.mem_cons_of_mem _ h)
  have f15 := hw _ wF_N_15
  refine lv_aload_n hx hb dN_isPeriodic_0 rfl (lv_at hl 0 rfl) ?_
  refine va_get (D := D) (ci := 1) (v := .int (c 2)) (C := RN) (T := TN) (N := 14) hx hb hw inN hown hK hP 0 rfl rfl 2 (by decide) f15 (fun _ h9 => h9) rfl dN_isPeriodic_1 ?_
  refine lv_iconst (v := 2) hx hb dN_isPeriodic_4 (by decide) ?_
  refine lv_icmp_eq (tgt := 16) hx hb dN_isPeriodic_5 (by decide) (fun (h1_ : c 2 = 2) => ?_) (fun (h1_ : ¬ (c 2 = 2)) => ?_)
  · refine lv_iconst (v := 1) hx hb dN_isPeriodic_16 (by decide) ?_
    refine lv_goto (tgt := 21) hx hb dN_isPeriodic_17 (by decide) ?_
    exact tk_zret hx hb hr hlk hP hD hS dN_isPeriodic_21 rfl (by unfold tkN_isPeriodic_r; rw [if_pos h1_]) rfl
  · refine lv_aload_n hx hb dN_isPeriodic_8 rfl (lv_at hl 0 rfl) ?_
    refine va_get (D := D) (ci := 1) (v := .int (c 2)) (C := RN) (T := TN) (N := 14) hx hb hw inN hown hK hP 0 rfl rfl 2 (by decide) f15 (fun _ h9 => h9) rfl dN_isPeriodic_9 ?_
    refine lv_iconst (v := 3) hx hb dN_isPeriodic_12 (by decide) ?_
    refine lv_icmp_ne (tgt := 20) hx hb dN_isPeriodic_13 (by decide) (fun (h2_ : ¬ (c 2 = 3)) => ?_) (fun (h2_ : c 2 = 3) => ?_)
    · refine lv_iconst (v := 0) hx hb dN_isPeriodic_20 (by decide) ?_
      exact tk_zret hx hb hr hlk hP hD hS dN_isPeriodic_21 rfl (by unfold tkN_isPeriodic_r; rw [if_neg h1_, if_neg h2_]) rfl
    · refine lv_iconst (v := 1) hx hb dN_isPeriodic_16 (by decide) ?_
      refine lv_goto (tgt := 21) hx hb dN_isPeriodic_17 (by decide) ?_
      exact tk_zret hx hb hr hlk hP hD hS dN_isPeriodic_21 rfl (by unfold tkN_isPeriodic_r; rw [if_neg h1_, if_pos h2_]) rfl
def tkN_takeReload_s (c : Nat → Int32) (x0 : Int32) : Nat → Int32 :=
  if x0 = 0 then (if c 2 = 0 then tk_up (tk_up (tk_up (tk_up c 4 65536) 8 1) 7 1) 1 0
    else if c 2 = 4 then tk_up (tk_up (tk_up c 4 65536) 8 1) 7 1
      else if tkN_isPeriodic_r (tk_up (tk_up c 4 65536) 8 1) = 0 then tk_up (tk_up c 4 65536) 8 1
        else if tkN_isEmpty_r c = 0 then tk_up (tk_up c 4 65536) 8 1
          else tk_up (tk_up (tk_up c 4 65536) 8 1) 7 1)
  else if c 2 = 0 then tk_up (tk_up (tk_up (tk_up c 4 x0) 8 1) 7 1) 1 0
    else if c 2 = 4 then tk_up (tk_up (tk_up c 4 x0) 8 1) 7 1
      else if tkN_isPeriodic_r (tk_up (tk_up c 4 x0) 8 1) = 0 then tk_up (tk_up c 4 x0) 8 1
        else if tkN_isEmpty_r c = 0 then tk_up (tk_up c 4 x0) 8 1
          else tk_up (tk_up (tk_up c 4 x0) 8 1) 7 1
set_option maxHeartbeats 1000000 in
set_option maxRecDepth 100000 in
theorem kN_takeReload (l : Launch) (D : va_G) (h0 : Nat) (c : Nat → Int32) (x0 : Int32) : tk_M l yN_takeReload wsN_takeReload { frames := 1, cells := 0, slots := 0, locals := 20 } D [] [.ref h0, .int x0] [(h0, .inr (1, FN c))] [(h0, .inr (1, FN (tkN_takeReload_s c x0)))] none := by
  refine tk_M.of (cc := cN_takeReload) (maxL := 3) (ret := none) (by decide) rfl (Nat.le_of_ble_eq_true rfl) ?_
  intro p e s m below meth co A H locs ls hB hK hN hA hP hD hS hl
  obtain ⟨hx, hb, hr, hml, hown, hlk, hnm, hts⟩ := hB
  have hown : s.vm.findClass RN = some m.cls := hown
  have hl : lv_has ls 3 [(0, .ref h0), (1, .int x0)] := hl
  have hw : ∀ w ∈ tkW, w.before _ s = true := fun w h => hts w (List.mem_cons_of_mem _ h)
  have f28 := hw _ wF_N_28
  have f37 := hw _ wF_N_37
  have f15 := hw _ wF_N_15
  have f34 := hw _ wF_N_34
  have f46 := hw _ wF_N_46
  refine lv_aload_n hx hb dN_takeReload_0 rfl (lv_at hl 0 rfl) ?_
  refine tk_callA hD hS hA (va_runV (As := []) (rest := []) ⟨hx, hb, hml, hown, hw⟩ (kN_isEmpty l D h0 c H.size) (cwV 0 hw (tk_gV tkW_good wM_N_67 wI_N_isEmpty wS_N_isEmpty wZ_N wC_N_isEmpty) rfl rfl rfl (by decide +kernel) ⟨Nat.le_of_ble_eq_true rfl, Nat.le_of_ble_eq_true rfl⟩) (tk_preV (q0 := 0) hK hN hP hD [0] [] rfl rfl rfl rfl rfl) rfl rfl hl.1 rfl (lv_room (Nat.le_of_ble_eq_true rfl)) dN_takeReload_1 ⟨Nat.zero_le _, Nat.zero_le _⟩) (fun H locs hP hD hS => ?_)
  refine W.eq (g2 := F0 m 4 ls [.int (tkN_isEmpty_r c)]) rfl ?_
  refine lv_istore_n hx hb dN_takeReload_4 rfl hl (by decide) rfl (fun ls hl => ?_)
  have hl : lv_has ls 3 [(2, .int (tkN_isEmpty_r c)), (0, .ref h0), (1, .int x0)] := hl
  refine lv_aload_n hx hb dN_takeReload_5 rfl (lv_at hl 1 rfl) ?_
  refine lv_iload_n hx hb dN_takeReload_6 rfl (lv_at hl 2 rfl) ?_
  refine lv_if_ne (tgt := 15) hx hb dN_takeReload_7 (by decide) (fun (h1_ : ¬ (x0 = 0)) => ?_) (fun (h1_ : x0 = 0) => ?_)
  · refine lv_iload_n hx hb dN_takeReload_15 rfl (lv_at hl 2 rfl) ?_
    refine va_put (D := D) (ci := 1) (v := .int x0) (ty := .int) (C := RN) (T := TN) (N := 14) hx hb hw inN tyN tyN_ok nmN hown hK hP hD hS 0 rfl rfl 4 (by decide) f28 (fun _ h9 => h9) rfl (tyN_ok 4 (by decide)) rfl rfl (Nat.le_of_ble_eq_true rfl) dN_takeReload_16 (fun H locs hP hD hS => ?_)
    have hP : va_P D vwCl [(h0, .inr (1, FN (tk_up c 4 x0)))] H := hP
    have hD : va_D A [(h0, .inr (1, FN (tk_up c 4 x0)))] := hD
    refine lv_aload_n hx hb dN_takeReload_19 rfl (lv_at hl 1 rfl) ?_
    refine lv_iconst (v := 1) hx hb dN_takeReload_20 (by decide) ?_
    refine va_put (D := D) (ci := 1) (v := .int 1) (ty := .boolean) (C := RN) (T := TN) (N := 14) hx hb hw inN tyN tyN_ok nmN hown hK hP hD hS 0 rfl rfl 8 (by decide) f37 (fun _ h9 => h9) rfl (tyN_ok 8 (by decide)) rfl rfl (Nat.le_of_ble_eq_true rfl) dN_takeReload_21 (fun H locs hP hD hS => ?_)
    have hP : va_P D vwCl [(h0, .inr (1, FN (tk_up (tk_up c 4 x0) 8 1)))] H := hP
    have hD : va_D A [(h0, .inr (1, FN (tk_up (tk_up c 4 x0) 8 1)))] := hD
    refine lv_aload_n hx hb dN_takeReload_24 rfl (lv_at hl 1 rfl) ?_
    refine va_get (D := D) (ci := 1) (v := .int (c 2)) (C := RN) (T := TN) (N := 14) hx hb hw inN hown hK hP 0 rfl rfl 2 (by decide) f15 (fun _ h9 => h9) rfl dN_takeReload_25 ?_
    refine lv_if_eq (tgt := 50) hx hb dN_takeReload_28 (by decide) (fun (h2_ : c 2 = 0) => ?_) (fun (h2_ : ¬ (c 2 = 0)) => ?_)
    · refine lv_aload_n hx hb dN_takeReload_50 rfl (lv_at hl 1 rfl) ?_
      refine lv_iconst (v := 1) hx hb dN_takeReload_51 (by decide) ?_
      refine va_put (D := D) (ci := 1) (v := .int 1) (ty := .boolean) (C := RN) (T := TN) (N := 14) hx hb hw inN tyN tyN_ok nmN hown hK hP hD hS 0 rfl rfl 7 (by decide) f34 (fun _ h9 => h9) rfl (tyN_ok 7 (by decide)) rfl rfl (Nat.le_of_ble_eq_true rfl) dN_takeReload_52 (fun H locs hP hD hS => ?_)
      have hP : va_P D vwCl [(h0, .inr (1, FN (tk_up (tk_up (tk_up c 4 x0) 8 1) 7 1)))] H := hP
      have hD : va_D A [(h0, .inr (1, FN (tk_up (tk_up (tk_up c 4 x0) 8 1) 7 1)))] := hD
      refine lv_aload_n hx hb dN_takeReload_55 rfl (lv_at hl 1 rfl) ?_
      refine va_get (D := D) (ci := 1) (v := .int (c 2)) (C := RN) (T := TN) (N := 14) hx hb hw inN hown hK hP 0 rfl rfl 2 (by decide) f15 (fun _ h9 => h9) rfl dN_takeReload_56 ?_
      refine lv_if_ne (tgt := 67) hx hb dN_takeReload_59 (by decide) (fun h => absurd h2_ h) (fun _ => ?_)
      refine lv_aload_n hx hb dN_takeReload_62 rfl (lv_at hl 1 rfl) ?_
      refine lv_iconst (v := 0) hx hb dN_takeReload_63 (by decide) ?_
      refine va_put (D := D) (ci := 1) (v := .int 0) (ty := .boolean) (C := RN) (T := TN) (N := 14) hx hb hw inN tyN tyN_ok nmN hown hK hP hD hS 0 rfl rfl 1 (by decide) f46 (fun _ h9 => h9) rfl (tyN_ok 1 (by decide)) rfl rfl (Nat.le_of_ble_eq_true rfl) dN_takeReload_64 (fun H locs hP hD hS => ?_)
      have hP : va_P D vwCl [(h0, .inr (1, FN (tk_up (tk_up (tk_up (tk_up c 4 x0) 8 1) 7 1) 1 0)))] H := hP
      have hD : va_D A [(h0, .inr (1, FN (tk_up (tk_up (tk_up (tk_up c 4 x0) 8 1) 7 1) 1 0)))] := hD
      exact tk_vret hx hb hr hlk hP hD hS dN_takeReload_67 (tk_ewN (by unfold tkN_takeReload_s; rw [if_neg h1_, if_pos h2_]))
    · refine lv_aload_n hx hb dN_takeReload_31 rfl (lv_at hl 1 rfl) ?_
      refine va_get (D := D) (ci := 1) (v := .int (c 2)) (C := RN) (T := TN) (N := 14) hx hb hw inN hown hK hP 0 rfl rfl 2 (by decide) f15 (fun _ h9 => h9) rfl dN_takeReload_32 ?_
      refine lv_iconst (v := 4) hx hb dN_takeReload_35 (by decide) ?_
      refine lv_icmp_eq (tgt := 50) hx hb dN_takeReload_36 (by decide) (fun (h3_ : c 2 = 4) => ?_) (fun (h3_ : ¬ (c 2 = 4)) => ?_)
      · refine lv_aload_n hx hb dN_takeReload_50 rfl (lv_at hl 1 rfl) ?_
        refine lv_iconst (v := 1) hx hb dN_takeReload_51 (by decide) ?_
        refine va_put (D := D) (ci := 1) (v := .int 1) (ty := .boolean) (C := RN) (T := TN) (N := 14) hx hb hw inN tyN tyN_ok nmN hown hK hP hD hS 0 rfl rfl 7 (by decide) f34 (fun _ h9 => h9) rfl (tyN_ok 7 (by decide)) rfl rfl (Nat.le_of_ble_eq_true rfl) dN_takeReload_52 (fun H locs hP hD hS => ?_)
        have hP : va_P D vwCl [(h0, .inr (1, FN (tk_up (tk_up (tk_up c 4 x0) 8 1) 7 1)))] H := hP
        have hD : va_D A [(h0, .inr (1, FN (tk_up (tk_up (tk_up c 4 x0) 8 1) 7 1)))] := hD
        refine lv_aload_n hx hb dN_takeReload_55 rfl (lv_at hl 1 rfl) ?_
        refine va_get (D := D) (ci := 1) (v := .int (c 2)) (C := RN) (T := TN) (N := 14) hx hb hw inN hown hK hP 0 rfl rfl 2 (by decide) f15 (fun _ h9 => h9) rfl dN_takeReload_56 ?_
        refine lv_if_ne (tgt := 67) hx hb dN_takeReload_59 (by decide) (fun _ => ?_) (fun h => absurd h h2_)
        exact tk_vret hx hb hr hlk hP hD hS dN_takeReload_67 (tk_ewN (by unfold tkN_takeReload_s; rw [if_neg h1_, if_neg h2_, if_pos h3_]))
      · refine lv_aload_n hx hb dN_takeReload_39 rfl (lv_at hl 1 rfl) ?_
        refine tk_callA hD hS hA (va_runV (As := []) (rest := []) ⟨hx, hb, hml, hown, hw⟩ (kN_isPeriodic l D h0 (tk_up (tk_up c 4 x0) 8 1) H.size) (cwV 0 hw (tk_gV tkW_good wM_N_73 wI_N_isPeriodic wS_N_isPeriodic wZ_N wC_N_isPeriodic) rfl rfl rfl (by decide +kernel) ⟨Nat.le_of_ble_eq_true rfl, Nat.le_of_ble_eq_true rfl⟩) (tk_preV (q0 := 0) hK hN hP hD [0] [] rfl rfl rfl rfl rfl) rfl rfl hl.1 rfl (lv_room (Nat.le_of_ble_eq_true rfl)) dN_takeReload_40 ⟨Nat.zero_le _, Nat.zero_le _⟩) (fun H locs hP hD hS => ?_)
        refine W.eq (g2 := F0 m 43 ls [.int (tkN_isPeriodic_r (tk_up (tk_up c 4 x0) 8 1))]) rfl ?_
        refine lv_if_eq (tgt := 55) hx hb dN_takeReload_43 (by decide) (fun (h4_ : tkN_isPeriodic_r (tk_up (tk_up c 4 x0) 8 1) = 0) => ?_) (fun (h4_ : ¬ (tkN_isPeriodic_r (tk_up (tk_up c 4 x0) 8 1) = 0)) => ?_)
        · refine lv_aload_n hx hb dN_takeReload_55 rfl (lv_at hl 1 rfl) ?_
          refine va_get (D := D) (ci := 1) (v := .int (c 2)) (C := RN) (T := TN) (N := 14) hx hb hw inN hown hK hP 0 rfl rfl 2 (by decide) f15 (fun _ h9 => h9) rfl dN_takeReload_56 ?_
          refine lv_if_ne (tgt := 67) hx hb dN_takeReload_59 (by decide) (fun _ => ?_) (fun h => absurd h h2_)
          exact tk_vret hx hb hr hlk hP hD hS dN_takeReload_67 (tk_ewN (by unfold tkN_takeReload_s; rw [if_neg h1_, if_neg h2_, if_neg h3_, if_pos h4_]))
        · refine lv_iload_n hx hb dN_takeReload_46 rfl (lv_at hl 0 rfl) ?_
          refine lv_if_eq (tgt := 55) hx hb dN_takeReload_47 (by decide) (fun (h5_ : tkN_isEmpty_r c = 0) => ?_) (fun (h5_ : ¬ (tkN_isEmpty_r c = 0)) => ?_)
          · refine lv_aload_n hx hb dN_takeReload_55 rfl (lv_at hl 1 rfl) ?_
            refine va_get (D := D) (ci := 1) (v := .int (c 2)) (C := RN) (T := TN) (N := 14) hx hb hw inN hown hK hP 0 rfl rfl 2 (by decide) f15 (fun _ h9 => h9) rfl dN_takeReload_56 ?_
            refine lv_if_ne (tgt := 67) hx hb dN_takeReload_59 (by decide) (fun _ => ?_) (fun h => absurd h h2_)
            exact tk_vret hx hb hr hlk hP hD hS dN_takeReload_67 (tk_ewN (by unfold tkN_takeReload_s; rw [if_neg h1_, if_neg h2_, if_neg h3_, if_neg h4_, if_pos h5_]))
          · refine lv_aload_n hx hb dN_takeReload_50 rfl (lv_at hl 1 rfl) ?_
            refine lv_iconst (v := 1) hx hb dN_takeReload_51 (by decide) ?_
            refine va_put (D := D) (ci := 1) (v := .int 1) (ty := .boolean) (C := RN) (T := TN) (N := 14) hx hb hw inN tyN tyN_ok nmN hown hK hP hD hS 0 rfl rfl 7 (by decide) f34 (fun _ h9 => h9) rfl (tyN_ok 7 (by decide)) rfl rfl (Nat.le_of_ble_eq_true rfl) dN_takeReload_52 (fun H locs hP hD hS => ?_)
            have hP : va_P D vwCl [(h0, .inr (1, FN (tk_up (tk_up (tk_up c 4 x0) 8 1) 7 1)))] H := hP
            have hD : va_D A [(h0, .inr (1, FN (tk_up (tk_up (tk_up c 4 x0) 8 1) 7 1)))] := hD
            refine lv_aload_n hx hb dN_takeReload_55 rfl (lv_at hl 1 rfl) ?_
            refine va_get (D := D) (ci := 1) (v := .int (c 2)) (C := RN) (T := TN) (N := 14) hx hb hw inN hown hK hP 0 rfl rfl 2 (by decide) f15 (fun _ h9 => h9) rfl dN_takeReload_56 ?_
            refine lv_if_ne (tgt := 67) hx hb dN_takeReload_59 (by decide) (fun _ => ?_) (fun h => absurd h h2_)
            exact tk_vret hx hb hr hlk hP hD hS dN_takeReload_67 (tk_ewN (by unfold tkN_takeReload_s; rw [if_neg h1_, if_neg h2_, if_neg h3_, if_neg h4_, if_neg h5_]))
  · refine lv_ldc (v := 65536) hx hb hown (hw _ wK_N_88) dN_takeReload_10 ?_
    refine lv_goto (tgt := 16) hx hb dN_takeReload_12 (by decide) ?_
    refine va_put (D := D) (ci := 1) (v := .int 65536) (ty := .int) (C := RN) (T := TN) (N := 14) hx hb hw inN tyN tyN_ok nmN hown hK hP hD hS 0 rfl rfl 4 (by decide) f28 (fun _ h9 => h9) rfl (tyN_ok 4 (by decide)) rfl rfl (Nat.le_of_ble_eq_true rfl) dN_takeReload_16 (fun H locs hP hD hS => ?_)
    have hP : va_P D vwCl [(h0, .inr (1, FN (tk_up c 4 65536)))] H := hP
    have hD : va_D A [(h0, .inr (1, FN (tk_up c 4 65536)))] := hD
    refine lv_aload_n hx hb dN_takeReload_19 rfl (lv_at hl 1 rfl) ?_
    refine lv_iconst (v := 1) hx hb dN_takeReload_20 (by decide) ?_
    refine va_put (D := D) (ci := 1) (v := .int 1) (ty := .boolean) (C := RN) (T := TN) (N := 14) hx hb hw inN tyN tyN_ok nmN hown hK hP hD hS 0 rfl rfl 8 (by decide) f37 (fun _ h9 => h9) rfl (tyN_ok 8 (by decide)) rfl rfl (Nat.le_of_ble_eq_true rfl) dN_takeReload_21 (fun H locs hP hD hS => ?_)
    have hP : va_P D vwCl [(h0, .inr (1, FN (tk_up (tk_up c 4 65536) 8 1)))] H := hP
    have hD : va_D A [(h0, .inr (1, FN (tk_up (tk_up c 4 65536) 8 1)))] := hD
    refine lv_aload_n hx hb dN_takeReload_24 rfl (lv_at hl 1 rfl) ?_
    refine va_get (D := D) (ci := 1) (v := .int (c 2)) (C := RN) (T := TN) (N := 14) hx hb hw inN hown hK hP 0 rfl rfl 2 (by decide) f15 (fun _ h9 => h9) rfl dN_takeReload_25 ?_
    refine lv_if_eq (tgt := 50) hx hb dN_takeReload_28 (by decide) (fun (h6_ : c 2 = 0) => ?_) (fun (h6_ : ¬ (c 2 = 0)) => ?_)
    · refine lv_aload_n hx hb dN_takeReload_50 rfl (lv_at hl 1 rfl) ?_
      refine lv_iconst (v := 1) hx hb dN_takeReload_51 (by decide) ?_
      refine va_put (D := D) (ci := 1) (v := .int 1) (ty := .boolean) (C := RN) (T := TN) (N := 14) hx hb hw inN tyN tyN_ok nmN hown hK hP hD hS 0 rfl rfl 7 (by decide) f34 (fun _ h9 => h9) rfl (tyN_ok 7 (by decide)) rfl rfl (Nat.le_of_ble_eq_true rfl) dN_takeReload_52 (fun H locs hP hD hS => ?_)
      have hP : va_P D vwCl [(h0, .inr (1, FN (tk_up (tk_up (tk_up c 4 65536) 8 1) 7 1)))] H := hP
      have hD : va_D A [(h0, .inr (1, FN (tk_up (tk_up (tk_up c 4 65536) 8 1) 7 1)))] := hD
      refine lv_aload_n hx hb dN_takeReload_55 rfl (lv_at hl 1 rfl) ?_
      refine va_get (D := D) (ci := 1) (v := .int (c 2)) (C := RN) (T := TN) (N := 14) hx hb hw inN hown hK hP 0 rfl rfl 2 (by decide) f15 (fun _ h9 => h9) rfl dN_takeReload_56 ?_
      refine lv_if_ne (tgt := 67) hx hb dN_takeReload_59 (by decide) (fun h => absurd h6_ h) (fun _ => ?_)
      refine lv_aload_n hx hb dN_takeReload_62 rfl (lv_at hl 1 rfl) ?_
      refine lv_iconst (v := 0) hx hb dN_takeReload_63 (by decide) ?_
      refine va_put (D := D) (ci := 1) (v := .int 0) (ty := .boolean) (C := RN) (T := TN) (N := 14) hx hb hw inN tyN tyN_ok nmN hown hK hP hD hS 0 rfl rfl 1 (by decide) f46 (fun _ h9 => h9) rfl (tyN_ok 1 (by decide)) rfl rfl (Nat.le_of_ble_eq_true rfl) dN_takeReload_64 (fun H locs hP hD hS => ?_)
      have hP : va_P D vwCl [(h0, .inr (1, FN (tk_up (tk_up (tk_up (tk_up c 4 65536) 8 1) 7 1) 1 0)))] H := hP
      have hD : va_D A [(h0, .inr (1, FN (tk_up (tk_up (tk_up (tk_up c 4 65536) 8 1) 7 1) 1 0)))] := hD
      exact tk_vret hx hb hr hlk hP hD hS dN_takeReload_67 (tk_ewN (by unfold tkN_takeReload_s; rw [if_pos h1_, if_pos h6_]))
    · refine lv_aload_n hx hb dN_takeReload_31 rfl (lv_at hl 1 rfl) ?_
      refine va_get (D := D) (ci := 1) (v := .int (c 2)) (C := RN) (T := TN) (N := 14) hx hb hw inN hown hK hP 0 rfl rfl 2 (by decide) f15 (fun _ h9 => h9) rfl dN_takeReload_32 ?_
      refine lv_iconst (v := 4) hx hb dN_takeReload_35 (by decide) ?_
      refine lv_icmp_eq (tgt := 50) hx hb dN_takeReload_36 (by decide) (fun (h7_ : c 2 = 4) => ?_) (fun (h7_ : ¬ (c 2 = 4)) => ?_)
      · refine lv_aload_n hx hb dN_takeReload_50 rfl (lv_at hl 1 rfl) ?_
        refine lv_iconst (v := 1) hx hb dN_takeReload_51 (by decide) ?_
        refine va_put (D := D) (ci := 1) (v := .int 1) (ty := .boolean) (C := RN) (T := TN) (N := 14) hx hb hw inN tyN tyN_ok nmN hown hK hP hD hS 0 rfl rfl 7 (by decide) f34 (fun _ h9 => h9) rfl (tyN_ok 7 (by decide)) rfl rfl (Nat.le_of_ble_eq_true rfl) dN_takeReload_52 (fun H locs hP hD hS => ?_)
        have hP : va_P D vwCl [(h0, .inr (1, FN (tk_up (tk_up (tk_up c 4 65536) 8 1) 7 1)))] H := hP
        have hD : va_D A [(h0, .inr (1, FN (tk_up (tk_up (tk_up c 4 65536) 8 1) 7 1)))] := hD
        refine lv_aload_n hx hb dN_takeReload_55 rfl (lv_at hl 1 rfl) ?_
        refine va_get (D := D) (ci := 1) (v := .int (c 2)) (C := RN) (T := TN) (N := 14) hx hb hw inN hown hK hP 0 rfl rfl 2 (by decide) f15 (fun _ h9 => h9) rfl dN_takeReload_56 ?_
        refine lv_if_ne (tgt := 67) hx hb dN_takeReload_59 (by decide) (fun _ => ?_) (fun h => absurd h h6_)
        exact tk_vret hx hb hr hlk hP hD hS dN_takeReload_67 (tk_ewN (by unfold tkN_takeReload_s; rw [if_pos h1_, if_neg h6_, if_pos h7_]))
      · refine lv_aload_n hx hb dN_takeReload_39 rfl (lv_at hl 1 rfl) ?_
        refine tk_callA hD hS hA (va_runV (As := []) (rest := []) ⟨hx, hb, hml, hown, hw⟩ (kN_isPeriodic l D h0 (tk_up (tk_up c 4 65536) 8 1) H.size) (cwV 0 hw (tk_gV tkW_good wM_N_73 wI_N_isPeriodic wS_N_isPeriodic wZ_N wC_N_isPeriodic) rfl rfl rfl (by decide +kernel) ⟨Nat.le_of_ble_eq_true rfl, Nat.le_of_ble_eq_true rfl⟩) (tk_preV (q0 := 0) hK hN hP hD [0] [] rfl rfl rfl rfl rfl) rfl rfl hl.1 rfl (lv_room (Nat.le_of_ble_eq_true rfl)) dN_takeReload_40 ⟨Nat.zero_le _, Nat.zero_le _⟩) (fun H locs hP hD hS => ?_)
        refine W.eq (g2 := F0 m 43 ls [.int (tkN_isPeriodic_r (tk_up (tk_up c 4 65536) 8 1))]) rfl ?_
        refine lv_if_eq (tgt := 55) hx hb dN_takeReload_43 (by decide) (fun (h8_ : tkN_isPeriodic_r (tk_up (tk_up c 4 65536) 8 1) = 0) => ?_) (fun (h8_ : ¬ (tkN_isPeriodic_r (tk_up (tk_up c 4 65536) 8 1) = 0)) => ?_)
        · refine lv_aload_n hx hb dN_takeReload_55 rfl (lv_at hl 1 rfl) ?_
          refine va_get (D := D) (ci := 1) (v := .int (c 2)) (C := RN) (T := TN) (N := 14) hx hb hw inN hown hK hP 0 rfl rfl 2 (by decide) f15 (fun _ h9 => h9) rfl dN_takeReload_56 ?_
          refine lv_if_ne (tgt := 67) hx hb dN_takeReload_59 (by decide) (fun _ => ?_) (fun h => absurd h h6_)
          exact tk_vret hx hb hr hlk hP hD hS dN_takeReload_67 (tk_ewN (by unfold tkN_takeReload_s; rw [if_pos h1_, if_neg h6_, if_neg h7_, if_pos h8_]))
        · refine lv_iload_n hx hb dN_takeReload_46 rfl (lv_at hl 0 rfl) ?_
          refine lv_if_eq (tgt := 55) hx hb dN_takeReload_47 (by decide) (fun (h9_ : tkN_isEmpty_r c = 0) => ?_) (fun (h9_ : ¬ (tkN_isEmpty_r c = 0)) => ?_)
          · refine lv_aload_n hx hb dN_takeReload_55 rfl (lv_at hl 1 rfl) ?_
            refine va_get (D := D) (ci := 1) (v := .int (c 2)) (C := RN) (T := TN) (N := 14) hx hb hw inN hown hK hP 0 rfl rfl 2 (by decide) f15 (fun _ h9 => h9) rfl dN_takeReload_56 ?_
            refine lv_if_ne (tgt := 67) hx hb dN_takeReload_59 (by decide) (fun _ => ?_) (fun h => absurd h h6_)
            exact tk_vret hx hb hr hlk hP hD hS dN_takeReload_67 (tk_ewN (by unfold tkN_takeReload_s; rw [if_pos h1_, if_neg h6_, if_neg h7_, if_neg h8_, if_pos h9_]))
          · refine lv_aload_n hx hb dN_takeReload_50 rfl (lv_at hl 1 rfl) ?_
            refine lv_iconst (v := 1) hx hb dN_takeReload_51 (by decide) ?_
            refine va_put (D := D) (ci := 1) (v := .int 1) (ty := .boolean) (C := RN) (T := TN) (N := 14) hx hb hw inN tyN tyN_ok nmN hown hK hP hD hS 0 rfl rfl 7 (by decide) f34 (fun _ h9 => h9) rfl (tyN_ok 7 (by decide)) rfl rfl (Nat.le_of_ble_eq_true rfl) dN_takeReload_52 (fun H locs hP hD hS => ?_)
            have hP : va_P D vwCl [(h0, .inr (1, FN (tk_up (tk_up (tk_up c 4 65536) 8 1) 7 1)))] H := hP
            have hD : va_D A [(h0, .inr (1, FN (tk_up (tk_up (tk_up c 4 65536) 8 1) 7 1)))] := hD
            refine lv_aload_n hx hb dN_takeReload_55 rfl (lv_at hl 1 rfl) ?_
            refine va_get (D := D) (ci := 1) (v := .int (c 2)) (C := RN) (T := TN) (N := 14) hx hb hw inN hown hK hP 0 rfl rfl 2 (by decide) f15 (fun _ h9 => h9) rfl dN_takeReload_56 ?_
            refine lv_if_ne (tgt := 67) hx hb dN_takeReload_59 (by decide) (fun _ => ?_) (fun h => absurd h h6_)
            exact tk_vret hx hb hr hlk hP hD hS dN_takeReload_67 (tk_ewN (by unfold tkN_takeReload_s; rw [if_pos h1_, if_neg h6_, if_neg h7_, if_neg h8_, if_neg h9_]))
def tkN_takeByte_s (c : Nat → Int32) (x0 : Int32) : Nat → Int32 :=
  if c 3 = 1 then tkN_takeReload_s c x0
  else if c 3 = 2 then tkN_takeReload_s c (x0 <<< ((8 : Int32) &&& 31))
    else if c 10 = 0 then tk_up (tk_up c 10 1) 9 x0
      else tkN_takeReload_s (tk_up c 10 0) ((x0 <<< ((8 : Int32) &&& 31)) ||| (c 9))
set_option maxHeartbeats 1000000 in
set_option maxRecDepth 100000 in
theorem kN_takeByte (l : Launch) (D : va_G) (h0 : Nat) (c : Nat → Int32) (x0 : Int32) : tk_M l yN_takeByte wsN_takeByte { frames := 2, cells := 0, slots := 0, locals := 42 } D [] [.ref h0, .int x0] [(h0, .inr (1, FN c))] [(h0, .inr (1, FN (tkN_takeByte_s c x0)))] none := by
  refine tk_M.of (cc := cN_takeByte) (maxL := 2) (ret := none) (by decide) rfl (Nat.le_of_ble_eq_true rfl) ?_
  intro p e s m below meth co A H locs ls hB hK hN hA hP hD hS hl
  obtain ⟨hx, hb, hr, hml, hown, hlk, hnm, hts⟩ := hB
  have hown : s.vm.findClass RN = some m.cls := hown
  have hl : lv_has ls 2 [(0, .ref h0), (1, .int x0)] := hl
  have hw : ∀ w ∈ tkW, w.before _ s = true := fun w h => hts w (List.mem_cons_of_mem _ h)
  have f25 := hw _ wF_N_25
  have f40 := hw _ wF_N_40
  have f64 := hw _ wF_N_64
  refine lv_aload_n hx hb dN_takeByte_0 rfl (lv_at hl 0 rfl) ?_
  refine va_get (D := D) (ci := 1) (v := .int (c 3)) (C := RN) (T := TN) (N := 14) hx hb hw inN hown hK hP 0 rfl rfl 3 (by decide) f25 (fun _ h9 => h9) rfl dN_takeByte_1 ?_
  refine lv_iconst (v := 1) hx hb dN_takeByte_4 (by decide) ?_
  refine lv_icmp_ne (tgt := 16) hx hb dN_takeByte_5 (by decide) (fun (h1_ : ¬ (c 3 = 1)) => ?_) (fun (h1_ : c 3 = 1) => ?_)
  · refine lv_aload_n hx hb dN_takeByte_16 rfl (lv_at hl 0 rfl) ?_
    refine va_get (D := D) (ci := 1) (v := .int (c 3)) (C := RN) (T := TN) (N := 14) hx hb hw inN hown hK hP 0 rfl rfl 3 (by decide) f25 (fun _ h9 => h9) rfl dN_takeByte_17 ?_
    refine lv_iconst (v := 2) hx hb dN_takeByte_20 (by decide) ?_
    refine lv_icmp_ne (tgt := 35) hx hb dN_takeByte_21 (by decide) (fun (h2_ : ¬ (c 3 = 2)) => ?_) (fun (h2_ : c 3 = 2) => ?_)
    · refine lv_aload_n hx hb dN_takeByte_35 rfl (lv_at hl 0 rfl) ?_
      refine va_get (D := D) (ci := 1) (v := .int (c 10)) (C := RN) (T := TN) (N := 14) hx hb hw inN hown hK hP 0 rfl rfl 10 (by decide) f40 (fun _ h9 => h9) rfl dN_takeByte_36 ?_
      refine lv_if_eq (tgt := 63) hx hb dN_takeByte_39 (by decide) (fun (h3_ : c 10 = 0) => ?_) (fun (h3_ : ¬ (c 10 = 0)) => ?_)
      · refine lv_aload_n hx hb dN_takeByte_63 rfl (lv_at hl 0 rfl) ?_
        refine lv_iconst (v := 1) hx hb dN_takeByte_64 (by decide) ?_
        refine va_put (D := D) (ci := 1) (v := .int 1) (ty := .boolean) (C := RN) (T := TN) (N := 14) hx hb hw inN tyN tyN_ok nmN hown hK hP hD hS 0 rfl rfl 10 (by decide) f40 (fun _ h9 => h9) rfl (tyN_ok 10 (by decide)) rfl rfl (Nat.le_of_ble_eq_true rfl) dN_takeByte_65 (fun H locs hP hD hS => ?_)
        have hP : va_P D vwCl [(h0, .inr (1, FN (tk_up c 10 1)))] H := hP
        have hD : va_D A [(h0, .inr (1, FN (tk_up c 10 1)))] := hD
        refine lv_aload_n hx hb dN_takeByte_68 rfl (lv_at hl 0 rfl) ?_
        refine lv_iload_n hx hb dN_takeByte_69 rfl (lv_at hl 1 rfl) ?_
        refine va_put (D := D) (ci := 1) (v := .int x0) (ty := .int) (C := RN) (T := TN) (N := 14) hx hb hw inN tyN tyN_ok nmN hown hK hP hD hS 0 rfl rfl 9 (by decide) f64 (fun _ h9 => h9) rfl (tyN_ok 9 (by decide)) rfl rfl (Nat.le_of_ble_eq_true rfl) dN_takeByte_70 (fun H locs hP hD hS => ?_)
        have hP : va_P D vwCl [(h0, .inr (1, FN (tk_up (tk_up c 10 1) 9 x0)))] H := hP
        have hD : va_D A [(h0, .inr (1, FN (tk_up (tk_up c 10 1) 9 x0)))] := hD
        exact tk_vret hx hb hr hlk hP hD hS dN_takeByte_73 (tk_ewN (by unfold tkN_takeByte_s; rw [if_neg h1_, if_neg h2_, if_pos h3_]))
      · refine lv_aload_n hx hb dN_takeByte_42 rfl (lv_at hl 0 rfl) ?_
        refine lv_iconst (v := 0) hx hb dN_takeByte_43 (by decide) ?_
        refine va_put (D := D) (ci := 1) (v := .int 0) (ty := .boolean) (C := RN) (T := TN) (N := 14) hx hb hw inN tyN tyN_ok nmN hown hK hP hD hS 0 rfl rfl 10 (by decide) f40 (fun _ h9 => h9) rfl (tyN_ok 10 (by decide)) rfl rfl (Nat.le_of_ble_eq_true rfl) dN_takeByte_44 (fun H locs hP hD hS => ?_)
        have hP : va_P D vwCl [(h0, .inr (1, FN (tk_up c 10 0)))] H := hP
        have hD : va_D A [(h0, .inr (1, FN (tk_up c 10 0)))] := hD
        refine lv_aload_n hx hb dN_takeByte_47 rfl (lv_at hl 0 rfl) ?_
        refine lv_iload_n hx hb dN_takeByte_48 rfl (lv_at hl 1 rfl) ?_
        refine lv_bipush (v := 8) hx hb dN_takeByte_49 (by decide) ?_
        refine lv_ishl hx hb dN_takeByte_51 ?_
        refine lv_aload_n hx hb dN_takeByte_52 rfl (lv_at hl 0 rfl) ?_
        refine va_get (D := D) (ci := 1) (v := .int (c 9)) (C := RN) (T := TN) (N := 14) hx hb hw inN hown hK hP 0 rfl rfl 9 (by decide) f64 (fun _ h9 => h9) rfl dN_takeByte_53 ?_
        refine lv_ior hx hb dN_takeByte_56 ?_
        refine tk_callA hD hS hA (va_runV (As := [.int ((x0 <<< ((8 : Int32) &&& 31)) ||| (c 9))]) (rest := []) ⟨hx, hb, hml, hown, hw⟩ (kN_takeReload l D h0 (tk_up c 10 0) ((x0 <<< ((8 : Int32) &&& 31)) ||| (c 9)) H.size) (cwV 1 hw (tk_gV tkW_good wM_N_60 wI_N_takeReload wS_N_takeReload wZ_N wC_N_takeReload) rfl rfl rfl (by decide +kernel) ⟨Nat.le_of_ble_eq_true rfl, Nat.le_of_ble_eq_true rfl⟩) (tk_preV (q0 := 0) hK hN hP hD [0] [] rfl rfl rfl rfl rfl) rfl rfl hl.1 rfl (lv_room (Nat.le_of_ble_eq_true rfl)) dN_takeByte_57 ⟨Nat.zero_le _, Nat.zero_le _⟩) (fun H locs hP hD hS => ?_)
        refine W.eq (g2 := F0 m 60 ls []) rfl ?_
        refine lv_goto (tgt := 73) hx hb dN_takeByte_60 (by decide) ?_
        exact tk_vret hx hb hr hlk hP hD hS dN_takeByte_73 (tk_ewN (by unfold tkN_takeByte_s; rw [if_neg h1_, if_neg h2_, if_neg h3_]))
    · refine lv_aload_n hx hb dN_takeByte_24 rfl (lv_at hl 0 rfl) ?_
      refine lv_iload_n hx hb dN_takeByte_25 rfl (lv_at hl 1 rfl) ?_
      refine lv_bipush (v := 8) hx hb dN_takeByte_26 (by decide) ?_
      refine lv_ishl hx hb dN_takeByte_28 ?_
      refine tk_callA hD hS hA (va_runV (As := [.int (x0 <<< ((8 : Int32) &&& 31))]) (rest := []) ⟨hx, hb, hml, hown, hw⟩ (kN_takeReload l D h0 c (x0 <<< ((8 : Int32) &&& 31)) H.size) (cwV 1 hw (tk_gV tkW_good wM_N_60 wI_N_takeReload wS_N_takeReload wZ_N wC_N_takeReload) rfl rfl rfl (by decide +kernel) ⟨Nat.le_of_ble_eq_true rfl, Nat.le_of_ble_eq_true rfl⟩) (tk_preV (q0 := 0) hK hN hP hD [0] [] rfl rfl rfl rfl rfl) rfl rfl hl.1 rfl (lv_room (Nat.le_of_ble_eq_true rfl)) dN_takeByte_29 ⟨Nat.zero_le _, Nat.zero_le _⟩) (fun H locs hP hD hS => ?_)
      refine W.eq (g2 := F0 m 32 ls []) rfl ?_
      refine lv_goto (tgt := 73) hx hb dN_takeByte_32 (by decide) ?_
      exact tk_vret hx hb hr hlk hP hD hS dN_takeByte_73 (tk_ewN (by unfold tkN_takeByte_s; rw [if_neg h1_, if_pos h2_]))
  · refine lv_aload_n hx hb dN_takeByte_8 rfl (lv_at hl 0 rfl) ?_
    refine lv_iload_n hx hb dN_takeByte_9 rfl (lv_at hl 1 rfl) ?_
    refine tk_callA hD hS hA (va_runV (As := [.int x0]) (rest := []) ⟨hx, hb, hml, hown, hw⟩ (kN_takeReload l D h0 c x0 H.size) (cwV 1 hw (tk_gV tkW_good wM_N_60 wI_N_takeReload wS_N_takeReload wZ_N wC_N_takeReload) rfl rfl rfl (by decide +kernel) ⟨Nat.le_of_ble_eq_true rfl, Nat.le_of_ble_eq_true rfl⟩) (tk_preV (q0 := 0) hK hN hP hD [0] [] rfl rfl rfl rfl rfl) rfl rfl hl.1 rfl (lv_room (Nat.le_of_ble_eq_true rfl)) dN_takeByte_10 ⟨Nat.zero_le _, Nat.zero_le _⟩) (fun H locs hP hD hS => ?_)
    refine W.eq (g2 := F0 m 13 ls []) rfl ?_
    refine lv_goto (tgt := 73) hx hb dN_takeByte_13 (by decide) ?_
    exact tk_vret hx hb hr hlk hP hD hS dN_takeByte_73 (tk_ewN (by unfold tkN_takeByte_s; rw [if_pos h1_]))
def tkN_giveByte_r (c : Nat → Int32) : Int32 :=
  if c 13 = (-1) then (if c 12 = (-1) then (if c 3 = 2 then (c 5) >>> ((8 : Int32) &&& 31)
      else if c 11 = 0 then (c 5) &&& 255
        else (c 5) >>> ((8 : Int32) &&& 31))
    else if c 3 = 2 then (c 12) >>> ((8 : Int32) &&& 31)
      else if c 11 = 0 then (c 12) &&& 255
        else (c 12) >>> ((8 : Int32) &&& 31))
  else c 13
def tkN_giveByte_s (c : Nat → Int32) : Nat → Int32 :=
  if c 13 = (-1) then (if c 3 = 2 then tk_up c 12 (-1)
    else if c 11 = 0 then (if c 3 = 3 then tk_up c 11 1
        else if c 3 = 1 then tk_up c 12 (-1)
          else c)
      else if c 3 = 3 then tk_up (tk_up c 11 0) 12 (-1)
        else tk_up c 12 (-1))
  else tk_up c 13 (-1)
set_option maxHeartbeats 1000000 in
set_option maxRecDepth 100000 in
theorem kN_giveByte (l : Launch) (D : va_G) (h0 : Nat) (c : Nat → Int32) : tk_M l yN_giveByte wsN_giveByte { frames := 0, cells := 0, slots := 0, locals := 0 } D [] [.ref h0] [(h0, .inr (1, FN c))] [(h0, .inr (1, FN (tkN_giveByte_s c)))] (some (.int (tkN_giveByte_r c))) := by
  refine tk_M.of (cc := cN_giveByte) (maxL := 3) (ret := (some .int)) (by decide) rfl (Nat.le_of_ble_eq_true rfl) ?_
  intro p e s m below meth co A H locs ls hB hK hN hA hP hD hS hl
  obtain ⟨hx, hb, hr, hml, hown, hlk, hnm, hts⟩ := hB
  have hown : s.vm.findClass RN = some m.cls := hown
  have hl : lv_has ls 3 [(0, .ref h0)] := hl
  have hw : ∀ w ∈ tkW, w.before _ s = true := fun w h => hts w (List.mem_cons_of_mem _ h)
  have f22 := hw _ wF_N_22
  have f19 := hw _ wF_N_19
  have f53 := hw _ wF_N_53
  have f25 := hw _ wF_N_25
  have f43 := hw _ wF_N_43
  refine lv_aload_n hx hb dN_giveByte_0 rfl (lv_at hl 0 rfl) ?_
  refine va_get (D := D) (ci := 1) (v := .int (c 13)) (C := RN) (T := TN) (N := 14) hx hb hw inN hown hK hP 0 rfl rfl 13 (by decide) f22 (fun _ h9 => h9) rfl dN_giveByte_1 ?_
  refine lv_iconst (v := -1) hx hb dN_giveByte_4 (by decide) ?_
  refine lv_icmp_eq (tgt := 20) hx hb dN_giveByte_5 (by decide) (fun (h1_ : c 13 = (-1)) => ?_) (fun (h1_ : ¬ (c 13 = (-1))) => ?_)
  · refine lv_aload_n hx hb dN_giveByte_20 rfl (lv_at hl 0 rfl) ?_
    refine va_get (D := D) (ci := 1) (v := .int (c 12)) (C := RN) (T := TN) (N := 14) hx hb hw inN hown hK hP 0 rfl rfl 12 (by decide) f19 (fun _ h9 => h9) rfl dN_giveByte_21 ?_
    refine lv_iconst (v := -1) hx hb dN_giveByte_24 (by decide) ?_
    refine lv_icmp_eq (tgt := 35) hx hb dN_giveByte_25 (by decide) (fun (h2_ : c 12 = (-1)) => ?_) (fun (h2_ : ¬ (c 12 = (-1))) => ?_)
    · refine lv_aload_n hx hb dN_giveByte_35 rfl (lv_at hl 0 rfl) ?_
      refine va_get (D := D) (ci := 1) (v := .int (c 5)) (C := RN) (T := TN) (N := 14) hx hb hw inN hown hK hP 0 rfl rfl 5 (by decide) f53 (fun _ h9 => h9) rfl dN_giveByte_36 ?_
      refine lv_istore_n hx hb dN_giveByte_39 rfl hl (by decide) rfl (fun ls hl => ?_)
      have hl : lv_has ls 3 [(1, .int (c 5)), (0, .ref h0)] := hl
      refine lv_aload_n hx hb dN_giveByte_40 rfl (lv_at hl 1 rfl) ?_
      refine va_get (D := D) (ci := 1) (v := .int (c 3)) (C := RN) (T := TN) (N := 14) hx hb hw inN hown hK hP 0 rfl rfl 3 (by decide) f25 (fun _ h9 => h9) rfl dN_giveByte_41 ?_
      refine lv_iconst (v := 2) hx hb dN_giveByte_44 (by decide) ?_
      refine lv_icmp_eq (tgt := 55) hx hb dN_giveByte_45 (by decide) (fun (h3_ : c 3 = 2) => ?_) (fun (h3_ : ¬ (c 3 = 2)) => ?_)
      · refine lv_iconst (v := 1) hx hb dN_giveByte_55 (by decide) ?_
        refine lv_goto (tgt := 60) hx hb dN_giveByte_56 (by decide) ?_
        refine lv_istore_n hx hb dN_giveByte_60 rfl hl (by decide) rfl (fun ls hl => ?_)
        have hl : lv_has ls 3 [(2, .int 1), (1, .int (c 5)), (0, .ref h0)] := hl
        refine lv_aload_n hx hb dN_giveByte_61 rfl (lv_at hl 2 rfl) ?_
        refine va_get (D := D) (ci := 1) (v := .int (c 3)) (C := RN) (T := TN) (N := 14) hx hb hw inN hown hK hP 0 rfl rfl 3 (by decide) f25 (fun _ h9 => h9) rfl dN_giveByte_62 ?_
        refine lv_iconst (v := 3) hx hb dN_giveByte_65 (by decide) ?_
        refine lv_icmp_ne (tgt := 82) hx hb dN_giveByte_66 (by decide) (fun _ => ?_) (fun h => absurd (h.symm.trans h3_) (by decide))
        refine lv_iload_n hx hb dN_giveByte_82 rfl (lv_at hl 0 rfl) ?_
        refine lv_if_ne (tgt := 94) hx hb dN_giveByte_83 (by decide) (fun _ => ?_) (fun h => absurd h (by decide))
        refine lv_aload_n hx hb dN_giveByte_94 rfl (lv_at hl 2 rfl) ?_
        refine lv_iconst (v := -1) hx hb dN_giveByte_95 (by decide) ?_
        refine va_put (D := D) (ci := 1) (v := .int (-1)) (ty := .int) (C := RN) (T := TN) (N := 14) hx hb hw inN tyN tyN_ok nmN hown hK hP hD hS 0 rfl rfl 12 (by decide) f19 (fun _ h9 => h9) rfl (tyN_ok 12 (by decide)) rfl rfl (Nat.le_of_ble_eq_true rfl) dN_giveByte_96 (fun H locs hP hD hS => ?_)
        have hP : va_P D vwCl [(h0, .inr (1, FN (tk_up c 12 (-1))))] H := hP
        have hD : va_D A [(h0, .inr (1, FN (tk_up c 12 (-1))))] := hD
        refine lv_iload_n hx hb dN_giveByte_99 rfl (lv_at hl 0 rfl) ?_
        refine lv_if_eq (tgt := 110) hx hb dN_giveByte_100 (by decide) (fun h => absurd h (by decide)) (fun _ => ?_)
        refine lv_iload_n hx hb dN_giveByte_103 rfl (lv_at hl 1 rfl) ?_
        refine lv_bipush (v := 8) hx hb dN_giveByte_104 (by decide) ?_
        refine lv_ishr hx hb dN_giveByte_106 ?_
        refine lv_goto (tgt := 115) hx hb dN_giveByte_107 (by decide) ?_
        exact tk_iret hx hb hr hlk hP hD hS dN_giveByte_115 (by unfold tkN_giveByte_r; rw [if_pos h1_, if_pos h2_, if_pos h3_]) (tk_ewN (by unfold tkN_giveByte_s; rw [if_pos h1_, if_pos h3_]))
      · refine lv_aload_n hx hb dN_giveByte_48 rfl (lv_at hl 1 rfl) ?_
        refine va_get (D := D) (ci := 1) (v := .int (c 11)) (C := RN) (T := TN) (N := 14) hx hb hw inN hown hK hP 0 rfl rfl 11 (by decide) f43 (fun _ h9 => h9) rfl dN_giveByte_49 ?_
        refine lv_if_eq (tgt := 59) hx hb dN_giveByte_52 (by decide) (fun (h4_ : c 11 = 0) => ?_) (fun (h4_ : ¬ (c 11 = 0)) => ?_)
        · refine lv_iconst (v := 0) hx hb dN_giveByte_59 (by decide) ?_
          refine lv_istore_n hx hb dN_giveByte_60 rfl hl (by decide) rfl (fun ls hl => ?_)
          have hl : lv_has ls 3 [(2, .int 0), (1, .int (c 5)), (0, .ref h0)] := hl
          refine lv_aload_n hx hb dN_giveByte_61 rfl (lv_at hl 2 rfl) ?_
          refine va_get (D := D) (ci := 1) (v := .int (c 3)) (C := RN) (T := TN) (N := 14) hx hb hw inN hown hK hP 0 rfl rfl 3 (by decide) f25 (fun _ h9 => h9) rfl dN_giveByte_62 ?_
          refine lv_iconst (v := 3) hx hb dN_giveByte_65 (by decide) ?_
          refine lv_icmp_ne (tgt := 82) hx hb dN_giveByte_66 (by decide) (fun (h5_ : ¬ (c 3 = 3)) => ?_) (fun (h5_ : c 3 = 3) => ?_)
          · refine lv_iload_n hx hb dN_giveByte_82 rfl (lv_at hl 0 rfl) ?_
            refine lv_if_ne (tgt := 94) hx hb dN_giveByte_83 (by decide) (fun h => absurd (by decide) h) (fun _ => ?_)
            refine lv_aload_n hx hb dN_giveByte_86 rfl (lv_at hl 2 rfl) ?_
            refine va_get (D := D) (ci := 1) (v := .int (c 3)) (C := RN) (T := TN) (N := 14) hx hb hw inN hown hK hP 0 rfl rfl 3 (by decide) f25 (fun _ h9 => h9) rfl dN_giveByte_87 ?_
            refine lv_iconst (v := 1) hx hb dN_giveByte_90 (by decide) ?_
            refine lv_icmp_ne (tgt := 99) hx hb dN_giveByte_91 (by decide) (fun (h6_ : ¬ (c 3 = 1)) => ?_) (fun (h6_ : c 3 = 1) => ?_)
            · refine lv_iload_n hx hb dN_giveByte_99 rfl (lv_at hl 0 rfl) ?_
              refine lv_if_eq (tgt := 110) hx hb dN_giveByte_100 (by decide) (fun _ => ?_) (fun h => absurd (by decide) h)
              refine lv_iload_n hx hb dN_giveByte_110 rfl (lv_at hl 1 rfl) ?_
              refine lv_sipush (v := 255) hx hb dN_giveByte_111 (by decide) ?_
              refine lv_iand hx hb dN_giveByte_114 ?_
              exact tk_iret hx hb hr hlk hP hD hS dN_giveByte_115 (by unfold tkN_giveByte_r; rw [if_pos h1_, if_pos h2_, if_neg h3_, if_pos h4_]) (tk_ewN (by unfold tkN_giveByte_s; rw [if_pos h1_, if_neg h3_, if_pos h4_, if_neg h5_, if_neg h6_]))
            · refine lv_aload_n hx hb dN_giveByte_94 rfl (lv_at hl 2 rfl) ?_
              refine lv_iconst (v := -1) hx hb dN_giveByte_95 (by decide) ?_
              refine va_put (D := D) (ci := 1) (v := .int (-1)) (ty := .int) (C := RN) (T := TN) (N := 14) hx hb hw inN tyN tyN_ok nmN hown hK hP hD hS 0 rfl rfl 12 (by decide) f19 (fun _ h9 => h9) rfl (tyN_ok 12 (by decide)) rfl rfl (Nat.le_of_ble_eq_true rfl) dN_giveByte_96 (fun H locs hP hD hS => ?_)
              have hP : va_P D vwCl [(h0, .inr (1, FN (tk_up c 12 (-1))))] H := hP
              have hD : va_D A [(h0, .inr (1, FN (tk_up c 12 (-1))))] := hD
              refine lv_iload_n hx hb dN_giveByte_99 rfl (lv_at hl 0 rfl) ?_
              refine lv_if_eq (tgt := 110) hx hb dN_giveByte_100 (by decide) (fun _ => ?_) (fun h => absurd (by decide) h)
              refine lv_iload_n hx hb dN_giveByte_110 rfl (lv_at hl 1 rfl) ?_
              refine lv_sipush (v := 255) hx hb dN_giveByte_111 (by decide) ?_
              refine lv_iand hx hb dN_giveByte_114 ?_
              exact tk_iret hx hb hr hlk hP hD hS dN_giveByte_115 (by unfold tkN_giveByte_r; rw [if_pos h1_, if_pos h2_, if_neg h3_, if_pos h4_]) (tk_ewN (by unfold tkN_giveByte_s; rw [if_pos h1_, if_neg h3_, if_pos h4_, if_neg h5_, if_pos h6_]))
          · refine lv_aload_n hx hb dN_giveByte_69 rfl (lv_at hl 2 rfl) ?_
            refine lv_iload_n hx hb dN_giveByte_70 rfl (lv_at hl 0 rfl) ?_
            refine lv_if_ne (tgt := 78) hx hb dN_giveByte_71 (by decide) (fun h => absurd (by decide) h) (fun _ => ?_)
            refine lv_iconst (v := 1) hx hb dN_giveByte_74 (by decide) ?_
            refine lv_goto (tgt := 79) hx hb dN_giveByte_75 (by decide) ?_
            refine va_put (D := D) (ci := 1) (v := .int 1) (ty := .boolean) (C := RN) (T := TN) (N := 14) hx hb hw inN tyN tyN_ok nmN hown hK hP hD hS 0 rfl rfl 11 (by decide) f43 (fun _ h9 => h9) rfl (tyN_ok 11 (by decide)) rfl rfl (Nat.le_of_ble_eq_true rfl) dN_giveByte_79 (fun H locs hP hD hS => ?_)
            have hP : va_P D vwCl [(h0, .inr (1, FN (tk_up c 11 1)))] H := hP
            have hD : va_D A [(h0, .inr (1, FN (tk_up c 11 1)))] := hD
            refine lv_iload_n hx hb dN_giveByte_82 rfl (lv_at hl 0 rfl) ?_
            refine lv_if_ne (tgt := 94) hx hb dN_giveByte_83 (by decide) (fun h => absurd (by decide) h) (fun _ => ?_)
            refine lv_aload_n hx hb dN_giveByte_86 rfl (lv_at hl 2 rfl) ?_
            refine va_get (D := D) (ci := 1) (v := .int (c 3)) (C := RN) (T := TN) (N := 14) hx hb hw inN hown hK hP 0 rfl rfl 3 (by decide) f25 (fun _ h9 => h9) rfl dN_giveByte_87 ?_
            refine lv_iconst (v := 1) hx hb dN_giveByte_90 (by decide) ?_
            refine lv_icmp_ne (tgt := 99) hx hb dN_giveByte_91 (by decide) (fun _ => ?_) (fun h => absurd (h.symm.trans h5_) (by decide))
            refine lv_iload_n hx hb dN_giveByte_99 rfl (lv_at hl 0 rfl) ?_
            refine lv_if_eq (tgt := 110) hx hb dN_giveByte_100 (by decide) (fun _ => ?_) (fun h => absurd (by decide) h)
            refine lv_iload_n hx hb dN_giveByte_110 rfl (lv_at hl 1 rfl) ?_
            refine lv_sipush (v := 255) hx hb dN_giveByte_111 (by decide) ?_
            refine lv_iand hx hb dN_giveByte_114 ?_
            exact tk_iret hx hb hr hlk hP hD hS dN_giveByte_115 (by unfold tkN_giveByte_r; rw [if_pos h1_, if_pos h2_, if_neg h3_, if_pos h4_]) (tk_ewN (by unfold tkN_giveByte_s; rw [if_pos h1_, if_neg h3_, if_pos h4_, if_pos h5_]))
        · refine lv_iconst (v := 1) hx hb dN_giveByte_55 (by decide) ?_
          refine lv_goto (tgt := 60) hx hb dN_giveByte_56 (by decide) ?_
          refine lv_istore_n hx hb dN_giveByte_60 rfl hl (by decide) rfl (fun ls hl => ?_)
          have hl : lv_has ls 3 [(2, .int 1), (1, .int (c 5)), (0, .ref h0)] := hl
          refine lv_aload_n hx hb dN_giveByte_61 rfl (lv_at hl 2 rfl) ?_
          refine va_get (D := D) (ci := 1) (v := .int (c 3)) (C := RN) (T := TN) (N := 14) hx hb hw inN hown hK hP 0 rfl rfl 3 (by decide) f25 (fun _ h9 => h9) rfl dN_giveByte_62 ?_
          refine lv_iconst (v := 3) hx hb dN_giveByte_65 (by decide) ?_
          refine lv_icmp_ne (tgt := 82) hx hb dN_giveByte_66 (by decide) (fun (h7_ : ¬ (c 3 = 3)) => ?_) (fun (h7_ : c 3 = 3) => ?_)
          · refine lv_iload_n hx hb dN_giveByte_82 rfl (lv_at hl 0 rfl) ?_
            refine lv_if_ne (tgt := 94) hx hb dN_giveByte_83 (by decide) (fun _ => ?_) (fun h => absurd h (by decide))
            refine lv_aload_n hx hb dN_giveByte_94 rfl (lv_at hl 2 rfl) ?_
            refine lv_iconst (v := -1) hx hb dN_giveByte_95 (by decide) ?_
            refine va_put (D := D) (ci := 1) (v := .int (-1)) (ty := .int) (C := RN) (T := TN) (N := 14) hx hb hw inN tyN tyN_ok nmN hown hK hP hD hS 0 rfl rfl 12 (by decide) f19 (fun _ h9 => h9) rfl (tyN_ok 12 (by decide)) rfl rfl (Nat.le_of_ble_eq_true rfl) dN_giveByte_96 (fun H locs hP hD hS => ?_)
            have hP : va_P D vwCl [(h0, .inr (1, FN (tk_up c 12 (-1))))] H := hP
            have hD : va_D A [(h0, .inr (1, FN (tk_up c 12 (-1))))] := hD
            refine lv_iload_n hx hb dN_giveByte_99 rfl (lv_at hl 0 rfl) ?_
            refine lv_if_eq (tgt := 110) hx hb dN_giveByte_100 (by decide) (fun h => absurd h (by decide)) (fun _ => ?_)
            refine lv_iload_n hx hb dN_giveByte_103 rfl (lv_at hl 1 rfl) ?_
            refine lv_bipush (v := 8) hx hb dN_giveByte_104 (by decide) ?_
            refine lv_ishr hx hb dN_giveByte_106 ?_
            refine lv_goto (tgt := 115) hx hb dN_giveByte_107 (by decide) ?_
            exact tk_iret hx hb hr hlk hP hD hS dN_giveByte_115 (by unfold tkN_giveByte_r; rw [if_pos h1_, if_pos h2_, if_neg h3_, if_neg h4_]) (tk_ewN (by unfold tkN_giveByte_s; rw [if_pos h1_, if_neg h3_, if_neg h4_, if_neg h7_]))
          · refine lv_aload_n hx hb dN_giveByte_69 rfl (lv_at hl 2 rfl) ?_
            refine lv_iload_n hx hb dN_giveByte_70 rfl (lv_at hl 0 rfl) ?_
            refine lv_if_ne (tgt := 78) hx hb dN_giveByte_71 (by decide) (fun _ => ?_) (fun h => absurd h (by decide))
            refine lv_iconst (v := 0) hx hb dN_giveByte_78 (by decide) ?_
            refine va_put (D := D) (ci := 1) (v := .int 0) (ty := .boolean) (C := RN) (T := TN) (N := 14) hx hb hw inN tyN tyN_ok nmN hown hK hP hD hS 0 rfl rfl 11 (by decide) f43 (fun _ h9 => h9) rfl (tyN_ok 11 (by decide)) rfl rfl (Nat.le_of_ble_eq_true rfl) dN_giveByte_79 (fun H locs hP hD hS => ?_)
            have hP : va_P D vwCl [(h0, .inr (1, FN (tk_up c 11 0)))] H := hP
            have hD : va_D A [(h0, .inr (1, FN (tk_up c 11 0)))] := hD
            refine lv_iload_n hx hb dN_giveByte_82 rfl (lv_at hl 0 rfl) ?_
            refine lv_if_ne (tgt := 94) hx hb dN_giveByte_83 (by decide) (fun _ => ?_) (fun h => absurd h (by decide))
            refine lv_aload_n hx hb dN_giveByte_94 rfl (lv_at hl 2 rfl) ?_
            refine lv_iconst (v := -1) hx hb dN_giveByte_95 (by decide) ?_
            refine va_put (D := D) (ci := 1) (v := .int (-1)) (ty := .int) (C := RN) (T := TN) (N := 14) hx hb hw inN tyN tyN_ok nmN hown hK hP hD hS 0 rfl rfl 12 (by decide) f19 (fun _ h9 => h9) rfl (tyN_ok 12 (by decide)) rfl rfl (Nat.le_of_ble_eq_true rfl) dN_giveByte_96 (fun H locs hP hD hS => ?_)
            have hP : va_P D vwCl [(h0, .inr (1, FN (tk_up (tk_up c 11 0) 12 (-1))))] H := hP
            have hD : va_D A [(h0, .inr (1, FN (tk_up (tk_up c 11 0) 12 (-1))))] := hD
            refine lv_iload_n hx hb dN_giveByte_99 rfl (lv_at hl 0 rfl) ?_
            refine lv_if_eq (tgt := 110) hx hb dN_giveByte_100 (by decide) (fun h => absurd h (by decide)) (fun _ => ?_)
            refine lv_iload_n hx hb dN_giveByte_103 rfl (lv_at hl 1 rfl) ?_
            refine lv_bipush (v := 8) hx hb dN_giveByte_104 (by decide) ?_
            refine lv_ishr hx hb dN_giveByte_106 ?_
            refine lv_goto (tgt := 115) hx hb dN_giveByte_107 (by decide) ?_
            exact tk_iret hx hb hr hlk hP hD hS dN_giveByte_115 (by unfold tkN_giveByte_r; rw [if_pos h1_, if_pos h2_, if_neg h3_, if_neg h4_]) (tk_ewN (by unfold tkN_giveByte_s; rw [if_pos h1_, if_neg h3_, if_neg h4_, if_pos h7_]))
    · refine lv_aload_n hx hb dN_giveByte_28 rfl (lv_at hl 0 rfl) ?_
      refine va_get (D := D) (ci := 1) (v := .int (c 12)) (C := RN) (T := TN) (N := 14) hx hb hw inN hown hK hP 0 rfl rfl 12 (by decide) f19 (fun _ h9 => h9) rfl dN_giveByte_29 ?_
      refine lv_goto (tgt := 39) hx hb dN_giveByte_32 (by decide) ?_
      refine lv_istore_n hx hb dN_giveByte_39 rfl hl (by decide) rfl (fun ls hl => ?_)
      have hl : lv_has ls 3 [(1, .int (c 12)), (0, .ref h0)] := hl
      refine lv_aload_n hx hb dN_giveByte_40 rfl (lv_at hl 1 rfl) ?_
      refine va_get (D := D) (ci := 1) (v := .int (c 3)) (C := RN) (T := TN) (N := 14) hx hb hw inN hown hK hP 0 rfl rfl 3 (by decide) f25 (fun _ h9 => h9) rfl dN_giveByte_41 ?_
      refine lv_iconst (v := 2) hx hb dN_giveByte_44 (by decide) ?_
      refine lv_icmp_eq (tgt := 55) hx hb dN_giveByte_45 (by decide) (fun (h8_ : c 3 = 2) => ?_) (fun (h8_ : ¬ (c 3 = 2)) => ?_)
      · refine lv_iconst (v := 1) hx hb dN_giveByte_55 (by decide) ?_
        refine lv_goto (tgt := 60) hx hb dN_giveByte_56 (by decide) ?_
        refine lv_istore_n hx hb dN_giveByte_60 rfl hl (by decide) rfl (fun ls hl => ?_)
        have hl : lv_has ls 3 [(2, .int 1), (1, .int (c 12)), (0, .ref h0)] := hl
        refine lv_aload_n hx hb dN_giveByte_61 rfl (lv_at hl 2 rfl) ?_
        refine va_get (D := D) (ci := 1) (v := .int (c 3)) (C := RN) (T := TN) (N := 14) hx hb hw inN hown hK hP 0 rfl rfl 3 (by decide) f25 (fun _ h9 => h9) rfl dN_giveByte_62 ?_
        refine lv_iconst (v := 3) hx hb dN_giveByte_65 (by decide) ?_
        refine lv_icmp_ne (tgt := 82) hx hb dN_giveByte_66 (by decide) (fun _ => ?_) (fun h => absurd (h.symm.trans h8_) (by decide))
        refine lv_iload_n hx hb dN_giveByte_82 rfl (lv_at hl 0 rfl) ?_
        refine lv_if_ne (tgt := 94) hx hb dN_giveByte_83 (by decide) (fun _ => ?_) (fun h => absurd h (by decide))
        refine lv_aload_n hx hb dN_giveByte_94 rfl (lv_at hl 2 rfl) ?_
        refine lv_iconst (v := -1) hx hb dN_giveByte_95 (by decide) ?_
        refine va_put (D := D) (ci := 1) (v := .int (-1)) (ty := .int) (C := RN) (T := TN) (N := 14) hx hb hw inN tyN tyN_ok nmN hown hK hP hD hS 0 rfl rfl 12 (by decide) f19 (fun _ h9 => h9) rfl (tyN_ok 12 (by decide)) rfl rfl (Nat.le_of_ble_eq_true rfl) dN_giveByte_96 (fun H locs hP hD hS => ?_)
        have hP : va_P D vwCl [(h0, .inr (1, FN (tk_up c 12 (-1))))] H := hP
        have hD : va_D A [(h0, .inr (1, FN (tk_up c 12 (-1))))] := hD
        refine lv_iload_n hx hb dN_giveByte_99 rfl (lv_at hl 0 rfl) ?_
        refine lv_if_eq (tgt := 110) hx hb dN_giveByte_100 (by decide) (fun h => absurd h (by decide)) (fun _ => ?_)
        refine lv_iload_n hx hb dN_giveByte_103 rfl (lv_at hl 1 rfl) ?_
        refine lv_bipush (v := 8) hx hb dN_giveByte_104 (by decide) ?_
        refine lv_ishr hx hb dN_giveByte_106 ?_
        refine lv_goto (tgt := 115) hx hb dN_giveByte_107 (by decide) ?_
        exact tk_iret hx hb hr hlk hP hD hS dN_giveByte_115 (by unfold tkN_giveByte_r; rw [if_pos h1_, if_neg h2_, if_pos h8_]) (tk_ewN (by unfold tkN_giveByte_s; rw [if_pos h1_, if_pos h8_]))
      · refine lv_aload_n hx hb dN_giveByte_48 rfl (lv_at hl 1 rfl) ?_
        refine va_get (D := D) (ci := 1) (v := .int (c 11)) (C := RN) (T := TN) (N := 14) hx hb hw inN hown hK hP 0 rfl rfl 11 (by decide) f43 (fun _ h9 => h9) rfl dN_giveByte_49 ?_
        refine lv_if_eq (tgt := 59) hx hb dN_giveByte_52 (by decide) (fun (h9_ : c 11 = 0) => ?_) (fun (h9_ : ¬ (c 11 = 0)) => ?_)
        · refine lv_iconst (v := 0) hx hb dN_giveByte_59 (by decide) ?_
          refine lv_istore_n hx hb dN_giveByte_60 rfl hl (by decide) rfl (fun ls hl => ?_)
          have hl : lv_has ls 3 [(2, .int 0), (1, .int (c 12)), (0, .ref h0)] := hl
          refine lv_aload_n hx hb dN_giveByte_61 rfl (lv_at hl 2 rfl) ?_
          refine va_get (D := D) (ci := 1) (v := .int (c 3)) (C := RN) (T := TN) (N := 14) hx hb hw inN hown hK hP 0 rfl rfl 3 (by decide) f25 (fun _ h9 => h9) rfl dN_giveByte_62 ?_
          refine lv_iconst (v := 3) hx hb dN_giveByte_65 (by decide) ?_
          refine lv_icmp_ne (tgt := 82) hx hb dN_giveByte_66 (by decide) (fun (h10_ : ¬ (c 3 = 3)) => ?_) (fun (h10_ : c 3 = 3) => ?_)
          · refine lv_iload_n hx hb dN_giveByte_82 rfl (lv_at hl 0 rfl) ?_
            refine lv_if_ne (tgt := 94) hx hb dN_giveByte_83 (by decide) (fun h => absurd (by decide) h) (fun _ => ?_)
            refine lv_aload_n hx hb dN_giveByte_86 rfl (lv_at hl 2 rfl) ?_
            refine va_get (D := D) (ci := 1) (v := .int (c 3)) (C := RN) (T := TN) (N := 14) hx hb hw inN hown hK hP 0 rfl rfl 3 (by decide) f25 (fun _ h9 => h9) rfl dN_giveByte_87 ?_
            refine lv_iconst (v := 1) hx hb dN_giveByte_90 (by decide) ?_
            refine lv_icmp_ne (tgt := 99) hx hb dN_giveByte_91 (by decide) (fun (h11_ : ¬ (c 3 = 1)) => ?_) (fun (h11_ : c 3 = 1) => ?_)
            · refine lv_iload_n hx hb dN_giveByte_99 rfl (lv_at hl 0 rfl) ?_
              refine lv_if_eq (tgt := 110) hx hb dN_giveByte_100 (by decide) (fun _ => ?_) (fun h => absurd (by decide) h)
              refine lv_iload_n hx hb dN_giveByte_110 rfl (lv_at hl 1 rfl) ?_
              refine lv_sipush (v := 255) hx hb dN_giveByte_111 (by decide) ?_
              refine lv_iand hx hb dN_giveByte_114 ?_
              exact tk_iret hx hb hr hlk hP hD hS dN_giveByte_115 (by unfold tkN_giveByte_r; rw [if_pos h1_, if_neg h2_, if_neg h8_, if_pos h9_]) (tk_ewN (by unfold tkN_giveByte_s; rw [if_pos h1_, if_neg h8_, if_pos h9_, if_neg h10_, if_neg h11_]))
            · refine lv_aload_n hx hb dN_giveByte_94 rfl (lv_at hl 2 rfl) ?_
              refine lv_iconst (v := -1) hx hb dN_giveByte_95 (by decide) ?_
              refine va_put (D := D) (ci := 1) (v := .int (-1)) (ty := .int) (C := RN) (T := TN) (N := 14) hx hb hw inN tyN tyN_ok nmN hown hK hP hD hS 0 rfl rfl 12 (by decide) f19 (fun _ h9 => h9) rfl (tyN_ok 12 (by decide)) rfl rfl (Nat.le_of_ble_eq_true rfl) dN_giveByte_96 (fun H locs hP hD hS => ?_)
              have hP : va_P D vwCl [(h0, .inr (1, FN (tk_up c 12 (-1))))] H := hP
              have hD : va_D A [(h0, .inr (1, FN (tk_up c 12 (-1))))] := hD
              refine lv_iload_n hx hb dN_giveByte_99 rfl (lv_at hl 0 rfl) ?_
              refine lv_if_eq (tgt := 110) hx hb dN_giveByte_100 (by decide) (fun _ => ?_) (fun h => absurd (by decide) h)
              refine lv_iload_n hx hb dN_giveByte_110 rfl (lv_at hl 1 rfl) ?_
              refine lv_sipush (v := 255) hx hb dN_giveByte_111 (by decide) ?_
              refine lv_iand hx hb dN_giveByte_114 ?_
              exact tk_iret hx hb hr hlk hP hD hS dN_giveByte_115 (by unfold tkN_giveByte_r; rw [if_pos h1_, if_neg h2_, if_neg h8_, if_pos h9_]) (tk_ewN (by unfold tkN_giveByte_s; rw [if_pos h1_, if_neg h8_, if_pos h9_, if_neg h10_, if_pos h11_]))
          · refine lv_aload_n hx hb dN_giveByte_69 rfl (lv_at hl 2 rfl) ?_
            refine lv_iload_n hx hb dN_giveByte_70 rfl (lv_at hl 0 rfl) ?_
            refine lv_if_ne (tgt := 78) hx hb dN_giveByte_71 (by decide) (fun h => absurd (by decide) h) (fun _ => ?_)
            refine lv_iconst (v := 1) hx hb dN_giveByte_74 (by decide) ?_
            refine lv_goto (tgt := 79) hx hb dN_giveByte_75 (by decide) ?_
            refine va_put (D := D) (ci := 1) (v := .int 1) (ty := .boolean) (C := RN) (T := TN) (N := 14) hx hb hw inN tyN tyN_ok nmN hown hK hP hD hS 0 rfl rfl 11 (by decide) f43 (fun _ h9 => h9) rfl (tyN_ok 11 (by decide)) rfl rfl (Nat.le_of_ble_eq_true rfl) dN_giveByte_79 (fun H locs hP hD hS => ?_)
            have hP : va_P D vwCl [(h0, .inr (1, FN (tk_up c 11 1)))] H := hP
            have hD : va_D A [(h0, .inr (1, FN (tk_up c 11 1)))] := hD
            refine lv_iload_n hx hb dN_giveByte_82 rfl (lv_at hl 0 rfl) ?_
            refine lv_if_ne (tgt := 94) hx hb dN_giveByte_83 (by decide) (fun h => absurd (by decide) h) (fun _ => ?_)
            refine lv_aload_n hx hb dN_giveByte_86 rfl (lv_at hl 2 rfl) ?_
            refine va_get (D := D) (ci := 1) (v := .int (c 3)) (C := RN) (T := TN) (N := 14) hx hb hw inN hown hK hP 0 rfl rfl 3 (by decide) f25 (fun _ h9 => h9) rfl dN_giveByte_87 ?_
            refine lv_iconst (v := 1) hx hb dN_giveByte_90 (by decide) ?_
            refine lv_icmp_ne (tgt := 99) hx hb dN_giveByte_91 (by decide) (fun _ => ?_) (fun h => absurd (h.symm.trans h10_) (by decide))
            refine lv_iload_n hx hb dN_giveByte_99 rfl (lv_at hl 0 rfl) ?_
            refine lv_if_eq (tgt := 110) hx hb dN_giveByte_100 (by decide) (fun _ => ?_) (fun h => absurd (by decide) h)
            refine lv_iload_n hx hb dN_giveByte_110 rfl (lv_at hl 1 rfl) ?_
            refine lv_sipush (v := 255) hx hb dN_giveByte_111 (by decide) ?_
            refine lv_iand hx hb dN_giveByte_114 ?_
            exact tk_iret hx hb hr hlk hP hD hS dN_giveByte_115 (by unfold tkN_giveByte_r; rw [if_pos h1_, if_neg h2_, if_neg h8_, if_pos h9_]) (tk_ewN (by unfold tkN_giveByte_s; rw [if_pos h1_, if_neg h8_, if_pos h9_, if_pos h10_]))
        · refine lv_iconst (v := 1) hx hb dN_giveByte_55 (by decide) ?_
          refine lv_goto (tgt := 60) hx hb dN_giveByte_56 (by decide) ?_
          refine lv_istore_n hx hb dN_giveByte_60 rfl hl (by decide) rfl (fun ls hl => ?_)
          have hl : lv_has ls 3 [(2, .int 1), (1, .int (c 12)), (0, .ref h0)] := hl
          refine lv_aload_n hx hb dN_giveByte_61 rfl (lv_at hl 2 rfl) ?_
          refine va_get (D := D) (ci := 1) (v := .int (c 3)) (C := RN) (T := TN) (N := 14) hx hb hw inN hown hK hP 0 rfl rfl 3 (by decide) f25 (fun _ h9 => h9) rfl dN_giveByte_62 ?_
          refine lv_iconst (v := 3) hx hb dN_giveByte_65 (by decide) ?_
          refine lv_icmp_ne (tgt := 82) hx hb dN_giveByte_66 (by decide) (fun (h12_ : ¬ (c 3 = 3)) => ?_) (fun (h12_ : c 3 = 3) => ?_)
          · refine lv_iload_n hx hb dN_giveByte_82 rfl (lv_at hl 0 rfl) ?_
            refine lv_if_ne (tgt := 94) hx hb dN_giveByte_83 (by decide) (fun _ => ?_) (fun h => absurd h (by decide))
            refine lv_aload_n hx hb dN_giveByte_94 rfl (lv_at hl 2 rfl) ?_
            refine lv_iconst (v := -1) hx hb dN_giveByte_95 (by decide) ?_
            refine va_put (D := D) (ci := 1) (v := .int (-1)) (ty := .int) (C := RN) (T := TN) (N := 14) hx hb hw inN tyN tyN_ok nmN hown hK hP hD hS 0 rfl rfl 12 (by decide) f19 (fun _ h9 => h9) rfl (tyN_ok 12 (by decide)) rfl rfl (Nat.le_of_ble_eq_true rfl) dN_giveByte_96 (fun H locs hP hD hS => ?_)
            have hP : va_P D vwCl [(h0, .inr (1, FN (tk_up c 12 (-1))))] H := hP
            have hD : va_D A [(h0, .inr (1, FN (tk_up c 12 (-1))))] := hD
            refine lv_iload_n hx hb dN_giveByte_99 rfl (lv_at hl 0 rfl) ?_
            refine lv_if_eq (tgt := 110) hx hb dN_giveByte_100 (by decide) (fun h => absurd h (by decide)) (fun _ => ?_)
            refine lv_iload_n hx hb dN_giveByte_103 rfl (lv_at hl 1 rfl) ?_
            refine lv_bipush (v := 8) hx hb dN_giveByte_104 (by decide) ?_
            refine lv_ishr hx hb dN_giveByte_106 ?_
            refine lv_goto (tgt := 115) hx hb dN_giveByte_107 (by decide) ?_
            exact tk_iret hx hb hr hlk hP hD hS dN_giveByte_115 (by unfold tkN_giveByte_r; rw [if_pos h1_, if_neg h2_, if_neg h8_, if_neg h9_]) (tk_ewN (by unfold tkN_giveByte_s; rw [if_pos h1_, if_neg h8_, if_neg h9_, if_neg h12_]))
          · refine lv_aload_n hx hb dN_giveByte_69 rfl (lv_at hl 2 rfl) ?_
            refine lv_iload_n hx hb dN_giveByte_70 rfl (lv_at hl 0 rfl) ?_
            refine lv_if_ne (tgt := 78) hx hb dN_giveByte_71 (by decide) (fun _ => ?_) (fun h => absurd h (by decide))
            refine lv_iconst (v := 0) hx hb dN_giveByte_78 (by decide) ?_
            refine va_put (D := D) (ci := 1) (v := .int 0) (ty := .boolean) (C := RN) (T := TN) (N := 14) hx hb hw inN tyN tyN_ok nmN hown hK hP hD hS 0 rfl rfl 11 (by decide) f43 (fun _ h9 => h9) rfl (tyN_ok 11 (by decide)) rfl rfl (Nat.le_of_ble_eq_true rfl) dN_giveByte_79 (fun H locs hP hD hS => ?_)
            have hP : va_P D vwCl [(h0, .inr (1, FN (tk_up c 11 0)))] H := hP
            have hD : va_D A [(h0, .inr (1, FN (tk_up c 11 0)))] := hD
            refine lv_iload_n hx hb dN_giveByte_82 rfl (lv_at hl 0 rfl) ?_
            refine lv_if_ne (tgt := 94) hx hb dN_giveByte_83 (by decide) (fun _ => ?_) (fun h => absurd h (by decide))
            refine lv_aload_n hx hb dN_giveByte_94 rfl (lv_at hl 2 rfl) ?_
            refine lv_iconst (v := -1) hx hb dN_giveByte_95 (by decide) ?_
            refine va_put (D := D) (ci := 1) (v := .int (-1)) (ty := .int) (C := RN) (T := TN) (N := 14) hx hb hw inN tyN tyN_ok nmN hown hK hP hD hS 0 rfl rfl 12 (by decide) f19 (fun _ h9 => h9) rfl (tyN_ok 12 (by decide)) rfl rfl (Nat.le_of_ble_eq_true rfl) dN_giveByte_96 (fun H locs hP hD hS => ?_)
            have hP : va_P D vwCl [(h0, .inr (1, FN (tk_up (tk_up c 11 0) 12 (-1))))] H := hP
            have hD : va_D A [(h0, .inr (1, FN (tk_up (tk_up c 11 0) 12 (-1))))] := hD
            refine lv_iload_n hx hb dN_giveByte_99 rfl (lv_at hl 0 rfl) ?_
            refine lv_if_eq (tgt := 110) hx hb dN_giveByte_100 (by decide) (fun h => absurd h (by decide)) (fun _ => ?_)
            refine lv_iload_n hx hb dN_giveByte_103 rfl (lv_at hl 1 rfl) ?_
            refine lv_bipush (v := 8) hx hb dN_giveByte_104 (by decide) ?_
            refine lv_ishr hx hb dN_giveByte_106 ?_
            refine lv_goto (tgt := 115) hx hb dN_giveByte_107 (by decide) ?_
            exact tk_iret hx hb hr hlk hP hD hS dN_giveByte_115 (by unfold tkN_giveByte_r; rw [if_pos h1_, if_neg h2_, if_neg h8_, if_neg h9_]) (tk_ewN (by unfold tkN_giveByte_s; rw [if_pos h1_, if_neg h8_, if_neg h9_, if_pos h12_]))
  · refine lv_aload_n hx hb dN_giveByte_8 rfl (lv_at hl 0 rfl) ?_
    refine va_get (D := D) (ci := 1) (v := .int (c 13)) (C := RN) (T := TN) (N := 14) hx hb hw inN hown hK hP 0 rfl rfl 13 (by decide) f22 (fun _ h9 => h9) rfl dN_giveByte_9 ?_
    refine lv_istore_n hx hb dN_giveByte_12 rfl hl (by decide) rfl (fun ls hl => ?_)
    have hl : lv_has ls 3 [(1, .int (c 13)), (0, .ref h0)] := hl
    refine lv_aload_n hx hb dN_giveByte_13 rfl (lv_at hl 1 rfl) ?_
    refine lv_iconst (v := -1) hx hb dN_giveByte_14 (by decide) ?_
    refine va_put (D := D) (ci := 1) (v := .int (-1)) (ty := .int) (C := RN) (T := TN) (N := 14) hx hb hw inN tyN tyN_ok nmN hown hK hP hD hS 0 rfl rfl 13 (by decide) f22 (fun _ h9 => h9) rfl (tyN_ok 13 (by decide)) rfl rfl (Nat.le_of_ble_eq_true rfl) dN_giveByte_15 (fun H locs hP hD hS => ?_)
    have hP : va_P D vwCl [(h0, .inr (1, FN (tk_up c 13 (-1))))] H := hP
    have hD : va_D A [(h0, .inr (1, FN (tk_up c 13 (-1))))] := hD
    refine lv_iload_n hx hb dN_giveByte_18 rfl (lv_at hl 0 rfl) ?_
    exact tk_iret hx hb hr hlk hP hD hS dN_giveByte_19 (by unfold tkN_giveByte_r; rw [if_neg h1_]) (tk_ewN (by unfold tkN_giveByte_s; rw [if_neg h1_]))
def tkN_gateLoads_r (c : Nat → Int32) : Int32 :=
  if c 2 = 1 then 1
  else if c 2 = 5 then 1
    else if tkN_isPeriodic_r c = 0 then 0
      else 1
set_option maxHeartbeats 1000000 in
set_option maxRecDepth 100000 in
theorem kN_gateLoads (l : Launch) (D : va_G) (h0 : Nat) (c : Nat → Int32) : tk_M l yN_gateLoads wsN_gateLoads { frames := 1, cells := 0, slots := 0, locals := 20 } D [] [.ref h0] [(h0, .inr (1, FN c))] [(h0, .inr (1, FN c))] (some (.int (tkN_gateLoads_r c))) := by
  refine tk_M.of (cc := cN_gateLoads) (maxL := 1) (ret := (some .boolean)) (by decide) rfl (Nat.le_of_ble_eq_true rfl) ?_
  intro p e s m below meth co A H locs ls hB hK hN hA hP hD hS hl
  obtain ⟨hx, hb, hr, hml, hown, hlk, hnm, hts⟩ := hB
  have hown : s.vm.findClass RN = some m.cls := hown
  have hl : lv_has ls 1 [(0, .ref h0)] := hl
  have hw : ∀ w ∈ tkW, w.before _ s = true := fun w h => hts w (List.mem_cons_of_mem _ h)
  have f15 := hw _ wF_N_15
  refine lv_aload_n hx hb dN_gateLoads_0 rfl (lv_at hl 0 rfl) ?_
  refine va_get (D := D) (ci := 1) (v := .int (c 2)) (C := RN) (T := TN) (N := 14) hx hb hw inN hown hK hP 0 rfl rfl 2 (by decide) f15 (fun _ h9 => h9) rfl dN_gateLoads_1 ?_
  refine lv_iconst (v := 1) hx hb dN_gateLoads_4 (by decide) ?_
  refine lv_icmp_eq (tgt := 23) hx hb dN_gateLoads_5 (by decide) (fun (h1_ : c 2 = 1) => ?_) (fun (h1_ : ¬ (c 2 = 1)) => ?_)
  · refine lv_iconst (v := 1) hx hb dN_gateLoads_23 (by decide) ?_
    refine lv_goto (tgt := 28) hx hb dN_gateLoads_24 (by decide) ?_
    exact tk_zret hx hb hr hlk hP hD hS dN_gateLoads_28 rfl (by unfold tkN_gateLoads_r; rw [if_pos h1_]) rfl
  · refine lv_aload_n hx hb dN_gateLoads_8 rfl (lv_at hl 0 rfl) ?_
    refine va_get (D := D) (ci := 1) (v := .int (c 2)) (C := RN) (T := TN) (N := 14) hx hb hw inN hown hK hP 0 rfl rfl 2 (by decide) f15 (fun _ h9 => h9) rfl dN_gateLoads_9 ?_
    refine lv_iconst (v := 5) hx hb dN_gateLoads_12 (by decide) ?_
    refine lv_icmp_eq (tgt := 23) hx hb dN_gateLoads_13 (by decide) (fun (h2_ : c 2 = 5) => ?_) (fun (h2_ : ¬ (c 2 = 5)) => ?_)
    · refine lv_iconst (v := 1) hx hb dN_gateLoads_23 (by decide) ?_
      refine lv_goto (tgt := 28) hx hb dN_gateLoads_24 (by decide) ?_
      exact tk_zret hx hb hr hlk hP hD hS dN_gateLoads_28 rfl (by unfold tkN_gateLoads_r; rw [if_neg h1_, if_pos h2_]) rfl
    · refine lv_aload_n hx hb dN_gateLoads_16 rfl (lv_at hl 0 rfl) ?_
      refine tk_callA hD hS hA (va_runV (As := []) (rest := []) ⟨hx, hb, hml, hown, hw⟩ (kN_isPeriodic l D h0 c H.size) (cwV 0 hw (tk_gV tkW_good wM_N_73 wI_N_isPeriodic wS_N_isPeriodic wZ_N wC_N_isPeriodic) rfl rfl rfl (by decide +kernel) ⟨Nat.le_of_ble_eq_true rfl, Nat.le_of_ble_eq_true rfl⟩) (tk_preV (q0 := 0) hK hN hP hD [0] [] rfl rfl rfl rfl rfl) rfl rfl hl.1 rfl (lv_room (Nat.le_of_ble_eq_true rfl)) dN_gateLoads_17 ⟨Nat.zero_le _, Nat.zero_le _⟩) (fun H locs hP hD hS => ?_)
      refine W.eq (g2 := F0 m 20 ls [.int (tkN_isPeriodic_r c)]) rfl ?_
      refine lv_if_eq (tgt := 27) hx hb dN_gateLoads_20 (by decide) (fun (h3_ : tkN_isPeriodic_r c = 0) => ?_) (fun (h3_ : ¬ (tkN_isPeriodic_r c = 0)) => ?_)
      · refine lv_iconst (v := 0) hx hb dN_gateLoads_27 (by decide) ?_
        exact tk_zret hx hb hr hlk hP hD hS dN_gateLoads_28 rfl (by unfold tkN_gateLoads_r; rw [if_neg h1_, if_neg h2_, if_pos h3_]) rfl
      · refine lv_iconst (v := 1) hx hb dN_gateLoads_23 (by decide) ?_
        refine lv_goto (tgt := 28) hx hb dN_gateLoads_24 (by decide) ?_
        exact tk_zret hx hb hr hlk hP hD hS dN_gateLoads_28 rfl (by unfold tkN_gateLoads_r; rw [if_neg h1_, if_neg h2_, if_neg h3_]) rfl
def tkN_setGate_s (c : Nat → Int32) (x0 : Int32) : Nat → Int32 :=
  if x0 = 0 then (if c 0 = 0 then tk_up c 0 x0
    else if tkN_isPeriodic_r (tk_up c 0 x0) = 0 then tk_up c 0 x0
      else tk_up (tk_up c 0 x0) 1 1)
  else if c 0 = 0 then (if tkN_isEmpty_r (tk_up c 0 x0) = 0 then (if tkN_gateLoads_r (tk_up c 0 x0) = 0 then tk_up c 0 x0
        else tk_up (tk_up c 0 x0) 7 1)
      else tk_up c 0 x0)
    else tk_up c 0 x0
set_option maxHeartbeats 1000000 in
set_option maxRecDepth 100000 in
theorem kN_setGate (l : Launch) (D : va_G) (h0 : Nat) (c : Nat → Int32) (x0 : Int32) (hb0 : x0 = 0 ∨ x0 = 1) : tk_M l yN_setGate wsN_setGate { frames := 2, cells := 0, slots := 0, locals := 40 } D [] [.ref h0, .int x0] [(h0, .inr (1, FN c))] [(h0, .inr (1, FN (tkN_setGate_s c x0)))] none := by
  refine tk_M.of (cc := cN_setGate) (maxL := 4) (ret := none) (by decide) rfl (Nat.le_of_ble_eq_true rfl) ?_
  intro p e s m below meth co A H locs ls hB hK hN hA hP hD hS hl
  obtain ⟨hx, hb, hr, hml, hown, hlk, hnm, hts⟩ := hB
  have hown : s.vm.findClass RN = some m.cls := hown
  have hl : lv_has ls 4 [(0, .ref h0), (1, .int x0)] := hl
  have hw : ∀ w ∈ tkW, w.before _ s = true := fun w h => hts w (List.mem_cons_of_mem _ h)
  have f9 := hw _ wF_N_9
  have f46 := hw _ wF_N_46
  have f34 := hw _ wF_N_34
  refine lv_iload_n hx hb dN_setGate_0 rfl (lv_at hl 1 rfl) ?_
  refine lv_if_eq (tgt := 15) hx hb dN_setGate_1 (by decide) (fun (h1_ : x0 = 0) => ?_) (fun (h1_ : ¬ (x0 = 0)) => ?_)
  · refine lv_iconst (v := 0) hx hb dN_setGate_15 (by decide) ?_
    refine lv_istore_n hx hb dN_setGate_16 rfl hl (by decide) rfl (fun ls hl => ?_)
    have hl : lv_has ls 4 [(2, .int 0), (0, .ref h0), (1, .int x0)] := hl
    refine lv_iload_n hx hb dN_setGate_17 rfl (lv_at hl 2 rfl) ?_
    refine lv_if_ne (tgt := 32) hx hb dN_setGate_18 (by decide) (fun h => absurd h1_ h) (fun _ => ?_)
    refine lv_aload_n hx hb dN_setGate_21 rfl (lv_at hl 1 rfl) ?_
    refine va_get (D := D) (ci := 1) (v := .int (c 0)) (C := RN) (T := TN) (N := 14) hx hb hw inN hown hK hP 0 rfl rfl 0 (by decide) f9 (fun _ h9 => h9) rfl dN_setGate_22 ?_
    refine lv_if_eq (tgt := 32) hx hb dN_setGate_25 (by decide) (fun (h2_ : c 0 = 0) => ?_) (fun (h2_ : ¬ (c 0 = 0)) => ?_)
    · refine lv_iconst (v := 0) hx hb dN_setGate_32 (by decide) ?_
      refine lv_istore_n hx hb dN_setGate_33 rfl hl (by decide) rfl (fun ls hl => ?_)
      have hl : lv_has ls 4 [(3, .int 0), (2, .int 0), (0, .ref h0), (1, .int x0)] := hl
      refine lv_aload_n hx hb dN_setGate_34 rfl (lv_at hl 2 rfl) ?_
      refine lv_iload_n hx hb dN_setGate_35 rfl (lv_at hl 3 rfl) ?_
      refine va_put (D := D) (ci := 1) (v := .int x0) (ty := .boolean) (C := RN) (T := TN) (N := 14) hx hb hw inN tyN tyN_ok nmN hown hK hP hD hS 0 rfl rfl 0 (by decide) f9 (fun _ h9 => h9) rfl (tyN_ok 0 (by decide)) (tk_nb hb0) (tk_fb hb0) (Nat.le_of_ble_eq_true rfl) dN_setGate_36 (fun H locs hP hD hS => ?_)
      have hP : va_P D vwCl [(h0, .inr (1, FN (tk_up c 0 x0)))] H := hP
      have hD : va_D A [(h0, .inr (1, FN (tk_up c 0 x0)))] := hD
      refine lv_iload_n hx hb dN_setGate_39 rfl (lv_at hl 1 rfl) ?_
      refine lv_if_eq (tgt := 62) hx hb dN_setGate_40 (by decide) (fun _ => ?_) (fun h => absurd (by decide) h)
      refine lv_iload_n hx hb dN_setGate_62 rfl (lv_at hl 0 rfl) ?_
      refine lv_if_eq (tgt := 78) hx hb dN_setGate_63 (by decide) (fun _ => ?_) (fun h => absurd (by decide) h)
      exact tk_vret hx hb hr hlk hP hD hS dN_setGate_78 (tk_ewN (by unfold tkN_setGate_s; rw [if_pos h1_, if_pos h2_]))
    · refine lv_iconst (v := 1) hx hb dN_setGate_28 (by decide) ?_
      refine lv_goto (tgt := 33) hx hb dN_setGate_29 (by decide) ?_
      refine lv_istore_n hx hb dN_setGate_33 rfl hl (by decide) rfl (fun ls hl => ?_)
      have hl : lv_has ls 4 [(3, .int 1), (2, .int 0), (0, .ref h0), (1, .int x0)] := hl
      refine lv_aload_n hx hb dN_setGate_34 rfl (lv_at hl 2 rfl) ?_
      refine lv_iload_n hx hb dN_setGate_35 rfl (lv_at hl 3 rfl) ?_
      refine va_put (D := D) (ci := 1) (v := .int x0) (ty := .boolean) (C := RN) (T := TN) (N := 14) hx hb hw inN tyN tyN_ok nmN hown hK hP hD hS 0 rfl rfl 0 (by decide) f9 (fun _ h9 => h9) rfl (tyN_ok 0 (by decide)) (tk_nb hb0) (tk_fb hb0) (Nat.le_of_ble_eq_true rfl) dN_setGate_36 (fun H locs hP hD hS => ?_)
      have hP : va_P D vwCl [(h0, .inr (1, FN (tk_up c 0 x0)))] H := hP
      have hD : va_D A [(h0, .inr (1, FN (tk_up c 0 x0)))] := hD
      refine lv_iload_n hx hb dN_setGate_39 rfl (lv_at hl 1 rfl) ?_
      refine lv_if_eq (tgt := 62) hx hb dN_setGate_40 (by decide) (fun _ => ?_) (fun h => absurd (by decide) h)
      refine lv_iload_n hx hb dN_setGate_62 rfl (lv_at hl 0 rfl) ?_
      refine lv_if_eq (tgt := 78) hx hb dN_setGate_63 (by decide) (fun h => absurd h (by decide)) (fun _ => ?_)
      refine lv_aload_n hx hb dN_setGate_66 rfl (lv_at hl 2 rfl) ?_
      refine tk_callA hD hS hA (va_runV (As := []) (rest := []) ⟨hx, hb, hml, hown, hw⟩ (kN_isPeriodic l D h0 (tk_up c 0 x0) H.size) (cwV 0 hw (tk_gV tkW_good wM_N_73 wI_N_isPeriodic wS_N_isPeriodic wZ_N wC_N_isPeriodic) rfl rfl rfl (by decide +kernel) ⟨Nat.le_of_ble_eq_true rfl, Nat.le_of_ble_eq_true rfl⟩) (tk_preV (q0 := 0) hK hN hP hD [0] [] rfl rfl rfl rfl rfl) rfl rfl hl.1 rfl (lv_room (Nat.le_of_ble_eq_true rfl)) dN_setGate_67 ⟨Nat.zero_le _, Nat.zero_le _⟩) (fun H locs hP hD hS => ?_)
      refine W.eq (g2 := F0 m 70 ls [.int (tkN_isPeriodic_r (tk_up c 0 x0))]) rfl ?_
      refine lv_if_eq (tgt := 78) hx hb dN_setGate_70 (by decide) (fun (h3_ : tkN_isPeriodic_r (tk_up c 0 x0) = 0) => ?_) (fun (h3_ : ¬ (tkN_isPeriodic_r (tk_up c 0 x0) = 0)) => ?_)
      · exact tk_vret hx hb hr hlk hP hD hS dN_setGate_78 (tk_ewN (by unfold tkN_setGate_s; rw [if_pos h1_, if_neg h2_, if_pos h3_]))
      · refine lv_aload_n hx hb dN_setGate_73 rfl (lv_at hl 2 rfl) ?_
        refine lv_iconst (v := 1) hx hb dN_setGate_74 (by decide) ?_
        refine va_put (D := D) (ci := 1) (v := .int 1) (ty := .boolean) (C := RN) (T := TN) (N := 14) hx hb hw inN tyN tyN_ok nmN hown hK hP hD hS 0 rfl rfl 1 (by decide) f46 (fun _ h9 => h9) rfl (tyN_ok 1 (by decide)) rfl rfl (Nat.le_of_ble_eq_true rfl) dN_setGate_75 (fun H locs hP hD hS => ?_)
        have hP : va_P D vwCl [(h0, .inr (1, FN (tk_up (tk_up c 0 x0) 1 1)))] H := hP
        have hD : va_D A [(h0, .inr (1, FN (tk_up (tk_up c 0 x0) 1 1)))] := hD
        exact tk_vret hx hb hr hlk hP hD hS dN_setGate_78 (tk_ewN (by unfold tkN_setGate_s; rw [if_pos h1_, if_neg h2_, if_neg h3_]))
  · refine lv_aload_n hx hb dN_setGate_4 rfl (lv_at hl 0 rfl) ?_
    refine va_get (D := D) (ci := 1) (v := .int (c 0)) (C := RN) (T := TN) (N := 14) hx hb hw inN hown hK hP 0 rfl rfl 0 (by decide) f9 (fun _ h9 => h9) rfl dN_setGate_5 ?_
    refine lv_if_ne (tgt := 15) hx hb dN_setGate_8 (by decide) (fun (h4_ : ¬ (c 0 = 0)) => ?_) (fun (h4_ : c 0 = 0) => ?_)
    · refine lv_iconst (v := 0) hx hb dN_setGate_15 (by decide) ?_
      refine lv_istore_n hx hb dN_setGate_16 rfl hl (by decide) rfl (fun ls hl => ?_)
      have hl : lv_has ls 4 [(2, .int 0), (0, .ref h0), (1, .int x0)] := hl
      refine lv_iload_n hx hb dN_setGate_17 rfl (lv_at hl 2 rfl) ?_
      refine lv_if_ne (tgt := 32) hx hb dN_setGate_18 (by decide) (fun _ => ?_) (fun h => absurd h h1_)
      refine lv_iconst (v := 0) hx hb dN_setGate_32 (by decide) ?_
      refine lv_istore_n hx hb dN_setGate_33 rfl hl (by decide) rfl (fun ls hl => ?_)
      have hl : lv_has ls 4 [(3, .int 0), (2, .int 0), (0, .ref h0), (1, .int x0)] := hl
      refine lv_aload_n hx hb dN_setGate_34 rfl (lv_at hl 2 rfl) ?_
      refine lv_iload_n hx hb dN_setGate_35 rfl (lv_at hl 3 rfl) ?_
      refine va_put (D := D) (ci := 1) (v := .int x0) (ty := .boolean) (C := RN) (T := TN) (N := 14) hx hb hw inN tyN tyN_ok nmN hown hK hP hD hS 0 rfl rfl 0 (by decide) f9 (fun _ h9 => h9) rfl (tyN_ok 0 (by decide)) (tk_nb hb0) (tk_fb hb0) (Nat.le_of_ble_eq_true rfl) dN_setGate_36 (fun H locs hP hD hS => ?_)
      have hP : va_P D vwCl [(h0, .inr (1, FN (tk_up c 0 x0)))] H := hP
      have hD : va_D A [(h0, .inr (1, FN (tk_up c 0 x0)))] := hD
      refine lv_iload_n hx hb dN_setGate_39 rfl (lv_at hl 1 rfl) ?_
      refine lv_if_eq (tgt := 62) hx hb dN_setGate_40 (by decide) (fun _ => ?_) (fun h => absurd (by decide) h)
      refine lv_iload_n hx hb dN_setGate_62 rfl (lv_at hl 0 rfl) ?_
      refine lv_if_eq (tgt := 78) hx hb dN_setGate_63 (by decide) (fun _ => ?_) (fun h => absurd (by decide) h)
      exact tk_vret hx hb hr hlk hP hD hS dN_setGate_78 (tk_ewN (by unfold tkN_setGate_s; rw [if_neg h1_, if_neg h4_]))
    · refine lv_iconst (v := 1) hx hb dN_setGate_11 (by decide) ?_
      refine lv_goto (tgt := 16) hx hb dN_setGate_12 (by decide) ?_
      refine lv_istore_n hx hb dN_setGate_16 rfl hl (by decide) rfl (fun ls hl => ?_)
      have hl : lv_has ls 4 [(2, .int 1), (0, .ref h0), (1, .int x0)] := hl
      refine lv_iload_n hx hb dN_setGate_17 rfl (lv_at hl 2 rfl) ?_
      refine lv_if_ne (tgt := 32) hx hb dN_setGate_18 (by decide) (fun _ => ?_) (fun h => absurd h h1_)
      refine lv_iconst (v := 0) hx hb dN_setGate_32 (by decide) ?_
      refine lv_istore_n hx hb dN_setGate_33 rfl hl (by decide) rfl (fun ls hl => ?_)
      have hl : lv_has ls 4 [(3, .int 0), (2, .int 1), (0, .ref h0), (1, .int x0)] := hl
      refine lv_aload_n hx hb dN_setGate_34 rfl (lv_at hl 2 rfl) ?_
      refine lv_iload_n hx hb dN_setGate_35 rfl (lv_at hl 3 rfl) ?_
      refine va_put (D := D) (ci := 1) (v := .int x0) (ty := .boolean) (C := RN) (T := TN) (N := 14) hx hb hw inN tyN tyN_ok nmN hown hK hP hD hS 0 rfl rfl 0 (by decide) f9 (fun _ h9 => h9) rfl (tyN_ok 0 (by decide)) (tk_nb hb0) (tk_fb hb0) (Nat.le_of_ble_eq_true rfl) dN_setGate_36 (fun H locs hP hD hS => ?_)
      have hP : va_P D vwCl [(h0, .inr (1, FN (tk_up c 0 x0)))] H := hP
      have hD : va_D A [(h0, .inr (1, FN (tk_up c 0 x0)))] := hD
      refine lv_iload_n hx hb dN_setGate_39 rfl (lv_at hl 1 rfl) ?_
      refine lv_if_eq (tgt := 62) hx hb dN_setGate_40 (by decide) (fun h => absurd h (by decide)) (fun _ => ?_)
      refine lv_aload_n hx hb dN_setGate_43 rfl (lv_at hl 2 rfl) ?_
      refine tk_callA hD hS hA (va_runV (As := []) (rest := []) ⟨hx, hb, hml, hown, hw⟩ (kN_isEmpty l D h0 (tk_up c 0 x0) H.size) (cwV 0 hw (tk_gV tkW_good wM_N_67 wI_N_isEmpty wS_N_isEmpty wZ_N wC_N_isEmpty) rfl rfl rfl (by decide +kernel) ⟨Nat.le_of_ble_eq_true rfl, Nat.le_of_ble_eq_true rfl⟩) (tk_preV (q0 := 0) hK hN hP hD [0] [] rfl rfl rfl rfl rfl) rfl rfl hl.1 rfl (lv_room (Nat.le_of_ble_eq_true rfl)) dN_setGate_44 ⟨Nat.zero_le _, Nat.zero_le _⟩) (fun H locs hP hD hS => ?_)
      refine W.eq (g2 := F0 m 47 ls [.int (tkN_isEmpty_r (tk_up c 0 x0))]) rfl ?_
      refine lv_if_ne (tgt := 62) hx hb dN_setGate_47 (by decide) (fun (h5_ : ¬ (tkN_isEmpty_r (tk_up c 0 x0) = 0)) => ?_) (fun (h5_ : tkN_isEmpty_r (tk_up c 0 x0) = 0) => ?_)
      · refine lv_iload_n hx hb dN_setGate_62 rfl (lv_at hl 0 rfl) ?_
        refine lv_if_eq (tgt := 78) hx hb dN_setGate_63 (by decide) (fun _ => ?_) (fun h => absurd (by decide) h)
        exact tk_vret hx hb hr hlk hP hD hS dN_setGate_78 (tk_ewN (by unfold tkN_setGate_s; rw [if_neg h1_, if_pos h4_, if_neg h5_]))
      · refine lv_aload_n hx hb dN_setGate_50 rfl (lv_at hl 2 rfl) ?_
        refine tk_callA hD hS hA (va_runV (As := []) (rest := []) ⟨hx, hb, hml, hown, hw⟩ (kN_gateLoads l D h0 (tk_up c 0 x0) H.size) (cwV 0 hw (tk_gV tkW_good wM_N_70 wI_N_gateLoads wS_N_gateLoads wZ_N wC_N_gateLoads) rfl rfl rfl (by decide +kernel) ⟨Nat.le_of_ble_eq_true rfl, Nat.le_of_ble_eq_true rfl⟩) (tk_preV (q0 := 0) hK hN hP hD [0] [] rfl rfl rfl rfl rfl) rfl rfl hl.1 rfl (lv_room (Nat.le_of_ble_eq_true rfl)) dN_setGate_51 ⟨Nat.zero_le _, Nat.zero_le _⟩) (fun H locs hP hD hS => ?_)
        refine W.eq (g2 := F0 m 54 ls [.int (tkN_gateLoads_r (tk_up c 0 x0))]) rfl ?_
        refine lv_if_eq (tgt := 62) hx hb dN_setGate_54 (by decide) (fun (h6_ : tkN_gateLoads_r (tk_up c 0 x0) = 0) => ?_) (fun (h6_ : ¬ (tkN_gateLoads_r (tk_up c 0 x0) = 0)) => ?_)
        · refine lv_iload_n hx hb dN_setGate_62 rfl (lv_at hl 0 rfl) ?_
          refine lv_if_eq (tgt := 78) hx hb dN_setGate_63 (by decide) (fun _ => ?_) (fun h => absurd (by decide) h)
          exact tk_vret hx hb hr hlk hP hD hS dN_setGate_78 (tk_ewN (by unfold tkN_setGate_s; rw [if_neg h1_, if_pos h4_, if_pos h5_, if_pos h6_]))
        · refine lv_aload_n hx hb dN_setGate_57 rfl (lv_at hl 2 rfl) ?_
          refine lv_iconst (v := 1) hx hb dN_setGate_58 (by decide) ?_
          refine va_put (D := D) (ci := 1) (v := .int 1) (ty := .boolean) (C := RN) (T := TN) (N := 14) hx hb hw inN tyN tyN_ok nmN hown hK hP hD hS 0 rfl rfl 7 (by decide) f34 (fun _ h9 => h9) rfl (tyN_ok 7 (by decide)) rfl rfl (Nat.le_of_ble_eq_true rfl) dN_setGate_59 (fun H locs hP hD hS => ?_)
          have hP : va_P D vwCl [(h0, .inr (1, FN (tk_up (tk_up c 0 x0) 7 1)))] H := hP
          have hD : va_D A [(h0, .inr (1, FN (tk_up (tk_up c 0 x0) 7 1)))] := hD
          refine lv_iload_n hx hb dN_setGate_62 rfl (lv_at hl 0 rfl) ?_
          refine lv_if_eq (tgt := 78) hx hb dN_setGate_63 (by decide) (fun _ => ?_) (fun h => absurd (by decide) h)
          exact tk_vret hx hb hr hlk hP hD hS dN_setGate_78 (tk_ewN (by unfold tkN_setGate_s; rw [if_neg h1_, if_pos h4_, if_pos h5_, if_neg h6_]))
def tkN_standsBetweenBytes_r (c : Nat → Int32) : Int32 :=
  if c 2 = 0 then (if c 10 = 0 then 0
    else 1)
  else 0
set_option maxHeartbeats 1000000 in
set_option maxRecDepth 100000 in
theorem kN_standsBetweenBytes (l : Launch) (D : va_G) (h0 : Nat) (c : Nat → Int32) : tk_M l yN_standsBetweenBytes wsN_standsBetweenBytes { frames := 0, cells := 0, slots := 0, locals := 0 } D [] [.ref h0] [(h0, .inr (1, FN c))] [(h0, .inr (1, FN c))] (some (.int (tkN_standsBetweenBytes_r c))) := by
  refine tk_M.of (cc := cN_standsBetweenBytes) (maxL := 1) (ret := (some .boolean)) (by decide) rfl (Nat.le_of_ble_eq_true rfl) ?_
  intro p e s m below meth co A H locs ls hB hK hN hA hP hD hS hl
  obtain ⟨hx, hb, hr, hml, hown, hlk, hnm, hts⟩ := hB
  have hown : s.vm.findClass RN = some m.cls := hown
  have hl : lv_has ls 1 [(0, .ref h0)] := hl
  have hw : ∀ w ∈ tkW, w.before _ s = true := fun w h => hts w (List.mem_cons_of_mem _ h)
  have f15 := hw _ wF_N_15
  have f40 := hw _ wF_N_40
  refine lv_aload_n hx hb dN_standsBetweenBytes_0 rfl (lv_at hl 0 rfl) ?_
  refine va_get (D := D) (ci := 1) (v := .int (c 2)) (C := RN) (T := TN) (N := 14) hx hb hw inN hown hK hP 0 rfl rfl 2 (by decide) f15 (fun _ h9 => h9) rfl dN_standsBetweenBytes_1 ?_
  refine lv_if_ne (tgt := 18) hx hb dN_standsBetweenBytes_4 (by decide) (fun (h1_ : ¬ (c 2 = 0)) => ?_) (fun (h1_ : c 2 = 0) => ?_)
  · refine lv_iconst (v := 0) hx hb dN_standsBetweenBytes_18 (by decide) ?_
    exact tk_zret hx hb hr hlk hP hD hS dN_standsBetweenBytes_19 rfl (by unfold tkN_standsBetweenBytes_r; rw [if_neg h1_]) rfl
  · refine lv_aload_n hx hb dN_standsBetweenBytes_7 rfl (lv_at hl 0 rfl) ?_
    refine va_get (D := D) (ci := 1) (v := .int (c 10)) (C := RN) (T := TN) (N := 14) hx hb hw inN hown hK hP 0 rfl rfl 10 (by decide) f40 (fun _ h9 => h9) rfl dN_standsBetweenBytes_8 ?_
    refine lv_if_eq (tgt := 18) hx hb dN_standsBetweenBytes_11 (by decide) (fun (h2_ : c 10 = 0) => ?_) (fun (h2_ : ¬ (c 10 = 0)) => ?_)
    · refine lv_iconst (v := 0) hx hb dN_standsBetweenBytes_18 (by decide) ?_
      exact tk_zret hx hb hr hlk hP hD hS dN_standsBetweenBytes_19 rfl (by unfold tkN_standsBetweenBytes_r; rw [if_pos h1_, if_pos h2_]) rfl
    · refine lv_iconst (v := 1) hx hb dN_standsBetweenBytes_14 (by decide) ?_
      refine lv_goto (tgt := 19) hx hb dN_standsBetweenBytes_15 (by decide) ?_
      exact tk_zret hx hb hr hlk hP hD hS dN_standsBetweenBytes_19 rfl (by unfold tkN_standsBetweenBytes_r; rw [if_pos h1_, if_neg h2_]) rfl
def tkN_partTicks_r (c : Nat → Int32) : Int32 :=
  if c 1 = 0 then (c 4) / 2
  else ((c 4) + 1) / 2
set_option maxHeartbeats 1000000 in
set_option maxRecDepth 100000 in
theorem kN_partTicks (l : Launch) (D : va_G) (h0 : Nat) (c : Nat → Int32) : tk_M l yN_partTicks wsN_partTicks { frames := 0, cells := 0, slots := 0, locals := 0 } D [] [.ref h0] [(h0, .inr (1, FN c))] [(h0, .inr (1, FN c))] (some (.int (tkN_partTicks_r c))) := by
  refine tk_M.of (cc := cN_partTicks) (maxL := 1) (ret := (some .int)) (by decide) rfl (Nat.le_of_ble_eq_true rfl) ?_
  intro p e s m below meth co A H locs ls hB hK hN hA hP hD hS hl
  obtain ⟨hx, hb, hr, hml, hown, hlk, hnm, hts⟩ := hB
  have hown : s.vm.findClass RN = some m.cls := hown
  have hl : lv_has ls 1 [(0, .ref h0)] := hl
  have hw : ∀ w ∈ tkW, w.before _ s = true := fun w h => hts w (List.mem_cons_of_mem _ h)
  have f46 := hw _ wF_N_46
  have f28 := hw _ wF_N_28
  refine lv_aload_n hx hb dN_partTicks_0 rfl (lv_at hl 0 rfl) ?_
  refine va_get (D := D) (ci := 1) (v := .int (c 1)) (C := RN) (T := TN) (N := 14) hx hb hw inN hown hK hP 0 rfl rfl 1 (by decide) f46 (fun _ h9 => h9) rfl dN_partTicks_1 ?_
  refine lv_if_eq (tgt := 18) hx hb dN_partTicks_4 (by decide) (fun (h1_ : c 1 = 0) => ?_) (fun (h1_ : ¬ (c 1 = 0)) => ?_)
  · refine lv_aload_n hx hb dN_partTicks_18 rfl (lv_at hl 0 rfl) ?_
    refine va_get (D := D) (ci := 1) (v := .int (c 4)) (C := RN) (T := TN) (N := 14) hx hb hw inN hown hK hP 0 rfl rfl 4 (by decide) f28 (fun _ h9 => h9) rfl dN_partTicks_19 ?_
    refine lv_iconst (v := 2) hx hb dN_partTicks_22 (by decide) ?_
    refine lv_idiv hx hb dN_partTicks_23 (by decide) ?_
    exact tk_iret hx hb hr hlk hP hD hS dN_partTicks_24 (by unfold tkN_partTicks_r; rw [if_pos h1_]) rfl
  · refine lv_aload_n hx hb dN_partTicks_7 rfl (lv_at hl 0 rfl) ?_
    refine va_get (D := D) (ci := 1) (v := .int (c 4)) (C := RN) (T := TN) (N := 14) hx hb hw inN hown hK hP 0 rfl rfl 4 (by decide) f28 (fun _ h9 => h9) rfl dN_partTicks_8 ?_
    refine lv_iconst (v := 1) hx hb dN_partTicks_11 (by decide) ?_
    refine lv_iadd hx hb dN_partTicks_12 ?_
    refine lv_iconst (v := 2) hx hb dN_partTicks_13 (by decide) ?_
    refine lv_idiv hx hb dN_partTicks_14 (by decide) ?_
    refine lv_goto (tgt := 24) hx hb dN_partTicks_15 (by decide) ?_
    exact tk_iret hx hb hr hlk hP hD hS dN_partTicks_24 (by unfold tkN_partTicks_r; rw [if_neg h1_]) rfl
def tkN_setCount_s (c : Nat → Int32) (x0 : Int32) : Nat → Int32 :=
  tk_up (tk_up c 5 (x0 &&& 65535)) 8 0
set_option maxHeartbeats 1000000 in
set_option maxRecDepth 100000 in
theorem kN_setCount (l : Launch) (D : va_G) (h0 : Nat) (c : Nat → Int32) (x0 : Int32) : tk_M l yN_setCount wsN_setCount { frames := 0, cells := 0, slots := 0, locals := 0 } D [] [.ref h0, .int x0] [(h0, .inr (1, FN c))] [(h0, .inr (1, FN (tkN_setCount_s c x0)))] none := by
  refine tk_M.of (cc := cN_setCount) (maxL := 2) (ret := none) (by decide) rfl (Nat.le_of_ble_eq_true rfl) ?_
  intro p e s m below meth co A H locs ls hB hK hN hA hP hD hS hl
  obtain ⟨hx, hb, hr, hml, hown, hlk, hnm, hts⟩ := hB
  have hown : s.vm.findClass RN = some m.cls := hown
  have hl : lv_has ls 2 [(0, .ref h0), (1, .int x0)] := hl
  have hw : ∀ w ∈ tkW, w.before _ s = true := fun w h => hts w (List.mem_cons_of_mem _ h)
  have f53 := hw _ wF_N_53
  have f37 := hw _ wF_N_37
  refine lv_aload_n hx hb dN_setCount_0 rfl (lv_at hl 0 rfl) ?_
  refine lv_iload_n hx hb dN_setCount_1 rfl (lv_at hl 1 rfl) ?_
  refine lv_ldc (v := 65535) hx hb hown (hw _ wK_N_96) dN_setCount_2 ?_
  refine lv_iand hx hb dN_setCount_4 ?_
  refine va_put (D := D) (ci := 1) (v := .int (x0 &&& 65535)) (ty := .int) (C := RN) (T := TN) (N := 14) hx hb hw inN tyN tyN_ok nmN hown hK hP hD hS 0 rfl rfl 5 (by decide) f53 (fun _ h9 => h9) rfl (tyN_ok 5 (by decide)) rfl rfl (Nat.le_of_ble_eq_true rfl) dN_setCount_5 (fun H locs hP hD hS => ?_)
  have hP : va_P D vwCl [(h0, .inr (1, FN (tk_up c 5 (x0 &&& 65535))))] H := hP
  have hD : va_D A [(h0, .inr (1, FN (tk_up c 5 (x0 &&& 65535))))] := hD
  refine lv_aload_n hx hb dN_setCount_8 rfl (lv_at hl 0 rfl) ?_
  refine lv_iconst (v := 0) hx hb dN_setCount_9 (by decide) ?_
  refine va_put (D := D) (ci := 1) (v := .int 0) (ty := .boolean) (C := RN) (T := TN) (N := 14) hx hb hw inN tyN tyN_ok nmN hown hK hP hD hS 0 rfl rfl 8 (by decide) f37 (fun _ h9 => h9) rfl (tyN_ok 8 (by decide)) rfl rfl (Nat.le_of_ble_eq_true rfl) dN_setCount_10 (fun H locs hP hD hS => ?_)
  have hP : va_P D vwCl [(h0, .inr (1, FN (tk_up (tk_up c 5 (x0 &&& 65535)) 8 0)))] H := hP
  have hD : va_D A [(h0, .inr (1, FN (tk_up (tk_up c 5 (x0 &&& 65535)) 8 0)))] := hD
  exact tk_vret hx hb hr hlk hP hD hS dN_setCount_13 (tk_ewN rfl)
def tkN_load_s (c : Nat → Int32) : Nat → Int32 :=
  if c 2 = 1 then tkN_setCount_s (tk_up (tk_up (tk_up c 7 0) 6 1) 1 0) (c 4)
  else if tkN_isPeriodic_r (tk_up (tk_up c 7 0) 6 1) = 0 then (if c 2 = 3 then tkN_setCount_s (tk_up (tk_up c 7 0) 6 1) (2 * (tkN_partTicks_r (tk_up (tk_up c 7 0) 6 1)))
      else tkN_setCount_s (tk_up (tk_up c 7 0) 6 1) (c 4))
    else if c 2 = 3 then tkN_setCount_s (tk_up (tk_up (tk_up c 7 0) 6 1) 1 1) (2 * (tkN_partTicks_r (tk_up (tk_up (tk_up c 7 0) 6 1) 1 1)))
      else tkN_setCount_s (tk_up (tk_up (tk_up c 7 0) 6 1) 1 1) (c 4)
set_option maxHeartbeats 1000000 in
set_option maxRecDepth 100000 in
theorem kN_load (l : Launch) (D : va_G) (h0 : Nat) (c : Nat → Int32) : tk_M l yN_load wsN_load { frames := 1, cells := 0, slots := 0, locals := 21 } D [] [.ref h0] [(h0, .inr (1, FN c))] [(h0, .inr (1, FN (tkN_load_s c)))] none := by
  refine tk_M.of (cc := cN_load) (maxL := 1) (ret := none) (by decide) rfl (Nat.le_of_ble_eq_true rfl) ?_
  intro p e s m below meth co A H locs ls hB hK hN hA hP hD hS hl
  obtain ⟨hx, hb, hr, hml, hown, hlk, hnm, hts⟩ := hB
  have hown : s.vm.findClass RN = some m.cls := hown
  have hl : lv_has ls 1 [(0, .ref h0)] := hl
  have hw : ∀ w ∈ tkW, w.before _ s = true := fun w h => hts w (List.mem_cons_of_mem _ h)
  have f34 := hw _ wF_N_34
  have f31 := hw _ wF_N_31
  have f15 := hw _ wF_N_15
  have f28 := hw _ wF_N_28
  have f46 := hw _ wF_N_46
  refine lv_aload_n hx hb dN_load_0 rfl (lv_at hl 0 rfl) ?_
  refine lv_iconst (v := 0) hx hb dN_load_1 (by decide) ?_
  refine va_put (D := D) (ci := 1) (v := .int 0) (ty := .boolean) (C := RN) (T := TN) (N := 14) hx hb hw inN tyN tyN_ok nmN hown hK hP hD hS 0 rfl rfl 7 (by decide) f34 (fun _ h9 => h9) rfl (tyN_ok 7 (by decide)) rfl rfl (Nat.le_of_ble_eq_true rfl) dN_load_2 (fun H locs hP hD hS => ?_)
  have hP : va_P D vwCl [(h0, .inr (1, FN (tk_up c 7 0)))] H := hP
  have hD : va_D A [(h0, .inr (1, FN (tk_up c 7 0)))] := hD
  refine lv_aload_n hx hb dN_load_5 rfl (lv_at hl 0 rfl) ?_
  refine lv_iconst (v := 1) hx hb dN_load_6 (by decide) ?_
  refine va_put (D := D) (ci := 1) (v := .int 1) (ty := .boolean) (C := RN) (T := TN) (N := 14) hx hb hw inN tyN tyN_ok nmN hown hK hP hD hS 0 rfl rfl 6 (by decide) f31 (fun _ h9 => h9) rfl (tyN_ok 6 (by decide)) rfl rfl (Nat.le_of_ble_eq_true rfl) dN_load_7 (fun H locs hP hD hS => ?_)
  have hP : va_P D vwCl [(h0, .inr (1, FN (tk_up (tk_up c 7 0) 6 1)))] H := hP
  have hD : va_D A [(h0, .inr (1, FN (tk_up (tk_up c 7 0) 6 1)))] := hD
  refine lv_aload_n hx hb dN_load_10 rfl (lv_at hl 0 rfl) ?_
  refine va_get (D := D) (ci := 1) (v := .int (c 2)) (C := RN) (T := TN) (N := 14) hx hb hw inN hown hK hP 0 rfl rfl 2 (by decide) f15 (fun _ h9 => h9) rfl dN_load_11 ?_
  refine lv_iconst (v := 1) hx hb dN_load_14 (by decide) ?_
  refine lv_icmp_ne (tgt := 26) hx hb dN_load_15 (by decide) (fun (h1_ : ¬ (c 2 = 1)) => ?_) (fun (h1_ : c 2 = 1) => ?_)
  · refine lv_aload_n hx hb dN_load_26 rfl (lv_at hl 0 rfl) ?_
    refine tk_callA hD hS hA (va_runV (As := []) (rest := []) ⟨hx, hb, hml, hown, hw⟩ (kN_isPeriodic l D h0 (tk_up (tk_up c 7 0) 6 1) H.size) (cwV 0 hw (tk_gV tkW_good wM_N_73 wI_N_isPeriodic wS_N_isPeriodic wZ_N wC_N_isPeriodic) rfl rfl rfl (by decide +kernel) ⟨Nat.le_of_ble_eq_true rfl, Nat.le_of_ble_eq_true rfl⟩) (tk_preV (q0 := 0) hK hN hP hD [0] [] rfl rfl rfl rfl rfl) rfl rfl hl.1 rfl (lv_room (Nat.le_of_ble_eq_true rfl)) dN_load_27 ⟨Nat.zero_le _, Nat.zero_le _⟩) (fun H locs hP hD hS => ?_)
    refine W.eq (g2 := F0 m 30 ls [.int (tkN_isPeriodic_r (tk_up (tk_up c 7 0) 6 1))]) rfl ?_
    refine lv_if_eq (tgt := 38) hx hb dN_load_30 (by decide) (fun (h2_ : tkN_isPeriodic_r (tk_up (tk_up c 7 0) 6 1) = 0) => ?_) (fun (h2_ : ¬ (tkN_isPeriodic_r (tk_up (tk_up c 7 0) 6 1) = 0)) => ?_)
    · refine lv_aload_n hx hb dN_load_38 rfl (lv_at hl 0 rfl) ?_
      refine lv_aload_n hx hb dN_load_39 rfl (lv_at hl 0 rfl) ?_
      refine va_get (D := D) (ci := 1) (v := .int (c 2)) (C := RN) (T := TN) (N := 14) hx hb hw inN hown hK hP 0 rfl rfl 2 (by decide) f15 (fun _ h9 => h9) rfl dN_load_40 ?_
      refine lv_iconst (v := 3) hx hb dN_load_43 (by decide) ?_
      refine lv_icmp_ne (tgt := 56) hx hb dN_load_44 (by decide) (fun (h3_ : ¬ (c 2 = 3)) => ?_) (fun (h3_ : c 2 = 3) => ?_)
      · refine lv_aload_n hx hb dN_load_56 rfl (lv_at hl 0 rfl) ?_
        refine va_get (D := D) (ci := 1) (v := .int (c 4)) (C := RN) (T := TN) (N := 14) hx hb hw inN hown hK hP 0 rfl rfl 4 (by decide) f28 (fun _ h9 => h9) rfl dN_load_57 ?_
        refine tk_callA hD hS hA (va_runV (As := [.int (c 4)]) (rest := []) ⟨hx, hb, hml, hown, hw⟩ (kN_setCount l D h0 (tk_up (tk_up c 7 0) 6 1) (c 4) H.size) (cwV 1 hw (tk_gV tkW_good wM_N_93 wI_N_setCount wS_N_setCount wZ_N wC_N_setCount) rfl rfl rfl (by decide +kernel) ⟨Nat.le_of_ble_eq_true rfl, Nat.le_of_ble_eq_true rfl⟩) (tk_preV (q0 := 0) hK hN hP hD [0] [] rfl rfl rfl rfl rfl) rfl rfl hl.1 rfl (lv_room (Nat.le_of_ble_eq_true rfl)) dN_load_60 ⟨Nat.zero_le _, Nat.zero_le _⟩) (fun H locs hP hD hS => ?_)
        refine W.eq (g2 := F0 m 63 ls []) rfl ?_
        exact tk_vret hx hb hr hlk hP hD hS dN_load_63 (tk_ewN (by unfold tkN_load_s; rw [if_neg h1_, if_pos h2_, if_neg h3_]))
      · refine lv_iconst (v := 2) hx hb dN_load_47 (by decide) ?_
        refine lv_aload_n hx hb dN_load_48 rfl (lv_at hl 0 rfl) ?_
        refine tk_callA hD hS hA (va_runV (As := []) (rest := [.int 2, .ref h0]) ⟨hx, hb, hml, hown, hw⟩ (kN_partTicks l D h0 (tk_up (tk_up c 7 0) 6 1) H.size) (cwV 0 hw (tk_gV tkW_good wM_N_89 wI_N_partTicks wS_N_partTicks wZ_N wC_N_partTicks) rfl rfl rfl (by decide +kernel) ⟨Nat.le_of_ble_eq_true rfl, Nat.le_of_ble_eq_true rfl⟩) (tk_preV (q0 := 0) hK hN hP hD [0] [] rfl rfl rfl rfl rfl) rfl rfl hl.1 rfl (lv_room (Nat.le_of_ble_eq_true rfl)) dN_load_49 ⟨Nat.zero_le _, Nat.zero_le _⟩) (fun H locs hP hD hS => ?_)
        refine W.eq (g2 := F0 m 52 ls [.int (tkN_partTicks_r (tk_up (tk_up c 7 0) 6 1)), .int 2, .ref h0]) rfl ?_
        refine lv_imul hx hb dN_load_52 ?_
        refine lv_goto (tgt := 60) hx hb dN_load_53 (by decide) ?_
        refine tk_callA hD hS hA (va_runV (As := [.int (2 * (tkN_partTicks_r (tk_up (tk_up c 7 0) 6 1)))]) (rest := []) ⟨hx, hb, hml, hown, hw⟩ (kN_setCount l D h0 (tk_up (tk_up c 7 0) 6 1) (2 * (tkN_partTicks_r (tk_up (tk_up c 7 0) 6 1))) H.size) (cwV 1 hw (tk_gV tkW_good wM_N_93 wI_N_setCount wS_N_setCount wZ_N wC_N_setCount) rfl rfl rfl (by decide +kernel) ⟨Nat.le_of_ble_eq_true rfl, Nat.le_of_ble_eq_true rfl⟩) (tk_preV (q0 := 0) hK hN hP hD [0] [] rfl rfl rfl rfl rfl) rfl rfl hl.1 rfl (lv_room (Nat.le_of_ble_eq_true rfl)) dN_load_60 ⟨Nat.zero_le _, Nat.zero_le _⟩) (fun H locs hP hD hS => ?_)
        refine W.eq (g2 := F0 m 63 ls []) rfl ?_
        exact tk_vret hx hb hr hlk hP hD hS dN_load_63 (tk_ewN (by unfold tkN_load_s; rw [if_neg h1_, if_pos h2_, if_pos h3_]))
    · refine lv_aload_n hx hb dN_load_33 rfl (lv_at hl 0 rfl) ?_
      refine lv_iconst (v := 1) hx hb dN_load_34 (by decide) ?_
      refine va_put (D := D) (ci := 1) (v := .int 1) (ty := .boolean) (C := RN) (T := TN) (N := 14) hx hb hw inN tyN tyN_ok nmN hown hK hP hD hS 0 rfl rfl 1 (by decide) f46 (fun _ h9 => h9) rfl (tyN_ok 1 (by decide)) rfl rfl (Nat.le_of_ble_eq_true rfl) dN_load_35 (fun H locs hP hD hS => ?_)
      have hP : va_P D vwCl [(h0, .inr (1, FN (tk_up (tk_up (tk_up c 7 0) 6 1) 1 1)))] H := hP
      have hD : va_D A [(h0, .inr (1, FN (tk_up (tk_up (tk_up c 7 0) 6 1) 1 1)))] := hD
      refine lv_aload_n hx hb dN_load_38 rfl (lv_at hl 0 rfl) ?_
      refine lv_aload_n hx hb dN_load_39 rfl (lv_at hl 0 rfl) ?_
      refine va_get (D := D) (ci := 1) (v := .int (c 2)) (C := RN) (T := TN) (N := 14) hx hb hw inN hown hK hP 0 rfl rfl 2 (by decide) f15 (fun _ h9 => h9) rfl dN_load_40 ?_
      refine lv_iconst (v := 3) hx hb dN_load_43 (by decide) ?_
      refine lv_icmp_ne (tgt := 56) hx hb dN_load_44 (by decide) (fun (h4_ : ¬ (c 2 = 3)) => ?_) (fun (h4_ : c 2 = 3) => ?_)
      · refine lv_aload_n hx hb dN_load_56 rfl (lv_at hl 0 rfl) ?_
        refine va_get (D := D) (ci := 1) (v := .int (c 4)) (C := RN) (T := TN) (N := 14) hx hb hw inN hown hK hP 0 rfl rfl 4 (by decide) f28 (fun _ h9 => h9) rfl dN_load_57 ?_
        refine tk_callA hD hS hA (va_runV (As := [.int (c 4)]) (rest := []) ⟨hx, hb, hml, hown, hw⟩ (kN_setCount l D h0 (tk_up (tk_up (tk_up c 7 0) 6 1) 1 1) (c 4) H.size) (cwV 1 hw (tk_gV tkW_good wM_N_93 wI_N_setCount wS_N_setCount wZ_N wC_N_setCount) rfl rfl rfl (by decide +kernel) ⟨Nat.le_of_ble_eq_true rfl, Nat.le_of_ble_eq_true rfl⟩) (tk_preV (q0 := 0) hK hN hP hD [0] [] rfl rfl rfl rfl rfl) rfl rfl hl.1 rfl (lv_room (Nat.le_of_ble_eq_true rfl)) dN_load_60 ⟨Nat.zero_le _, Nat.zero_le _⟩) (fun H locs hP hD hS => ?_)
        refine W.eq (g2 := F0 m 63 ls []) rfl ?_
        exact tk_vret hx hb hr hlk hP hD hS dN_load_63 (tk_ewN (by unfold tkN_load_s; rw [if_neg h1_, if_neg h2_, if_neg h4_]))
      · refine lv_iconst (v := 2) hx hb dN_load_47 (by decide) ?_
        refine lv_aload_n hx hb dN_load_48 rfl (lv_at hl 0 rfl) ?_
        refine tk_callA hD hS hA (va_runV (As := []) (rest := [.int 2, .ref h0]) ⟨hx, hb, hml, hown, hw⟩ (kN_partTicks l D h0 (tk_up (tk_up (tk_up c 7 0) 6 1) 1 1) H.size) (cwV 0 hw (tk_gV tkW_good wM_N_89 wI_N_partTicks wS_N_partTicks wZ_N wC_N_partTicks) rfl rfl rfl (by decide +kernel) ⟨Nat.le_of_ble_eq_true rfl, Nat.le_of_ble_eq_true rfl⟩) (tk_preV (q0 := 0) hK hN hP hD [0] [] rfl rfl rfl rfl rfl) rfl rfl hl.1 rfl (lv_room (Nat.le_of_ble_eq_true rfl)) dN_load_49 ⟨Nat.zero_le _, Nat.zero_le _⟩) (fun H locs hP hD hS => ?_)
        refine W.eq (g2 := F0 m 52 ls [.int (tkN_partTicks_r (tk_up (tk_up (tk_up c 7 0) 6 1) 1 1)), .int 2, .ref h0]) rfl ?_
        refine lv_imul hx hb dN_load_52 ?_
        refine lv_goto (tgt := 60) hx hb dN_load_53 (by decide) ?_
        refine tk_callA hD hS hA (va_runV (As := [.int (2 * (tkN_partTicks_r (tk_up (tk_up (tk_up c 7 0) 6 1) 1 1)))]) (rest := []) ⟨hx, hb, hml, hown, hw⟩ (kN_setCount l D h0 (tk_up (tk_up (tk_up c 7 0) 6 1) 1 1) (2 * (tkN_partTicks_r (tk_up (tk_up (tk_up c 7 0) 6 1) 1 1))) H.size) (cwV 1 hw (tk_gV tkW_good wM_N_93 wI_N_setCount wS_N_setCount wZ_N wC_N_setCount) rfl rfl rfl (by decide +kernel) ⟨Nat.le_of_ble_eq_true rfl, Nat.le_of_ble_eq_true rfl⟩) (tk_preV (q0 := 0) hK hN hP hD [0] [] rfl rfl rfl rfl rfl) rfl rfl hl.1 rfl (lv_room (Nat.le_of_ble_eq_true rfl)) dN_load_60 ⟨Nat.zero_le _, Nat.zero_le _⟩) (fun H locs hP hD hS => ?_)
        refine W.eq (g2 := F0 m 63 ls []) rfl ?_
        exact tk_vret hx hb hr hlk hP hD hS dN_load_63 (tk_ewN (by unfold tkN_load_s; rw [if_neg h1_, if_neg h2_, if_pos h4_]))
  · refine lv_aload_n hx hb dN_load_18 rfl (lv_at hl 0 rfl) ?_
    refine lv_iconst (v := 0) hx hb dN_load_19 (by decide) ?_
    refine va_put (D := D) (ci := 1) (v := .int 0) (ty := .boolean) (C := RN) (T := TN) (N := 14) hx hb hw inN tyN tyN_ok nmN hown hK hP hD hS 0 rfl rfl 1 (by decide) f46 (fun _ h9 => h9) rfl (tyN_ok 1 (by decide)) rfl rfl (Nat.le_of_ble_eq_true rfl) dN_load_20 (fun H locs hP hD hS => ?_)
    have hP : va_P D vwCl [(h0, .inr (1, FN (tk_up (tk_up (tk_up c 7 0) 6 1) 1 0)))] H := hP
    have hD : va_D A [(h0, .inr (1, FN (tk_up (tk_up (tk_up c 7 0) 6 1) 1 0)))] := hD
    refine lv_goto (tgt := 38) hx hb dN_load_23 (by decide) ?_
    refine lv_aload_n hx hb dN_load_38 rfl (lv_at hl 0 rfl) ?_
    refine lv_aload_n hx hb dN_load_39 rfl (lv_at hl 0 rfl) ?_
    refine va_get (D := D) (ci := 1) (v := .int (c 2)) (C := RN) (T := TN) (N := 14) hx hb hw inN hown hK hP 0 rfl rfl 2 (by decide) f15 (fun _ h9 => h9) rfl dN_load_40 ?_
    refine lv_iconst (v := 3) hx hb dN_load_43 (by decide) ?_
    refine lv_icmp_ne (tgt := 56) hx hb dN_load_44 (by decide) (fun _ => ?_) (fun h => absurd (h.symm.trans h1_) (by decide))
    refine lv_aload_n hx hb dN_load_56 rfl (lv_at hl 0 rfl) ?_
    refine va_get (D := D) (ci := 1) (v := .int (c 4)) (C := RN) (T := TN) (N := 14) hx hb hw inN hown hK hP 0 rfl rfl 4 (by decide) f28 (fun _ h9 => h9) rfl dN_load_57 ?_
    refine tk_callA hD hS hA (va_runV (As := [.int (c 4)]) (rest := []) ⟨hx, hb, hml, hown, hw⟩ (kN_setCount l D h0 (tk_up (tk_up (tk_up c 7 0) 6 1) 1 0) (c 4) H.size) (cwV 1 hw (tk_gV tkW_good wM_N_93 wI_N_setCount wS_N_setCount wZ_N wC_N_setCount) rfl rfl rfl (by decide +kernel) ⟨Nat.le_of_ble_eq_true rfl, Nat.le_of_ble_eq_true rfl⟩) (tk_preV (q0 := 0) hK hN hP hD [0] [] rfl rfl rfl rfl rfl) rfl rfl hl.1 rfl (lv_room (Nat.le_of_ble_eq_true rfl)) dN_load_60 ⟨Nat.zero_le _, Nat.zero_le _⟩) (fun H locs hP hD hS => ?_)
    refine W.eq (g2 := F0 m 63 ls []) rfl ?_
    exact tk_vret hx hb hr hlk hP hD hS dN_load_63 (tk_ewN (by unfold tkN_load_s; rw [if_pos h1_]))
def tkN_gateHoldsBack_r (c : Nat → Int32) : Int32 :=
  if c 2 = 1 then 0
  else if c 2 = 5 then 0
    else 1
set_option maxHeartbeats 1000000 in
set_option maxRecDepth 100000 in
theorem kN_gateHoldsBack (l : Launch) (D : va_G) (h0 : Nat) (c : Nat → Int32) : tk_M l yN_gateHoldsBack wsN_gateHoldsBack { frames := 0, cells := 0, slots := 0, locals := 0 } D [] [.ref h0] [(h0, .inr (1, FN c))] [(h0, .inr (1, FN c))] (some (.int (tkN_gateHoldsBack_r c))) := by
  refine tk_M.of (cc := cN_gateHoldsBack) (maxL := 1) (ret := (some .boolean)) (by decide) rfl (Nat.le_of_ble_eq_true rfl) ?_
  intro p e s m below meth co A H locs ls hB hK hN hA hP hD hS hl
  obtain ⟨hx, hb, hr, hml, hown, hlk, hnm, hts⟩ := hB
  have hown : s.vm.findClass RN = some m.cls := hown
  have hl : lv_has ls 1 [(0, .ref h0)] := hl
  have hw : ∀ w ∈ tkW, w.before _ s = true := fun w h => hts w (List.mem_cons_of_mem _ h)
  have f15 := hw _ wF_N_15
  refine lv_aload_n hx hb dN_gateHoldsBack_0 rfl (lv_at hl 0 rfl) ?_
  refine va_get (D := D) (ci := 1) (v := .int (c 2)) (C := RN) (T := TN) (N := 14) hx hb hw inN hown hK hP 0 rfl rfl 2 (by decide) f15 (fun _ h9 => h9) rfl dN_gateHoldsBack_1 ?_
  refine lv_iconst (v := 1) hx hb dN_gateHoldsBack_4 (by decide) ?_
  refine lv_icmp_eq (tgt := 20) hx hb dN_gateHoldsBack_5 (by decide) (fun (h1_ : c 2 = 1) => ?_) (fun (h1_ : ¬ (c 2 = 1)) => ?_)
  · refine lv_iconst (v := 0) hx hb dN_gateHoldsBack_20 (by decide) ?_
    exact tk_zret hx hb hr hlk hP hD hS dN_gateHoldsBack_21 rfl (by unfold tkN_gateHoldsBack_r; rw [if_pos h1_]) rfl
  · refine lv_aload_n hx hb dN_gateHoldsBack_8 rfl (lv_at hl 0 rfl) ?_
    refine va_get (D := D) (ci := 1) (v := .int (c 2)) (C := RN) (T := TN) (N := 14) hx hb hw inN hown hK hP 0 rfl rfl 2 (by decide) f15 (fun _ h9 => h9) rfl dN_gateHoldsBack_9 ?_
    refine lv_iconst (v := 5) hx hb dN_gateHoldsBack_12 (by decide) ?_
    refine lv_icmp_eq (tgt := 20) hx hb dN_gateHoldsBack_13 (by decide) (fun (h2_ : c 2 = 5) => ?_) (fun (h2_ : ¬ (c 2 = 5)) => ?_)
    · refine lv_iconst (v := 0) hx hb dN_gateHoldsBack_20 (by decide) ?_
      exact tk_zret hx hb hr hlk hP hD hS dN_gateHoldsBack_21 rfl (by unfold tkN_gateHoldsBack_r; rw [if_neg h1_, if_pos h2_]) rfl
    · refine lv_iconst (v := 1) hx hb dN_gateHoldsBack_16 (by decide) ?_
      refine lv_goto (tgt := 21) hx hb dN_gateHoldsBack_17 (by decide) ?_
      exact tk_zret hx hb hr hlk hP hD hS dN_gateHoldsBack_21 rfl (by unfold tkN_gateHoldsBack_r; rw [if_neg h1_, if_neg h2_]) rfl
def tkN_lessen_s (c : Nat → Int32) (x0 : Int32) : Nat → Int32 :=
  tk_up c 5 (((c 5) - x0) &&& 65535)
set_option maxHeartbeats 1000000 in
set_option maxRecDepth 100000 in
theorem kN_lessen (l : Launch) (D : va_G) (h0 : Nat) (c : Nat → Int32) (x0 : Int32) : tk_M l yN_lessen wsN_lessen { frames := 0, cells := 0, slots := 0, locals := 0 } D [] [.ref h0, .int x0] [(h0, .inr (1, FN c))] [(h0, .inr (1, FN (tkN_lessen_s c x0)))] none := by
  refine tk_M.of (cc := cN_lessen) (maxL := 2) (ret := none) (by decide) rfl (Nat.le_of_ble_eq_true rfl) ?_
  intro p e s m below meth co A H locs ls hB hK hN hA hP hD hS hl
  obtain ⟨hx, hb, hr, hml, hown, hlk, hnm, hts⟩ := hB
  have hown : s.vm.findClass RN = some m.cls := hown
  have hl : lv_has ls 2 [(0, .ref h0), (1, .int x0)] := hl
  have hw : ∀ w ∈ tkW, w.before _ s = true := fun w h => hts w (List.mem_cons_of_mem _ h)
  have f53 := hw _ wF_N_53
  refine lv_aload_n hx hb dN_lessen_0 rfl (lv_at hl 0 rfl) ?_
  refine lv_aload_n hx hb dN_lessen_1 rfl (lv_at hl 0 rfl) ?_
  refine va_get (D := D) (ci := 1) (v := .int (c 5)) (C := RN) (T := TN) (N := 14) hx hb hw inN hown hK hP 0 rfl rfl 5 (by decide) f53 (fun _ h9 => h9) rfl dN_lessen_2 ?_
  refine lv_iload_n hx hb dN_lessen_5 rfl (lv_at hl 1 rfl) ?_
  refine lv_isub hx hb dN_lessen_6 ?_
  refine lv_ldc (v := 65535) hx hb hown (hw _ wK_N_96) dN_lessen_7 ?_
  refine lv_iand hx hb dN_lessen_9 ?_
  refine va_put (D := D) (ci := 1) (v := .int (((c 5) - x0) &&& 65535)) (ty := .int) (C := RN) (T := TN) (N := 14) hx hb hw inN tyN tyN_ok nmN hown hK hP hD hS 0 rfl rfl 5 (by decide) f53 (fun _ h9 => h9) rfl (tyN_ok 5 (by decide)) rfl rfl (Nat.le_of_ble_eq_true rfl) dN_lessen_10 (fun H locs hP hD hS => ?_)
  have hP : va_P D vwCl [(h0, .inr (1, FN (tk_up c 5 (((c 5) - x0) &&& 65535))))] H := hP
  have hD : va_D A [(h0, .inr (1, FN (tk_up c 5 (((c 5) - x0) &&& 65535))))] := hD
  exact tk_vret hx hb hr hlk hP hD hS dN_lessen_13 (tk_ewN rfl)
def tkN_stepRate_s (c : Nat → Int32) : Nat → Int32 :=
  if c 5 = 1 then (if (tkN_setCount_s c (c 4)) 5 = 1 then tk_up (tkN_setCount_s c (c 4)) 1 0
    else tk_up (tkN_setCount_s c (c 4)) 1 1)
  else if (tkN_lessen_s c 1) 5 = 1 then tk_up (tkN_lessen_s c 1) 1 0
    else tkN_lessen_s c 1
set_option maxHeartbeats 1000000 in
set_option maxRecDepth 100000 in
theorem kN_stepRate (l : Launch) (D : va_G) (h0 : Nat) (c : Nat → Int32) : tk_M l yN_stepRate wsN_stepRate { frames := 1, cells := 0, slots := 0, locals := 21 } D [] [.ref h0] [(h0, .inr (1, FN c))] [(h0, .inr (1, FN (tkN_stepRate_s c)))] none := by
  refine tk_M.of (cc := cN_stepRate) (maxL := 1) (ret := none) (by decide) rfl (Nat.le_of_ble_eq_true rfl) ?_
  intro p e s m below meth co A H locs ls hB hK hN hA hP hD hS hl
  obtain ⟨hx, hb, hr, hml, hown, hlk, hnm, hts⟩ := hB
  have hown : s.vm.findClass RN = some m.cls := hown
  have hl : lv_has ls 1 [(0, .ref h0)] := hl
  have hw : ∀ w ∈ tkW, w.before _ s = true := fun w h => hts w (List.mem_cons_of_mem _ h)
  have f53 := hw _ wF_N_53
  have f46 := hw _ wF_N_46
  have f28 := hw _ wF_N_28
  refine lv_aload_n hx hb dN_stepRate_0 rfl (lv_at hl 0 rfl) ?_
  refine va_get (D := D) (ci := 1) (v := .int (c 5)) (C := RN) (T := TN) (N := 14) hx hb hw inN hown hK hP 0 rfl rfl 5 (by decide) f53 (fun _ h9 => h9) rfl dN_stepRate_1 ?_
  refine lv_iconst (v := 1) hx hb dN_stepRate_4 (by decide) ?_
  refine lv_icmp_ne (tgt := 24) hx hb dN_stepRate_5 (by decide) (fun (h1_ : ¬ (c 5 = 1)) => ?_) (fun (h1_ : c 5 = 1) => ?_)
  · refine lv_aload_n hx hb dN_stepRate_24 rfl (lv_at hl 0 rfl) ?_
    refine lv_iconst (v := 1) hx hb dN_stepRate_25 (by decide) ?_
    refine tk_callA hD hS hA (va_runV (As := [.int 1]) (rest := []) ⟨hx, hb, hml, hown, hw⟩ (kN_lessen l D h0 c 1 H.size) (cwV 1 hw (tk_gV tkW_good wM_N_109 wI_N_lessen wS_N_lessen wZ_N wC_N_lessen) rfl rfl rfl (by decide +kernel) ⟨Nat.le_of_ble_eq_true rfl, Nat.le_of_ble_eq_true rfl⟩) (tk_preV (q0 := 0) hK hN hP hD [0] [] rfl rfl rfl rfl rfl) rfl rfl hl.1 rfl (lv_room (Nat.le_of_ble_eq_true rfl)) dN_stepRate_26 ⟨Nat.zero_le _, Nat.zero_le _⟩) (fun H locs hP hD hS => ?_)
    refine W.eq (g2 := F0 m 29 ls []) rfl ?_
    refine lv_aload_n hx hb dN_stepRate_29 rfl (lv_at hl 0 rfl) ?_
    refine va_get (D := D) (ci := 1) (v := .int ((tkN_lessen_s c 1) 5)) (C := RN) (T := TN) (N := 14) hx hb hw inN hown hK hP 0 rfl rfl 5 (by decide) f53 (fun _ h9 => h9) rfl dN_stepRate_30 ?_
    refine lv_iconst (v := 1) hx hb dN_stepRate_33 (by decide) ?_
    refine lv_icmp_ne (tgt := 42) hx hb dN_stepRate_34 (by decide) (fun (h2_ : ¬ ((tkN_lessen_s c 1) 5 = 1)) => ?_) (fun (h2_ : (tkN_lessen_s c 1) 5 = 1) => ?_)
    · exact tk_vret hx hb hr hlk hP hD hS dN_stepRate_42 (tk_ewN (by unfold tkN_stepRate_s; rw [if_neg h1_, if_neg h2_]))
    · refine lv_aload_n hx hb dN_stepRate_37 rfl (lv_at hl 0 rfl) ?_
      refine lv_iconst (v := 0) hx hb dN_stepRate_38 (by decide) ?_
      refine va_put (D := D) (ci := 1) (v := .int 0) (ty := .boolean) (C := RN) (T := TN) (N := 14) hx hb hw inN tyN tyN_ok nmN hown hK hP hD hS 0 rfl rfl 1 (by decide) f46 (fun _ h9 => h9) rfl (tyN_ok 1 (by decide)) rfl rfl (Nat.le_of_ble_eq_true rfl) dN_stepRate_39 (fun H locs hP hD hS => ?_)
      have hP : va_P D vwCl [(h0, .inr (1, FN (tk_up (tkN_lessen_s c 1) 1 0)))] H := hP
      have hD : va_D A [(h0, .inr (1, FN (tk_up (tkN_lessen_s c 1) 1 0)))] := hD
      exact tk_vret hx hb hr hlk hP hD hS dN_stepRate_42 (tk_ewN (by unfold tkN_stepRate_s; rw [if_neg h1_, if_pos h2_]))
  · refine lv_aload_n hx hb dN_stepRate_8 rfl (lv_at hl 0 rfl) ?_
    refine lv_aload_n hx hb dN_stepRate_9 rfl (lv_at hl 0 rfl) ?_
    refine va_get (D := D) (ci := 1) (v := .int (c 4)) (C := RN) (T := TN) (N := 14) hx hb hw inN hown hK hP 0 rfl rfl 4 (by decide) f28 (fun _ h9 => h9) rfl dN_stepRate_10 ?_
    refine tk_callA hD hS hA (va_runV (As := [.int (c 4)]) (rest := []) ⟨hx, hb, hml, hown, hw⟩ (kN_setCount l D h0 c (c 4) H.size) (cwV 1 hw (tk_gV tkW_good wM_N_93 wI_N_setCount wS_N_setCount wZ_N wC_N_setCount) rfl rfl rfl (by decide +kernel) ⟨Nat.le_of_ble_eq_true rfl, Nat.le_of_ble_eq_true rfl⟩) (tk_preV (q0 := 0) hK hN hP hD [0] [] rfl rfl rfl rfl rfl) rfl rfl hl.1 rfl (lv_room (Nat.le_of_ble_eq_true rfl)) dN_stepRate_13 ⟨Nat.zero_le _, Nat.zero_le _⟩) (fun H locs hP hD hS => ?_)
    refine W.eq (g2 := F0 m 16 ls []) rfl ?_
    refine lv_aload_n hx hb dN_stepRate_16 rfl (lv_at hl 0 rfl) ?_
    refine lv_iconst (v := 1) hx hb dN_stepRate_17 (by decide) ?_
    refine va_put (D := D) (ci := 1) (v := .int 1) (ty := .boolean) (C := RN) (T := TN) (N := 14) hx hb hw inN tyN tyN_ok nmN hown hK hP hD hS 0 rfl rfl 1 (by decide) f46 (fun _ h9 => h9) rfl (tyN_ok 1 (by decide)) rfl rfl (Nat.le_of_ble_eq_true rfl) dN_stepRate_18 (fun H locs hP hD hS => ?_)
    have hP : va_P D vwCl [(h0, .inr (1, FN (tk_up (tkN_setCount_s c (c 4)) 1 1)))] H := hP
    have hD : va_D A [(h0, .inr (1, FN (tk_up (tkN_setCount_s c (c 4)) 1 1)))] := hD
    refine lv_goto (tgt := 29) hx hb dN_stepRate_21 (by decide) ?_
    refine lv_aload_n hx hb dN_stepRate_29 rfl (lv_at hl 0 rfl) ?_
    refine va_get (D := D) (ci := 1) (v := .int ((tkN_setCount_s c (c 4)) 5)) (C := RN) (T := TN) (N := 14) hx hb hw inN hown hK hP 0 rfl rfl 5 (by decide) f53 (fun _ h9 => h9) rfl dN_stepRate_30 ?_
    refine lv_iconst (v := 1) hx hb dN_stepRate_33 (by decide) ?_
    refine lv_icmp_ne (tgt := 42) hx hb dN_stepRate_34 (by decide) (fun (h3_ : ¬ ((tkN_setCount_s c (c 4)) 5 = 1)) => ?_) (fun (h3_ : (tkN_setCount_s c (c 4)) 5 = 1) => ?_)
    · exact tk_vret hx hb hr hlk hP hD hS dN_stepRate_42 (tk_ewN (by unfold tkN_stepRate_s; rw [if_pos h1_, if_neg h3_]))
    · refine lv_aload_n hx hb dN_stepRate_37 rfl (lv_at hl 0 rfl) ?_
      refine lv_iconst (v := 0) hx hb dN_stepRate_38 (by decide) ?_
      refine va_put (D := D) (ci := 1) (v := .int 0) (ty := .boolean) (C := RN) (T := TN) (N := 14) hx hb hw inN tyN tyN_ok nmN hown hK hP hD hS 0 rfl rfl 1 (by decide) f46 (fun _ h9 => h9) rfl (tyN_ok 1 (by decide)) rfl rfl (Nat.le_of_ble_eq_true rfl) dN_stepRate_39 (fun H locs hP hD hS => ?_)
      have hP : va_P D vwCl [(h0, .inr (1, FN (tk_up (tkN_setCount_s c (c 4)) 1 0)))] H := hP
      have hD : va_D A [(h0, .inr (1, FN (tk_up (tkN_setCount_s c (c 4)) 1 0)))] := hD
      exact tk_vret hx hb hr hlk hP hD hS dN_stepRate_42 (tk_ewN (by unfold tkN_stepRate_s; rw [if_pos h1_, if_pos h3_]))
def tkN_stepSquare_s (c : Nat → Int32) : Nat → Int32 :=
  if (tkN_lessen_s c 2) 5 = 0 then (if (tkN_lessen_s c 2) 1 = 0 then (if tkN_partTicks_r (tk_up (tkN_lessen_s c 2) 1 1) = 0 then tkN_setCount_s (tk_up (tkN_lessen_s c 2) 1 0) (2 * (tkN_partTicks_r (tk_up (tkN_lessen_s c 2) 1 0)))
      else tkN_setCount_s (tk_up (tkN_lessen_s c 2) 1 1) (2 * (tkN_partTicks_r (tk_up (tkN_lessen_s c 2) 1 1))))
    else if tkN_partTicks_r (tk_up (tkN_lessen_s c 2) 1 0) = 0 then tkN_setCount_s (tk_up (tkN_lessen_s c 2) 1 1) (2 * (tkN_partTicks_r (tk_up (tkN_lessen_s c 2) 1 1)))
      else tkN_setCount_s (tk_up (tkN_lessen_s c 2) 1 0) (2 * (tkN_partTicks_r (tk_up (tkN_lessen_s c 2) 1 0))))
  else tkN_lessen_s c 2
set_option maxHeartbeats 1000000 in
set_option maxRecDepth 100000 in
theorem kN_stepSquare (l : Launch) (D : va_G) (h0 : Nat) (c : Nat → Int32) : tk_M l yN_stepSquare wsN_stepSquare { frames := 1, cells := 0, slots := 0, locals := 21 } D [] [.ref h0] [(h0, .inr (1, FN c))] [(h0, .inr (1, FN (tkN_stepSquare_s c)))] none := by
  refine tk_M.of (cc := cN_stepSquare) (maxL := 1) (ret := none) (by decide) rfl (Nat.le_of_ble_eq_true rfl) ?_
  intro p e s m below meth co A H locs ls hB hK hN hA hP hD hS hl
  obtain ⟨hx, hb, hr, hml, hown, hlk, hnm, hts⟩ := hB
  have hown : s.vm.findClass RN = some m.cls := hown
  have hl : lv_has ls 1 [(0, .ref h0)] := hl
  have hw : ∀ w ∈ tkW, w.before _ s = true := fun w h => hts w (List.mem_cons_of_mem _ h)
  have f53 := hw _ wF_N_53
  have f46 := hw _ wF_N_46
  refine lv_aload_n hx hb dN_stepSquare_0 rfl (lv_at hl 0 rfl) ?_
  refine lv_iconst (v := 2) hx hb dN_stepSquare_1 (by decide) ?_
  refine tk_callA hD hS hA (va_runV (As := [.int 2]) (rest := []) ⟨hx, hb, hml, hown, hw⟩ (kN_lessen l D h0 c 2 H.size) (cwV 1 hw (tk_gV tkW_good wM_N_109 wI_N_lessen wS_N_lessen wZ_N wC_N_lessen) rfl rfl rfl (by decide +kernel) ⟨Nat.le_of_ble_eq_true rfl, Nat.le_of_ble_eq_true rfl⟩) (tk_preV (q0 := 0) hK hN hP hD [0] [] rfl rfl rfl rfl rfl) rfl rfl hl.1 rfl (lv_room (Nat.le_of_ble_eq_true rfl)) dN_stepSquare_2 ⟨Nat.zero_le _, Nat.zero_le _⟩) (fun H locs hP hD hS => ?_)
  refine W.eq (g2 := F0 m 5 ls []) rfl ?_
  refine lv_aload_n hx hb dN_stepSquare_5 rfl (lv_at hl 0 rfl) ?_
  refine va_get (D := D) (ci := 1) (v := .int ((tkN_lessen_s c 2) 5)) (C := RN) (T := TN) (N := 14) hx hb hw inN hown hK hP 0 rfl rfl 5 (by decide) f53 (fun _ h9 => h9) rfl dN_stepSquare_6 ?_
  refine lv_if_ne (tgt := 61) hx hb dN_stepSquare_9 (by decide) (fun (h1_ : ¬ ((tkN_lessen_s c 2) 5 = 0)) => ?_) (fun (h1_ : (tkN_lessen_s c 2) 5 = 0) => ?_)
  · exact tk_vret hx hb hr hlk hP hD hS dN_stepSquare_61 (tk_ewN (by unfold tkN_stepSquare_s; rw [if_neg h1_]))
  · refine lv_aload_n hx hb dN_stepSquare_12 rfl (lv_at hl 0 rfl) ?_
    refine lv_aload_n hx hb dN_stepSquare_13 rfl (lv_at hl 0 rfl) ?_
    refine va_get (D := D) (ci := 1) (v := .int ((tkN_lessen_s c 2) 1)) (C := RN) (T := TN) (N := 14) hx hb hw inN hown hK hP 0 rfl rfl 1 (by decide) f46 (fun _ h9 => h9) rfl dN_stepSquare_14 ?_
    refine lv_if_ne (tgt := 24) hx hb dN_stepSquare_17 (by decide) (fun (h2_ : ¬ ((tkN_lessen_s c 2) 1 = 0)) => ?_) (fun (h2_ : (tkN_lessen_s c 2) 1 = 0) => ?_)
    · refine lv_iconst (v := 0) hx hb dN_stepSquare_24 (by decide) ?_
      refine va_put (D := D) (ci := 1) (v := .int 0) (ty := .boolean) (C := RN) (T := TN) (N := 14) hx hb hw inN tyN tyN_ok nmN hown hK hP hD hS 0 rfl rfl 1 (by decide) f46 (fun _ h9 => h9) rfl (tyN_ok 1 (by decide)) rfl rfl (Nat.le_of_ble_eq_true rfl) dN_stepSquare_25 (fun H locs hP hD hS => ?_)
      have hP : va_P D vwCl [(h0, .inr (1, FN (tk_up (tkN_lessen_s c 2) 1 0)))] H := hP
      have hD : va_D A [(h0, .inr (1, FN (tk_up (tkN_lessen_s c 2) 1 0)))] := hD
      refine lv_aload_n hx hb dN_stepSquare_28 rfl (lv_at hl 0 rfl) ?_
      refine tk_callA hD hS hA (va_runV (As := []) (rest := []) ⟨hx, hb, hml, hown, hw⟩ (kN_partTicks l D h0 (tk_up (tkN_lessen_s c 2) 1 0) H.size) (cwV 0 hw (tk_gV tkW_good wM_N_89 wI_N_partTicks wS_N_partTicks wZ_N wC_N_partTicks) rfl rfl rfl (by decide +kernel) ⟨Nat.le_of_ble_eq_true rfl, Nat.le_of_ble_eq_true rfl⟩) (tk_preV (q0 := 0) hK hN hP hD [0] [] rfl rfl rfl rfl rfl) rfl rfl hl.1 rfl (lv_room (Nat.le_of_ble_eq_true rfl)) dN_stepSquare_29 ⟨Nat.zero_le _, Nat.zero_le _⟩) (fun H locs hP hD hS => ?_)
      refine W.eq (g2 := F0 m 32 ls [.int (tkN_partTicks_r (tk_up (tkN_lessen_s c 2) 1 0))]) rfl ?_
      refine lv_if_ne (tgt := 51) hx hb dN_stepSquare_32 (by decide) (fun (h3_ : ¬ (tkN_partTicks_r (tk_up (tkN_lessen_s c 2) 1 0) = 0)) => ?_) (fun (h3_ : tkN_partTicks_r (tk_up (tkN_lessen_s c 2) 1 0) = 0) => ?_)
      · refine lv_aload_n hx hb dN_stepSquare_51 rfl (lv_at hl 0 rfl) ?_
        refine lv_iconst (v := 2) hx hb dN_stepSquare_52 (by decide) ?_
        refine lv_aload_n hx hb dN_stepSquare_53 rfl (lv_at hl 0 rfl) ?_
        refine tk_callA hD hS hA (va_runV (As := []) (rest := [.int 2, .ref h0]) ⟨hx, hb, hml, hown, hw⟩ (kN_partTicks l D h0 (tk_up (tkN_lessen_s c 2) 1 0) H.size) (cwV 0 hw (tk_gV tkW_good wM_N_89 wI_N_partTicks wS_N_partTicks wZ_N wC_N_partTicks) rfl rfl rfl (by decide +kernel) ⟨Nat.le_of_ble_eq_true rfl, Nat.le_of_ble_eq_true rfl⟩) (tk_preV (q0 := 0) hK hN hP hD [0] [] rfl rfl rfl rfl rfl) rfl rfl hl.1 rfl (lv_room (Nat.le_of_ble_eq_true rfl)) dN_stepSquare_54 ⟨Nat.zero_le _, Nat.zero_le _⟩) (fun H locs hP hD hS => ?_)
        refine W.eq (g2 := F0 m 57 ls [.int (tkN_partTicks_r (tk_up (tkN_lessen_s c 2) 1 0)), .int 2, .ref h0]) rfl ?_
        refine lv_imul hx hb dN_stepSquare_57 ?_
        refine tk_callA hD hS hA (va_runV (As := [.int (2 * (tkN_partTicks_r (tk_up (tkN_lessen_s c 2) 1 0)))]) (rest := []) ⟨hx, hb, hml, hown, hw⟩ (kN_setCount l D h0 (tk_up (tkN_lessen_s c 2) 1 0) (2 * (tkN_partTicks_r (tk_up (tkN_lessen_s c 2) 1 0))) H.size) (cwV 1 hw (tk_gV tkW_good wM_N_93 wI_N_setCount wS_N_setCount wZ_N wC_N_setCount) rfl rfl rfl (by decide +kernel) ⟨Nat.le_of_ble_eq_true rfl, Nat.le_of_ble_eq_true rfl⟩) (tk_preV (q0 := 0) hK hN hP hD [0] [] rfl rfl rfl rfl rfl) rfl rfl hl.1 rfl (lv_room (Nat.le_of_ble_eq_true rfl)) dN_stepSquare_58 ⟨Nat.zero_le _, Nat.zero_le _⟩) (fun H locs hP hD hS => ?_)
        refine W.eq (g2 := F0 m 61 ls []) rfl ?_
        exact tk_vret hx hb hr hlk hP hD hS dN_stepSquare_61 (tk_ewN (by unfold tkN_stepSquare_s; rw [if_pos h1_, if_neg h2_, if_neg h3_]))
      · refine lv_aload_n hx hb dN_stepSquare_35 rfl (lv_at hl 0 rfl) ?_
        refine lv_aload_n hx hb dN_stepSquare_36 rfl (lv_at hl 0 rfl) ?_
        refine va_get (D := D) (ci := 1) (v := .int 0) (C := RN) (T := TN) (N := 14) hx hb hw inN hown hK hP 0 rfl rfl 1 (by decide) f46 (fun _ h9 => h9) rfl dN_stepSquare_37 ?_
        refine lv_if_ne (tgt := 47) hx hb dN_stepSquare_40 (by decide) (fun h => absurd (by decide) h) (fun _ => ?_)
        refine lv_iconst (v := 1) hx hb dN_stepSquare_43 (by decide) ?_
        refine lv_goto (tgt := 48) hx hb dN_stepSquare_44 (by decide) ?_
        refine va_put (D := D) (ci := 1) (v := .int 1) (ty := .boolean) (C := RN) (T := TN) (N := 14) hx hb hw inN tyN tyN_ok nmN hown hK hP hD hS 0 rfl rfl 1 (by decide) f46 (fun _ h9 => h9) rfl (tyN_ok 1 (by decide)) rfl rfl (Nat.le_of_ble_eq_true rfl) dN_stepSquare_48 (fun H locs hP hD hS => ?_)
        have hP : va_P D vwCl [(h0, .inr (1, FN (tk_up (tkN_lessen_s c 2) 1 1)))] H := hP
        have hD : va_D A [(h0, .inr (1, FN (tk_up (tkN_lessen_s c 2) 1 1)))] := hD
        refine lv_aload_n hx hb dN_stepSquare_51 rfl (lv_at hl 0 rfl) ?_
        refine lv_iconst (v := 2) hx hb dN_stepSquare_52 (by decide) ?_
        refine lv_aload_n hx hb dN_stepSquare_53 rfl (lv_at hl 0 rfl) ?_
        refine tk_callA hD hS hA (va_runV (As := []) (rest := [.int 2, .ref h0]) ⟨hx, hb, hml, hown, hw⟩ (kN_partTicks l D h0 (tk_up (tkN_lessen_s c 2) 1 1) H.size) (cwV 0 hw (tk_gV tkW_good wM_N_89 wI_N_partTicks wS_N_partTicks wZ_N wC_N_partTicks) rfl rfl rfl (by decide +kernel) ⟨Nat.le_of_ble_eq_true rfl, Nat.le_of_ble_eq_true rfl⟩) (tk_preV (q0 := 0) hK hN hP hD [0] [] rfl rfl rfl rfl rfl) rfl rfl hl.1 rfl (lv_room (Nat.le_of_ble_eq_true rfl)) dN_stepSquare_54 ⟨Nat.zero_le _, Nat.zero_le _⟩) (fun H locs hP hD hS => ?_)
        refine W.eq (g2 := F0 m 57 ls [.int (tkN_partTicks_r (tk_up (tkN_lessen_s c 2) 1 1)), .int 2, .ref h0]) rfl ?_
        refine lv_imul hx hb dN_stepSquare_57 ?_
        refine tk_callA hD hS hA (va_runV (As := [.int (2 * (tkN_partTicks_r (tk_up (tkN_lessen_s c 2) 1 1)))]) (rest := []) ⟨hx, hb, hml, hown, hw⟩ (kN_setCount l D h0 (tk_up (tkN_lessen_s c 2) 1 1) (2 * (tkN_partTicks_r (tk_up (tkN_lessen_s c 2) 1 1))) H.size) (cwV 1 hw (tk_gV tkW_good wM_N_93 wI_N_setCount wS_N_setCount wZ_N wC_N_setCount) rfl rfl rfl (by decide +kernel) ⟨Nat.le_of_ble_eq_true rfl, Nat.le_of_ble_eq_true rfl⟩) (tk_preV (q0 := 0) hK hN hP hD [0] [] rfl rfl rfl rfl rfl) rfl rfl hl.1 rfl (lv_room (Nat.le_of_ble_eq_true rfl)) dN_stepSquare_58 ⟨Nat.zero_le _, Nat.zero_le _⟩) (fun H locs hP hD hS => ?_)
        refine W.eq (g2 := F0 m 61 ls []) rfl ?_
        exact tk_vret hx hb hr hlk hP hD hS dN_stepSquare_61 (tk_ewN (by unfold tkN_stepSquare_s; rw [if_pos h1_, if_neg h2_, if_pos h3_]))
    · refine lv_iconst (v := 1) hx hb dN_stepSquare_20 (by decide) ?_
      refine lv_goto (tgt := 25) hx hb dN_stepSquare_21 (by decide) ?_
      refine va_put (D := D) (ci := 1) (v := .int 1) (ty := .boolean) (C := RN) (T := TN) (N := 14) hx hb hw inN tyN tyN_ok nmN hown hK hP hD hS 0 rfl rfl 1 (by decide) f46 (fun _ h9 => h9) rfl (tyN_ok 1 (by decide)) rfl rfl (Nat.le_of_ble_eq_true rfl) dN_stepSquare_25 (fun H locs hP hD hS => ?_)
      have hP : va_P D vwCl [(h0, .inr (1, FN (tk_up (tkN_lessen_s c 2) 1 1)))] H := hP
      have hD : va_D A [(h0, .inr (1, FN (tk_up (tkN_lessen_s c 2) 1 1)))] := hD
      refine lv_aload_n hx hb dN_stepSquare_28 rfl (lv_at hl 0 rfl) ?_
      refine tk_callA hD hS hA (va_runV (As := []) (rest := []) ⟨hx, hb, hml, hown, hw⟩ (kN_partTicks l D h0 (tk_up (tkN_lessen_s c 2) 1 1) H.size) (cwV 0 hw (tk_gV tkW_good wM_N_89 wI_N_partTicks wS_N_partTicks wZ_N wC_N_partTicks) rfl rfl rfl (by decide +kernel) ⟨Nat.le_of_ble_eq_true rfl, Nat.le_of_ble_eq_true rfl⟩) (tk_preV (q0 := 0) hK hN hP hD [0] [] rfl rfl rfl rfl rfl) rfl rfl hl.1 rfl (lv_room (Nat.le_of_ble_eq_true rfl)) dN_stepSquare_29 ⟨Nat.zero_le _, Nat.zero_le _⟩) (fun H locs hP hD hS => ?_)
      refine W.eq (g2 := F0 m 32 ls [.int (tkN_partTicks_r (tk_up (tkN_lessen_s c 2) 1 1))]) rfl ?_
      refine lv_if_ne (tgt := 51) hx hb dN_stepSquare_32 (by decide) (fun (h4_ : ¬ (tkN_partTicks_r (tk_up (tkN_lessen_s c 2) 1 1) = 0)) => ?_) (fun (h4_ : tkN_partTicks_r (tk_up (tkN_lessen_s c 2) 1 1) = 0) => ?_)
      · refine lv_aload_n hx hb dN_stepSquare_51 rfl (lv_at hl 0 rfl) ?_
        refine lv_iconst (v := 2) hx hb dN_stepSquare_52 (by decide) ?_
        refine lv_aload_n hx hb dN_stepSquare_53 rfl (lv_at hl 0 rfl) ?_
        refine tk_callA hD hS hA (va_runV (As := []) (rest := [.int 2, .ref h0]) ⟨hx, hb, hml, hown, hw⟩ (kN_partTicks l D h0 (tk_up (tkN_lessen_s c 2) 1 1) H.size) (cwV 0 hw (tk_gV tkW_good wM_N_89 wI_N_partTicks wS_N_partTicks wZ_N wC_N_partTicks) rfl rfl rfl (by decide +kernel) ⟨Nat.le_of_ble_eq_true rfl, Nat.le_of_ble_eq_true rfl⟩) (tk_preV (q0 := 0) hK hN hP hD [0] [] rfl rfl rfl rfl rfl) rfl rfl hl.1 rfl (lv_room (Nat.le_of_ble_eq_true rfl)) dN_stepSquare_54 ⟨Nat.zero_le _, Nat.zero_le _⟩) (fun H locs hP hD hS => ?_)
        refine W.eq (g2 := F0 m 57 ls [.int (tkN_partTicks_r (tk_up (tkN_lessen_s c 2) 1 1)), .int 2, .ref h0]) rfl ?_
        refine lv_imul hx hb dN_stepSquare_57 ?_
        refine tk_callA hD hS hA (va_runV (As := [.int (2 * (tkN_partTicks_r (tk_up (tkN_lessen_s c 2) 1 1)))]) (rest := []) ⟨hx, hb, hml, hown, hw⟩ (kN_setCount l D h0 (tk_up (tkN_lessen_s c 2) 1 1) (2 * (tkN_partTicks_r (tk_up (tkN_lessen_s c 2) 1 1))) H.size) (cwV 1 hw (tk_gV tkW_good wM_N_93 wI_N_setCount wS_N_setCount wZ_N wC_N_setCount) rfl rfl rfl (by decide +kernel) ⟨Nat.le_of_ble_eq_true rfl, Nat.le_of_ble_eq_true rfl⟩) (tk_preV (q0 := 0) hK hN hP hD [0] [] rfl rfl rfl rfl rfl) rfl rfl hl.1 rfl (lv_room (Nat.le_of_ble_eq_true rfl)) dN_stepSquare_58 ⟨Nat.zero_le _, Nat.zero_le _⟩) (fun H locs hP hD hS => ?_)
        refine W.eq (g2 := F0 m 61 ls []) rfl ?_
        exact tk_vret hx hb hr hlk hP hD hS dN_stepSquare_61 (tk_ewN (by unfold tkN_stepSquare_s; rw [if_pos h1_, if_pos h2_, if_neg h4_]))
      · refine lv_aload_n hx hb dN_stepSquare_35 rfl (lv_at hl 0 rfl) ?_
        refine lv_aload_n hx hb dN_stepSquare_36 rfl (lv_at hl 0 rfl) ?_
        refine va_get (D := D) (ci := 1) (v := .int 1) (C := RN) (T := TN) (N := 14) hx hb hw inN hown hK hP 0 rfl rfl 1 (by decide) f46 (fun _ h9 => h9) rfl dN_stepSquare_37 ?_
        refine lv_if_ne (tgt := 47) hx hb dN_stepSquare_40 (by decide) (fun _ => ?_) (fun h => absurd h (by decide))
        refine lv_iconst (v := 0) hx hb dN_stepSquare_47 (by decide) ?_
        refine va_put (D := D) (ci := 1) (v := .int 0) (ty := .boolean) (C := RN) (T := TN) (N := 14) hx hb hw inN tyN tyN_ok nmN hown hK hP hD hS 0 rfl rfl 1 (by decide) f46 (fun _ h9 => h9) rfl (tyN_ok 1 (by decide)) rfl rfl (Nat.le_of_ble_eq_true rfl) dN_stepSquare_48 (fun H locs hP hD hS => ?_)
        have hP : va_P D vwCl [(h0, .inr (1, FN (tk_up (tkN_lessen_s c 2) 1 0)))] H := hP
        have hD : va_D A [(h0, .inr (1, FN (tk_up (tkN_lessen_s c 2) 1 0)))] := hD
        refine lv_aload_n hx hb dN_stepSquare_51 rfl (lv_at hl 0 rfl) ?_
        refine lv_iconst (v := 2) hx hb dN_stepSquare_52 (by decide) ?_
        refine lv_aload_n hx hb dN_stepSquare_53 rfl (lv_at hl 0 rfl) ?_
        refine tk_callA hD hS hA (va_runV (As := []) (rest := [.int 2, .ref h0]) ⟨hx, hb, hml, hown, hw⟩ (kN_partTicks l D h0 (tk_up (tkN_lessen_s c 2) 1 0) H.size) (cwV 0 hw (tk_gV tkW_good wM_N_89 wI_N_partTicks wS_N_partTicks wZ_N wC_N_partTicks) rfl rfl rfl (by decide +kernel) ⟨Nat.le_of_ble_eq_true rfl, Nat.le_of_ble_eq_true rfl⟩) (tk_preV (q0 := 0) hK hN hP hD [0] [] rfl rfl rfl rfl rfl) rfl rfl hl.1 rfl (lv_room (Nat.le_of_ble_eq_true rfl)) dN_stepSquare_54 ⟨Nat.zero_le _, Nat.zero_le _⟩) (fun H locs hP hD hS => ?_)
        refine W.eq (g2 := F0 m 57 ls [.int (tkN_partTicks_r (tk_up (tkN_lessen_s c 2) 1 0)), .int 2, .ref h0]) rfl ?_
        refine lv_imul hx hb dN_stepSquare_57 ?_
        refine tk_callA hD hS hA (va_runV (As := [.int (2 * (tkN_partTicks_r (tk_up (tkN_lessen_s c 2) 1 0)))]) (rest := []) ⟨hx, hb, hml, hown, hw⟩ (kN_setCount l D h0 (tk_up (tkN_lessen_s c 2) 1 0) (2 * (tkN_partTicks_r (tk_up (tkN_lessen_s c 2) 1 0))) H.size) (cwV 1 hw (tk_gV tkW_good wM_N_93 wI_N_setCount wS_N_setCount wZ_N wC_N_setCount) rfl rfl rfl (by decide +kernel) ⟨Nat.le_of_ble_eq_true rfl, Nat.le_of_ble_eq_true rfl⟩) (tk_preV (q0 := 0) hK hN hP hD [0] [] rfl rfl rfl rfl rfl) rfl rfl hl.1 rfl (lv_room (Nat.le_of_ble_eq_true rfl)) dN_stepSquare_58 ⟨Nat.zero_le _, Nat.zero_le _⟩) (fun H locs hP hD hS => ?_)
        refine W.eq (g2 := F0 m 61 ls []) rfl ?_
        exact tk_vret hx hb hr hlk hP hD hS dN_stepSquare_61 (tk_ewN (by unfold tkN_stepSquare_s; rw [if_pos h1_, if_pos h2_, if_pos h4_]))
def tkN_stepStrobe_s (c : Nat → Int32) : Nat → Int32 :=
  if (tkN_lessen_s c 1) 5 = 0 then tk_up (tkN_lessen_s c 1) 1 0
  else tk_up (tkN_lessen_s c 1) 1 1
set_option maxHeartbeats 1000000 in
set_option maxRecDepth 100000 in
theorem kN_stepStrobe (l : Launch) (D : va_G) (h0 : Nat) (c : Nat → Int32) : tk_M l yN_stepStrobe wsN_stepStrobe { frames := 1, cells := 0, slots := 0, locals := 21 } D [] [.ref h0] [(h0, .inr (1, FN c))] [(h0, .inr (1, FN (tkN_stepStrobe_s c)))] none := by
  refine tk_M.of (cc := cN_stepStrobe) (maxL := 1) (ret := none) (by decide) rfl (Nat.le_of_ble_eq_true rfl) ?_
  intro p e s m below meth co A H locs ls hB hK hN hA hP hD hS hl
  obtain ⟨hx, hb, hr, hml, hown, hlk, hnm, hts⟩ := hB
  have hown : s.vm.findClass RN = some m.cls := hown
  have hl : lv_has ls 1 [(0, .ref h0)] := hl
  have hw : ∀ w ∈ tkW, w.before _ s = true := fun w h => hts w (List.mem_cons_of_mem _ h)
  have f53 := hw _ wF_N_53
  have f46 := hw _ wF_N_46
  refine lv_aload_n hx hb dN_stepStrobe_0 rfl (lv_at hl 0 rfl) ?_
  refine lv_iconst (v := 1) hx hb dN_stepStrobe_1 (by decide) ?_
  refine tk_callA hD hS hA (va_runV (As := [.int 1]) (rest := []) ⟨hx, hb, hml, hown, hw⟩ (kN_lessen l D h0 c 1 H.size) (cwV 1 hw (tk_gV tkW_good wM_N_109 wI_N_lessen wS_N_lessen wZ_N wC_N_lessen) rfl rfl rfl (by decide +kernel) ⟨Nat.le_of_ble_eq_true rfl, Nat.le_of_ble_eq_true rfl⟩) (tk_preV (q0 := 0) hK hN hP hD [0] [] rfl rfl rfl rfl rfl) rfl rfl hl.1 rfl (lv_room (Nat.le_of_ble_eq_true rfl)) dN_stepStrobe_2 ⟨Nat.zero_le _, Nat.zero_le _⟩) (fun H locs hP hD hS => ?_)
  refine W.eq (g2 := F0 m 5 ls []) rfl ?_
  refine lv_aload_n hx hb dN_stepStrobe_5 rfl (lv_at hl 0 rfl) ?_
  refine lv_aload_n hx hb dN_stepStrobe_6 rfl (lv_at hl 0 rfl) ?_
  refine va_get (D := D) (ci := 1) (v := .int ((tkN_lessen_s c 1) 5)) (C := RN) (T := TN) (N := 14) hx hb hw inN hown hK hP 0 rfl rfl 5 (by decide) f53 (fun _ h9 => h9) rfl dN_stepStrobe_7 ?_
  refine lv_if_eq (tgt := 17) hx hb dN_stepStrobe_10 (by decide) (fun (h1_ : (tkN_lessen_s c 1) 5 = 0) => ?_) (fun (h1_ : ¬ ((tkN_lessen_s c 1) 5 = 0)) => ?_)
  · refine lv_iconst (v := 0) hx hb dN_stepStrobe_17 (by decide) ?_
    refine va_put (D := D) (ci := 1) (v := .int 0) (ty := .boolean) (C := RN) (T := TN) (N := 14) hx hb hw inN tyN tyN_ok nmN hown hK hP hD hS 0 rfl rfl 1 (by decide) f46 (fun _ h9 => h9) rfl (tyN_ok 1 (by decide)) rfl rfl (Nat.le_of_ble_eq_true rfl) dN_stepStrobe_18 (fun H locs hP hD hS => ?_)
    have hP : va_P D vwCl [(h0, .inr (1, FN (tk_up (tkN_lessen_s c 1) 1 0)))] H := hP
    have hD : va_D A [(h0, .inr (1, FN (tk_up (tkN_lessen_s c 1) 1 0)))] := hD
    exact tk_vret hx hb hr hlk hP hD hS dN_stepStrobe_21 (tk_ewN (by unfold tkN_stepStrobe_s; rw [if_pos h1_]))
  · refine lv_iconst (v := 1) hx hb dN_stepStrobe_13 (by decide) ?_
    refine lv_goto (tgt := 18) hx hb dN_stepStrobe_14 (by decide) ?_
    refine va_put (D := D) (ci := 1) (v := .int 1) (ty := .boolean) (C := RN) (T := TN) (N := 14) hx hb hw inN tyN tyN_ok nmN hown hK hP hD hS 0 rfl rfl 1 (by decide) f46 (fun _ h9 => h9) rfl (tyN_ok 1 (by decide)) rfl rfl (Nat.le_of_ble_eq_true rfl) dN_stepStrobe_18 (fun H locs hP hD hS => ?_)
    have hP : va_P D vwCl [(h0, .inr (1, FN (tk_up (tkN_lessen_s c 1) 1 1)))] H := hP
    have hD : va_D A [(h0, .inr (1, FN (tk_up (tkN_lessen_s c 1) 1 1)))] := hD
    exact tk_vret hx hb hr hlk hP hD hS dN_stepStrobe_21 (tk_ewN (by unfold tkN_stepStrobe_s; rw [if_neg h1_]))
def tkN_stepOnce_s (c : Nat → Int32) : Nat → Int32 :=
  if (tkN_lessen_s c 1) 5 = 0 then tk_up (tkN_lessen_s c 1) 1 1
  else tkN_lessen_s c 1
set_option maxHeartbeats 1000000 in
set_option maxRecDepth 100000 in
theorem kN_stepOnce (l : Launch) (D : va_G) (h0 : Nat) (c : Nat → Int32) : tk_M l yN_stepOnce wsN_stepOnce { frames := 1, cells := 0, slots := 0, locals := 21 } D [] [.ref h0] [(h0, .inr (1, FN c))] [(h0, .inr (1, FN (tkN_stepOnce_s c)))] none := by
  refine tk_M.of (cc := cN_stepOnce) (maxL := 1) (ret := none) (by decide) rfl (Nat.le_of_ble_eq_true rfl) ?_
  intro p e s m below meth co A H locs ls hB hK hN hA hP hD hS hl
  obtain ⟨hx, hb, hr, hml, hown, hlk, hnm, hts⟩ := hB
  have hown : s.vm.findClass RN = some m.cls := hown
  have hl : lv_has ls 1 [(0, .ref h0)] := hl
  have hw : ∀ w ∈ tkW, w.before _ s = true := fun w h => hts w (List.mem_cons_of_mem _ h)
  have f53 := hw _ wF_N_53
  have f46 := hw _ wF_N_46
  refine lv_aload_n hx hb dN_stepOnce_0 rfl (lv_at hl 0 rfl) ?_
  refine lv_iconst (v := 1) hx hb dN_stepOnce_1 (by decide) ?_
  refine tk_callA hD hS hA (va_runV (As := [.int 1]) (rest := []) ⟨hx, hb, hml, hown, hw⟩ (kN_lessen l D h0 c 1 H.size) (cwV 1 hw (tk_gV tkW_good wM_N_109 wI_N_lessen wS_N_lessen wZ_N wC_N_lessen) rfl rfl rfl (by decide +kernel) ⟨Nat.le_of_ble_eq_true rfl, Nat.le_of_ble_eq_true rfl⟩) (tk_preV (q0 := 0) hK hN hP hD [0] [] rfl rfl rfl rfl rfl) rfl rfl hl.1 rfl (lv_room (Nat.le_of_ble_eq_true rfl)) dN_stepOnce_2 ⟨Nat.zero_le _, Nat.zero_le _⟩) (fun H locs hP hD hS => ?_)
  refine W.eq (g2 := F0 m 5 ls []) rfl ?_
  refine lv_aload_n hx hb dN_stepOnce_5 rfl (lv_at hl 0 rfl) ?_
  refine va_get (D := D) (ci := 1) (v := .int ((tkN_lessen_s c 1) 5)) (C := RN) (T := TN) (N := 14) hx hb hw inN hown hK hP 0 rfl rfl 5 (by decide) f53 (fun _ h9 => h9) rfl dN_stepOnce_6 ?_
  refine lv_if_ne (tgt := 17) hx hb dN_stepOnce_9 (by decide) (fun (h1_ : ¬ ((tkN_lessen_s c 1) 5 = 0)) => ?_) (fun (h1_ : (tkN_lessen_s c 1) 5 = 0) => ?_)
  · exact tk_vret hx hb hr hlk hP hD hS dN_stepOnce_17 (tk_ewN (by unfold tkN_stepOnce_s; rw [if_neg h1_]))
  · refine lv_aload_n hx hb dN_stepOnce_12 rfl (lv_at hl 0 rfl) ?_
    refine lv_iconst (v := 1) hx hb dN_stepOnce_13 (by decide) ?_
    refine va_put (D := D) (ci := 1) (v := .int 1) (ty := .boolean) (C := RN) (T := TN) (N := 14) hx hb hw inN tyN tyN_ok nmN hown hK hP hD hS 0 rfl rfl 1 (by decide) f46 (fun _ h9 => h9) rfl (tyN_ok 1 (by decide)) rfl rfl (Nat.le_of_ble_eq_true rfl) dN_stepOnce_14 (fun H locs hP hD hS => ?_)
    have hP : va_P D vwCl [(h0, .inr (1, FN (tk_up (tkN_lessen_s c 1) 1 1)))] H := hP
    have hD : va_D A [(h0, .inr (1, FN (tk_up (tkN_lessen_s c 1) 1 1)))] := hD
    exact tk_vret hx hb hr hlk hP hD hS dN_stepOnce_17 (tk_ewN (by unfold tkN_stepOnce_s; rw [if_pos h1_]))
def tkN_countDown_s (c : Nat → Int32) : Nat → Int32 :=
  if c 2 = 2 then tkN_stepRate_s c
  else if c 2 = 3 then tkN_stepSquare_s c
    else if c 2 = 4 then tkN_stepStrobe_s c
      else if c 2 = 5 then tkN_stepStrobe_s c
        else tkN_stepOnce_s c
set_option maxHeartbeats 1000000 in
set_option maxRecDepth 100000 in
theorem kN_countDown (l : Launch) (D : va_G) (h0 : Nat) (c : Nat → Int32) : tk_M l yN_countDown wsN_countDown { frames := 2, cells := 0, slots := 0, locals := 41 } D [] [.ref h0] [(h0, .inr (1, FN c))] [(h0, .inr (1, FN (tkN_countDown_s c)))] none := by
  refine tk_M.of (cc := cN_countDown) (maxL := 1) (ret := none) (by decide) rfl (Nat.le_of_ble_eq_true rfl) ?_
  intro p e s m below meth co A H locs ls hB hK hN hA hP hD hS hl
  obtain ⟨hx, hb, hr, hml, hown, hlk, hnm, hts⟩ := hB
  have hown : s.vm.findClass RN = some m.cls := hown
  have hl : lv_has ls 1 [(0, .ref h0)] := hl
  have hw : ∀ w ∈ tkW, w.before _ s = true := fun w h => hts w (List.mem_cons_of_mem _ h)
  have f15 := hw _ wF_N_15
  refine lv_aload_n hx hb dN_countDown_0 rfl (lv_at hl 0 rfl) ?_
  refine va_get (D := D) (ci := 1) (v := .int (c 2)) (C := RN) (T := TN) (N := 14) hx hb hw inN hown hK hP 0 rfl rfl 2 (by decide) f15 (fun _ h9 => h9) rfl dN_countDown_1 ?_
  by_cases h1_ : c 2 = 2
  · refine lv_tableIn (tgt := 36) hx hb dN_countDown_4 (by rw [h1_]; decide) (by rw [h1_]; decide) (by rw [h1_]; rfl) (by decide) ?_
    refine lv_aload_n hx hb dN_countDown_36 rfl (lv_at hl 0 rfl) ?_
    refine tk_callA hD hS hA (va_runV (As := []) (rest := []) ⟨hx, hb, hml, hown, hw⟩ (kN_stepRate l D h0 c H.size) (cwV 0 hw (tk_gV tkW_good wM_N_97 wI_N_stepRate wS_N_stepRate wZ_N wC_N_stepRate) rfl rfl rfl (by decide +kernel) ⟨Nat.le_of_ble_eq_true rfl, Nat.le_of_ble_eq_true rfl⟩) (tk_preV (q0 := 0) hK hN hP hD [0] [] rfl rfl rfl rfl rfl) rfl rfl hl.1 rfl (lv_room (Nat.le_of_ble_eq_true rfl)) dN_countDown_37 ⟨Nat.zero_le _, Nat.zero_le _⟩) (fun H locs hP hD hS => ?_)
    refine W.eq (g2 := F0 m 40 ls []) rfl ?_
    refine lv_goto (tgt := 61) hx hb dN_countDown_40 (by decide) ?_
    exact tk_vret hx hb hr hlk hP hD hS dN_countDown_61 (tk_ewN (by unfold tkN_countDown_s; rw [if_pos h1_]))
  by_cases h2_ : c 2 = 3
  · refine lv_tableIn (tgt := 43) hx hb dN_countDown_4 (by rw [h2_]; decide) (by rw [h2_]; decide) (by rw [h2_]; rfl) (by decide) ?_
    refine lv_aload_n hx hb dN_countDown_43 rfl (lv_at hl 0 rfl) ?_
    refine tk_callA hD hS hA (va_runV (As := []) (rest := []) ⟨hx, hb, hml, hown, hw⟩ (kN_stepSquare l D h0 c H.size) (cwV 0 hw (tk_gV tkW_good wM_N_100 wI_N_stepSquare wS_N_stepSquare wZ_N wC_N_stepSquare) rfl rfl rfl (by decide +kernel) ⟨Nat.le_of_ble_eq_true rfl, Nat.le_of_ble_eq_true rfl⟩) (tk_preV (q0 := 0) hK hN hP hD [0] [] rfl rfl rfl rfl rfl) rfl rfl hl.1 rfl (lv_room (Nat.le_of_ble_eq_true rfl)) dN_countDown_44 ⟨Nat.zero_le _, Nat.zero_le _⟩) (fun H locs hP hD hS => ?_)
    refine W.eq (g2 := F0 m 47 ls []) rfl ?_
    refine lv_goto (tgt := 61) hx hb dN_countDown_47 (by decide) ?_
    exact tk_vret hx hb hr hlk hP hD hS dN_countDown_61 (tk_ewN (by unfold tkN_countDown_s; rw [if_neg h1_, if_pos h2_]))
  by_cases h3_ : c 2 = 4
  · refine lv_tableIn (tgt := 50) hx hb dN_countDown_4 (by rw [h3_]; decide) (by rw [h3_]; decide) (by rw [h3_]; rfl) (by decide) ?_
    refine lv_aload_n hx hb dN_countDown_50 rfl (lv_at hl 0 rfl) ?_
    refine tk_callA hD hS hA (va_runV (As := []) (rest := []) ⟨hx, hb, hml, hown, hw⟩ (kN_stepStrobe l D h0 c H.size) (cwV 0 hw (tk_gV tkW_good wM_N_103 wI_N_stepStrobe wS_N_stepStrobe wZ_N wC_N_stepStrobe) rfl rfl rfl (by decide +kernel) ⟨Nat.le_of_ble_eq_true rfl, Nat.le_of_ble_eq_true rfl⟩) (tk_preV (q0 := 0) hK hN hP hD [0] [] rfl rfl rfl rfl rfl) rfl rfl hl.1 rfl (lv_room (Nat.le_of_ble_eq_true rfl)) dN_countDown_51 ⟨Nat.zero_le _, Nat.zero_le _⟩) (fun H locs hP hD hS => ?_)
    refine W.eq (g2 := F0 m 54 ls []) rfl ?_
    refine lv_goto (tgt := 61) hx hb dN_countDown_54 (by decide) ?_
    exact tk_vret hx hb hr hlk hP hD hS dN_countDown_61 (tk_ewN (by unfold tkN_countDown_s; rw [if_neg h1_, if_neg h2_, if_pos h3_]))
  by_cases h4_ : c 2 = 5
  · refine lv_tableIn (tgt := 50) hx hb dN_countDown_4 (by rw [h4_]; decide) (by rw [h4_]; decide) (by rw [h4_]; rfl) (by decide) ?_
    refine lv_aload_n hx hb dN_countDown_50 rfl (lv_at hl 0 rfl) ?_
    refine tk_callA hD hS hA (va_runV (As := []) (rest := []) ⟨hx, hb, hml, hown, hw⟩ (kN_stepStrobe l D h0 c H.size) (cwV 0 hw (tk_gV tkW_good wM_N_103 wI_N_stepStrobe wS_N_stepStrobe wZ_N wC_N_stepStrobe) rfl rfl rfl (by decide +kernel) ⟨Nat.le_of_ble_eq_true rfl, Nat.le_of_ble_eq_true rfl⟩) (tk_preV (q0 := 0) hK hN hP hD [0] [] rfl rfl rfl rfl rfl) rfl rfl hl.1 rfl (lv_room (Nat.le_of_ble_eq_true rfl)) dN_countDown_51 ⟨Nat.zero_le _, Nat.zero_le _⟩) (fun H locs hP hD hS => ?_)
    refine W.eq (g2 := F0 m 54 ls []) rfl ?_
    refine lv_goto (tgt := 61) hx hb dN_countDown_54 (by decide) ?_
    exact tk_vret hx hb hr hlk hP hD hS dN_countDown_61 (tk_ewN (by unfold tkN_countDown_s; rw [if_neg h1_, if_neg h2_, if_neg h3_, if_pos h4_]))
  have ho : (c 2).toInt < 2 ∨ 5 < (c 2).toInt := by
    refine tk_out (fun k h1 h2 => ?_)
    rcases (show k = 2 ∨ k = 3 ∨ k = 4 ∨ k = 5 by omega) with rfl | rfl | rfl | rfl
    · exact h1_
    · exact h2_
    · exact h3_
    · exact h4_
  refine lv_tableOut (tgt := 57) hx hb dN_countDown_4 ho (by decide) ?_
  refine lv_aload_n hx hb dN_countDown_57 rfl (lv_at hl 0 rfl) ?_
  refine tk_callA hD hS hA (va_runV (As := []) (rest := []) ⟨hx, hb, hml, hown, hw⟩ (kN_stepOnce l D h0 c H.size) (cwV 0 hw (tk_gV tkW_good wM_N_106 wI_N_stepOnce wS_N_stepOnce wZ_N wC_N_stepOnce) rfl rfl rfl (by decide +kernel) ⟨Nat.le_of_ble_eq_true rfl, Nat.le_of_ble_eq_true rfl⟩) (tk_preV (q0 := 0) hK hN hP hD [0] [] rfl rfl rfl rfl rfl) rfl rfl hl.1 rfl (lv_room (Nat.le_of_ble_eq_true rfl)) dN_countDown_58 ⟨Nat.zero_le _, Nat.zero_le _⟩) (fun H locs hP hD hS => ?_)
  refine W.eq (g2 := F0 m 61 ls []) rfl ?_
  exact tk_vret hx hb hr hlk hP hD hS dN_countDown_61 (tk_ewN (by unfold tkN_countDown_s; rw [if_neg h1_, if_neg h2_, if_neg h3_, if_neg h4_]))
def tkN_step_s (c : Nat → Int32) : Nat → Int32 :=
  if tkN_isEmpty_r c = 0 then (if tkN_standsBetweenBytes_r c = 0 then (if c 7 = 0 then (if c 6 = 0 then c
        else if c 0 = 0 then (if tkN_gateHoldsBack_r c = 0 then tkN_countDown_s c
            else c)
          else tkN_countDown_s c)
      else tkN_load_s c)
    else c)
  else c
set_option maxHeartbeats 1000000 in
set_option maxRecDepth 100000 in
theorem kN_step (l : Launch) (D : va_G) (h0 : Nat) (c : Nat → Int32) : tk_M l yN_step wsN_step { frames := 3, cells := 0, slots := 0, locals := 61 } D [] [.ref h0] [(h0, .inr (1, FN c))] [(h0, .inr (1, FN (tkN_step_s c)))] none := by
  refine tk_M.of (cc := cN_step) (maxL := 1) (ret := none) (by decide) rfl (Nat.le_of_ble_eq_true rfl) ?_
  intro p e s m below meth co A H locs ls hB hK hN hA hP hD hS hl
  obtain ⟨hx, hb, hr, hml, hown, hlk, hnm, hts⟩ := hB
  have hown : s.vm.findClass RN = some m.cls := hown
  have hl : lv_has ls 1 [(0, .ref h0)] := hl
  have hw : ∀ w ∈ tkW, w.before _ s = true := fun w h => hts w (List.mem_cons_of_mem _ h)
  have f34 := hw _ wF_N_34
  have f31 := hw _ wF_N_31
  have f9 := hw _ wF_N_9
  refine lv_aload_n hx hb dN_step_0 rfl (lv_at hl 0 rfl) ?_
  refine tk_callA hD hS hA (va_runV (As := []) (rest := []) ⟨hx, hb, hml, hown, hw⟩ (kN_isEmpty l D h0 c H.size) (cwV 0 hw (tk_gV tkW_good wM_N_67 wI_N_isEmpty wS_N_isEmpty wZ_N wC_N_isEmpty) rfl rfl rfl (by decide +kernel) ⟨Nat.le_of_ble_eq_true rfl, Nat.le_of_ble_eq_true rfl⟩) (tk_preV (q0 := 0) hK hN hP hD [0] [] rfl rfl rfl rfl rfl) rfl rfl hl.1 rfl (lv_room (Nat.le_of_ble_eq_true rfl)) dN_step_1 ⟨Nat.zero_le _, Nat.zero_le _⟩) (fun H locs hP hD hS => ?_)
  refine W.eq (g2 := F0 m 4 ls [.int (tkN_isEmpty_r c)]) rfl ?_
  refine lv_if_ne (tgt := 14) hx hb dN_step_4 (by decide) (fun (h1_ : ¬ (tkN_isEmpty_r c = 0)) => ?_) (fun (h1_ : tkN_isEmpty_r c = 0) => ?_)
  · exact tk_vret hx hb hr hlk hP hD hS dN_step_14 (tk_ewN (by unfold tkN_step_s; rw [if_neg h1_]))
  · refine lv_aload_n hx hb dN_step_7 rfl (lv_at hl 0 rfl) ?_
    refine tk_callA hD hS hA (va_runV (As := []) (rest := []) ⟨hx, hb, hml, hown, hw⟩ (kN_standsBetweenBytes l D h0 c H.size) (cwV 0 hw (tk_gV tkW_good wM_N_76 wI_N_standsBetweenBytes wS_N_standsBetweenBytes wZ_N wC_N_standsBetweenBytes) rfl rfl rfl (by decide +kernel) ⟨Nat.le_of_ble_eq_true rfl, Nat.le_of_ble_eq_true rfl⟩) (tk_preV (q0 := 0) hK hN hP hD [0] [] rfl rfl rfl rfl rfl) rfl rfl hl.1 rfl (lv_room (Nat.le_of_ble_eq_true rfl)) dN_step_8 ⟨Nat.zero_le _, Nat.zero_le _⟩) (fun H locs hP hD hS => ?_)
    refine W.eq (g2 := F0 m 11 ls [.int (tkN_standsBetweenBytes_r c)]) rfl ?_
    refine lv_if_eq (tgt := 15) hx hb dN_step_11 (by decide) (fun (h2_ : tkN_standsBetweenBytes_r c = 0) => ?_) (fun (h2_ : ¬ (tkN_standsBetweenBytes_r c = 0)) => ?_)
    · refine lv_aload_n hx hb dN_step_15 rfl (lv_at hl 0 rfl) ?_
      refine va_get (D := D) (ci := 1) (v := .int (c 7)) (C := RN) (T := TN) (N := 14) hx hb hw inN hown hK hP 0 rfl rfl 7 (by decide) f34 (fun _ h9 => h9) rfl dN_step_16 ?_
      refine lv_if_eq (tgt := 29) hx hb dN_step_19 (by decide) (fun (h3_ : c 7 = 0) => ?_) (fun (h3_ : ¬ (c 7 = 0)) => ?_)
      · refine lv_aload_n hx hb dN_step_29 rfl (lv_at hl 0 rfl) ?_
        refine va_get (D := D) (ci := 1) (v := .int (c 6)) (C := RN) (T := TN) (N := 14) hx hb hw inN hown hK hP 0 rfl rfl 6 (by decide) f31 (fun _ h9 => h9) rfl dN_step_30 ?_
        refine lv_if_eq (tgt := 54) hx hb dN_step_33 (by decide) (fun (h4_ : c 6 = 0) => ?_) (fun (h4_ : ¬ (c 6 = 0)) => ?_)
        · exact tk_vret hx hb hr hlk hP hD hS dN_step_54 (tk_ewN (by unfold tkN_step_s; rw [if_pos h1_, if_pos h2_, if_pos h3_, if_pos h4_]))
        · refine lv_aload_n hx hb dN_step_36 rfl (lv_at hl 0 rfl) ?_
          refine va_get (D := D) (ci := 1) (v := .int (c 0)) (C := RN) (T := TN) (N := 14) hx hb hw inN hown hK hP 0 rfl rfl 0 (by decide) f9 (fun _ h9 => h9) rfl dN_step_37 ?_
          refine lv_if_ne (tgt := 50) hx hb dN_step_40 (by decide) (fun (h5_ : ¬ (c 0 = 0)) => ?_) (fun (h5_ : c 0 = 0) => ?_)
          · refine lv_aload_n hx hb dN_step_50 rfl (lv_at hl 0 rfl) ?_
            refine tk_callA hD hS hA (va_runV (As := []) (rest := []) ⟨hx, hb, hml, hown, hw⟩ (kN_countDown l D h0 c H.size) (cwV 0 hw (tk_gV tkW_good wM_N_85 wI_N_countDown wS_N_countDown wZ_N wC_N_countDown) rfl rfl rfl (by decide +kernel) ⟨Nat.le_of_ble_eq_true rfl, Nat.le_of_ble_eq_true rfl⟩) (tk_preV (q0 := 0) hK hN hP hD [0] [] rfl rfl rfl rfl rfl) rfl rfl hl.1 rfl (lv_room (Nat.le_of_ble_eq_true rfl)) dN_step_51 ⟨Nat.zero_le _, Nat.zero_le _⟩) (fun H locs hP hD hS => ?_)
            refine W.eq (g2 := F0 m 54 ls []) rfl ?_
            exact tk_vret hx hb hr hlk hP hD hS dN_step_54 (tk_ewN (by unfold tkN_step_s; rw [if_pos h1_, if_pos h2_, if_pos h3_, if_neg h4_, if_neg h5_]))
          · refine lv_aload_n hx hb dN_step_43 rfl (lv_at hl 0 rfl) ?_
            refine tk_callA hD hS hA (va_runV (As := []) (rest := []) ⟨hx, hb, hml, hown, hw⟩ (kN_gateHoldsBack l D h0 c H.size) (cwV 0 hw (tk_gV tkW_good wM_N_82 wI_N_gateHoldsBack wS_N_gateHoldsBack wZ_N wC_N_gateHoldsBack) rfl rfl rfl (by decide +kernel) ⟨Nat.le_of_ble_eq_true rfl, Nat.le_of_ble_eq_true rfl⟩) (tk_preV (q0 := 0) hK hN hP hD [0] [] rfl rfl rfl rfl rfl) rfl rfl hl.1 rfl (lv_room (Nat.le_of_ble_eq_true rfl)) dN_step_44 ⟨Nat.zero_le _, Nat.zero_le _⟩) (fun H locs hP hD hS => ?_)
            refine W.eq (g2 := F0 m 47 ls [.int (tkN_gateHoldsBack_r c)]) rfl ?_
            refine lv_if_ne (tgt := 54) hx hb dN_step_47 (by decide) (fun (h6_ : ¬ (tkN_gateHoldsBack_r c = 0)) => ?_) (fun (h6_ : tkN_gateHoldsBack_r c = 0) => ?_)
            · exact tk_vret hx hb hr hlk hP hD hS dN_step_54 (tk_ewN (by unfold tkN_step_s; rw [if_pos h1_, if_pos h2_, if_pos h3_, if_neg h4_, if_pos h5_, if_neg h6_]))
            · refine lv_aload_n hx hb dN_step_50 rfl (lv_at hl 0 rfl) ?_
              refine tk_callA hD hS hA (va_runV (As := []) (rest := []) ⟨hx, hb, hml, hown, hw⟩ (kN_countDown l D h0 c H.size) (cwV 0 hw (tk_gV tkW_good wM_N_85 wI_N_countDown wS_N_countDown wZ_N wC_N_countDown) rfl rfl rfl (by decide +kernel) ⟨Nat.le_of_ble_eq_true rfl, Nat.le_of_ble_eq_true rfl⟩) (tk_preV (q0 := 0) hK hN hP hD [0] [] rfl rfl rfl rfl rfl) rfl rfl hl.1 rfl (lv_room (Nat.le_of_ble_eq_true rfl)) dN_step_51 ⟨Nat.zero_le _, Nat.zero_le _⟩) (fun H locs hP hD hS => ?_)
              refine W.eq (g2 := F0 m 54 ls []) rfl ?_
              exact tk_vret hx hb hr hlk hP hD hS dN_step_54 (tk_ewN (by unfold tkN_step_s; rw [if_pos h1_, if_pos h2_, if_pos h3_, if_neg h4_, if_pos h5_, if_pos h6_]))
      · refine lv_aload_n hx hb dN_step_22 rfl (lv_at hl 0 rfl) ?_
        refine tk_callA hD hS hA (va_runV (As := []) (rest := []) ⟨hx, hb, hml, hown, hw⟩ (kN_load l D h0 c H.size) (cwV 0 hw (tk_gV tkW_good wM_N_79 wI_N_load wS_N_load wZ_N wC_N_load) rfl rfl rfl (by decide +kernel) ⟨Nat.le_of_ble_eq_true rfl, Nat.le_of_ble_eq_true rfl⟩) (tk_preV (q0 := 0) hK hN hP hD [0] [] rfl rfl rfl rfl rfl) rfl rfl hl.1 rfl (lv_room (Nat.le_of_ble_eq_true rfl)) dN_step_23 ⟨Nat.zero_le _, Nat.zero_le _⟩) (fun H locs hP hD hS => ?_)
        refine W.eq (g2 := F0 m 26 ls []) rfl ?_
        refine lv_goto (tgt := 54) hx hb dN_step_26 (by decide) ?_
        exact tk_vret hx hb hr hlk hP hD hS dN_step_54 (tk_ewN (by unfold tkN_step_s; rw [if_pos h1_, if_pos h2_, if_neg h3_]))
    · exact tk_vret hx hb hr hlk hP hD hS dN_step_14 (tk_ewN (by unfold tkN_step_s; rw [if_pos h1_, if_neg h2_]))
def tkN_tell_r (c : Nat → Int32) (x0 : Int32) : Int32 :=
  if x0 = 0 then c 5
  else if x0 = 1 then tkT_asBit_r (c 1)
    else if x0 = 2 then tkT_asBit_r (c 0)
      else if x0 = 3 then c 2
        else if x0 = 4 then c 4
          else if x0 = 5 then tkT_asBit_r (c 6)
            else if x0 = 6 then tkT_asBit_r (c 7)
              else (-1)
set_option maxHeartbeats 1000000 in
set_option maxRecDepth 100000 in
theorem kN_tell (l : Launch) (D : va_G) (h0 : Nat) (c : Nat → Int32) (x0 : Int32) : tk_M l yN_tell wsN_tell { frames := 1, cells := 0, slots := 0, locals := 20 } D [] [.ref h0, .int x0] [(h0, .inr (1, FN c))] [(h0, .inr (1, FN c))] (some (.int (tkN_tell_r c x0))) := by
  refine tk_M.of (cc := cN_tell) (maxL := 2) (ret := (some .int)) (by decide) rfl (Nat.le_of_ble_eq_true rfl) ?_
  intro p e s m below meth co A H locs ls hB hK hN hA hP hD hS hl
  obtain ⟨hx, hb, hr, hml, hown, hlk, hnm, hts⟩ := hB
  have hown : s.vm.findClass RN = some m.cls := hown
  have hl : lv_has ls 2 [(0, .ref h0), (1, .int x0)] := hl
  have hw : ∀ w ∈ tkW, w.before _ s = true := fun w h => hts w (List.mem_cons_of_mem _ h)
  have f53 := hw _ wF_N_53
  have f46 := hw _ wF_N_46
  have f9 := hw _ wF_N_9
  have f15 := hw _ wF_N_15
  have f28 := hw _ wF_N_28
  have f31 := hw _ wF_N_31
  have f34 := hw _ wF_N_34
  refine lv_iload_n hx hb dN_tell_0 rfl (lv_at hl 1 rfl) ?_
  by_cases h1_ : x0 = 0
  · refine lv_tableIn (tgt := 44) hx hb dN_tell_1 (by rw [h1_]; decide) (by rw [h1_]; decide) (by rw [h1_]; rfl) (by decide) ?_
    refine lv_aload_n hx hb dN_tell_44 rfl (lv_at hl 0 rfl) ?_
    refine va_get (D := D) (ci := 1) (v := .int (c 5)) (C := RN) (T := TN) (N := 14) hx hb hw inN hown hK hP 0 rfl rfl 5 (by decide) f53 (fun _ h9 => h9) rfl dN_tell_45 ?_
    exact tk_iret hx hb hr hlk hP hD hS dN_tell_48 (by unfold tkN_tell_r; rw [if_pos h1_]) rfl
  by_cases h2_ : x0 = 1
  · refine lv_tableIn (tgt := 49) hx hb dN_tell_1 (by rw [h2_]; decide) (by rw [h2_]; decide) (by rw [h2_]; rfl) (by decide) ?_
    refine lv_aload_n hx hb dN_tell_49 rfl (lv_at hl 0 rfl) ?_
    refine va_get (D := D) (ci := 1) (v := .int (c 1)) (C := RN) (T := TN) (N := 14) hx hb hw inN hown hK hP 0 rfl rfl 1 (by decide) f46 (fun _ h9 => h9) rfl dN_tell_50 ?_
    refine tk_call0 hP hD hS hA (va_runSN (As := [.int (c 1)]) (rest := []) ⟨hx, hb, hml, hown, hw⟩ (kT_asBit l D (c 1) H.size) ⟨va_cnB 1 hw (tk_g0 tkW_good wC_T_asBit) rfl rfl rfl (hN (.methodLinkNest RN 56 yT_asBit "TickLines") (by decide +kernel)) (hw _ wZ_T) (by decide +kernel) ⟨Nat.le_of_ble_eq_true rfl, Nat.le_of_ble_eq_true rfl⟩, hw _ wT_T_asBit, trivial⟩ (tk_preS hK hN hP hD [] [] rfl rfl rfl) rfl rfl hl.1 rfl (lv_room (Nat.le_of_ble_eq_true rfl)) dN_tell_53 ⟨Nat.zero_le _, Nat.zero_le _⟩) (fun H locs hP hD hS => ?_)
    refine W.eq (g2 := F0 m 56 ls [.int (tkT_asBit_r (c 1))]) rfl ?_
    exact tk_iret hx hb hr hlk hP hD hS dN_tell_56 (by unfold tkN_tell_r; rw [if_neg h1_, if_pos h2_]) rfl
  by_cases h3_ : x0 = 2
  · refine lv_tableIn (tgt := 57) hx hb dN_tell_1 (by rw [h3_]; decide) (by rw [h3_]; decide) (by rw [h3_]; rfl) (by decide) ?_
    refine lv_aload_n hx hb dN_tell_57 rfl (lv_at hl 0 rfl) ?_
    refine va_get (D := D) (ci := 1) (v := .int (c 0)) (C := RN) (T := TN) (N := 14) hx hb hw inN hown hK hP 0 rfl rfl 0 (by decide) f9 (fun _ h9 => h9) rfl dN_tell_58 ?_
    refine tk_call0 hP hD hS hA (va_runSN (As := [.int (c 0)]) (rest := []) ⟨hx, hb, hml, hown, hw⟩ (kT_asBit l D (c 0) H.size) ⟨va_cnB 1 hw (tk_g0 tkW_good wC_T_asBit) rfl rfl rfl (hN (.methodLinkNest RN 56 yT_asBit "TickLines") (by decide +kernel)) (hw _ wZ_T) (by decide +kernel) ⟨Nat.le_of_ble_eq_true rfl, Nat.le_of_ble_eq_true rfl⟩, hw _ wT_T_asBit, trivial⟩ (tk_preS hK hN hP hD [] [] rfl rfl rfl) rfl rfl hl.1 rfl (lv_room (Nat.le_of_ble_eq_true rfl)) dN_tell_61 ⟨Nat.zero_le _, Nat.zero_le _⟩) (fun H locs hP hD hS => ?_)
    refine W.eq (g2 := F0 m 64 ls [.int (tkT_asBit_r (c 0))]) rfl ?_
    exact tk_iret hx hb hr hlk hP hD hS dN_tell_64 (by unfold tkN_tell_r; rw [if_neg h1_, if_neg h2_, if_pos h3_]) rfl
  by_cases h4_ : x0 = 3
  · refine lv_tableIn (tgt := 65) hx hb dN_tell_1 (by rw [h4_]; decide) (by rw [h4_]; decide) (by rw [h4_]; rfl) (by decide) ?_
    refine lv_aload_n hx hb dN_tell_65 rfl (lv_at hl 0 rfl) ?_
    refine va_get (D := D) (ci := 1) (v := .int (c 2)) (C := RN) (T := TN) (N := 14) hx hb hw inN hown hK hP 0 rfl rfl 2 (by decide) f15 (fun _ h9 => h9) rfl dN_tell_66 ?_
    exact tk_iret hx hb hr hlk hP hD hS dN_tell_69 (by unfold tkN_tell_r; rw [if_neg h1_, if_neg h2_, if_neg h3_, if_pos h4_]) rfl
  by_cases h5_ : x0 = 4
  · refine lv_tableIn (tgt := 70) hx hb dN_tell_1 (by rw [h5_]; decide) (by rw [h5_]; decide) (by rw [h5_]; rfl) (by decide) ?_
    refine lv_aload_n hx hb dN_tell_70 rfl (lv_at hl 0 rfl) ?_
    refine va_get (D := D) (ci := 1) (v := .int (c 4)) (C := RN) (T := TN) (N := 14) hx hb hw inN hown hK hP 0 rfl rfl 4 (by decide) f28 (fun _ h9 => h9) rfl dN_tell_71 ?_
    exact tk_iret hx hb hr hlk hP hD hS dN_tell_74 (by unfold tkN_tell_r; rw [if_neg h1_, if_neg h2_, if_neg h3_, if_neg h4_, if_pos h5_]) rfl
  by_cases h6_ : x0 = 5
  · refine lv_tableIn (tgt := 75) hx hb dN_tell_1 (by rw [h6_]; decide) (by rw [h6_]; decide) (by rw [h6_]; rfl) (by decide) ?_
    refine lv_aload_n hx hb dN_tell_75 rfl (lv_at hl 0 rfl) ?_
    refine va_get (D := D) (ci := 1) (v := .int (c 6)) (C := RN) (T := TN) (N := 14) hx hb hw inN hown hK hP 0 rfl rfl 6 (by decide) f31 (fun _ h9 => h9) rfl dN_tell_76 ?_
    refine tk_call0 hP hD hS hA (va_runSN (As := [.int (c 6)]) (rest := []) ⟨hx, hb, hml, hown, hw⟩ (kT_asBit l D (c 6) H.size) ⟨va_cnB 1 hw (tk_g0 tkW_good wC_T_asBit) rfl rfl rfl (hN (.methodLinkNest RN 56 yT_asBit "TickLines") (by decide +kernel)) (hw _ wZ_T) (by decide +kernel) ⟨Nat.le_of_ble_eq_true rfl, Nat.le_of_ble_eq_true rfl⟩, hw _ wT_T_asBit, trivial⟩ (tk_preS hK hN hP hD [] [] rfl rfl rfl) rfl rfl hl.1 rfl (lv_room (Nat.le_of_ble_eq_true rfl)) dN_tell_79 ⟨Nat.zero_le _, Nat.zero_le _⟩) (fun H locs hP hD hS => ?_)
    refine W.eq (g2 := F0 m 82 ls [.int (tkT_asBit_r (c 6))]) rfl ?_
    exact tk_iret hx hb hr hlk hP hD hS dN_tell_82 (by unfold tkN_tell_r; rw [if_neg h1_, if_neg h2_, if_neg h3_, if_neg h4_, if_neg h5_, if_pos h6_]) rfl
  by_cases h7_ : x0 = 6
  · refine lv_tableIn (tgt := 83) hx hb dN_tell_1 (by rw [h7_]; decide) (by rw [h7_]; decide) (by rw [h7_]; rfl) (by decide) ?_
    refine lv_aload_n hx hb dN_tell_83 rfl (lv_at hl 0 rfl) ?_
    refine va_get (D := D) (ci := 1) (v := .int (c 7)) (C := RN) (T := TN) (N := 14) hx hb hw inN hown hK hP 0 rfl rfl 7 (by decide) f34 (fun _ h9 => h9) rfl dN_tell_84 ?_
    refine tk_call0 hP hD hS hA (va_runSN (As := [.int (c 7)]) (rest := []) ⟨hx, hb, hml, hown, hw⟩ (kT_asBit l D (c 7) H.size) ⟨va_cnB 1 hw (tk_g0 tkW_good wC_T_asBit) rfl rfl rfl (hN (.methodLinkNest RN 56 yT_asBit "TickLines") (by decide +kernel)) (hw _ wZ_T) (by decide +kernel) ⟨Nat.le_of_ble_eq_true rfl, Nat.le_of_ble_eq_true rfl⟩, hw _ wT_T_asBit, trivial⟩ (tk_preS hK hN hP hD [] [] rfl rfl rfl) rfl rfl hl.1 rfl (lv_room (Nat.le_of_ble_eq_true rfl)) dN_tell_87 ⟨Nat.zero_le _, Nat.zero_le _⟩) (fun H locs hP hD hS => ?_)
    refine W.eq (g2 := F0 m 90 ls [.int (tkT_asBit_r (c 7))]) rfl ?_
    exact tk_iret hx hb hr hlk hP hD hS dN_tell_90 (by unfold tkN_tell_r; rw [if_neg h1_, if_neg h2_, if_neg h3_, if_neg h4_, if_neg h5_, if_neg h6_, if_pos h7_]) rfl
  have ho : (x0).toInt < 0 ∨ 6 < (x0).toInt := by
    refine tk_out (fun k h1 h2 => ?_)
    rcases (show k = 0 ∨ k = 1 ∨ k = 2 ∨ k = 3 ∨ k = 4 ∨ k = 5 ∨ k = 6 by omega) with rfl | rfl | rfl | rfl | rfl | rfl | rfl
    · exact h1_
    · exact h2_
    · exact h3_
    · exact h4_
    · exact h5_
    · exact h6_
    · exact h7_
  refine lv_tableOut (tgt := 91) hx hb dN_tell_1 ho (by decide) ?_
  refine lv_iconst (v := -1) hx hb dN_tell_91 (by decide) ?_
  exact tk_iret hx hb hr hlk hP hD hS dN_tell_92 (by unfold tkN_tell_r; rw [if_neg h1_, if_neg h2_, if_neg h3_, if_neg h4_, if_neg h5_, if_neg h6_, if_neg h7_]) rfl
