def tkC_setLine_s (c : Nat → Int32) (x0 x1 : Int32) : Nat → Int32 :=
  if x1 = 0 then tk_up c 1 ((c 1) &&& (((1 : Int32) <<< (x0 &&& 31)) ^^^ (-1)))
  else tk_up (tk_up c 2 ((c 2) ||| (((1 : Int32) <<< (x0 &&& 31)) &&& ((c 1) ^^^ (-1))))) 1 ((c 1) ||| ((1 : Int32) <<< (x0 &&& 31)))
set_option maxHeartbeats 1000000 in
set_option maxRecDepth 100000 in
theorem kC_setLine (l : Launch) (D : va_G) (h0 : Nat) (c : Nat → Int32) (x0 x1 : Int32) : tk_M l yC_setLine wsC_setLine { frames := 0, cells := 0, slots := 0, locals := 0 } D [] [.ref h0, .int x0, .int x1] [(h0, .inr (0, FC c))] [(h0, .inr (0, FC (tkC_setLine_s c x0 x1)))] none := by
  refine tk_M.of (cc := cC_setLine) (maxL := 4) (ret := none) (by decide) rfl (Nat.le_of_ble_eq_true rfl) ?_
  intro p e s m below meth co A H locs ls hB hK hN hA hP hD hS hl
  obtain ⟨hx, hb, hr, hml, hown, hlk, hnm, hts⟩ := hB
  have hown : s.vm.findClass RC = some m.cls := hown
  have hl : lv_has ls 4 [(0, .ref h0), (1, .int x0), (2, .int x1)] := hl
  have hw : ∀ w ∈ tkW, w.before _ s = true := fun w h => hts w (List.mem_cons_of_mem _ h)
  have f22 := hw _ wF_C_22
  have f19 := hw _ wF_C_19
  refine lv_iconst (v := 1) hx hb dC_setLine_0 (by decide) ?_
  refine lv_iload_n hx hb dC_setLine_1 rfl (lv_at hl 1 rfl) ?_
  refine lv_ishl hx hb dC_setLine_2 ?_
  refine lv_istore_n hx hb dC_setLine_3 rfl hl (by decide) rfl (fun ls hl => ?_)
  have hl : lv_has ls 4 [(3, .int ((1 : Int32) <<< (x0 &&& 31))), (0, .ref h0), (1, .int x0), (2, .int x1)] := hl
  refine lv_iload_n hx hb dC_setLine_4 rfl (lv_at hl 3 rfl) ?_
  refine lv_if_eq (tgt := 38) hx hb dC_setLine_5 (by decide) (fun (h1_ : x1 = 0) => ?_) (fun (h1_ : ¬ (x1 = 0)) => ?_)
  · refine lv_aload_n hx hb dC_setLine_38 rfl (lv_at hl 1 rfl) ?_
    refine lv_dup hx hb dC_setLine_39 rfl ?_
    refine va_get (D := D) (ci := 0) (v := .int (c 1)) (C := RC) (T := TC) (N := 18) hx hb hw inC hown hK hP 0 rfl rfl 1 (by decide) f22 (fun _ h9 => h9) rfl dC_setLine_40 ?_
    refine lv_iload_n hx hb dC_setLine_43 rfl (lv_at hl 0 rfl) ?_
    refine lv_iconst (v := -1) hx hb dC_setLine_44 (by decide) ?_
    refine lv_ixor hx hb dC_setLine_45 ?_
    refine lv_iand hx hb dC_setLine_46 ?_
    refine va_put (D := D) (ci := 0) (v := .int ((c 1) &&& (((1 : Int32) <<< (x0 &&& 31)) ^^^ (-1)))) (ty := .int) (C := RC) (T := TC) (N := 18) hx hb hw inC tyC tyC_ok nmC hown hK hP hD hS 0 rfl rfl 1 (by decide) f22 (fun _ h9 => h9) rfl (tyC_ok 1 (by decide)) rfl rfl (Nat.le_of_ble_eq_true rfl) dC_setLine_47 (fun H locs hP hD hS => ?_)
    have hP : va_P D vwCl [(h0, .inr (0, FC (tk_up c 1 ((c 1) &&& (((1 : Int32) <<< (x0 &&& 31)) ^^^ (-1))))))] H := hP
    have hD : va_D A [(h0, .inr (0, FC (tk_up c 1 ((c 1) &&& (((1 : Int32) <<< (x0 &&& 31)) ^^^ (-1))))))] := hD
    exact tk_vret hx hb hr hlk hP hD hS dC_setLine_50 (tk_ewC (by unfold tkC_setLine_s; rw [if_pos h1_]))
  · refine lv_aload_n hx hb dC_setLine_8 rfl (lv_at hl 1 rfl) ?_
    refine lv_dup hx hb dC_setLine_9 rfl ?_
    refine va_get (D := D) (ci := 0) (v := .int (c 2)) (C := RC) (T := TC) (N := 18) hx hb hw inC hown hK hP 0 rfl rfl 2 (by decide) f19 (fun _ h9 => h9) rfl dC_setLine_10 ?_
    refine lv_iload_n hx hb dC_setLine_13 rfl (lv_at hl 0 rfl) ?_
    refine lv_aload_n hx hb dC_setLine_14 rfl (lv_at hl 1 rfl) ?_
    refine va_get (D := D) (ci := 0) (v := .int (c 1)) (C := RC) (T := TC) (N := 18) hx hb hw inC hown hK hP 0 rfl rfl 1 (by decide) f22 (fun _ h9 => h9) rfl dC_setLine_15 ?_
    refine lv_iconst (v := -1) hx hb dC_setLine_18 (by decide) ?_
    refine lv_ixor hx hb dC_setLine_19 ?_
    refine lv_iand hx hb dC_setLine_20 ?_
    refine lv_ior hx hb dC_setLine_21 ?_
    refine va_put (D := D) (ci := 0) (v := .int ((c 2) ||| (((1 : Int32) <<< (x0 &&& 31)) &&& ((c 1) ^^^ (-1))))) (ty := .int) (C := RC) (T := TC) (N := 18) hx hb hw inC tyC tyC_ok nmC hown hK hP hD hS 0 rfl rfl 2 (by decide) f19 (fun _ h9 => h9) rfl (tyC_ok 2 (by decide)) rfl rfl (Nat.le_of_ble_eq_true rfl) dC_setLine_22 (fun H locs hP hD hS => ?_)
    have hP : va_P D vwCl [(h0, .inr (0, FC (tk_up c 2 ((c 2) ||| (((1 : Int32) <<< (x0 &&& 31)) &&& ((c 1) ^^^ (-1)))))))] H := hP
    have hD : va_D A [(h0, .inr (0, FC (tk_up c 2 ((c 2) ||| (((1 : Int32) <<< (x0 &&& 31)) &&& ((c 1) ^^^ (-1)))))))] := hD
    refine lv_aload_n hx hb dC_setLine_25 rfl (lv_at hl 1 rfl) ?_
    refine lv_dup hx hb dC_setLine_26 rfl ?_
    refine va_get (D := D) (ci := 0) (v := .int (c 1)) (C := RC) (T := TC) (N := 18) hx hb hw inC hown hK hP 0 rfl rfl 1 (by decide) f22 (fun _ h9 => h9) rfl dC_setLine_27 ?_
    refine lv_iload_n hx hb dC_setLine_30 rfl (lv_at hl 0 rfl) ?_
    refine lv_ior hx hb dC_setLine_31 ?_
    refine va_put (D := D) (ci := 0) (v := .int ((c 1) ||| ((1 : Int32) <<< (x0 &&& 31)))) (ty := .int) (C := RC) (T := TC) (N := 18) hx hb hw inC tyC tyC_ok nmC hown hK hP hD hS 0 rfl rfl 1 (by decide) f22 (fun _ h9 => h9) rfl (tyC_ok 1 (by decide)) rfl rfl (Nat.le_of_ble_eq_true rfl) dC_setLine_32 (fun H locs hP hD hS => ?_)
    have hP : va_P D vwCl [(h0, .inr (0, FC (tk_up (tk_up c 2 ((c 2) ||| (((1 : Int32) <<< (x0 &&& 31)) &&& ((c 1) ^^^ (-1))))) 1 ((c 1) ||| ((1 : Int32) <<< (x0 &&& 31))))))] H := hP
    have hD : va_D A [(h0, .inr (0, FC (tk_up (tk_up c 2 ((c 2) ||| (((1 : Int32) <<< (x0 &&& 31)) &&& ((c 1) ^^^ (-1))))) 1 ((c 1) ||| ((1 : Int32) <<< (x0 &&& 31))))))] := hD
    refine lv_goto (tgt := 50) hx hb dC_setLine_35 (by decide) ?_
    exact tk_vret hx hb hr hlk hP hD hS dC_setLine_50 (tk_ewC (by unfold tkC_setLine_s; rw [if_neg h1_]))
def tkC_requests_r (c : Nat → Int32) : Int32 :=
  if c 9 = 0 then (c 1) &&& (c 2)
  else c 1
set_option maxHeartbeats 1000000 in
set_option maxRecDepth 100000 in
theorem kC_requests (l : Launch) (D : va_G) (h0 : Nat) (c : Nat → Int32) : tk_M l yC_requests wsC_requests { frames := 0, cells := 0, slots := 0, locals := 0 } D [] [.ref h0] [(h0, .inr (0, FC c))] [(h0, .inr (0, FC c))] (some (.int (tkC_requests_r c))) := by
  refine tk_M.of (cc := cC_requests) (maxL := 1) (ret := (some .int)) (by decide) rfl (Nat.le_of_ble_eq_true rfl) ?_
  intro p e s m below meth co A H locs ls hB hK hN hA hP hD hS hl
  obtain ⟨hx, hb, hr, hml, hown, hlk, hnm, hts⟩ := hB
  have hown : s.vm.findClass RC = some m.cls := hown
  have hl : lv_has ls 1 [(0, .ref h0)] := hl
  have hw : ∀ w ∈ tkW, w.before _ s = true := fun w h => hts w (List.mem_cons_of_mem _ h)
  have f100 := hw _ wF_C_100
  have f22 := hw _ wF_C_22
  have f19 := hw _ wF_C_19
  refine lv_aload_n hx hb dC_requests_0 rfl (lv_at hl 0 rfl) ?_
  refine va_get (D := D) (ci := 0) (v := .int (c 9)) (C := RC) (T := TC) (N := 18) hx hb hw inC hown hK hP 0 rfl rfl 9 (by decide) f100 (fun _ h9 => h9) rfl dC_requests_1 ?_
  refine lv_if_eq (tgt := 14) hx hb dC_requests_4 (by decide) (fun (h1_ : c 9 = 0) => ?_) (fun (h1_ : ¬ (c 9 = 0)) => ?_)
  · refine lv_aload_n hx hb dC_requests_14 rfl (lv_at hl 0 rfl) ?_
    refine va_get (D := D) (ci := 0) (v := .int (c 1)) (C := RC) (T := TC) (N := 18) hx hb hw inC hown hK hP 0 rfl rfl 1 (by decide) f22 (fun _ h9 => h9) rfl dC_requests_15 ?_
    refine lv_aload_n hx hb dC_requests_18 rfl (lv_at hl 0 rfl) ?_
    refine va_get (D := D) (ci := 0) (v := .int (c 2)) (C := RC) (T := TC) (N := 18) hx hb hw inC hown hK hP 0 rfl rfl 2 (by decide) f19 (fun _ h9 => h9) rfl dC_requests_19 ?_
    refine lv_iand hx hb dC_requests_22 ?_
    exact tk_iret hx hb hr hlk hP hD hS dC_requests_23 (by unfold tkC_requests_r; rw [if_pos h1_]) rfl
  · refine lv_aload_n hx hb dC_requests_7 rfl (lv_at hl 0 rfl) ?_
    refine va_get (D := D) (ci := 0) (v := .int (c 1)) (C := RC) (T := TC) (N := 18) hx hb hw inC hown hK hP 0 rfl rfl 1 (by decide) f22 (fun _ h9 => h9) rfl dC_requests_8 ?_
    refine lv_goto (tgt := 23) hx hb dC_requests_11 (by decide) ?_
    exact tk_iret hx hb hr hlk hP hD hS dC_requests_23 (by unfold tkC_requests_r; rw [if_neg h1_]) rfl
def tkC_holdingLevels_r (c : Nat → Int32) : Int32 :=
  if c 14 = 0 then c 4
  else (c 4) &&& ((c 3) ^^^ (-1))
set_option maxHeartbeats 1000000 in
set_option maxRecDepth 100000 in
theorem kC_holdingLevels (l : Launch) (D : va_G) (h0 : Nat) (c : Nat → Int32) : tk_M l yC_holdingLevels wsC_holdingLevels { frames := 0, cells := 0, slots := 0, locals := 0 } D [] [.ref h0] [(h0, .inr (0, FC c))] [(h0, .inr (0, FC c))] (some (.int (tkC_holdingLevels_r c))) := by
  refine tk_M.of (cc := cC_holdingLevels) (maxL := 1) (ret := (some .int)) (by decide) rfl (Nat.le_of_ble_eq_true rfl) ?_
  intro p e s m below meth co A H locs ls hB hK hN hA hP hD hS hl
  obtain ⟨hx, hb, hr, hml, hown, hlk, hnm, hts⟩ := hB
  have hown : s.vm.findClass RC = some m.cls := hown
  have hl : lv_has ls 1 [(0, .ref h0)] := hl
  have hw : ∀ w ∈ tkW, w.before _ s = true := fun w h => hts w (List.mem_cons_of_mem _ h)
  have f103 := hw _ wF_C_103
  have f93 := hw _ wF_C_93
  have f32 := hw _ wF_C_32
  refine lv_aload_n hx hb dC_holdingLevels_0 rfl (lv_at hl 0 rfl) ?_
  refine va_get (D := D) (ci := 0) (v := .int (c 14)) (C := RC) (T := TC) (N := 18) hx hb hw inC hown hK hP 0 rfl rfl 14 (by decide) f103 (fun _ h9 => h9) rfl dC_holdingLevels_1 ?_
  refine lv_if_eq (tgt := 21) hx hb dC_holdingLevels_4 (by decide) (fun (h1_ : c 14 = 0) => ?_) (fun (h1_ : ¬ (c 14 = 0)) => ?_)
  · refine lv_aload_n hx hb dC_holdingLevels_21 rfl (lv_at hl 0 rfl) ?_
    refine va_get (D := D) (ci := 0) (v := .int (c 4)) (C := RC) (T := TC) (N := 18) hx hb hw inC hown hK hP 0 rfl rfl 4 (by decide) f93 (fun _ h9 => h9) rfl dC_holdingLevels_22 ?_
    exact tk_iret hx hb hr hlk hP hD hS dC_holdingLevels_25 (by unfold tkC_holdingLevels_r; rw [if_pos h1_]) rfl
  · refine lv_aload_n hx hb dC_holdingLevels_7 rfl (lv_at hl 0 rfl) ?_
    refine va_get (D := D) (ci := 0) (v := .int (c 4)) (C := RC) (T := TC) (N := 18) hx hb hw inC hown hK hP 0 rfl rfl 4 (by decide) f93 (fun _ h9 => h9) rfl dC_holdingLevels_8 ?_
    refine lv_aload_n hx hb dC_holdingLevels_11 rfl (lv_at hl 0 rfl) ?_
    refine va_get (D := D) (ci := 0) (v := .int (c 3)) (C := RC) (T := TC) (N := 18) hx hb hw inC hown hK hP 0 rfl rfl 3 (by decide) f32 (fun _ h9 => h9) rfl dC_holdingLevels_12 ?_
    refine lv_iconst (v := -1) hx hb dC_holdingLevels_15 (by decide) ?_
    refine lv_ixor hx hb dC_holdingLevels_16 ?_
    refine lv_iand hx hb dC_holdingLevels_17 ?_
    refine lv_goto (tgt := 25) hx hb dC_holdingLevels_18 (by decide) ?_
    exact tk_iret hx hb hr hlk hP hD hS dC_holdingLevels_25 (by unfold tkC_holdingLevels_r; rw [if_neg h1_]) rfl
def tkC_mayNest_r (c : Nat → Int32) (x0 : Int32) : Int32 :=
  if c 13 = 0 then 0
  else if c 0 = 0 then 0
    else if x0 = 2 then 1
      else 0
set_option maxHeartbeats 1000000 in
set_option maxRecDepth 100000 in
theorem kC_mayNest (l : Launch) (D : va_G) (h0 : Nat) (c : Nat → Int32) (x0 : Int32) : tk_M l yC_mayNest wsC_mayNest { frames := 0, cells := 0, slots := 0, locals := 0 } D [] [.ref h0, .int x0] [(h0, .inr (0, FC c))] [(h0, .inr (0, FC c))] (some (.int (tkC_mayNest_r c x0))) := by
  refine tk_M.of (cc := cC_mayNest) (maxL := 2) (ret := (some .boolean)) (by decide) rfl (Nat.le_of_ble_eq_true rfl) ?_
  intro p e s m below meth co A H locs ls hB hK hN hA hP hD hS hl
  obtain ⟨hx, hb, hr, hml, hown, hlk, hnm, hts⟩ := hB
  have hown : s.vm.findClass RC = some m.cls := hown
  have hl : lv_has ls 2 [(0, .ref h0), (1, .int x0)] := hl
  have hw : ∀ w ∈ tkW, w.before _ s = true := fun w h => hts w (List.mem_cons_of_mem _ h)
  have f78 := hw _ wF_C_78
  have f9 := hw _ wF_C_9
  refine lv_aload_n hx hb dC_mayNest_0 rfl (lv_at hl 0 rfl) ?_
  refine va_get (D := D) (ci := 0) (v := .int (c 13)) (C := RC) (T := TC) (N := 18) hx hb hw inC hown hK hP 0 rfl rfl 13 (by decide) f78 (fun _ h9 => h9) rfl dC_mayNest_1 ?_
  refine lv_if_eq (tgt := 23) hx hb dC_mayNest_4 (by decide) (fun (h1_ : c 13 = 0) => ?_) (fun (h1_ : ¬ (c 13 = 0)) => ?_)
  · refine lv_iconst (v := 0) hx hb dC_mayNest_23 (by decide) ?_
    exact tk_zret hx hb hr hlk hP hD hS dC_mayNest_24 rfl (by unfold tkC_mayNest_r; rw [if_pos h1_]) rfl
  · refine lv_aload_n hx hb dC_mayNest_7 rfl (lv_at hl 0 rfl) ?_
    refine va_get (D := D) (ci := 0) (v := .int (c 0)) (C := RC) (T := TC) (N := 18) hx hb hw inC hown hK hP 0 rfl rfl 0 (by decide) f9 (fun _ h9 => h9) rfl dC_mayNest_8 ?_
    refine lv_if_eq (tgt := 23) hx hb dC_mayNest_11 (by decide) (fun (h2_ : c 0 = 0) => ?_) (fun (h2_ : ¬ (c 0 = 0)) => ?_)
    · refine lv_iconst (v := 0) hx hb dC_mayNest_23 (by decide) ?_
      exact tk_zret hx hb hr hlk hP hD hS dC_mayNest_24 rfl (by unfold tkC_mayNest_r; rw [if_neg h1_, if_pos h2_]) rfl
    · refine lv_iload_n hx hb dC_mayNest_14 rfl (lv_at hl 1 rfl) ?_
      refine lv_iconst (v := 2) hx hb dC_mayNest_15 (by decide) ?_
      refine lv_icmp_ne (tgt := 23) hx hb dC_mayNest_16 (by decide) (fun (h3_ : ¬ (x0 = 2)) => ?_) (fun (h3_ : x0 = 2) => ?_)
      · refine lv_iconst (v := 0) hx hb dC_mayNest_23 (by decide) ?_
        exact tk_zret hx hb hr hlk hP hD hS dC_mayNest_24 rfl (by unfold tkC_mayNest_r; rw [if_neg h1_, if_neg h2_, if_neg h3_]) rfl
      · refine lv_iconst (v := 1) hx hb dC_mayNest_19 (by decide) ?_
        refine lv_goto (tgt := 24) hx hb dC_mayNest_20 (by decide) ?_
        exact tk_zret hx hb hr hlk hP hD hS dC_mayNest_24 rfl (by unfold tkC_mayNest_r; rw [if_neg h1_, if_neg h2_, if_pos h3_]) rfl
def tkC_chosenLevel_r (c : Nat → Int32) : Int32 :=
  if c 7 = 0 then (-1)
  else if tkT_hasBit_r ((tkC_requests_r c) &&& ((c 3) ^^^ (-1))) (((c 6) + 1) &&& 7) = 0 then (if tkT_hasBit_r (tkC_holdingLevels_r c) (((c 6) + 1) &&& 7) = 0 then (if tkT_hasBit_r ((tkC_requests_r c) &&& ((c 3) ^^^ (-1))) (((c 6) + 2) &&& 7) = 0 then (if tkT_hasBit_r (tkC_holdingLevels_r c) (((c 6) + 2) &&& 7) = 0 then (if tkT_hasBit_r ((tkC_requests_r c) &&& ((c 3) ^^^ (-1))) (((c 6) + 3) &&& 7) = 0 then (if tkT_hasBit_r (tkC_holdingLevels_r c) (((c 6) + 3) &&& 7) = 0 then (if tkT_hasBit_r ((tkC_requests_r c) &&& ((c 3) ^^^ (-1))) (((c 6) + 4) &&& 7) = 0 then (if tkT_hasBit_r (tkC_holdingLevels_r c) (((c 6) + 4) &&& 7) = 0 then (if tkT_hasBit_r ((tkC_requests_r c) &&& ((c 3) ^^^ (-1))) (((c 6) + 5) &&& 7) = 0 then (if tkT_hasBit_r (tkC_holdingLevels_r c) (((c 6) + 5) &&& 7) = 0 then (if tkT_hasBit_r ((tkC_requests_r c) &&& ((c 3) ^^^ (-1))) (((c 6) + 6) &&& 7) = 0 then (if tkT_hasBit_r (tkC_holdingLevels_r c) (((c 6) + 6) &&& 7) = 0 then (if tkT_hasBit_r ((tkC_requests_r c) &&& ((c 3) ^^^ (-1))) (((c 6) + 7) &&& 7) = 0 then (if tkT_hasBit_r (tkC_holdingLevels_r c) (((c 6) + 7) &&& 7) = 0 then (if tkT_hasBit_r ((tkC_requests_r c) &&& ((c 3) ^^^ (-1))) (((c 6) + 8) &&& 7) = 0 then (-1)
                                else if tkT_hasBit_r (tkC_holdingLevels_r c) (((c 6) + 8) &&& 7) = 0 then ((c 6) + 8) &&& 7
                                  else if tkC_mayNest_r c (((c 6) + 8) &&& 7) = 0 then (-1)
                                    else ((c 6) + 8) &&& 7)
                              else (-1))
                            else if tkT_hasBit_r (tkC_holdingLevels_r c) (((c 6) + 7) &&& 7) = 0 then ((c 6) + 7) &&& 7
                              else if tkC_mayNest_r c (((c 6) + 7) &&& 7) = 0 then (-1)
                                else ((c 6) + 7) &&& 7)
                          else (-1))
                        else if tkT_hasBit_r (tkC_holdingLevels_r c) (((c 6) + 6) &&& 7) = 0 then ((c 6) + 6) &&& 7
                          else if tkC_mayNest_r c (((c 6) + 6) &&& 7) = 0 then (-1)
                            else ((c 6) + 6) &&& 7)
                      else (-1))
                    else if tkT_hasBit_r (tkC_holdingLevels_r c) (((c 6) + 5) &&& 7) = 0 then ((c 6) + 5) &&& 7
                      else if tkC_mayNest_r c (((c 6) + 5) &&& 7) = 0 then (-1)
                        else ((c 6) + 5) &&& 7)
                  else (-1))
                else if tkT_hasBit_r (tkC_holdingLevels_r c) (((c 6) + 4) &&& 7) = 0 then ((c 6) + 4) &&& 7
                  else if tkC_mayNest_r c (((c 6) + 4) &&& 7) = 0 then (-1)
                    else ((c 6) + 4) &&& 7)
              else (-1))
            else if tkT_hasBit_r (tkC_holdingLevels_r c) (((c 6) + 3) &&& 7) = 0 then ((c 6) + 3) &&& 7
              else if tkC_mayNest_r c (((c 6) + 3) &&& 7) = 0 then (-1)
                else ((c 6) + 3) &&& 7)
          else (-1))
        else if tkT_hasBit_r (tkC_holdingLevels_r c) (((c 6) + 2) &&& 7) = 0 then ((c 6) + 2) &&& 7
          else if tkC_mayNest_r c (((c 6) + 2) &&& 7) = 0 then (-1)
            else ((c 6) + 2) &&& 7)
      else (-1))
    else if tkT_hasBit_r (tkC_holdingLevels_r c) (((c 6) + 1) &&& 7) = 0 then ((c 6) + 1) &&& 7
      else if tkC_mayNest_r c (((c 6) + 1) &&& 7) = 0 then (-1)
        else ((c 6) + 1) &&& 7
set_option maxHeartbeats 1000000 in
set_option maxRecDepth 100000 in
theorem kC_chosenLevel (l : Launch) (D : va_G) (h0 : Nat) (c : Nat → Int32) : tk_M l yC_chosenLevel wsC_chosenLevel { frames := 1, cells := 0, slots := 0, locals := 21 } D [] [.ref h0] [(h0, .inr (0, FC c))] [(h0, .inr (0, FC c))] (some (.int (tkC_chosenLevel_r c))) := by
  refine tk_M.of (cc := cC_chosenLevel) (maxL := 6) (ret := (some .int)) (by decide) rfl (Nat.le_of_ble_eq_true rfl) ?_
  intro p e s m below meth co A H locs ls hB hK hN hA hP hD hS hl
  obtain ⟨hx, hb, hr, hml, hown, hlk, hnm, hts⟩ := hB
  have hown : s.vm.findClass RC = some m.cls := hown
  have hl : lv_has ls 6 [(0, .ref h0)] := hl
  have hw : ∀ w ∈ tkW, w.before _ s = true := fun w h => hts w (List.mem_cons_of_mem _ h)
  have f25 := hw _ wF_C_25
  have f32 := hw _ wF_C_32
  have f15 := hw _ wF_C_15
  refine lv_aload_n hx hb dC_chosenLevel_0 rfl (lv_at hl 0 rfl) ?_
  refine va_get (D := D) (ci := 0) (v := .int (c 7)) (C := RC) (T := TC) (N := 18) hx hb hw inC hown hK hP 0 rfl rfl 7 (by decide) f25 (fun _ h9 => h9) rfl dC_chosenLevel_1 ?_
  refine lv_if_ne (tgt := 9) hx hb dC_chosenLevel_4 (by decide) (fun (h1_ : ¬ (c 7 = 0)) => ?_) (fun (h1_ : c 7 = 0) => ?_)
  · refine lv_aload_n hx hb dC_chosenLevel_9 rfl (lv_at hl 0 rfl) ?_
    refine tk_callA hD hS hA (va_runV (As := []) (rest := []) ⟨hx, hb, hml, hown, hw⟩ (kC_requests l D h0 c H.size) (cwV 0 hw (tk_gV tkW_good wM_C_28 wI_C_requests wS_C_requests wZ_C wC_C_requests) rfl rfl rfl (by decide +kernel) ⟨Nat.le_of_ble_eq_true rfl, Nat.le_of_ble_eq_true rfl⟩) (tk_preV (q0 := 0) hK hN hP hD [0] [] rfl rfl rfl rfl rfl) rfl rfl hl.1 rfl (lv_room (Nat.le_of_ble_eq_true rfl)) dC_chosenLevel_10 ⟨Nat.zero_le _, Nat.zero_le _⟩) (fun H locs hP hD hS => ?_)
    refine W.eq (g2 := F0 m 13 ls [.int (tkC_requests_r c)]) rfl ?_
    refine lv_aload_n hx hb dC_chosenLevel_13 rfl (lv_at hl 0 rfl) ?_
    refine va_get (D := D) (ci := 0) (v := .int (c 3)) (C := RC) (T := TC) (N := 18) hx hb hw inC hown hK hP 0 rfl rfl 3 (by decide) f32 (fun _ h9 => h9) rfl dC_chosenLevel_14 ?_
    refine lv_iconst (v := -1) hx hb dC_chosenLevel_17 (by decide) ?_
    refine lv_ixor hx hb dC_chosenLevel_18 ?_
    refine lv_iand hx hb dC_chosenLevel_19 ?_
    refine lv_istore_n hx hb dC_chosenLevel_20 rfl hl (by decide) rfl (fun ls hl => ?_)
    have hl : lv_has ls 6 [(1, .int ((tkC_requests_r c) &&& ((c 3) ^^^ (-1)))), (0, .ref h0)] := hl
    refine lv_aload_n hx hb dC_chosenLevel_21 rfl (lv_at hl 1 rfl) ?_
    refine tk_callA hD hS hA (va_runV (As := []) (rest := []) ⟨hx, hb, hml, hown, hw⟩ (kC_holdingLevels l D h0 c H.size) (cwV 0 hw (tk_gV tkW_good wM_C_35 wI_C_holdingLevels wS_C_holdingLevels wZ_C wC_C_holdingLevels) rfl rfl rfl (by decide +kernel) ⟨Nat.le_of_ble_eq_true rfl, Nat.le_of_ble_eq_true rfl⟩) (tk_preV (q0 := 0) hK hN hP hD [0] [] rfl rfl rfl rfl rfl) rfl rfl hl.1 rfl (lv_room (Nat.le_of_ble_eq_true rfl)) dC_chosenLevel_22 ⟨Nat.zero_le _, Nat.zero_le _⟩) (fun H locs hP hD hS => ?_)
    refine W.eq (g2 := F0 m 25 ls [.int (tkC_holdingLevels_r c)]) rfl ?_
    refine lv_istore_n hx hb dC_chosenLevel_25 rfl hl (by decide) rfl (fun ls hl => ?_)
    have hl : lv_has ls 6 [(2, .int (tkC_holdingLevels_r c)), (1, .int ((tkC_requests_r c) &&& ((c 3) ^^^ (-1)))), (0, .ref h0)] := hl
    refine lv_iconst (v := 1) hx hb dC_chosenLevel_26 (by decide) ?_
    refine lv_istore_n hx hb dC_chosenLevel_27 rfl hl (by decide) rfl (fun ls hl => ?_)
    have hl : lv_has ls 6 [(3, .int 1), (2, .int (tkC_holdingLevels_r c)), (1, .int ((tkC_requests_r c) &&& ((c 3) ^^^ (-1)))), (0, .ref h0)] := hl
    refine lv_iload_n hx hb dC_chosenLevel_28 rfl (lv_at hl 0 rfl) ?_
    refine lv_bipush (v := 8) hx hb dC_chosenLevel_29 (by decide) ?_
    refine lv_icmp_gt (tgt := 96) hx hb dC_chosenLevel_31 (by decide) (fun h => absurd h (by decide)) (fun _ => ?_)
    refine lv_aload_n hx hb dC_chosenLevel_34 rfl (lv_at hl 3 rfl) ?_
    refine va_get (D := D) (ci := 0) (v := .int (c 6)) (C := RC) (T := TC) (N := 18) hx hb hw inC hown hK hP 0 rfl rfl 6 (by decide) f15 (fun _ h9 => h9) rfl dC_chosenLevel_35 ?_
    refine lv_iload_n hx hb dC_chosenLevel_38 rfl (lv_at hl 0 rfl) ?_
    refine lv_iadd hx hb dC_chosenLevel_39 ?_
    refine lv_bipush (v := 7) hx hb dC_chosenLevel_40 (by decide) ?_
    refine lv_iand hx hb dC_chosenLevel_42 ?_
    refine lv_istore hx hb dC_chosenLevel_43 hl (by decide) rfl (fun ls hl => ?_)
    have hl : lv_has ls 6 [(4, .int (((c 6) + 1) &&& 7)), (3, .int 1), (2, .int (tkC_holdingLevels_r c)), (1, .int ((tkC_requests_r c) &&& ((c 3) ^^^ (-1)))), (0, .ref h0)] := hl
    refine lv_iload_n hx hb dC_chosenLevel_45 rfl (lv_at hl 2 rfl) ?_
    refine lv_iload hx hb dC_chosenLevel_46 (lv_at hl 0 rfl) ?_
    refine tk_call0 hP hD hS hA (va_runSN (As := [.int (tkC_holdingLevels_r c), .int (((c 6) + 1) &&& 7)]) (rest := []) ⟨hx, hb, hml, hown, hw⟩ (kT_hasBit l D (tkC_holdingLevels_r c) (((c 6) + 1) &&& 7) H.size) ⟨va_cnB 2 hw (tk_g0 tkW_good wC_T_hasBit) rfl rfl rfl (hN (.methodLinkNest RC 38 yT_hasBit "TickLines") (by decide +kernel)) (hw _ wZ_T) (by decide +kernel) ⟨Nat.le_of_ble_eq_true rfl, Nat.le_of_ble_eq_true rfl⟩, hw _ wT_T_hasBit, trivial⟩ (tk_preS hK hN hP hD [] [] rfl rfl rfl) rfl rfl hl.1 rfl (lv_room (Nat.le_of_ble_eq_true rfl)) dC_chosenLevel_48 ⟨Nat.zero_le _, Nat.zero_le _⟩) (fun H locs hP hD hS => ?_)
    refine W.eq (g2 := F0 m 51 ls [.int (tkT_hasBit_r (tkC_holdingLevels_r c) (((c 6) + 1) &&& 7))]) rfl ?_
    refine lv_istore hx hb dC_chosenLevel_51 hl (by decide) rfl (fun ls hl => ?_)
    have hl : lv_has ls 6 [(5, .int (tkT_hasBit_r (tkC_holdingLevels_r c) (((c 6) + 1) &&& 7))), (4, .int (((c 6) + 1) &&& 7)), (3, .int 1), (2, .int (tkC_holdingLevels_r c)), (1, .int ((tkC_requests_r c) &&& ((c 3) ^^^ (-1)))), (0, .ref h0)] := hl
    refine lv_iload_n hx hb dC_chosenLevel_53 rfl (lv_at hl 4 rfl) ?_
    refine lv_iload hx hb dC_chosenLevel_54 (lv_at hl 1 rfl) ?_
    refine tk_call0 hP hD hS hA (va_runSN (As := [.int ((tkC_requests_r c) &&& ((c 3) ^^^ (-1))), .int (((c 6) + 1) &&& 7)]) (rest := []) ⟨hx, hb, hml, hown, hw⟩ (kT_hasBit l D ((tkC_requests_r c) &&& ((c 3) ^^^ (-1))) (((c 6) + 1) &&& 7) H.size) ⟨va_cnB 2 hw (tk_g0 tkW_good wC_T_hasBit) rfl rfl rfl (hN (.methodLinkNest RC 38 yT_hasBit "TickLines") (by decide +kernel)) (hw _ wZ_T) (by decide +kernel) ⟨Nat.le_of_ble_eq_true rfl, Nat.le_of_ble_eq_true rfl⟩, hw _ wT_T_hasBit, trivial⟩ (tk_preS hK hN hP hD [] [] rfl rfl rfl) rfl rfl hl.1 rfl (lv_room (Nat.le_of_ble_eq_true rfl)) dC_chosenLevel_56 ⟨Nat.zero_le _, Nat.zero_le _⟩) (fun H locs hP hD hS => ?_)
    refine W.eq (g2 := F0 m 59 ls [.int (tkT_hasBit_r ((tkC_requests_r c) &&& ((c 3) ^^^ (-1))) (((c 6) + 1) &&& 7))]) rfl ?_
    refine lv_if_eq (tgt := 83) hx hb dC_chosenLevel_59 (by decide) (fun (h2_ : tkT_hasBit_r ((tkC_requests_r c) &&& ((c 3) ^^^ (-1))) (((c 6) + 1) &&& 7) = 0) => ?_) (fun (h2_ : ¬ (tkT_hasBit_r ((tkC_requests_r c) &&& ((c 3) ^^^ (-1))) (((c 6) + 1) &&& 7) = 0)) => ?_)
    · refine lv_iload hx hb dC_chosenLevel_83 (lv_at hl 0 rfl) ?_
      refine lv_if_eq (tgt := 90) hx hb dC_chosenLevel_85 (by decide) (fun (h3_ : tkT_hasBit_r (tkC_holdingLevels_r c) (((c 6) + 1) &&& 7) = 0) => ?_) (fun (h3_ : ¬ (tkT_hasBit_r (tkC_holdingLevels_r c) (((c 6) + 1) &&& 7) = 0)) => ?_)
      · refine lv_iinc (k := 2) (v := 2) hx hb dC_chosenLevel_90 hl rfl (by decide) (by decide) rfl (fun ls hl => ?_)
        have hl : lv_has ls 6 [(3, .int 2), (5, .int (tkT_hasBit_r (tkC_holdingLevels_r c) (((c 6) + 1) &&& 7))), (4, .int (((c 6) + 1) &&& 7)), (2, .int (tkC_holdingLevels_r c)), (1, .int ((tkC_requests_r c) &&& ((c 3) ^^^ (-1)))), (0, .ref h0)] := hl
        refine lv_goto (tgt := 28) hx hb dC_chosenLevel_93 (by decide) ?_
        refine lv_iload_n hx hb dC_chosenLevel_28 rfl (lv_at hl 0 rfl) ?_
        refine lv_bipush (v := 8) hx hb dC_chosenLevel_29 (by decide) ?_
        refine lv_icmp_gt (tgt := 96) hx hb dC_chosenLevel_31 (by decide) (fun h => absurd h (by decide)) (fun _ => ?_)
        refine lv_aload_n hx hb dC_chosenLevel_34 rfl (lv_at hl 5 rfl) ?_
        refine va_get (D := D) (ci := 0) (v := .int (c 6)) (C := RC) (T := TC) (N := 18) hx hb hw inC hown hK hP 0 rfl rfl 6 (by decide) f15 (fun _ h9 => h9) rfl dC_chosenLevel_35 ?_
        refine lv_iload_n hx hb dC_chosenLevel_38 rfl (lv_at hl 0 rfl) ?_
        refine lv_iadd hx hb dC_chosenLevel_39 ?_
        refine lv_bipush (v := 7) hx hb dC_chosenLevel_40 (by decide) ?_
        refine lv_iand hx hb dC_chosenLevel_42 ?_
        refine lv_istore hx hb dC_chosenLevel_43 hl (by decide) rfl (fun ls hl => ?_)
        have hl : lv_has ls 6 [(4, .int (((c 6) + 2) &&& 7)), (3, .int 2), (5, .int (tkT_hasBit_r (tkC_holdingLevels_r c) (((c 6) + 1) &&& 7))), (2, .int (tkC_holdingLevels_r c)), (1, .int ((tkC_requests_r c) &&& ((c 3) ^^^ (-1)))), (0, .ref h0)] := hl
        refine lv_iload_n hx hb dC_chosenLevel_45 rfl (lv_at hl 3 rfl) ?_
        refine lv_iload hx hb dC_chosenLevel_46 (lv_at hl 0 rfl) ?_
        refine tk_call0 hP hD hS hA (va_runSN (As := [.int (tkC_holdingLevels_r c), .int (((c 6) + 2) &&& 7)]) (rest := []) ⟨hx, hb, hml, hown, hw⟩ (kT_hasBit l D (tkC_holdingLevels_r c) (((c 6) + 2) &&& 7) H.size) ⟨va_cnB 2 hw (tk_g0 tkW_good wC_T_hasBit) rfl rfl rfl (hN (.methodLinkNest RC 38 yT_hasBit "TickLines") (by decide +kernel)) (hw _ wZ_T) (by decide +kernel) ⟨Nat.le_of_ble_eq_true rfl, Nat.le_of_ble_eq_true rfl⟩, hw _ wT_T_hasBit, trivial⟩ (tk_preS hK hN hP hD [] [] rfl rfl rfl) rfl rfl hl.1 rfl (lv_room (Nat.le_of_ble_eq_true rfl)) dC_chosenLevel_48 ⟨Nat.zero_le _, Nat.zero_le _⟩) (fun H locs hP hD hS => ?_)
        refine W.eq (g2 := F0 m 51 ls [.int (tkT_hasBit_r (tkC_holdingLevels_r c) (((c 6) + 2) &&& 7))]) rfl ?_
        refine lv_istore hx hb dC_chosenLevel_51 hl (by decide) rfl (fun ls hl => ?_)
        have hl : lv_has ls 6 [(5, .int (tkT_hasBit_r (tkC_holdingLevels_r c) (((c 6) + 2) &&& 7))), (4, .int (((c 6) + 2) &&& 7)), (3, .int 2), (2, .int (tkC_holdingLevels_r c)), (1, .int ((tkC_requests_r c) &&& ((c 3) ^^^ (-1)))), (0, .ref h0)] := hl
        refine lv_iload_n hx hb dC_chosenLevel_53 rfl (lv_at hl 4 rfl) ?_
        refine lv_iload hx hb dC_chosenLevel_54 (lv_at hl 1 rfl) ?_
        refine tk_call0 hP hD hS hA (va_runSN (As := [.int ((tkC_requests_r c) &&& ((c 3) ^^^ (-1))), .int (((c 6) + 2) &&& 7)]) (rest := []) ⟨hx, hb, hml, hown, hw⟩ (kT_hasBit l D ((tkC_requests_r c) &&& ((c 3) ^^^ (-1))) (((c 6) + 2) &&& 7) H.size) ⟨va_cnB 2 hw (tk_g0 tkW_good wC_T_hasBit) rfl rfl rfl (hN (.methodLinkNest RC 38 yT_hasBit "TickLines") (by decide +kernel)) (hw _ wZ_T) (by decide +kernel) ⟨Nat.le_of_ble_eq_true rfl, Nat.le_of_ble_eq_true rfl⟩, hw _ wT_T_hasBit, trivial⟩ (tk_preS hK hN hP hD [] [] rfl rfl rfl) rfl rfl hl.1 rfl (lv_room (Nat.le_of_ble_eq_true rfl)) dC_chosenLevel_56 ⟨Nat.zero_le _, Nat.zero_le _⟩) (fun H locs hP hD hS => ?_)
        refine W.eq (g2 := F0 m 59 ls [.int (tkT_hasBit_r ((tkC_requests_r c) &&& ((c 3) ^^^ (-1))) (((c 6) + 2) &&& 7))]) rfl ?_
        refine lv_if_eq (tgt := 83) hx hb dC_chosenLevel_59 (by decide) (fun (h4_ : tkT_hasBit_r ((tkC_requests_r c) &&& ((c 3) ^^^ (-1))) (((c 6) + 2) &&& 7) = 0) => ?_) (fun (h4_ : ¬ (tkT_hasBit_r ((tkC_requests_r c) &&& ((c 3) ^^^ (-1))) (((c 6) + 2) &&& 7) = 0)) => ?_)
        · refine lv_iload hx hb dC_chosenLevel_83 (lv_at hl 0 rfl) ?_
          refine lv_if_eq (tgt := 90) hx hb dC_chosenLevel_85 (by decide) (fun (h5_ : tkT_hasBit_r (tkC_holdingLevels_r c) (((c 6) + 2) &&& 7) = 0) => ?_) (fun (h5_ : ¬ (tkT_hasBit_r (tkC_holdingLevels_r c) (((c 6) + 2) &&& 7) = 0)) => ?_)
          · refine lv_iinc (k := 2) (v := 3) hx hb dC_chosenLevel_90 hl rfl (by decide) (by decide) rfl (fun ls hl => ?_)
            have hl : lv_has ls 6 [(3, .int 3), (5, .int (tkT_hasBit_r (tkC_holdingLevels_r c) (((c 6) + 2) &&& 7))), (4, .int (((c 6) + 2) &&& 7)), (2, .int (tkC_holdingLevels_r c)), (1, .int ((tkC_requests_r c) &&& ((c 3) ^^^ (-1)))), (0, .ref h0)] := hl
            refine lv_goto (tgt := 28) hx hb dC_chosenLevel_93 (by decide) ?_
            refine lv_iload_n hx hb dC_chosenLevel_28 rfl (lv_at hl 0 rfl) ?_
            refine lv_bipush (v := 8) hx hb dC_chosenLevel_29 (by decide) ?_
            refine lv_icmp_gt (tgt := 96) hx hb dC_chosenLevel_31 (by decide) (fun h => absurd h (by decide)) (fun _ => ?_)
            refine lv_aload_n hx hb dC_chosenLevel_34 rfl (lv_at hl 5 rfl) ?_
            refine va_get (D := D) (ci := 0) (v := .int (c 6)) (C := RC) (T := TC) (N := 18) hx hb hw inC hown hK hP 0 rfl rfl 6 (by decide) f15 (fun _ h9 => h9) rfl dC_chosenLevel_35 ?_
            refine lv_iload_n hx hb dC_chosenLevel_38 rfl (lv_at hl 0 rfl) ?_
            refine lv_iadd hx hb dC_chosenLevel_39 ?_
            refine lv_bipush (v := 7) hx hb dC_chosenLevel_40 (by decide) ?_
            refine lv_iand hx hb dC_chosenLevel_42 ?_
            refine lv_istore hx hb dC_chosenLevel_43 hl (by decide) rfl (fun ls hl => ?_)
            have hl : lv_has ls 6 [(4, .int (((c 6) + 3) &&& 7)), (3, .int 3), (5, .int (tkT_hasBit_r (tkC_holdingLevels_r c) (((c 6) + 2) &&& 7))), (2, .int (tkC_holdingLevels_r c)), (1, .int ((tkC_requests_r c) &&& ((c 3) ^^^ (-1)))), (0, .ref h0)] := hl
            refine lv_iload_n hx hb dC_chosenLevel_45 rfl (lv_at hl 3 rfl) ?_
            refine lv_iload hx hb dC_chosenLevel_46 (lv_at hl 0 rfl) ?_
            refine tk_call0 hP hD hS hA (va_runSN (As := [.int (tkC_holdingLevels_r c), .int (((c 6) + 3) &&& 7)]) (rest := []) ⟨hx, hb, hml, hown, hw⟩ (kT_hasBit l D (tkC_holdingLevels_r c) (((c 6) + 3) &&& 7) H.size) ⟨va_cnB 2 hw (tk_g0 tkW_good wC_T_hasBit) rfl rfl rfl (hN (.methodLinkNest RC 38 yT_hasBit "TickLines") (by decide +kernel)) (hw _ wZ_T) (by decide +kernel) ⟨Nat.le_of_ble_eq_true rfl, Nat.le_of_ble_eq_true rfl⟩, hw _ wT_T_hasBit, trivial⟩ (tk_preS hK hN hP hD [] [] rfl rfl rfl) rfl rfl hl.1 rfl (lv_room (Nat.le_of_ble_eq_true rfl)) dC_chosenLevel_48 ⟨Nat.zero_le _, Nat.zero_le _⟩) (fun H locs hP hD hS => ?_)
            refine W.eq (g2 := F0 m 51 ls [.int (tkT_hasBit_r (tkC_holdingLevels_r c) (((c 6) + 3) &&& 7))]) rfl ?_
            refine lv_istore hx hb dC_chosenLevel_51 hl (by decide) rfl (fun ls hl => ?_)
            have hl : lv_has ls 6 [(5, .int (tkT_hasBit_r (tkC_holdingLevels_r c) (((c 6) + 3) &&& 7))), (4, .int (((c 6) + 3) &&& 7)), (3, .int 3), (2, .int (tkC_holdingLevels_r c)), (1, .int ((tkC_requests_r c) &&& ((c 3) ^^^ (-1)))), (0, .ref h0)] := hl
            refine lv_iload_n hx hb dC_chosenLevel_53 rfl (lv_at hl 4 rfl) ?_
            refine lv_iload hx hb dC_chosenLevel_54 (lv_at hl 1 rfl) ?_
            refine tk_call0 hP hD hS hA (va_runSN (As := [.int ((tkC_requests_r c) &&& ((c 3) ^^^ (-1))), .int (((c 6) + 3) &&& 7)]) (rest := []) ⟨hx, hb, hml, hown, hw⟩ (kT_hasBit l D ((tkC_requests_r c) &&& ((c 3) ^^^ (-1))) (((c 6) + 3) &&& 7) H.size) ⟨va_cnB 2 hw (tk_g0 tkW_good wC_T_hasBit) rfl rfl rfl (hN (.methodLinkNest RC 38 yT_hasBit "TickLines") (by decide +kernel)) (hw _ wZ_T) (by decide +kernel) ⟨Nat.le_of_ble_eq_true rfl, Nat.le_of_ble_eq_true rfl⟩, hw _ wT_T_hasBit, trivial⟩ (tk_preS hK hN hP hD [] [] rfl rfl rfl) rfl rfl hl.1 rfl (lv_room (Nat.le_of_ble_eq_true rfl)) dC_chosenLevel_56 ⟨Nat.zero_le _, Nat.zero_le _⟩) (fun H locs hP hD hS => ?_)
            refine W.eq (g2 := F0 m 59 ls [.int (tkT_hasBit_r ((tkC_requests_r c) &&& ((c 3) ^^^ (-1))) (((c 6) + 3) &&& 7))]) rfl ?_
            refine lv_if_eq (tgt := 83) hx hb dC_chosenLevel_59 (by decide) (fun (h6_ : tkT_hasBit_r ((tkC_requests_r c) &&& ((c 3) ^^^ (-1))) (((c 6) + 3) &&& 7) = 0) => ?_) (fun (h6_ : ¬ (tkT_hasBit_r ((tkC_requests_r c) &&& ((c 3) ^^^ (-1))) (((c 6) + 3) &&& 7) = 0)) => ?_)
            · refine lv_iload hx hb dC_chosenLevel_83 (lv_at hl 0 rfl) ?_
              refine lv_if_eq (tgt := 90) hx hb dC_chosenLevel_85 (by decide) (fun (h7_ : tkT_hasBit_r (tkC_holdingLevels_r c) (((c 6) + 3) &&& 7) = 0) => ?_) (fun (h7_ : ¬ (tkT_hasBit_r (tkC_holdingLevels_r c) (((c 6) + 3) &&& 7) = 0)) => ?_)
              · refine lv_iinc (k := 2) (v := 4) hx hb dC_chosenLevel_90 hl rfl (by decide) (by decide) rfl (fun ls hl => ?_)
                have hl : lv_has ls 6 [(3, .int 4), (5, .int (tkT_hasBit_r (tkC_holdingLevels_r c) (((c 6) + 3) &&& 7))), (4, .int (((c 6) + 3) &&& 7)), (2, .int (tkC_holdingLevels_r c)), (1, .int ((tkC_requests_r c) &&& ((c 3) ^^^ (-1)))), (0, .ref h0)] := hl
                refine lv_goto (tgt := 28) hx hb dC_chosenLevel_93 (by decide) ?_
                refine lv_iload_n hx hb dC_chosenLevel_28 rfl (lv_at hl 0 rfl) ?_
                refine lv_bipush (v := 8) hx hb dC_chosenLevel_29 (by decide) ?_
                refine lv_icmp_gt (tgt := 96) hx hb dC_chosenLevel_31 (by decide) (fun h => absurd h (by decide)) (fun _ => ?_)
                refine lv_aload_n hx hb dC_chosenLevel_34 rfl (lv_at hl 5 rfl) ?_
                refine va_get (D := D) (ci := 0) (v := .int (c 6)) (C := RC) (T := TC) (N := 18) hx hb hw inC hown hK hP 0 rfl rfl 6 (by decide) f15 (fun _ h9 => h9) rfl dC_chosenLevel_35 ?_
                refine lv_iload_n hx hb dC_chosenLevel_38 rfl (lv_at hl 0 rfl) ?_
                refine lv_iadd hx hb dC_chosenLevel_39 ?_
                refine lv_bipush (v := 7) hx hb dC_chosenLevel_40 (by decide) ?_
                refine lv_iand hx hb dC_chosenLevel_42 ?_
                refine lv_istore hx hb dC_chosenLevel_43 hl (by decide) rfl (fun ls hl => ?_)
                have hl : lv_has ls 6 [(4, .int (((c 6) + 4) &&& 7)), (3, .int 4), (5, .int (tkT_hasBit_r (tkC_holdingLevels_r c) (((c 6) + 3) &&& 7))), (2, .int (tkC_holdingLevels_r c)), (1, .int ((tkC_requests_r c) &&& ((c 3) ^^^ (-1)))), (0, .ref h0)] := hl
                refine lv_iload_n hx hb dC_chosenLevel_45 rfl (lv_at hl 3 rfl) ?_
                refine lv_iload hx hb dC_chosenLevel_46 (lv_at hl 0 rfl) ?_
                refine tk_call0 hP hD hS hA (va_runSN (As := [.int (tkC_holdingLevels_r c), .int (((c 6) + 4) &&& 7)]) (rest := []) ⟨hx, hb, hml, hown, hw⟩ (kT_hasBit l D (tkC_holdingLevels_r c) (((c 6) + 4) &&& 7) H.size) ⟨va_cnB 2 hw (tk_g0 tkW_good wC_T_hasBit) rfl rfl rfl (hN (.methodLinkNest RC 38 yT_hasBit "TickLines") (by decide +kernel)) (hw _ wZ_T) (by decide +kernel) ⟨Nat.le_of_ble_eq_true rfl, Nat.le_of_ble_eq_true rfl⟩, hw _ wT_T_hasBit, trivial⟩ (tk_preS hK hN hP hD [] [] rfl rfl rfl) rfl rfl hl.1 rfl (lv_room (Nat.le_of_ble_eq_true rfl)) dC_chosenLevel_48 ⟨Nat.zero_le _, Nat.zero_le _⟩) (fun H locs hP hD hS => ?_)
                refine W.eq (g2 := F0 m 51 ls [.int (tkT_hasBit_r (tkC_holdingLevels_r c) (((c 6) + 4) &&& 7))]) rfl ?_
                refine lv_istore hx hb dC_chosenLevel_51 hl (by decide) rfl (fun ls hl => ?_)
                have hl : lv_has ls 6 [(5, .int (tkT_hasBit_r (tkC_holdingLevels_r c) (((c 6) + 4) &&& 7))), (4, .int (((c 6) + 4) &&& 7)), (3, .int 4), (2, .int (tkC_holdingLevels_r c)), (1, .int ((tkC_requests_r c) &&& ((c 3) ^^^ (-1)))), (0, .ref h0)] := hl
                refine lv_iload_n hx hb dC_chosenLevel_53 rfl (lv_at hl 4 rfl) ?_
                refine lv_iload hx hb dC_chosenLevel_54 (lv_at hl 1 rfl) ?_
                refine tk_call0 hP hD hS hA (va_runSN (As := [.int ((tkC_requests_r c) &&& ((c 3) ^^^ (-1))), .int (((c 6) + 4) &&& 7)]) (rest := []) ⟨hx, hb, hml, hown, hw⟩ (kT_hasBit l D ((tkC_requests_r c) &&& ((c 3) ^^^ (-1))) (((c 6) + 4) &&& 7) H.size) ⟨va_cnB 2 hw (tk_g0 tkW_good wC_T_hasBit) rfl rfl rfl (hN (.methodLinkNest RC 38 yT_hasBit "TickLines") (by decide +kernel)) (hw _ wZ_T) (by decide +kernel) ⟨Nat.le_of_ble_eq_true rfl, Nat.le_of_ble_eq_true rfl⟩, hw _ wT_T_hasBit, trivial⟩ (tk_preS hK hN hP hD [] [] rfl rfl rfl) rfl rfl hl.1 rfl (lv_room (Nat.le_of_ble_eq_true rfl)) dC_chosenLevel_56 ⟨Nat.zero_le _, Nat.zero_le _⟩) (fun H locs hP hD hS => ?_)
                refine W.eq (g2 := F0 m 59 ls [.int (tkT_hasBit_r ((tkC_requests_r c) &&& ((c 3) ^^^ (-1))) (((c 6) + 4) &&& 7))]) rfl ?_
                refine lv_if_eq (tgt := 83) hx hb dC_chosenLevel_59 (by decide) (fun (h8_ : tkT_hasBit_r ((tkC_requests_r c) &&& ((c 3) ^^^ (-1))) (((c 6) + 4) &&& 7) = 0) => ?_) (fun (h8_ : ¬ (tkT_hasBit_r ((tkC_requests_r c) &&& ((c 3) ^^^ (-1))) (((c 6) + 4) &&& 7) = 0)) => ?_)
                · refine lv_iload hx hb dC_chosenLevel_83 (lv_at hl 0 rfl) ?_
                  refine lv_if_eq (tgt := 90) hx hb dC_chosenLevel_85 (by decide) (fun (h9_ : tkT_hasBit_r (tkC_holdingLevels_r c) (((c 6) + 4) &&& 7) = 0) => ?_) (fun (h9_ : ¬ (tkT_hasBit_r (tkC_holdingLevels_r c) (((c 6) + 4) &&& 7) = 0)) => ?_)
                  · refine lv_iinc (k := 2) (v := 5) hx hb dC_chosenLevel_90 hl rfl (by decide) (by decide) rfl (fun ls hl => ?_)
                    have hl : lv_has ls 6 [(3, .int 5), (5, .int (tkT_hasBit_r (tkC_holdingLevels_r c) (((c 6) + 4) &&& 7))), (4, .int (((c 6) + 4) &&& 7)), (2, .int (tkC_holdingLevels_r c)), (1, .int ((tkC_requests_r c) &&& ((c 3) ^^^ (-1)))), (0, .ref h0)] := hl
                    refine lv_goto (tgt := 28) hx hb dC_chosenLevel_93 (by decide) ?_
                    refine lv_iload_n hx hb dC_chosenLevel_28 rfl (lv_at hl 0 rfl) ?_
                    refine lv_bipush (v := 8) hx hb dC_chosenLevel_29 (by decide) ?_
                    refine lv_icmp_gt (tgt := 96) hx hb dC_chosenLevel_31 (by decide) (fun h => absurd h (by decide)) (fun _ => ?_)
                    refine lv_aload_n hx hb dC_chosenLevel_34 rfl (lv_at hl 5 rfl) ?_
                    refine va_get (D := D) (ci := 0) (v := .int (c 6)) (C := RC) (T := TC) (N := 18) hx hb hw inC hown hK hP 0 rfl rfl 6 (by decide) f15 (fun _ h9 => h9) rfl dC_chosenLevel_35 ?_
                    refine lv_iload_n hx hb dC_chosenLevel_38 rfl (lv_at hl 0 rfl) ?_
                    refine lv_iadd hx hb dC_chosenLevel_39 ?_
                    refine lv_bipush (v := 7) hx hb dC_chosenLevel_40 (by decide) ?_
                    refine lv_iand hx hb dC_chosenLevel_42 ?_
                    refine lv_istore hx hb dC_chosenLevel_43 hl (by decide) rfl (fun ls hl => ?_)
                    have hl : lv_has ls 6 [(4, .int (((c 6) + 5) &&& 7)), (3, .int 5), (5, .int (tkT_hasBit_r (tkC_holdingLevels_r c) (((c 6) + 4) &&& 7))), (2, .int (tkC_holdingLevels_r c)), (1, .int ((tkC_requests_r c) &&& ((c 3) ^^^ (-1)))), (0, .ref h0)] := hl
                    refine lv_iload_n hx hb dC_chosenLevel_45 rfl (lv_at hl 3 rfl) ?_
                    refine lv_iload hx hb dC_chosenLevel_46 (lv_at hl 0 rfl) ?_
                    refine tk_call0 hP hD hS hA (va_runSN (As := [.int (tkC_holdingLevels_r c), .int (((c 6) + 5) &&& 7)]) (rest := []) ⟨hx, hb, hml, hown, hw⟩ (kT_hasBit l D (tkC_holdingLevels_r c) (((c 6) + 5) &&& 7) H.size) ⟨va_cnB 2 hw (tk_g0 tkW_good wC_T_hasBit) rfl rfl rfl (hN (.methodLinkNest RC 38 yT_hasBit "TickLines") (by decide +kernel)) (hw _ wZ_T) (by decide +kernel) ⟨Nat.le_of_ble_eq_true rfl, Nat.le_of_ble_eq_true rfl⟩, hw _ wT_T_hasBit, trivial⟩ (tk_preS hK hN hP hD [] [] rfl rfl rfl) rfl rfl hl.1 rfl (lv_room (Nat.le_of_ble_eq_true rfl)) dC_chosenLevel_48 ⟨Nat.zero_le _, Nat.zero_le _⟩) (fun H locs hP hD hS => ?_)
                    refine W.eq (g2 := F0 m 51 ls [.int (tkT_hasBit_r (tkC_holdingLevels_r c) (((c 6) + 5) &&& 7))]) rfl ?_
                    refine lv_istore hx hb dC_chosenLevel_51 hl (by decide) rfl (fun ls hl => ?_)
                    have hl : lv_has ls 6 [(5, .int (tkT_hasBit_r (tkC_holdingLevels_r c) (((c 6) + 5) &&& 7))), (4, .int (((c 6) + 5) &&& 7)), (3, .int 5), (2, .int (tkC_holdingLevels_r c)), (1, .int ((tkC_requests_r c) &&& ((c 3) ^^^ (-1)))), (0, .ref h0)] := hl
                    refine lv_iload_n hx hb dC_chosenLevel_53 rfl (lv_at hl 4 rfl) ?_
                    refine lv_iload hx hb dC_chosenLevel_54 (lv_at hl 1 rfl) ?_
                    refine tk_call0 hP hD hS hA (va_runSN (As := [.int ((tkC_requests_r c) &&& ((c 3) ^^^ (-1))), .int (((c 6) + 5) &&& 7)]) (rest := []) ⟨hx, hb, hml, hown, hw⟩ (kT_hasBit l D ((tkC_requests_r c) &&& ((c 3) ^^^ (-1))) (((c 6) + 5) &&& 7) H.size) ⟨va_cnB 2 hw (tk_g0 tkW_good wC_T_hasBit) rfl rfl rfl (hN (.methodLinkNest RC 38 yT_hasBit "TickLines") (by decide +kernel)) (hw _ wZ_T) (by decide +kernel) ⟨Nat.le_of_ble_eq_true rfl, Nat.le_of_ble_eq_true rfl⟩, hw _ wT_T_hasBit, trivial⟩ (tk_preS hK hN hP hD [] [] rfl rfl rfl) rfl rfl hl.1 rfl (lv_room (Nat.le_of_ble_eq_true rfl)) dC_chosenLevel_56 ⟨Nat.zero_le _, Nat.zero_le _⟩) (fun H locs hP hD hS => ?_)
                    refine W.eq (g2 := F0 m 59 ls [.int (tkT_hasBit_r ((tkC_requests_r c) &&& ((c 3) ^^^ (-1))) (((c 6) + 5) &&& 7))]) rfl ?_
                    refine lv_if_eq (tgt := 83) hx hb dC_chosenLevel_59 (by decide) (fun (h10_ : tkT_hasBit_r ((tkC_requests_r c) &&& ((c 3) ^^^ (-1))) (((c 6) + 5) &&& 7) = 0) => ?_) (fun (h10_ : ¬ (tkT_hasBit_r ((tkC_requests_r c) &&& ((c 3) ^^^ (-1))) (((c 6) + 5) &&& 7) = 0)) => ?_)
                    · refine lv_iload hx hb dC_chosenLevel_83 (lv_at hl 0 rfl) ?_
                      refine lv_if_eq (tgt := 90) hx hb dC_chosenLevel_85 (by decide) (fun (h11_ : tkT_hasBit_r (tkC_holdingLevels_r c) (((c 6) + 5) &&& 7) = 0) => ?_) (fun (h11_ : ¬ (tkT_hasBit_r (tkC_holdingLevels_r c) (((c 6) + 5) &&& 7) = 0)) => ?_)
                      · refine lv_iinc (k := 2) (v := 6) hx hb dC_chosenLevel_90 hl rfl (by decide) (by decide) rfl (fun ls hl => ?_)
                        have hl : lv_has ls 6 [(3, .int 6), (5, .int (tkT_hasBit_r (tkC_holdingLevels_r c) (((c 6) + 5) &&& 7))), (4, .int (((c 6) + 5) &&& 7)), (2, .int (tkC_holdingLevels_r c)), (1, .int ((tkC_requests_r c) &&& ((c 3) ^^^ (-1)))), (0, .ref h0)] := hl
                        refine lv_goto (tgt := 28) hx hb dC_chosenLevel_93 (by decide) ?_
                        refine lv_iload_n hx hb dC_chosenLevel_28 rfl (lv_at hl 0 rfl) ?_
                        refine lv_bipush (v := 8) hx hb dC_chosenLevel_29 (by decide) ?_
                        refine lv_icmp_gt (tgt := 96) hx hb dC_chosenLevel_31 (by decide) (fun h => absurd h (by decide)) (fun _ => ?_)
                        refine lv_aload_n hx hb dC_chosenLevel_34 rfl (lv_at hl 5 rfl) ?_
                        refine va_get (D := D) (ci := 0) (v := .int (c 6)) (C := RC) (T := TC) (N := 18) hx hb hw inC hown hK hP 0 rfl rfl 6 (by decide) f15 (fun _ h9 => h9) rfl dC_chosenLevel_35 ?_
                        refine lv_iload_n hx hb dC_chosenLevel_38 rfl (lv_at hl 0 rfl) ?_
                        refine lv_iadd hx hb dC_chosenLevel_39 ?_
                        refine lv_bipush (v := 7) hx hb dC_chosenLevel_40 (by decide) ?_
                        refine lv_iand hx hb dC_chosenLevel_42 ?_
                        refine lv_istore hx hb dC_chosenLevel_43 hl (by decide) rfl (fun ls hl => ?_)
                        have hl : lv_has ls 6 [(4, .int (((c 6) + 6) &&& 7)), (3, .int 6), (5, .int (tkT_hasBit_r (tkC_holdingLevels_r c) (((c 6) + 5) &&& 7))), (2, .int (tkC_holdingLevels_r c)), (1, .int ((tkC_requests_r c) &&& ((c 3) ^^^ (-1)))), (0, .ref h0)] := hl
                        refine lv_iload_n hx hb dC_chosenLevel_45 rfl (lv_at hl 3 rfl) ?_
                        refine lv_iload hx hb dC_chosenLevel_46 (lv_at hl 0 rfl) ?_
                        refine tk_call0 hP hD hS hA (va_runSN (As := [.int (tkC_holdingLevels_r c), .int (((c 6) + 6) &&& 7)]) (rest := []) ⟨hx, hb, hml, hown, hw⟩ (kT_hasBit l D (tkC_holdingLevels_r c) (((c 6) + 6) &&& 7) H.size) ⟨va_cnB 2 hw (tk_g0 tkW_good wC_T_hasBit) rfl rfl rfl (hN (.methodLinkNest RC 38 yT_hasBit "TickLines") (by decide +kernel)) (hw _ wZ_T) (by decide +kernel) ⟨Nat.le_of_ble_eq_true rfl, Nat.le_of_ble_eq_true rfl⟩, hw _ wT_T_hasBit, trivial⟩ (tk_preS hK hN hP hD [] [] rfl rfl rfl) rfl rfl hl.1 rfl (lv_room (Nat.le_of_ble_eq_true rfl)) dC_chosenLevel_48 ⟨Nat.zero_le _, Nat.zero_le _⟩) (fun H locs hP hD hS => ?_)
                        refine W.eq (g2 := F0 m 51 ls [.int (tkT_hasBit_r (tkC_holdingLevels_r c) (((c 6) + 6) &&& 7))]) rfl ?_
                        refine lv_istore hx hb dC_chosenLevel_51 hl (by decide) rfl (fun ls hl => ?_)
                        have hl : lv_has ls 6 [(5, .int (tkT_hasBit_r (tkC_holdingLevels_r c) (((c 6) + 6) &&& 7))), (4, .int (((c 6) + 6) &&& 7)), (3, .int 6), (2, .int (tkC_holdingLevels_r c)), (1, .int ((tkC_requests_r c) &&& ((c 3) ^^^ (-1)))), (0, .ref h0)] := hl
                        refine lv_iload_n hx hb dC_chosenLevel_53 rfl (lv_at hl 4 rfl) ?_
                        refine lv_iload hx hb dC_chosenLevel_54 (lv_at hl 1 rfl) ?_
                        refine tk_call0 hP hD hS hA (va_runSN (As := [.int ((tkC_requests_r c) &&& ((c 3) ^^^ (-1))), .int (((c 6) + 6) &&& 7)]) (rest := []) ⟨hx, hb, hml, hown, hw⟩ (kT_hasBit l D ((tkC_requests_r c) &&& ((c 3) ^^^ (-1))) (((c 6) + 6) &&& 7) H.size) ⟨va_cnB 2 hw (tk_g0 tkW_good wC_T_hasBit) rfl rfl rfl (hN (.methodLinkNest RC 38 yT_hasBit "TickLines") (by decide +kernel)) (hw _ wZ_T) (by decide +kernel) ⟨Nat.le_of_ble_eq_true rfl, Nat.le_of_ble_eq_true rfl⟩, hw _ wT_T_hasBit, trivial⟩ (tk_preS hK hN hP hD [] [] rfl rfl rfl) rfl rfl hl.1 rfl (lv_room (Nat.le_of_ble_eq_true rfl)) dC_chosenLevel_56 ⟨Nat.zero_le _, Nat.zero_le _⟩) (fun H locs hP hD hS => ?_)
                        refine W.eq (g2 := F0 m 59 ls [.int (tkT_hasBit_r ((tkC_requests_r c) &&& ((c 3) ^^^ (-1))) (((c 6) + 6) &&& 7))]) rfl ?_
                        refine lv_if_eq (tgt := 83) hx hb dC_chosenLevel_59 (by decide) (fun (h12_ : tkT_hasBit_r ((tkC_requests_r c) &&& ((c 3) ^^^ (-1))) (((c 6) + 6) &&& 7) = 0) => ?_) (fun (h12_ : ¬ (tkT_hasBit_r ((tkC_requests_r c) &&& ((c 3) ^^^ (-1))) (((c 6) + 6) &&& 7) = 0)) => ?_)
                        · refine lv_iload hx hb dC_chosenLevel_83 (lv_at hl 0 rfl) ?_
                          refine lv_if_eq (tgt := 90) hx hb dC_chosenLevel_85 (by decide) (fun (h13_ : tkT_hasBit_r (tkC_holdingLevels_r c) (((c 6) + 6) &&& 7) = 0) => ?_) (fun (h13_ : ¬ (tkT_hasBit_r (tkC_holdingLevels_r c) (((c 6) + 6) &&& 7) = 0)) => ?_)
                          · refine lv_iinc (k := 2) (v := 7) hx hb dC_chosenLevel_90 hl rfl (by decide) (by decide) rfl (fun ls hl => ?_)
                            have hl : lv_has ls 6 [(3, .int 7), (5, .int (tkT_hasBit_r (tkC_holdingLevels_r c) (((c 6) + 6) &&& 7))), (4, .int (((c 6) + 6) &&& 7)), (2, .int (tkC_holdingLevels_r c)), (1, .int ((tkC_requests_r c) &&& ((c 3) ^^^ (-1)))), (0, .ref h0)] := hl
                            refine lv_goto (tgt := 28) hx hb dC_chosenLevel_93 (by decide) ?_
                            refine lv_iload_n hx hb dC_chosenLevel_28 rfl (lv_at hl 0 rfl) ?_
                            refine lv_bipush (v := 8) hx hb dC_chosenLevel_29 (by decide) ?_
                            refine lv_icmp_gt (tgt := 96) hx hb dC_chosenLevel_31 (by decide) (fun h => absurd h (by decide)) (fun _ => ?_)
                            refine lv_aload_n hx hb dC_chosenLevel_34 rfl (lv_at hl 5 rfl) ?_
                            refine va_get (D := D) (ci := 0) (v := .int (c 6)) (C := RC) (T := TC) (N := 18) hx hb hw inC hown hK hP 0 rfl rfl 6 (by decide) f15 (fun _ h9 => h9) rfl dC_chosenLevel_35 ?_
                            refine lv_iload_n hx hb dC_chosenLevel_38 rfl (lv_at hl 0 rfl) ?_
                            refine lv_iadd hx hb dC_chosenLevel_39 ?_
                            refine lv_bipush (v := 7) hx hb dC_chosenLevel_40 (by decide) ?_
                            refine lv_iand hx hb dC_chosenLevel_42 ?_
                            refine lv_istore hx hb dC_chosenLevel_43 hl (by decide) rfl (fun ls hl => ?_)
                            have hl : lv_has ls 6 [(4, .int (((c 6) + 7) &&& 7)), (3, .int 7), (5, .int (tkT_hasBit_r (tkC_holdingLevels_r c) (((c 6) + 6) &&& 7))), (2, .int (tkC_holdingLevels_r c)), (1, .int ((tkC_requests_r c) &&& ((c 3) ^^^ (-1)))), (0, .ref h0)] := hl
                            refine lv_iload_n hx hb dC_chosenLevel_45 rfl (lv_at hl 3 rfl) ?_
                            refine lv_iload hx hb dC_chosenLevel_46 (lv_at hl 0 rfl) ?_
                            refine tk_call0 hP hD hS hA (va_runSN (As := [.int (tkC_holdingLevels_r c), .int (((c 6) + 7) &&& 7)]) (rest := []) ⟨hx, hb, hml, hown, hw⟩ (kT_hasBit l D (tkC_holdingLevels_r c) (((c 6) + 7) &&& 7) H.size) ⟨va_cnB 2 hw (tk_g0 tkW_good wC_T_hasBit) rfl rfl rfl (hN (.methodLinkNest RC 38 yT_hasBit "TickLines") (by decide +kernel)) (hw _ wZ_T) (by decide +kernel) ⟨Nat.le_of_ble_eq_true rfl, Nat.le_of_ble_eq_true rfl⟩, hw _ wT_T_hasBit, trivial⟩ (tk_preS hK hN hP hD [] [] rfl rfl rfl) rfl rfl hl.1 rfl (lv_room (Nat.le_of_ble_eq_true rfl)) dC_chosenLevel_48 ⟨Nat.zero_le _, Nat.zero_le _⟩) (fun H locs hP hD hS => ?_)
                            refine W.eq (g2 := F0 m 51 ls [.int (tkT_hasBit_r (tkC_holdingLevels_r c) (((c 6) + 7) &&& 7))]) rfl ?_
                            refine lv_istore hx hb dC_chosenLevel_51 hl (by decide) rfl (fun ls hl => ?_)
                            have hl : lv_has ls 6 [(5, .int (tkT_hasBit_r (tkC_holdingLevels_r c) (((c 6) + 7) &&& 7))), (4, .int (((c 6) + 7) &&& 7)), (3, .int 7), (2, .int (tkC_holdingLevels_r c)), (1, .int ((tkC_requests_r c) &&& ((c 3) ^^^ (-1)))), (0, .ref h0)] := hl
                            refine lv_iload_n hx hb dC_chosenLevel_53 rfl (lv_at hl 4 rfl) ?_
                            refine lv_iload hx hb dC_chosenLevel_54 (lv_at hl 1 rfl) ?_
                            refine tk_call0 hP hD hS hA (va_runSN (As := [.int ((tkC_requests_r c) &&& ((c 3) ^^^ (-1))), .int (((c 6) + 7) &&& 7)]) (rest := []) ⟨hx, hb, hml, hown, hw⟩ (kT_hasBit l D ((tkC_requests_r c) &&& ((c 3) ^^^ (-1))) (((c 6) + 7) &&& 7) H.size) ⟨va_cnB 2 hw (tk_g0 tkW_good wC_T_hasBit) rfl rfl rfl (hN (.methodLinkNest RC 38 yT_hasBit "TickLines") (by decide +kernel)) (hw _ wZ_T) (by decide +kernel) ⟨Nat.le_of_ble_eq_true rfl, Nat.le_of_ble_eq_true rfl⟩, hw _ wT_T_hasBit, trivial⟩ (tk_preS hK hN hP hD [] [] rfl rfl rfl) rfl rfl hl.1 rfl (lv_room (Nat.le_of_ble_eq_true rfl)) dC_chosenLevel_56 ⟨Nat.zero_le _, Nat.zero_le _⟩) (fun H locs hP hD hS => ?_)
                            refine W.eq (g2 := F0 m 59 ls [.int (tkT_hasBit_r ((tkC_requests_r c) &&& ((c 3) ^^^ (-1))) (((c 6) + 7) &&& 7))]) rfl ?_
                            refine lv_if_eq (tgt := 83) hx hb dC_chosenLevel_59 (by decide) (fun (h14_ : tkT_hasBit_r ((tkC_requests_r c) &&& ((c 3) ^^^ (-1))) (((c 6) + 7) &&& 7) = 0) => ?_) (fun (h14_ : ¬ (tkT_hasBit_r ((tkC_requests_r c) &&& ((c 3) ^^^ (-1))) (((c 6) + 7) &&& 7) = 0)) => ?_)
                            · refine lv_iload hx hb dC_chosenLevel_83 (lv_at hl 0 rfl) ?_
                              refine lv_if_eq (tgt := 90) hx hb dC_chosenLevel_85 (by decide) (fun (h15_ : tkT_hasBit_r (tkC_holdingLevels_r c) (((c 6) + 7) &&& 7) = 0) => ?_) (fun (h15_ : ¬ (tkT_hasBit_r (tkC_holdingLevels_r c) (((c 6) + 7) &&& 7) = 0)) => ?_)
                              · refine lv_iinc (k := 2) (v := 8) hx hb dC_chosenLevel_90 hl rfl (by decide) (by decide) rfl (fun ls hl => ?_)
                                have hl : lv_has ls 6 [(3, .int 8), (5, .int (tkT_hasBit_r (tkC_holdingLevels_r c) (((c 6) + 7) &&& 7))), (4, .int (((c 6) + 7) &&& 7)), (2, .int (tkC_holdingLevels_r c)), (1, .int ((tkC_requests_r c) &&& ((c 3) ^^^ (-1)))), (0, .ref h0)] := hl
                                refine lv_goto (tgt := 28) hx hb dC_chosenLevel_93 (by decide) ?_
                                refine lv_iload_n hx hb dC_chosenLevel_28 rfl (lv_at hl 0 rfl) ?_
                                refine lv_bipush (v := 8) hx hb dC_chosenLevel_29 (by decide) ?_
                                refine lv_icmp_gt (tgt := 96) hx hb dC_chosenLevel_31 (by decide) (fun h => absurd h (by decide)) (fun _ => ?_)
                                refine lv_aload_n hx hb dC_chosenLevel_34 rfl (lv_at hl 5 rfl) ?_
                                refine va_get (D := D) (ci := 0) (v := .int (c 6)) (C := RC) (T := TC) (N := 18) hx hb hw inC hown hK hP 0 rfl rfl 6 (by decide) f15 (fun _ h9 => h9) rfl dC_chosenLevel_35 ?_
                                refine lv_iload_n hx hb dC_chosenLevel_38 rfl (lv_at hl 0 rfl) ?_
                                refine lv_iadd hx hb dC_chosenLevel_39 ?_
                                refine lv_bipush (v := 7) hx hb dC_chosenLevel_40 (by decide) ?_
                                refine lv_iand hx hb dC_chosenLevel_42 ?_
                                refine lv_istore hx hb dC_chosenLevel_43 hl (by decide) rfl (fun ls hl => ?_)
                                have hl : lv_has ls 6 [(4, .int (((c 6) + 8) &&& 7)), (3, .int 8), (5, .int (tkT_hasBit_r (tkC_holdingLevels_r c) (((c 6) + 7) &&& 7))), (2, .int (tkC_holdingLevels_r c)), (1, .int ((tkC_requests_r c) &&& ((c 3) ^^^ (-1)))), (0, .ref h0)] := hl
                                refine lv_iload_n hx hb dC_chosenLevel_45 rfl (lv_at hl 3 rfl) ?_
                                refine lv_iload hx hb dC_chosenLevel_46 (lv_at hl 0 rfl) ?_
                                refine tk_call0 hP hD hS hA (va_runSN (As := [.int (tkC_holdingLevels_r c), .int (((c 6) + 8) &&& 7)]) (rest := []) ⟨hx, hb, hml, hown, hw⟩ (kT_hasBit l D (tkC_holdingLevels_r c) (((c 6) + 8) &&& 7) H.size) ⟨va_cnB 2 hw (tk_g0 tkW_good wC_T_hasBit) rfl rfl rfl (hN (.methodLinkNest RC 38 yT_hasBit "TickLines") (by decide +kernel)) (hw _ wZ_T) (by decide +kernel) ⟨Nat.le_of_ble_eq_true rfl, Nat.le_of_ble_eq_true rfl⟩, hw _ wT_T_hasBit, trivial⟩ (tk_preS hK hN hP hD [] [] rfl rfl rfl) rfl rfl hl.1 rfl (lv_room (Nat.le_of_ble_eq_true rfl)) dC_chosenLevel_48 ⟨Nat.zero_le _, Nat.zero_le _⟩) (fun H locs hP hD hS => ?_)
                                refine W.eq (g2 := F0 m 51 ls [.int (tkT_hasBit_r (tkC_holdingLevels_r c) (((c 6) + 8) &&& 7))]) rfl ?_
                                refine lv_istore hx hb dC_chosenLevel_51 hl (by decide) rfl (fun ls hl => ?_)
                                have hl : lv_has ls 6 [(5, .int (tkT_hasBit_r (tkC_holdingLevels_r c) (((c 6) + 8) &&& 7))), (4, .int (((c 6) + 8) &&& 7)), (3, .int 8), (2, .int (tkC_holdingLevels_r c)), (1, .int ((tkC_requests_r c) &&& ((c 3) ^^^ (-1)))), (0, .ref h0)] := hl
                                refine lv_iload_n hx hb dC_chosenLevel_53 rfl (lv_at hl 4 rfl) ?_
                                refine lv_iload hx hb dC_chosenLevel_54 (lv_at hl 1 rfl) ?_
                                refine tk_call0 hP hD hS hA (va_runSN (As := [.int ((tkC_requests_r c) &&& ((c 3) ^^^ (-1))), .int (((c 6) + 8) &&& 7)]) (rest := []) ⟨hx, hb, hml, hown, hw⟩ (kT_hasBit l D ((tkC_requests_r c) &&& ((c 3) ^^^ (-1))) (((c 6) + 8) &&& 7) H.size) ⟨va_cnB 2 hw (tk_g0 tkW_good wC_T_hasBit) rfl rfl rfl (hN (.methodLinkNest RC 38 yT_hasBit "TickLines") (by decide +kernel)) (hw _ wZ_T) (by decide +kernel) ⟨Nat.le_of_ble_eq_true rfl, Nat.le_of_ble_eq_true rfl⟩, hw _ wT_T_hasBit, trivial⟩ (tk_preS hK hN hP hD [] [] rfl rfl rfl) rfl rfl hl.1 rfl (lv_room (Nat.le_of_ble_eq_true rfl)) dC_chosenLevel_56 ⟨Nat.zero_le _, Nat.zero_le _⟩) (fun H locs hP hD hS => ?_)
                                refine W.eq (g2 := F0 m 59 ls [.int (tkT_hasBit_r ((tkC_requests_r c) &&& ((c 3) ^^^ (-1))) (((c 6) + 8) &&& 7))]) rfl ?_
                                refine lv_if_eq (tgt := 83) hx hb dC_chosenLevel_59 (by decide) (fun (h16_ : tkT_hasBit_r ((tkC_requests_r c) &&& ((c 3) ^^^ (-1))) (((c 6) + 8) &&& 7) = 0) => ?_) (fun (h16_ : ¬ (tkT_hasBit_r ((tkC_requests_r c) &&& ((c 3) ^^^ (-1))) (((c 6) + 8) &&& 7) = 0)) => ?_)
                                · refine lv_iload hx hb dC_chosenLevel_83 (lv_at hl 0 rfl) ?_
                                  refine lv_if_eq (tgt := 90) hx hb dC_chosenLevel_85 (by decide) (fun (h17_ : tkT_hasBit_r (tkC_holdingLevels_r c) (((c 6) + 8) &&& 7) = 0) => ?_) (fun (h17_ : ¬ (tkT_hasBit_r (tkC_holdingLevels_r c) (((c 6) + 8) &&& 7) = 0)) => ?_)
                                  · refine lv_iinc (k := 2) (v := 9) hx hb dC_chosenLevel_90 hl rfl (by decide) (by decide) rfl (fun ls hl => ?_)
                                    have hl : lv_has ls 6 [(3, .int 9), (5, .int (tkT_hasBit_r (tkC_holdingLevels_r c) (((c 6) + 8) &&& 7))), (4, .int (((c 6) + 8) &&& 7)), (2, .int (tkC_holdingLevels_r c)), (1, .int ((tkC_requests_r c) &&& ((c 3) ^^^ (-1)))), (0, .ref h0)] := hl
                                    refine lv_goto (tgt := 28) hx hb dC_chosenLevel_93 (by decide) ?_
                                    refine lv_iload_n hx hb dC_chosenLevel_28 rfl (lv_at hl 0 rfl) ?_
                                    refine lv_bipush (v := 8) hx hb dC_chosenLevel_29 (by decide) ?_
                                    refine lv_icmp_gt (tgt := 96) hx hb dC_chosenLevel_31 (by decide) (fun _ => ?_) (fun h => absurd (by decide) h)
                                    refine lv_iconst (v := -1) hx hb dC_chosenLevel_96 (by decide) ?_
                                    exact tk_iret hx hb hr hlk hP hD hS dC_chosenLevel_97 (by unfold tkC_chosenLevel_r; rw [if_neg h1_, if_pos h2_, if_pos h3_, if_pos h4_, if_pos h5_, if_pos h6_, if_pos h7_, if_pos h8_, if_pos h9_, if_pos h10_, if_pos h11_, if_pos h12_, if_pos h13_, if_pos h14_, if_pos h15_, if_pos h16_]) rfl
                                  · refine lv_iconst (v := -1) hx hb dC_chosenLevel_88 (by decide) ?_
                                    exact tk_iret hx hb hr hlk hP hD hS dC_chosenLevel_89 (by unfold tkC_chosenLevel_r; rw [if_neg h1_, if_pos h2_, if_pos h3_, if_pos h4_, if_pos h5_, if_pos h6_, if_pos h7_, if_pos h8_, if_pos h9_, if_pos h10_, if_pos h11_, if_pos h12_, if_pos h13_, if_pos h14_, if_pos h15_, if_pos h16_]) rfl
                                · refine lv_iload hx hb dC_chosenLevel_62 (lv_at hl 0 rfl) ?_
                                  refine lv_if_eq (tgt := 80) hx hb dC_chosenLevel_64 (by decide) (fun (h18_ : tkT_hasBit_r (tkC_holdingLevels_r c) (((c 6) + 8) &&& 7) = 0) => ?_) (fun (h18_ : ¬ (tkT_hasBit_r (tkC_holdingLevels_r c) (((c 6) + 8) &&& 7) = 0)) => ?_)
                                  · refine lv_iload hx hb dC_chosenLevel_80 (lv_at hl 1 rfl) ?_
                                    exact tk_iret hx hb hr hlk hP hD hS dC_chosenLevel_82 (by unfold tkC_chosenLevel_r; rw [if_neg h1_, if_pos h2_, if_pos h3_, if_pos h4_, if_pos h5_, if_pos h6_, if_pos h7_, if_pos h8_, if_pos h9_, if_pos h10_, if_pos h11_, if_pos h12_, if_pos h13_, if_pos h14_, if_pos h15_, if_neg h16_, if_pos h18_]) rfl
                                  · refine lv_aload_n hx hb dC_chosenLevel_67 rfl (lv_at hl 5 rfl) ?_
                                    refine lv_iload hx hb dC_chosenLevel_68 (lv_at hl 1 rfl) ?_
                                    refine tk_callA hD hS hA (va_runV (As := [.int (((c 6) + 8) &&& 7)]) (rest := []) ⟨hx, hb, hml, hown, hw⟩ (kC_mayNest l D h0 c (((c 6) + 8) &&& 7) H.size) (cwV 1 hw (tk_gV tkW_good wM_C_42 wI_C_mayNest wS_C_mayNest wZ_C wC_C_mayNest) rfl rfl rfl (by decide +kernel) ⟨Nat.le_of_ble_eq_true rfl, Nat.le_of_ble_eq_true rfl⟩) (tk_preV (q0 := 0) hK hN hP hD [0] [] rfl rfl rfl rfl rfl) rfl rfl hl.1 rfl (lv_room (Nat.le_of_ble_eq_true rfl)) dC_chosenLevel_70 ⟨Nat.zero_le _, Nat.zero_le _⟩) (fun H locs hP hD hS => ?_)
                                    refine W.eq (g2 := F0 m 73 ls [.int (tkC_mayNest_r c (((c 6) + 8) &&& 7))]) rfl ?_
                                    refine lv_if_ne (tgt := 80) hx hb dC_chosenLevel_73 (by decide) (fun (h19_ : ¬ (tkC_mayNest_r c (((c 6) + 8) &&& 7) = 0)) => ?_) (fun (h19_ : tkC_mayNest_r c (((c 6) + 8) &&& 7) = 0) => ?_)
                                    · refine lv_iload hx hb dC_chosenLevel_80 (lv_at hl 1 rfl) ?_
                                      exact tk_iret hx hb hr hlk hP hD hS dC_chosenLevel_82 (by unfold tkC_chosenLevel_r; rw [if_neg h1_, if_pos h2_, if_pos h3_, if_pos h4_, if_pos h5_, if_pos h6_, if_pos h7_, if_pos h8_, if_pos h9_, if_pos h10_, if_pos h11_, if_pos h12_, if_pos h13_, if_pos h14_, if_pos h15_, if_neg h16_, if_neg h18_, if_neg h19_]) rfl
                                    · refine lv_iconst (v := -1) hx hb dC_chosenLevel_76 (by decide) ?_
                                      refine lv_goto (tgt := 82) hx hb dC_chosenLevel_77 (by decide) ?_
                                      exact tk_iret hx hb hr hlk hP hD hS dC_chosenLevel_82 (by unfold tkC_chosenLevel_r; rw [if_neg h1_, if_pos h2_, if_pos h3_, if_pos h4_, if_pos h5_, if_pos h6_, if_pos h7_, if_pos h8_, if_pos h9_, if_pos h10_, if_pos h11_, if_pos h12_, if_pos h13_, if_pos h14_, if_pos h15_, if_neg h16_, if_neg h18_, if_pos h19_]) rfl
                              · refine lv_iconst (v := -1) hx hb dC_chosenLevel_88 (by decide) ?_
                                exact tk_iret hx hb hr hlk hP hD hS dC_chosenLevel_89 (by unfold tkC_chosenLevel_r; rw [if_neg h1_, if_pos h2_, if_pos h3_, if_pos h4_, if_pos h5_, if_pos h6_, if_pos h7_, if_pos h8_, if_pos h9_, if_pos h10_, if_pos h11_, if_pos h12_, if_pos h13_, if_pos h14_, if_neg h15_]) rfl
                            · refine lv_iload hx hb dC_chosenLevel_62 (lv_at hl 0 rfl) ?_
                              refine lv_if_eq (tgt := 80) hx hb dC_chosenLevel_64 (by decide) (fun (h20_ : tkT_hasBit_r (tkC_holdingLevels_r c) (((c 6) + 7) &&& 7) = 0) => ?_) (fun (h20_ : ¬ (tkT_hasBit_r (tkC_holdingLevels_r c) (((c 6) + 7) &&& 7) = 0)) => ?_)
                              · refine lv_iload hx hb dC_chosenLevel_80 (lv_at hl 1 rfl) ?_
                                exact tk_iret hx hb hr hlk hP hD hS dC_chosenLevel_82 (by unfold tkC_chosenLevel_r; rw [if_neg h1_, if_pos h2_, if_pos h3_, if_pos h4_, if_pos h5_, if_pos h6_, if_pos h7_, if_pos h8_, if_pos h9_, if_pos h10_, if_pos h11_, if_pos h12_, if_pos h13_, if_neg h14_, if_pos h20_]) rfl
                              · refine lv_aload_n hx hb dC_chosenLevel_67 rfl (lv_at hl 5 rfl) ?_
                                refine lv_iload hx hb dC_chosenLevel_68 (lv_at hl 1 rfl) ?_
                                refine tk_callA hD hS hA (va_runV (As := [.int (((c 6) + 7) &&& 7)]) (rest := []) ⟨hx, hb, hml, hown, hw⟩ (kC_mayNest l D h0 c (((c 6) + 7) &&& 7) H.size) (cwV 1 hw (tk_gV tkW_good wM_C_42 wI_C_mayNest wS_C_mayNest wZ_C wC_C_mayNest) rfl rfl rfl (by decide +kernel) ⟨Nat.le_of_ble_eq_true rfl, Nat.le_of_ble_eq_true rfl⟩) (tk_preV (q0 := 0) hK hN hP hD [0] [] rfl rfl rfl rfl rfl) rfl rfl hl.1 rfl (lv_room (Nat.le_of_ble_eq_true rfl)) dC_chosenLevel_70 ⟨Nat.zero_le _, Nat.zero_le _⟩) (fun H locs hP hD hS => ?_)
                                refine W.eq (g2 := F0 m 73 ls [.int (tkC_mayNest_r c (((c 6) + 7) &&& 7))]) rfl ?_
                                refine lv_if_ne (tgt := 80) hx hb dC_chosenLevel_73 (by decide) (fun (h21_ : ¬ (tkC_mayNest_r c (((c 6) + 7) &&& 7) = 0)) => ?_) (fun (h21_ : tkC_mayNest_r c (((c 6) + 7) &&& 7) = 0) => ?_)
                                · refine lv_iload hx hb dC_chosenLevel_80 (lv_at hl 1 rfl) ?_
                                  exact tk_iret hx hb hr hlk hP hD hS dC_chosenLevel_82 (by unfold tkC_chosenLevel_r; rw [if_neg h1_, if_pos h2_, if_pos h3_, if_pos h4_, if_pos h5_, if_pos h6_, if_pos h7_, if_pos h8_, if_pos h9_, if_pos h10_, if_pos h11_, if_pos h12_, if_pos h13_, if_neg h14_, if_neg h20_, if_neg h21_]) rfl
                                · refine lv_iconst (v := -1) hx hb dC_chosenLevel_76 (by decide) ?_
                                  refine lv_goto (tgt := 82) hx hb dC_chosenLevel_77 (by decide) ?_
                                  exact tk_iret hx hb hr hlk hP hD hS dC_chosenLevel_82 (by unfold tkC_chosenLevel_r; rw [if_neg h1_, if_pos h2_, if_pos h3_, if_pos h4_, if_pos h5_, if_pos h6_, if_pos h7_, if_pos h8_, if_pos h9_, if_pos h10_, if_pos h11_, if_pos h12_, if_pos h13_, if_neg h14_, if_neg h20_, if_pos h21_]) rfl
                          · refine lv_iconst (v := -1) hx hb dC_chosenLevel_88 (by decide) ?_
                            exact tk_iret hx hb hr hlk hP hD hS dC_chosenLevel_89 (by unfold tkC_chosenLevel_r; rw [if_neg h1_, if_pos h2_, if_pos h3_, if_pos h4_, if_pos h5_, if_pos h6_, if_pos h7_, if_pos h8_, if_pos h9_, if_pos h10_, if_pos h11_, if_pos h12_, if_neg h13_]) rfl
                        · refine lv_iload hx hb dC_chosenLevel_62 (lv_at hl 0 rfl) ?_
                          refine lv_if_eq (tgt := 80) hx hb dC_chosenLevel_64 (by decide) (fun (h22_ : tkT_hasBit_r (tkC_holdingLevels_r c) (((c 6) + 6) &&& 7) = 0) => ?_) (fun (h22_ : ¬ (tkT_hasBit_r (tkC_holdingLevels_r c) (((c 6) + 6) &&& 7) = 0)) => ?_)
                          · refine lv_iload hx hb dC_chosenLevel_80 (lv_at hl 1 rfl) ?_
                            exact tk_iret hx hb hr hlk hP hD hS dC_chosenLevel_82 (by unfold tkC_chosenLevel_r; rw [if_neg h1_, if_pos h2_, if_pos h3_, if_pos h4_, if_pos h5_, if_pos h6_, if_pos h7_, if_pos h8_, if_pos h9_, if_pos h10_, if_pos h11_, if_neg h12_, if_pos h22_]) rfl
                          · refine lv_aload_n hx hb dC_chosenLevel_67 rfl (lv_at hl 5 rfl) ?_
                            refine lv_iload hx hb dC_chosenLevel_68 (lv_at hl 1 rfl) ?_
                            refine tk_callA hD hS hA (va_runV (As := [.int (((c 6) + 6) &&& 7)]) (rest := []) ⟨hx, hb, hml, hown, hw⟩ (kC_mayNest l D h0 c (((c 6) + 6) &&& 7) H.size) (cwV 1 hw (tk_gV tkW_good wM_C_42 wI_C_mayNest wS_C_mayNest wZ_C wC_C_mayNest) rfl rfl rfl (by decide +kernel) ⟨Nat.le_of_ble_eq_true rfl, Nat.le_of_ble_eq_true rfl⟩) (tk_preV (q0 := 0) hK hN hP hD [0] [] rfl rfl rfl rfl rfl) rfl rfl hl.1 rfl (lv_room (Nat.le_of_ble_eq_true rfl)) dC_chosenLevel_70 ⟨Nat.zero_le _, Nat.zero_le _⟩) (fun H locs hP hD hS => ?_)
                            refine W.eq (g2 := F0 m 73 ls [.int (tkC_mayNest_r c (((c 6) + 6) &&& 7))]) rfl ?_
                            refine lv_if_ne (tgt := 80) hx hb dC_chosenLevel_73 (by decide) (fun (h23_ : ¬ (tkC_mayNest_r c (((c 6) + 6) &&& 7) = 0)) => ?_) (fun (h23_ : tkC_mayNest_r c (((c 6) + 6) &&& 7) = 0) => ?_)
                            · refine lv_iload hx hb dC_chosenLevel_80 (lv_at hl 1 rfl) ?_
                              exact tk_iret hx hb hr hlk hP hD hS dC_chosenLevel_82 (by unfold tkC_chosenLevel_r; rw [if_neg h1_, if_pos h2_, if_pos h3_, if_pos h4_, if_pos h5_, if_pos h6_, if_pos h7_, if_pos h8_, if_pos h9_, if_pos h10_, if_pos h11_, if_neg h12_, if_neg h22_, if_neg h23_]) rfl
                            · refine lv_iconst (v := -1) hx hb dC_chosenLevel_76 (by decide) ?_
                              refine lv_goto (tgt := 82) hx hb dC_chosenLevel_77 (by decide) ?_
                              exact tk_iret hx hb hr hlk hP hD hS dC_chosenLevel_82 (by unfold tkC_chosenLevel_r; rw [if_neg h1_, if_pos h2_, if_pos h3_, if_pos h4_, if_pos h5_, if_pos h6_, if_pos h7_, if_pos h8_, if_pos h9_, if_pos h10_, if_pos h11_, if_neg h12_, if_neg h22_, if_pos h23_]) rfl
                      · refine lv_iconst (v := -1) hx hb dC_chosenLevel_88 (by decide) ?_
                        exact tk_iret hx hb hr hlk hP hD hS dC_chosenLevel_89 (by unfold tkC_chosenLevel_r; rw [if_neg h1_, if_pos h2_, if_pos h3_, if_pos h4_, if_pos h5_, if_pos h6_, if_pos h7_, if_pos h8_, if_pos h9_, if_pos h10_, if_neg h11_]) rfl
                    · refine lv_iload hx hb dC_chosenLevel_62 (lv_at hl 0 rfl) ?_
                      refine lv_if_eq (tgt := 80) hx hb dC_chosenLevel_64 (by decide) (fun (h24_ : tkT_hasBit_r (tkC_holdingLevels_r c) (((c 6) + 5) &&& 7) = 0) => ?_) (fun (h24_ : ¬ (tkT_hasBit_r (tkC_holdingLevels_r c) (((c 6) + 5) &&& 7) = 0)) => ?_)
                      · refine lv_iload hx hb dC_chosenLevel_80 (lv_at hl 1 rfl) ?_
                        exact tk_iret hx hb hr hlk hP hD hS dC_chosenLevel_82 (by unfold tkC_chosenLevel_r; rw [if_neg h1_, if_pos h2_, if_pos h3_, if_pos h4_, if_pos h5_, if_pos h6_, if_pos h7_, if_pos h8_, if_pos h9_, if_neg h10_, if_pos h24_]) rfl
                      · refine lv_aload_n hx hb dC_chosenLevel_67 rfl (lv_at hl 5 rfl) ?_
                        refine lv_iload hx hb dC_chosenLevel_68 (lv_at hl 1 rfl) ?_
                        refine tk_callA hD hS hA (va_runV (As := [.int (((c 6) + 5) &&& 7)]) (rest := []) ⟨hx, hb, hml, hown, hw⟩ (kC_mayNest l D h0 c (((c 6) + 5) &&& 7) H.size) (cwV 1 hw (tk_gV tkW_good wM_C_42 wI_C_mayNest wS_C_mayNest wZ_C wC_C_mayNest) rfl rfl rfl (by decide +kernel) ⟨Nat.le_of_ble_eq_true rfl, Nat.le_of_ble_eq_true rfl⟩) (tk_preV (q0 := 0) hK hN hP hD [0] [] rfl rfl rfl rfl rfl) rfl rfl hl.1 rfl (lv_room (Nat.le_of_ble_eq_true rfl)) dC_chosenLevel_70 ⟨Nat.zero_le _, Nat.zero_le _⟩) (fun H locs hP hD hS => ?_)
                        refine W.eq (g2 := F0 m 73 ls [.int (tkC_mayNest_r c (((c 6) + 5) &&& 7))]) rfl ?_
                        refine lv_if_ne (tgt := 80) hx hb dC_chosenLevel_73 (by decide) (fun (h25_ : ¬ (tkC_mayNest_r c (((c 6) + 5) &&& 7) = 0)) => ?_) (fun (h25_ : tkC_mayNest_r c (((c 6) + 5) &&& 7) = 0) => ?_)
                        · refine lv_iload hx hb dC_chosenLevel_80 (lv_at hl 1 rfl) ?_
                          exact tk_iret hx hb hr hlk hP hD hS dC_chosenLevel_82 (by unfold tkC_chosenLevel_r; rw [if_neg h1_, if_pos h2_, if_pos h3_, if_pos h4_, if_pos h5_, if_pos h6_, if_pos h7_, if_pos h8_, if_pos h9_, if_neg h10_, if_neg h24_, if_neg h25_]) rfl
                        · refine lv_iconst (v := -1) hx hb dC_chosenLevel_76 (by decide) ?_
                          refine lv_goto (tgt := 82) hx hb dC_chosenLevel_77 (by decide) ?_
                          exact tk_iret hx hb hr hlk hP hD hS dC_chosenLevel_82 (by unfold tkC_chosenLevel_r; rw [if_neg h1_, if_pos h2_, if_pos h3_, if_pos h4_, if_pos h5_, if_pos h6_, if_pos h7_, if_pos h8_, if_pos h9_, if_neg h10_, if_neg h24_, if_pos h25_]) rfl
                  · refine lv_iconst (v := -1) hx hb dC_chosenLevel_88 (by decide) ?_
                    exact tk_iret hx hb hr hlk hP hD hS dC_chosenLevel_89 (by unfold tkC_chosenLevel_r; rw [if_neg h1_, if_pos h2_, if_pos h3_, if_pos h4_, if_pos h5_, if_pos h6_, if_pos h7_, if_pos h8_, if_neg h9_]) rfl
                · refine lv_iload hx hb dC_chosenLevel_62 (lv_at hl 0 rfl) ?_
                  refine lv_if_eq (tgt := 80) hx hb dC_chosenLevel_64 (by decide) (fun (h26_ : tkT_hasBit_r (tkC_holdingLevels_r c) (((c 6) + 4) &&& 7) = 0) => ?_) (fun (h26_ : ¬ (tkT_hasBit_r (tkC_holdingLevels_r c) (((c 6) + 4) &&& 7) = 0)) => ?_)
                  · refine lv_iload hx hb dC_chosenLevel_80 (lv_at hl 1 rfl) ?_
                    exact tk_iret hx hb hr hlk hP hD hS dC_chosenLevel_82 (by unfold tkC_chosenLevel_r; rw [if_neg h1_, if_pos h2_, if_pos h3_, if_pos h4_, if_pos h5_, if_pos h6_, if_pos h7_, if_neg h8_, if_pos h26_]) rfl
                  · refine lv_aload_n hx hb dC_chosenLevel_67 rfl (lv_at hl 5 rfl) ?_
                    refine lv_iload hx hb dC_chosenLevel_68 (lv_at hl 1 rfl) ?_
                    refine tk_callA hD hS hA (va_runV (As := [.int (((c 6) + 4) &&& 7)]) (rest := []) ⟨hx, hb, hml, hown, hw⟩ (kC_mayNest l D h0 c (((c 6) + 4) &&& 7) H.size) (cwV 1 hw (tk_gV tkW_good wM_C_42 wI_C_mayNest wS_C_mayNest wZ_C wC_C_mayNest) rfl rfl rfl (by decide +kernel) ⟨Nat.le_of_ble_eq_true rfl, Nat.le_of_ble_eq_true rfl⟩) (tk_preV (q0 := 0) hK hN hP hD [0] [] rfl rfl rfl rfl rfl) rfl rfl hl.1 rfl (lv_room (Nat.le_of_ble_eq_true rfl)) dC_chosenLevel_70 ⟨Nat.zero_le _, Nat.zero_le _⟩) (fun H locs hP hD hS => ?_)
                    refine W.eq (g2 := F0 m 73 ls [.int (tkC_mayNest_r c (((c 6) + 4) &&& 7))]) rfl ?_
                    refine lv_if_ne (tgt := 80) hx hb dC_chosenLevel_73 (by decide) (fun (h27_ : ¬ (tkC_mayNest_r c (((c 6) + 4) &&& 7) = 0)) => ?_) (fun (h27_ : tkC_mayNest_r c (((c 6) + 4) &&& 7) = 0) => ?_)
                    · refine lv_iload hx hb dC_chosenLevel_80 (lv_at hl 1 rfl) ?_
                      exact tk_iret hx hb hr hlk hP hD hS dC_chosenLevel_82 (by unfold tkC_chosenLevel_r; rw [if_neg h1_, if_pos h2_, if_pos h3_, if_pos h4_, if_pos h5_, if_pos h6_, if_pos h7_, if_neg h8_, if_neg h26_, if_neg h27_]) rfl
                    · refine lv_iconst (v := -1) hx hb dC_chosenLevel_76 (by decide) ?_
                      refine lv_goto (tgt := 82) hx hb dC_chosenLevel_77 (by decide) ?_
                      exact tk_iret hx hb hr hlk hP hD hS dC_chosenLevel_82 (by unfold tkC_chosenLevel_r; rw [if_neg h1_, if_pos h2_, if_pos h3_, if_pos h4_, if_pos h5_, if_pos h6_, if_pos h7_, if_neg h8_, if_neg h26_, if_pos h27_]) rfl
              · refine lv_iconst (v := -1) hx hb dC_chosenLevel_88 (by decide) ?_
                exact tk_iret hx hb hr hlk hP hD hS dC_chosenLevel_89 (by unfold tkC_chosenLevel_r; rw [if_neg h1_, if_pos h2_, if_pos h3_, if_pos h4_, if_pos h5_, if_pos h6_, if_neg h7_]) rfl
            · refine lv_iload hx hb dC_chosenLevel_62 (lv_at hl 0 rfl) ?_
              refine lv_if_eq (tgt := 80) hx hb dC_chosenLevel_64 (by decide) (fun (h28_ : tkT_hasBit_r (tkC_holdingLevels_r c) (((c 6) + 3) &&& 7) = 0) => ?_) (fun (h28_ : ¬ (tkT_hasBit_r (tkC_holdingLevels_r c) (((c 6) + 3) &&& 7) = 0)) => ?_)
              · refine lv_iload hx hb dC_chosenLevel_80 (lv_at hl 1 rfl) ?_
                exact tk_iret hx hb hr hlk hP hD hS dC_chosenLevel_82 (by unfold tkC_chosenLevel_r; rw [if_neg h1_, if_pos h2_, if_pos h3_, if_pos h4_, if_pos h5_, if_neg h6_, if_pos h28_]) rfl
              · refine lv_aload_n hx hb dC_chosenLevel_67 rfl (lv_at hl 5 rfl) ?_
                refine lv_iload hx hb dC_chosenLevel_68 (lv_at hl 1 rfl) ?_
                refine tk_callA hD hS hA (va_runV (As := [.int (((c 6) + 3) &&& 7)]) (rest := []) ⟨hx, hb, hml, hown, hw⟩ (kC_mayNest l D h0 c (((c 6) + 3) &&& 7) H.size) (cwV 1 hw (tk_gV tkW_good wM_C_42 wI_C_mayNest wS_C_mayNest wZ_C wC_C_mayNest) rfl rfl rfl (by decide +kernel) ⟨Nat.le_of_ble_eq_true rfl, Nat.le_of_ble_eq_true rfl⟩) (tk_preV (q0 := 0) hK hN hP hD [0] [] rfl rfl rfl rfl rfl) rfl rfl hl.1 rfl (lv_room (Nat.le_of_ble_eq_true rfl)) dC_chosenLevel_70 ⟨Nat.zero_le _, Nat.zero_le _⟩) (fun H locs hP hD hS => ?_)
                refine W.eq (g2 := F0 m 73 ls [.int (tkC_mayNest_r c (((c 6) + 3) &&& 7))]) rfl ?_
                refine lv_if_ne (tgt := 80) hx hb dC_chosenLevel_73 (by decide) (fun (h29_ : ¬ (tkC_mayNest_r c (((c 6) + 3) &&& 7) = 0)) => ?_) (fun (h29_ : tkC_mayNest_r c (((c 6) + 3) &&& 7) = 0) => ?_)
                · refine lv_iload hx hb dC_chosenLevel_80 (lv_at hl 1 rfl) ?_
                  exact tk_iret hx hb hr hlk hP hD hS dC_chosenLevel_82 (by unfold tkC_chosenLevel_r; rw [if_neg h1_, if_pos h2_, if_pos h3_, if_pos h4_, if_pos h5_, if_neg h6_, if_neg h28_, if_neg h29_]) rfl
                · refine lv_iconst (v := -1) hx hb dC_chosenLevel_76 (by decide) ?_
                  refine lv_goto (tgt := 82) hx hb dC_chosenLevel_77 (by decide) ?_
                  exact tk_iret hx hb hr hlk hP hD hS dC_chosenLevel_82 (by unfold tkC_chosenLevel_r; rw [if_neg h1_, if_pos h2_, if_pos h3_, if_pos h4_, if_pos h5_, if_neg h6_, if_neg h28_, if_pos h29_]) rfl
          · refine lv_iconst (v := -1) hx hb dC_chosenLevel_88 (by decide) ?_
            exact tk_iret hx hb hr hlk hP hD hS dC_chosenLevel_89 (by unfold tkC_chosenLevel_r; rw [if_neg h1_, if_pos h2_, if_pos h3_, if_pos h4_, if_neg h5_]) rfl
        · refine lv_iload hx hb dC_chosenLevel_62 (lv_at hl 0 rfl) ?_
          refine lv_if_eq (tgt := 80) hx hb dC_chosenLevel_64 (by decide) (fun (h30_ : tkT_hasBit_r (tkC_holdingLevels_r c) (((c 6) + 2) &&& 7) = 0) => ?_) (fun (h30_ : ¬ (tkT_hasBit_r (tkC_holdingLevels_r c) (((c 6) + 2) &&& 7) = 0)) => ?_)
          · refine lv_iload hx hb dC_chosenLevel_80 (lv_at hl 1 rfl) ?_
            exact tk_iret hx hb hr hlk hP hD hS dC_chosenLevel_82 (by unfold tkC_chosenLevel_r; rw [if_neg h1_, if_pos h2_, if_pos h3_, if_neg h4_, if_pos h30_]) rfl
          · refine lv_aload_n hx hb dC_chosenLevel_67 rfl (lv_at hl 5 rfl) ?_
            refine lv_iload hx hb dC_chosenLevel_68 (lv_at hl 1 rfl) ?_
            refine tk_callA hD hS hA (va_runV (As := [.int (((c 6) + 2) &&& 7)]) (rest := []) ⟨hx, hb, hml, hown, hw⟩ (kC_mayNest l D h0 c (((c 6) + 2) &&& 7) H.size) (cwV 1 hw (tk_gV tkW_good wM_C_42 wI_C_mayNest wS_C_mayNest wZ_C wC_C_mayNest) rfl rfl rfl (by decide +kernel) ⟨Nat.le_of_ble_eq_true rfl, Nat.le_of_ble_eq_true rfl⟩) (tk_preV (q0 := 0) hK hN hP hD [0] [] rfl rfl rfl rfl rfl) rfl rfl hl.1 rfl (lv_room (Nat.le_of_ble_eq_true rfl)) dC_chosenLevel_70 ⟨Nat.zero_le _, Nat.zero_le _⟩) (fun H locs hP hD hS => ?_)
            refine W.eq (g2 := F0 m 73 ls [.int (tkC_mayNest_r c (((c 6) + 2) &&& 7))]) rfl ?_
            refine lv_if_ne (tgt := 80) hx hb dC_chosenLevel_73 (by decide) (fun (h31_ : ¬ (tkC_mayNest_r c (((c 6) + 2) &&& 7) = 0)) => ?_) (fun (h31_ : tkC_mayNest_r c (((c 6) + 2) &&& 7) = 0) => ?_)
            · refine lv_iload hx hb dC_chosenLevel_80 (lv_at hl 1 rfl) ?_
              exact tk_iret hx hb hr hlk hP hD hS dC_chosenLevel_82 (by unfold tkC_chosenLevel_r; rw [if_neg h1_, if_pos h2_, if_pos h3_, if_neg h4_, if_neg h30_, if_neg h31_]) rfl
            · refine lv_iconst (v := -1) hx hb dC_chosenLevel_76 (by decide) ?_
              refine lv_goto (tgt := 82) hx hb dC_chosenLevel_77 (by decide) ?_
              exact tk_iret hx hb hr hlk hP hD hS dC_chosenLevel_82 (by unfold tkC_chosenLevel_r; rw [if_neg h1_, if_pos h2_, if_pos h3_, if_neg h4_, if_neg h30_, if_pos h31_]) rfl
      · refine lv_iconst (v := -1) hx hb dC_chosenLevel_88 (by decide) ?_
        exact tk_iret hx hb hr hlk hP hD hS dC_chosenLevel_89 (by unfold tkC_chosenLevel_r; rw [if_neg h1_, if_pos h2_, if_neg h3_]) rfl
    · refine lv_iload hx hb dC_chosenLevel_62 (lv_at hl 0 rfl) ?_
      refine lv_if_eq (tgt := 80) hx hb dC_chosenLevel_64 (by decide) (fun (h32_ : tkT_hasBit_r (tkC_holdingLevels_r c) (((c 6) + 1) &&& 7) = 0) => ?_) (fun (h32_ : ¬ (tkT_hasBit_r (tkC_holdingLevels_r c) (((c 6) + 1) &&& 7) = 0)) => ?_)
      · refine lv_iload hx hb dC_chosenLevel_80 (lv_at hl 1 rfl) ?_
        exact tk_iret hx hb hr hlk hP hD hS dC_chosenLevel_82 (by unfold tkC_chosenLevel_r; rw [if_neg h1_, if_neg h2_, if_pos h32_]) rfl
      · refine lv_aload_n hx hb dC_chosenLevel_67 rfl (lv_at hl 5 rfl) ?_
        refine lv_iload hx hb dC_chosenLevel_68 (lv_at hl 1 rfl) ?_
        refine tk_callA hD hS hA (va_runV (As := [.int (((c 6) + 1) &&& 7)]) (rest := []) ⟨hx, hb, hml, hown, hw⟩ (kC_mayNest l D h0 c (((c 6) + 1) &&& 7) H.size) (cwV 1 hw (tk_gV tkW_good wM_C_42 wI_C_mayNest wS_C_mayNest wZ_C wC_C_mayNest) rfl rfl rfl (by decide +kernel) ⟨Nat.le_of_ble_eq_true rfl, Nat.le_of_ble_eq_true rfl⟩) (tk_preV (q0 := 0) hK hN hP hD [0] [] rfl rfl rfl rfl rfl) rfl rfl hl.1 rfl (lv_room (Nat.le_of_ble_eq_true rfl)) dC_chosenLevel_70 ⟨Nat.zero_le _, Nat.zero_le _⟩) (fun H locs hP hD hS => ?_)
        refine W.eq (g2 := F0 m 73 ls [.int (tkC_mayNest_r c (((c 6) + 1) &&& 7))]) rfl ?_
        refine lv_if_ne (tgt := 80) hx hb dC_chosenLevel_73 (by decide) (fun (h33_ : ¬ (tkC_mayNest_r c (((c 6) + 1) &&& 7) = 0)) => ?_) (fun (h33_ : tkC_mayNest_r c (((c 6) + 1) &&& 7) = 0) => ?_)
        · refine lv_iload hx hb dC_chosenLevel_80 (lv_at hl 1 rfl) ?_
          exact tk_iret hx hb hr hlk hP hD hS dC_chosenLevel_82 (by unfold tkC_chosenLevel_r; rw [if_neg h1_, if_neg h2_, if_neg h32_, if_neg h33_]) rfl
        · refine lv_iconst (v := -1) hx hb dC_chosenLevel_76 (by decide) ?_
          refine lv_goto (tgt := 82) hx hb dC_chosenLevel_77 (by decide) ?_
          exact tk_iret hx hb hr hlk hP hD hS dC_chosenLevel_82 (by unfold tkC_chosenLevel_r; rw [if_neg h1_, if_neg h2_, if_neg h32_, if_pos h33_]) rfl
  · refine lv_iconst (v := -1) hx hb dC_chosenLevel_7 (by decide) ?_
    exact tk_iret hx hb hr hlk hP hD hS dC_chosenLevel_8 (by unfold tkC_chosenLevel_r; rw [if_pos h1_]) rfl
def tkC_serve_s (c : Nat → Int32) (x0 : Int32) : Nat → Int32 :=
  if c 12 = 0 then tk_up (tk_up c 2 ((c 2) &&& (((1 : Int32) <<< (x0 &&& 31)) ^^^ (-1)))) 4 ((c 4) ||| ((1 : Int32) <<< (x0 &&& 31)))
  else if c 15 = 0 then tk_up c 2 ((c 2) &&& (((1 : Int32) <<< (x0 &&& 31)) ^^^ (-1)))
    else tk_up (tk_up c 2 ((c 2) &&& (((1 : Int32) <<< (x0 &&& 31)) ^^^ (-1)))) 6 x0
set_option maxHeartbeats 1000000 in
set_option maxRecDepth 100000 in
theorem kC_serve (l : Launch) (D : va_G) (h0 : Nat) (c : Nat → Int32) (x0 : Int32) : tk_M l yC_serve wsC_serve { frames := 0, cells := 0, slots := 0, locals := 0 } D [] [.ref h0, .int x0] [(h0, .inr (0, FC c))] [(h0, .inr (0, FC (tkC_serve_s c x0)))] none := by
  refine tk_M.of (cc := cC_serve) (maxL := 2) (ret := none) (by decide) rfl (Nat.le_of_ble_eq_true rfl) ?_
  intro p e s m below meth co A H locs ls hB hK hN hA hP hD hS hl
  obtain ⟨hx, hb, hr, hml, hown, hlk, hnm, hts⟩ := hB
  have hown : s.vm.findClass RC = some m.cls := hown
  have hl : lv_has ls 2 [(0, .ref h0), (1, .int x0)] := hl
  have hw : ∀ w ∈ tkW, w.before _ s = true := fun w h => hts w (List.mem_cons_of_mem _ h)
  have f19 := hw _ wF_C_19
  have f75 := hw _ wF_C_75
  have f106 := hw _ wF_C_106
  have f15 := hw _ wF_C_15
  have f93 := hw _ wF_C_93
  refine lv_aload_n hx hb dC_serve_0 rfl (lv_at hl 0 rfl) ?_
  refine lv_dup hx hb dC_serve_1 rfl ?_
  refine va_get (D := D) (ci := 0) (v := .int (c 2)) (C := RC) (T := TC) (N := 18) hx hb hw inC hown hK hP 0 rfl rfl 2 (by decide) f19 (fun _ h9 => h9) rfl dC_serve_2 ?_
  refine lv_iconst (v := 1) hx hb dC_serve_5 (by decide) ?_
  refine lv_iload_n hx hb dC_serve_6 rfl (lv_at hl 1 rfl) ?_
  refine lv_ishl hx hb dC_serve_7 ?_
  refine lv_iconst (v := -1) hx hb dC_serve_8 (by decide) ?_
  refine lv_ixor hx hb dC_serve_9 ?_
  refine lv_iand hx hb dC_serve_10 ?_
  refine va_put (D := D) (ci := 0) (v := .int ((c 2) &&& (((1 : Int32) <<< (x0 &&& 31)) ^^^ (-1)))) (ty := .int) (C := RC) (T := TC) (N := 18) hx hb hw inC tyC tyC_ok nmC hown hK hP hD hS 0 rfl rfl 2 (by decide) f19 (fun _ h9 => h9) rfl (tyC_ok 2 (by decide)) rfl rfl (Nat.le_of_ble_eq_true rfl) dC_serve_11 (fun H locs hP hD hS => ?_)
  have hP : va_P D vwCl [(h0, .inr (0, FC (tk_up c 2 ((c 2) &&& (((1 : Int32) <<< (x0 &&& 31)) ^^^ (-1))))))] H := hP
  have hD : va_D A [(h0, .inr (0, FC (tk_up c 2 ((c 2) &&& (((1 : Int32) <<< (x0 &&& 31)) ^^^ (-1))))))] := hD
  refine lv_aload_n hx hb dC_serve_14 rfl (lv_at hl 0 rfl) ?_
  refine va_get (D := D) (ci := 0) (v := .int (c 12)) (C := RC) (T := TC) (N := 18) hx hb hw inC hown hK hP 0 rfl rfl 12 (by decide) f75 (fun _ h9 => h9) rfl dC_serve_15 ?_
  refine lv_if_ne (tgt := 36) hx hb dC_serve_18 (by decide) (fun (h1_ : ¬ (c 12 = 0)) => ?_) (fun (h1_ : c 12 = 0) => ?_)
  · refine lv_aload_n hx hb dC_serve_36 rfl (lv_at hl 0 rfl) ?_
    refine va_get (D := D) (ci := 0) (v := .int (c 15)) (C := RC) (T := TC) (N := 18) hx hb hw inC hown hK hP 0 rfl rfl 15 (by decide) f106 (fun _ h9 => h9) rfl dC_serve_37 ?_
    refine lv_if_eq (tgt := 48) hx hb dC_serve_40 (by decide) (fun (h2_ : c 15 = 0) => ?_) (fun (h2_ : ¬ (c 15 = 0)) => ?_)
    · exact tk_vret hx hb hr hlk hP hD hS dC_serve_48 (tk_ewC (by unfold tkC_serve_s; rw [if_neg h1_, if_pos h2_]))
    · refine lv_aload_n hx hb dC_serve_43 rfl (lv_at hl 0 rfl) ?_
      refine lv_iload_n hx hb dC_serve_44 rfl (lv_at hl 1 rfl) ?_
      refine va_put (D := D) (ci := 0) (v := .int x0) (ty := .int) (C := RC) (T := TC) (N := 18) hx hb hw inC tyC tyC_ok nmC hown hK hP hD hS 0 rfl rfl 6 (by decide) f15 (fun _ h9 => h9) rfl (tyC_ok 6 (by decide)) rfl rfl (Nat.le_of_ble_eq_true rfl) dC_serve_45 (fun H locs hP hD hS => ?_)
      have hP : va_P D vwCl [(h0, .inr (0, FC (tk_up (tk_up c 2 ((c 2) &&& (((1 : Int32) <<< (x0 &&& 31)) ^^^ (-1)))) 6 x0)))] H := hP
      have hD : va_D A [(h0, .inr (0, FC (tk_up (tk_up c 2 ((c 2) &&& (((1 : Int32) <<< (x0 &&& 31)) ^^^ (-1)))) 6 x0)))] := hD
      exact tk_vret hx hb hr hlk hP hD hS dC_serve_48 (tk_ewC (by unfold tkC_serve_s; rw [if_neg h1_, if_neg h2_]))
  · refine lv_aload_n hx hb dC_serve_21 rfl (lv_at hl 0 rfl) ?_
    refine lv_dup hx hb dC_serve_22 rfl ?_
    refine va_get (D := D) (ci := 0) (v := .int (c 4)) (C := RC) (T := TC) (N := 18) hx hb hw inC hown hK hP 0 rfl rfl 4 (by decide) f93 (fun _ h9 => h9) rfl dC_serve_23 ?_
    refine lv_iconst (v := 1) hx hb dC_serve_26 (by decide) ?_
    refine lv_iload_n hx hb dC_serve_27 rfl (lv_at hl 1 rfl) ?_
    refine lv_ishl hx hb dC_serve_28 ?_
    refine lv_ior hx hb dC_serve_29 ?_
    refine va_put (D := D) (ci := 0) (v := .int ((c 4) ||| ((1 : Int32) <<< (x0 &&& 31)))) (ty := .int) (C := RC) (T := TC) (N := 18) hx hb hw inC tyC tyC_ok nmC hown hK hP hD hS 0 rfl rfl 4 (by decide) f93 (fun _ h9 => h9) rfl (tyC_ok 4 (by decide)) rfl rfl (Nat.le_of_ble_eq_true rfl) dC_serve_30 (fun H locs hP hD hS => ?_)
    have hP : va_P D vwCl [(h0, .inr (0, FC (tk_up (tk_up c 2 ((c 2) &&& (((1 : Int32) <<< (x0 &&& 31)) ^^^ (-1)))) 4 ((c 4) ||| ((1 : Int32) <<< (x0 &&& 31))))))] H := hP
    have hD : va_D A [(h0, .inr (0, FC (tk_up (tk_up c 2 ((c 2) &&& (((1 : Int32) <<< (x0 &&& 31)) ^^^ (-1)))) 4 ((c 4) ||| ((1 : Int32) <<< (x0 &&& 31))))))] := hD
    refine lv_goto (tgt := 48) hx hb dC_serve_33 (by decide) ?_
    exact tk_vret hx hb hr hlk hP hD hS dC_serve_48 (tk_ewC (by unfold tkC_serve_s; rw [if_pos h1_]))
def tkC_serveChosen_r (c : Nat → Int32) : Int32 :=
  tkC_chosenLevel_r c
def tkC_serveChosen_s (c : Nat → Int32) : Nat → Int32 :=
  if tkC_chosenLevel_r c = (-1) then c
  else tkC_serve_s c (tkC_chosenLevel_r c)
set_option maxHeartbeats 1000000 in
set_option maxRecDepth 100000 in
theorem kC_serveChosen (l : Launch) (D : va_G) (h0 : Nat) (c : Nat → Int32) : tk_M l yC_serveChosen wsC_serveChosen { frames := 2, cells := 0, slots := 0, locals := 46 } D [] [.ref h0] [(h0, .inr (0, FC c))] [(h0, .inr (0, FC (tkC_serveChosen_s c)))] (some (.int (tkC_serveChosen_r c))) := by
  refine tk_M.of (cc := cC_serveChosen) (maxL := 2) (ret := (some .int)) (by decide) rfl (Nat.le_of_ble_eq_true rfl) ?_
  intro p e s m below meth co A H locs ls hB hK hN hA hP hD hS hl
  obtain ⟨hx, hb, hr, hml, hown, hlk, hnm, hts⟩ := hB
  have hown : s.vm.findClass RC = some m.cls := hown
  have hl : lv_has ls 2 [(0, .ref h0)] := hl
  have hw : ∀ w ∈ tkW, w.before _ s = true := fun w h => hts w (List.mem_cons_of_mem _ h)
  refine lv_aload_n hx hb dC_serveChosen_0 rfl (lv_at hl 0 rfl) ?_
  refine tk_callA hD hS hA (va_runV (As := []) (rest := []) ⟨hx, hb, hml, hown, hw⟩ (kC_chosenLevel l D h0 c H.size) (cwV 0 hw (tk_gV tkW_good wM_C_46 wI_C_chosenLevel wS_C_chosenLevel wZ_C wC_C_chosenLevel) rfl rfl rfl (by decide +kernel) ⟨Nat.le_of_ble_eq_true rfl, Nat.le_of_ble_eq_true rfl⟩) (tk_preV (q0 := 0) hK hN hP hD [0] [] rfl rfl rfl rfl rfl) rfl rfl hl.1 rfl (lv_room (Nat.le_of_ble_eq_true rfl)) dC_serveChosen_1 ⟨Nat.zero_le _, Nat.zero_le _⟩) (fun H locs hP hD hS => ?_)
  refine W.eq (g2 := F0 m 4 ls [.int (tkC_chosenLevel_r c)]) rfl ?_
  refine lv_istore_n hx hb dC_serveChosen_4 rfl hl (by decide) rfl (fun ls hl => ?_)
  have hl : lv_has ls 2 [(1, .int (tkC_chosenLevel_r c)), (0, .ref h0)] := hl
  refine lv_iload_n hx hb dC_serveChosen_5 rfl (lv_at hl 0 rfl) ?_
  refine lv_iconst (v := -1) hx hb dC_serveChosen_6 (by decide) ?_
  refine lv_icmp_eq (tgt := 15) hx hb dC_serveChosen_7 (by decide) (fun (h1_ : tkC_chosenLevel_r c = (-1)) => ?_) (fun (h1_ : ¬ (tkC_chosenLevel_r c = (-1))) => ?_)
  · refine lv_iload_n hx hb dC_serveChosen_15 rfl (lv_at hl 0 rfl) ?_
    exact tk_iret hx hb hr hlk hP hD hS dC_serveChosen_16 rfl (tk_ewC (by unfold tkC_serveChosen_s; rw [if_pos h1_]))
  · refine lv_aload_n hx hb dC_serveChosen_10 rfl (lv_at hl 1 rfl) ?_
    refine lv_iload_n hx hb dC_serveChosen_11 rfl (lv_at hl 0 rfl) ?_
    refine tk_callA hD hS hA (va_runV (As := [.int (tkC_chosenLevel_r c)]) (rest := []) ⟨hx, hb, hml, hown, hw⟩ (kC_serve l D h0 c (tkC_chosenLevel_r c) H.size) (cwV 1 hw (tk_gV tkW_good wM_C_49 wI_C_serve wS_C_serve wZ_C wC_C_serve) rfl rfl rfl (by decide +kernel) ⟨Nat.le_of_ble_eq_true rfl, Nat.le_of_ble_eq_true rfl⟩) (tk_preV (q0 := 0) hK hN hP hD [0] [] rfl rfl rfl rfl rfl) rfl rfl hl.1 rfl (lv_room (Nat.le_of_ble_eq_true rfl)) dC_serveChosen_12 ⟨Nat.zero_le _, Nat.zero_le _⟩) (fun H locs hP hD hS => ?_)
    refine W.eq (g2 := F0 m 15 ls []) rfl ?_
    refine lv_iload_n hx hb dC_serveChosen_15 rfl (lv_at hl 0 rfl) ?_
    exact tk_iret hx hb hr hlk hP hD hS dC_serveChosen_16 rfl (tk_ewC (by unfold tkC_serveChosen_s; rw [if_neg h1_]))
def tkC_vectorOf_r (c : Nat → Int32) (x0 : Int32) : Int32 :=
  if x0 = (-1) then (c 5) + 7
  else (c 5) + x0
set_option maxHeartbeats 1000000 in
set_option maxRecDepth 100000 in
theorem kC_vectorOf (l : Launch) (D : va_G) (h0 : Nat) (c : Nat → Int32) (x0 : Int32) : tk_M l yC_vectorOf wsC_vectorOf { frames := 0, cells := 0, slots := 0, locals := 0 } D [] [.ref h0, .int x0] [(h0, .inr (0, FC c))] [(h0, .inr (0, FC c))] (some (.int (tkC_vectorOf_r c x0))) := by
  refine tk_M.of (cc := cC_vectorOf) (maxL := 2) (ret := (some .int)) (by decide) rfl (Nat.le_of_ble_eq_true rfl) ?_
  intro p e s m below meth co A H locs ls hB hK hN hA hP hD hS hl
  obtain ⟨hx, hb, hr, hml, hown, hlk, hnm, hts⟩ := hB
  have hown : s.vm.findClass RC = some m.cls := hown
  have hl : lv_has ls 2 [(0, .ref h0), (1, .int x0)] := hl
  have hw : ∀ w ∈ tkW, w.before _ s = true := fun w h => hts w (List.mem_cons_of_mem _ h)
  have f53 := hw _ wF_C_53
  refine lv_aload_n hx hb dC_vectorOf_0 rfl (lv_at hl 0 rfl) ?_
  refine va_get (D := D) (ci := 0) (v := .int (c 5)) (C := RC) (T := TC) (N := 18) hx hb hw inC hown hK hP 0 rfl rfl 5 (by decide) f53 (fun _ h9 => h9) rfl dC_vectorOf_1 ?_
  refine lv_iload_n hx hb dC_vectorOf_4 rfl (lv_at hl 1 rfl) ?_
  refine lv_iconst (v := -1) hx hb dC_vectorOf_5 (by decide) ?_
  refine lv_icmp_ne (tgt := 14) hx hb dC_vectorOf_6 (by decide) (fun (h1_ : ¬ (x0 = (-1))) => ?_) (fun (h1_ : x0 = (-1)) => ?_)
  · refine lv_iload_n hx hb dC_vectorOf_14 rfl (lv_at hl 1 rfl) ?_
    refine lv_iadd hx hb dC_vectorOf_15 ?_
    exact tk_iret hx hb hr hlk hP hD hS dC_vectorOf_16 (by unfold tkC_vectorOf_r; rw [if_neg h1_]) rfl
  · refine lv_bipush (v := 7) hx hb dC_vectorOf_9 (by decide) ?_
    refine lv_goto (tgt := 15) hx hb dC_vectorOf_11 (by decide) ?_
    refine lv_iadd hx hb dC_vectorOf_15 ?_
    exact tk_iret hx hb hr hlk hP hD hS dC_vectorOf_16 (by unfold tkC_vectorOf_r; rw [if_pos h1_]) rfl
def tkC_beginSettingUp_s (c : Nat → Int32) (x0 : Int32) : Nat → Int32 :=
  tk_up (tk_up (tk_up (tk_up (tk_up (tk_up (tk_up (tk_up (tk_up (tk_up (tk_up (tk_up (tk_up (tk_up (tk_up c 7 0) 8 2) 2 0) 3 0) 4 0) 6 7) 12 0) 13 0) 14 0) 15 0) 16 0) 17 0) 9 (tkT_hasBit_r x0 3)) 10 (tkT_hasBit_r x0 1)) 11 (tkT_hasBit_r x0 0)
set_option maxHeartbeats 1000000 in
set_option maxRecDepth 100000 in
theorem kC_beginSettingUp (l : Launch) (D : va_G) (h0 : Nat) (c : Nat → Int32) (x0 : Int32) : tk_M l yC_beginSettingUp wsC_beginSettingUp { frames := 1, cells := 0, slots := 0, locals := 21 } D [] [.ref h0, .int x0] [(h0, .inr (0, FC c))] [(h0, .inr (0, FC (tkC_beginSettingUp_s c x0)))] none := by
  refine tk_M.of (cc := cC_beginSettingUp) (maxL := 2) (ret := none) (by decide) rfl (Nat.le_of_ble_eq_true rfl) ?_
  intro p e s m below meth co A H locs ls hB hK hN hA hP hD hS hl
  obtain ⟨hx, hb, hr, hml, hown, hlk, hnm, hts⟩ := hB
  have hown : s.vm.findClass RC = some m.cls := hown
  have hl : lv_has ls 2 [(0, .ref h0), (1, .int x0)] := hl
  have hw : ∀ w ∈ tkW, w.before _ s = true := fun w h => hts w (List.mem_cons_of_mem _ h)
  have f25 := hw _ wF_C_25
  have f66 := hw _ wF_C_66
  have f19 := hw _ wF_C_19
  have f32 := hw _ wF_C_32
  have f93 := hw _ wF_C_93
  have f15 := hw _ wF_C_15
  have f75 := hw _ wF_C_75
  have f78 := hw _ wF_C_78
  have f103 := hw _ wF_C_103
  have f106 := hw _ wF_C_106
  have f90 := hw _ wF_C_90
  have f84 := hw _ wF_C_84
  have f100 := hw _ wF_C_100
  have f69 := hw _ wF_C_69
  have f109 := hw _ wF_C_109
  refine lv_aload_n hx hb dC_beginSettingUp_0 rfl (lv_at hl 0 rfl) ?_
  refine lv_iconst (v := 0) hx hb dC_beginSettingUp_1 (by decide) ?_
  refine va_put (D := D) (ci := 0) (v := .int 0) (ty := .boolean) (C := RC) (T := TC) (N := 18) hx hb hw inC tyC tyC_ok nmC hown hK hP hD hS 0 rfl rfl 7 (by decide) f25 (fun _ h9 => h9) rfl (tyC_ok 7 (by decide)) rfl rfl (Nat.le_of_ble_eq_true rfl) dC_beginSettingUp_2 (fun H locs hP hD hS => ?_)
  have hP : va_P D vwCl [(h0, .inr (0, FC (tk_up c 7 0)))] H := hP
  have hD : va_D A [(h0, .inr (0, FC (tk_up c 7 0)))] := hD
  refine lv_aload_n hx hb dC_beginSettingUp_5 rfl (lv_at hl 0 rfl) ?_
  refine lv_iconst (v := 2) hx hb dC_beginSettingUp_6 (by decide) ?_
  refine va_put (D := D) (ci := 0) (v := .int 2) (ty := .int) (C := RC) (T := TC) (N := 18) hx hb hw inC tyC tyC_ok nmC hown hK hP hD hS 0 rfl rfl 8 (by decide) f66 (fun _ h9 => h9) rfl (tyC_ok 8 (by decide)) rfl rfl (Nat.le_of_ble_eq_true rfl) dC_beginSettingUp_7 (fun H locs hP hD hS => ?_)
  have hP : va_P D vwCl [(h0, .inr (0, FC (tk_up (tk_up c 7 0) 8 2)))] H := hP
  have hD : va_D A [(h0, .inr (0, FC (tk_up (tk_up c 7 0) 8 2)))] := hD
  refine lv_aload_n hx hb dC_beginSettingUp_10 rfl (lv_at hl 0 rfl) ?_
  refine lv_iconst (v := 0) hx hb dC_beginSettingUp_11 (by decide) ?_
  refine va_put (D := D) (ci := 0) (v := .int 0) (ty := .int) (C := RC) (T := TC) (N := 18) hx hb hw inC tyC tyC_ok nmC hown hK hP hD hS 0 rfl rfl 2 (by decide) f19 (fun _ h9 => h9) rfl (tyC_ok 2 (by decide)) rfl rfl (Nat.le_of_ble_eq_true rfl) dC_beginSettingUp_12 (fun H locs hP hD hS => ?_)
  have hP : va_P D vwCl [(h0, .inr (0, FC (tk_up (tk_up (tk_up c 7 0) 8 2) 2 0)))] H := hP
  have hD : va_D A [(h0, .inr (0, FC (tk_up (tk_up (tk_up c 7 0) 8 2) 2 0)))] := hD
  refine lv_aload_n hx hb dC_beginSettingUp_15 rfl (lv_at hl 0 rfl) ?_
  refine lv_iconst (v := 0) hx hb dC_beginSettingUp_16 (by decide) ?_
  refine va_put (D := D) (ci := 0) (v := .int 0) (ty := .int) (C := RC) (T := TC) (N := 18) hx hb hw inC tyC tyC_ok nmC hown hK hP hD hS 0 rfl rfl 3 (by decide) f32 (fun _ h9 => h9) rfl (tyC_ok 3 (by decide)) rfl rfl (Nat.le_of_ble_eq_true rfl) dC_beginSettingUp_17 (fun H locs hP hD hS => ?_)
  have hP : va_P D vwCl [(h0, .inr (0, FC (tk_up (tk_up (tk_up (tk_up c 7 0) 8 2) 2 0) 3 0)))] H := hP
  have hD : va_D A [(h0, .inr (0, FC (tk_up (tk_up (tk_up (tk_up c 7 0) 8 2) 2 0) 3 0)))] := hD
  refine lv_aload_n hx hb dC_beginSettingUp_20 rfl (lv_at hl 0 rfl) ?_
  refine lv_iconst (v := 0) hx hb dC_beginSettingUp_21 (by decide) ?_
  refine va_put (D := D) (ci := 0) (v := .int 0) (ty := .int) (C := RC) (T := TC) (N := 18) hx hb hw inC tyC tyC_ok nmC hown hK hP hD hS 0 rfl rfl 4 (by decide) f93 (fun _ h9 => h9) rfl (tyC_ok 4 (by decide)) rfl rfl (Nat.le_of_ble_eq_true rfl) dC_beginSettingUp_22 (fun H locs hP hD hS => ?_)
  have hP : va_P D vwCl [(h0, .inr (0, FC (tk_up (tk_up (tk_up (tk_up (tk_up c 7 0) 8 2) 2 0) 3 0) 4 0)))] H := hP
  have hD : va_D A [(h0, .inr (0, FC (tk_up (tk_up (tk_up (tk_up (tk_up c 7 0) 8 2) 2 0) 3 0) 4 0)))] := hD
  refine lv_aload_n hx hb dC_beginSettingUp_25 rfl (lv_at hl 0 rfl) ?_
  refine lv_bipush (v := 7) hx hb dC_beginSettingUp_26 (by decide) ?_
  refine va_put (D := D) (ci := 0) (v := .int 7) (ty := .int) (C := RC) (T := TC) (N := 18) hx hb hw inC tyC tyC_ok nmC hown hK hP hD hS 0 rfl rfl 6 (by decide) f15 (fun _ h9 => h9) rfl (tyC_ok 6 (by decide)) rfl rfl (Nat.le_of_ble_eq_true rfl) dC_beginSettingUp_28 (fun H locs hP hD hS => ?_)
  have hP : va_P D vwCl [(h0, .inr (0, FC (tk_up (tk_up (tk_up (tk_up (tk_up (tk_up c 7 0) 8 2) 2 0) 3 0) 4 0) 6 7)))] H := hP
  have hD : va_D A [(h0, .inr (0, FC (tk_up (tk_up (tk_up (tk_up (tk_up (tk_up c 7 0) 8 2) 2 0) 3 0) 4 0) 6 7)))] := hD
  refine lv_aload_n hx hb dC_beginSettingUp_31 rfl (lv_at hl 0 rfl) ?_
  refine lv_iconst (v := 0) hx hb dC_beginSettingUp_32 (by decide) ?_
  refine va_put (D := D) (ci := 0) (v := .int 0) (ty := .boolean) (C := RC) (T := TC) (N := 18) hx hb hw inC tyC tyC_ok nmC hown hK hP hD hS 0 rfl rfl 12 (by decide) f75 (fun _ h9 => h9) rfl (tyC_ok 12 (by decide)) rfl rfl (Nat.le_of_ble_eq_true rfl) dC_beginSettingUp_33 (fun H locs hP hD hS => ?_)
  have hP : va_P D vwCl [(h0, .inr (0, FC (tk_up (tk_up (tk_up (tk_up (tk_up (tk_up (tk_up c 7 0) 8 2) 2 0) 3 0) 4 0) 6 7) 12 0)))] H := hP
  have hD : va_D A [(h0, .inr (0, FC (tk_up (tk_up (tk_up (tk_up (tk_up (tk_up (tk_up c 7 0) 8 2) 2 0) 3 0) 4 0) 6 7) 12 0)))] := hD
  refine lv_aload_n hx hb dC_beginSettingUp_36 rfl (lv_at hl 0 rfl) ?_
  refine lv_iconst (v := 0) hx hb dC_beginSettingUp_37 (by decide) ?_
  refine va_put (D := D) (ci := 0) (v := .int 0) (ty := .boolean) (C := RC) (T := TC) (N := 18) hx hb hw inC tyC tyC_ok nmC hown hK hP hD hS 0 rfl rfl 13 (by decide) f78 (fun _ h9 => h9) rfl (tyC_ok 13 (by decide)) rfl rfl (Nat.le_of_ble_eq_true rfl) dC_beginSettingUp_38 (fun H locs hP hD hS => ?_)
  have hP : va_P D vwCl [(h0, .inr (0, FC (tk_up (tk_up (tk_up (tk_up (tk_up (tk_up (tk_up (tk_up c 7 0) 8 2) 2 0) 3 0) 4 0) 6 7) 12 0) 13 0)))] H := hP
  have hD : va_D A [(h0, .inr (0, FC (tk_up (tk_up (tk_up (tk_up (tk_up (tk_up (tk_up (tk_up c 7 0) 8 2) 2 0) 3 0) 4 0) 6 7) 12 0) 13 0)))] := hD
  refine lv_aload_n hx hb dC_beginSettingUp_41 rfl (lv_at hl 0 rfl) ?_
  refine lv_iconst (v := 0) hx hb dC_beginSettingUp_42 (by decide) ?_
  refine va_put (D := D) (ci := 0) (v := .int 0) (ty := .boolean) (C := RC) (T := TC) (N := 18) hx hb hw inC tyC tyC_ok nmC hown hK hP hD hS 0 rfl rfl 14 (by decide) f103 (fun _ h9 => h9) rfl (tyC_ok 14 (by decide)) rfl rfl (Nat.le_of_ble_eq_true rfl) dC_beginSettingUp_43 (fun H locs hP hD hS => ?_)
  have hP : va_P D vwCl [(h0, .inr (0, FC (tk_up (tk_up (tk_up (tk_up (tk_up (tk_up (tk_up (tk_up (tk_up c 7 0) 8 2) 2 0) 3 0) 4 0) 6 7) 12 0) 13 0) 14 0)))] H := hP
  have hD : va_D A [(h0, .inr (0, FC (tk_up (tk_up (tk_up (tk_up (tk_up (tk_up (tk_up (tk_up (tk_up c 7 0) 8 2) 2 0) 3 0) 4 0) 6 7) 12 0) 13 0) 14 0)))] := hD
  refine lv_aload_n hx hb dC_beginSettingUp_46 rfl (lv_at hl 0 rfl) ?_
  refine lv_iconst (v := 0) hx hb dC_beginSettingUp_47 (by decide) ?_
  refine va_put (D := D) (ci := 0) (v := .int 0) (ty := .boolean) (C := RC) (T := TC) (N := 18) hx hb hw inC tyC tyC_ok nmC hown hK hP hD hS 0 rfl rfl 15 (by decide) f106 (fun _ h9 => h9) rfl (tyC_ok 15 (by decide)) rfl rfl (Nat.le_of_ble_eq_true rfl) dC_beginSettingUp_48 (fun H locs hP hD hS => ?_)
  have hP : va_P D vwCl [(h0, .inr (0, FC (tk_up (tk_up (tk_up (tk_up (tk_up (tk_up (tk_up (tk_up (tk_up (tk_up c 7 0) 8 2) 2 0) 3 0) 4 0) 6 7) 12 0) 13 0) 14 0) 15 0)))] H := hP
  have hD : va_D A [(h0, .inr (0, FC (tk_up (tk_up (tk_up (tk_up (tk_up (tk_up (tk_up (tk_up (tk_up (tk_up c 7 0) 8 2) 2 0) 3 0) 4 0) 6 7) 12 0) 13 0) 14 0) 15 0)))] := hD
  refine lv_aload_n hx hb dC_beginSettingUp_51 rfl (lv_at hl 0 rfl) ?_
  refine lv_iconst (v := 0) hx hb dC_beginSettingUp_52 (by decide) ?_
  refine va_put (D := D) (ci := 0) (v := .int 0) (ty := .boolean) (C := RC) (T := TC) (N := 18) hx hb hw inC tyC tyC_ok nmC hown hK hP hD hS 0 rfl rfl 16 (by decide) f90 (fun _ h9 => h9) rfl (tyC_ok 16 (by decide)) rfl rfl (Nat.le_of_ble_eq_true rfl) dC_beginSettingUp_53 (fun H locs hP hD hS => ?_)
  have hP : va_P D vwCl [(h0, .inr (0, FC (tk_up (tk_up (tk_up (tk_up (tk_up (tk_up (tk_up (tk_up (tk_up (tk_up (tk_up c 7 0) 8 2) 2 0) 3 0) 4 0) 6 7) 12 0) 13 0) 14 0) 15 0) 16 0)))] H := hP
  have hD : va_D A [(h0, .inr (0, FC (tk_up (tk_up (tk_up (tk_up (tk_up (tk_up (tk_up (tk_up (tk_up (tk_up (tk_up c 7 0) 8 2) 2 0) 3 0) 4 0) 6 7) 12 0) 13 0) 14 0) 15 0) 16 0)))] := hD
  refine lv_aload_n hx hb dC_beginSettingUp_56 rfl (lv_at hl 0 rfl) ?_
  refine lv_iconst (v := 0) hx hb dC_beginSettingUp_57 (by decide) ?_
  refine va_put (D := D) (ci := 0) (v := .int 0) (ty := .boolean) (C := RC) (T := TC) (N := 18) hx hb hw inC tyC tyC_ok nmC hown hK hP hD hS 0 rfl rfl 17 (by decide) f84 (fun _ h9 => h9) rfl (tyC_ok 17 (by decide)) rfl rfl (Nat.le_of_ble_eq_true rfl) dC_beginSettingUp_58 (fun H locs hP hD hS => ?_)
  have hP : va_P D vwCl [(h0, .inr (0, FC (tk_up (tk_up (tk_up (tk_up (tk_up (tk_up (tk_up (tk_up (tk_up (tk_up (tk_up (tk_up c 7 0) 8 2) 2 0) 3 0) 4 0) 6 7) 12 0) 13 0) 14 0) 15 0) 16 0) 17 0)))] H := hP
  have hD : va_D A [(h0, .inr (0, FC (tk_up (tk_up (tk_up (tk_up (tk_up (tk_up (tk_up (tk_up (tk_up (tk_up (tk_up (tk_up c 7 0) 8 2) 2 0) 3 0) 4 0) 6 7) 12 0) 13 0) 14 0) 15 0) 16 0) 17 0)))] := hD
  refine lv_aload_n hx hb dC_beginSettingUp_61 rfl (lv_at hl 0 rfl) ?_
  refine lv_iload_n hx hb dC_beginSettingUp_62 rfl (lv_at hl 1 rfl) ?_
  refine lv_iconst (v := 3) hx hb dC_beginSettingUp_63 (by decide) ?_
  refine tk_call0 hP hD hS hA (va_runSN (As := [.int x0, .int 3]) (rest := [.ref h0]) ⟨hx, hb, hml, hown, hw⟩ (kT_hasBit l D x0 3 H.size) ⟨va_cnB 2 hw (tk_g0 tkW_good wC_T_hasBit) rfl rfl rfl (hN (.methodLinkNest RC 38 yT_hasBit "TickLines") (by decide +kernel)) (hw _ wZ_T) (by decide +kernel) ⟨Nat.le_of_ble_eq_true rfl, Nat.le_of_ble_eq_true rfl⟩, hw _ wT_T_hasBit, trivial⟩ (tk_preS hK hN hP hD [] [] rfl rfl rfl) rfl rfl hl.1 rfl (lv_room (Nat.le_of_ble_eq_true rfl)) dC_beginSettingUp_64 ⟨Nat.zero_le _, Nat.zero_le _⟩) (fun H locs hP hD hS => ?_)
  refine W.eq (g2 := F0 m 67 ls [.int (tkT_hasBit_r x0 3), .ref h0]) rfl ?_
  refine va_put (D := D) (ci := 0) (v := .int (tkT_hasBit_r x0 3)) (ty := .boolean) (C := RC) (T := TC) (N := 18) hx hb hw inC tyC tyC_ok nmC hown hK hP hD hS 0 rfl rfl 9 (by decide) f100 (fun _ h9 => h9) rfl (tyC_ok 9 (by decide)) (tk_nb (tkT_hasBit_b x0 3)) (tk_fb (tkT_hasBit_b x0 3)) (Nat.le_of_ble_eq_true rfl) dC_beginSettingUp_67 (fun H locs hP hD hS => ?_)
  have hP : va_P D vwCl [(h0, .inr (0, FC (tk_up (tk_up (tk_up (tk_up (tk_up (tk_up (tk_up (tk_up (tk_up (tk_up (tk_up (tk_up (tk_up c 7 0) 8 2) 2 0) 3 0) 4 0) 6 7) 12 0) 13 0) 14 0) 15 0) 16 0) 17 0) 9 (tkT_hasBit_r x0 3))))] H := hP
  have hD : va_D A [(h0, .inr (0, FC (tk_up (tk_up (tk_up (tk_up (tk_up (tk_up (tk_up (tk_up (tk_up (tk_up (tk_up (tk_up (tk_up c 7 0) 8 2) 2 0) 3 0) 4 0) 6 7) 12 0) 13 0) 14 0) 15 0) 16 0) 17 0) 9 (tkT_hasBit_r x0 3))))] := hD
  refine lv_aload_n hx hb dC_beginSettingUp_70 rfl (lv_at hl 0 rfl) ?_
  refine lv_iload_n hx hb dC_beginSettingUp_71 rfl (lv_at hl 1 rfl) ?_
  refine lv_iconst (v := 1) hx hb dC_beginSettingUp_72 (by decide) ?_
  refine tk_call0 hP hD hS hA (va_runSN (As := [.int x0, .int 1]) (rest := [.ref h0]) ⟨hx, hb, hml, hown, hw⟩ (kT_hasBit l D x0 1 H.size) ⟨va_cnB 2 hw (tk_g0 tkW_good wC_T_hasBit) rfl rfl rfl (hN (.methodLinkNest RC 38 yT_hasBit "TickLines") (by decide +kernel)) (hw _ wZ_T) (by decide +kernel) ⟨Nat.le_of_ble_eq_true rfl, Nat.le_of_ble_eq_true rfl⟩, hw _ wT_T_hasBit, trivial⟩ (tk_preS hK hN hP hD [] [] rfl rfl rfl) rfl rfl hl.1 rfl (lv_room (Nat.le_of_ble_eq_true rfl)) dC_beginSettingUp_73 ⟨Nat.zero_le _, Nat.zero_le _⟩) (fun H locs hP hD hS => ?_)
  refine W.eq (g2 := F0 m 76 ls [.int (tkT_hasBit_r x0 1), .ref h0]) rfl ?_
  refine va_put (D := D) (ci := 0) (v := .int (tkT_hasBit_r x0 1)) (ty := .boolean) (C := RC) (T := TC) (N := 18) hx hb hw inC tyC tyC_ok nmC hown hK hP hD hS 0 rfl rfl 10 (by decide) f69 (fun _ h9 => h9) rfl (tyC_ok 10 (by decide)) (tk_nb (tkT_hasBit_b x0 1)) (tk_fb (tkT_hasBit_b x0 1)) (Nat.le_of_ble_eq_true rfl) dC_beginSettingUp_76 (fun H locs hP hD hS => ?_)
  have hP : va_P D vwCl [(h0, .inr (0, FC (tk_up (tk_up (tk_up (tk_up (tk_up (tk_up (tk_up (tk_up (tk_up (tk_up (tk_up (tk_up (tk_up (tk_up c 7 0) 8 2) 2 0) 3 0) 4 0) 6 7) 12 0) 13 0) 14 0) 15 0) 16 0) 17 0) 9 (tkT_hasBit_r x0 3)) 10 (tkT_hasBit_r x0 1))))] H := hP
  have hD : va_D A [(h0, .inr (0, FC (tk_up (tk_up (tk_up (tk_up (tk_up (tk_up (tk_up (tk_up (tk_up (tk_up (tk_up (tk_up (tk_up (tk_up c 7 0) 8 2) 2 0) 3 0) 4 0) 6 7) 12 0) 13 0) 14 0) 15 0) 16 0) 17 0) 9 (tkT_hasBit_r x0 3)) 10 (tkT_hasBit_r x0 1))))] := hD
  refine lv_aload_n hx hb dC_beginSettingUp_79 rfl (lv_at hl 0 rfl) ?_
  refine lv_iload_n hx hb dC_beginSettingUp_80 rfl (lv_at hl 1 rfl) ?_
  refine lv_iconst (v := 0) hx hb dC_beginSettingUp_81 (by decide) ?_
  refine tk_call0 hP hD hS hA (va_runSN (As := [.int x0, .int 0]) (rest := [.ref h0]) ⟨hx, hb, hml, hown, hw⟩ (kT_hasBit l D x0 0 H.size) ⟨va_cnB 2 hw (tk_g0 tkW_good wC_T_hasBit) rfl rfl rfl (hN (.methodLinkNest RC 38 yT_hasBit "TickLines") (by decide +kernel)) (hw _ wZ_T) (by decide +kernel) ⟨Nat.le_of_ble_eq_true rfl, Nat.le_of_ble_eq_true rfl⟩, hw _ wT_T_hasBit, trivial⟩ (tk_preS hK hN hP hD [] [] rfl rfl rfl) rfl rfl hl.1 rfl (lv_room (Nat.le_of_ble_eq_true rfl)) dC_beginSettingUp_82 ⟨Nat.zero_le _, Nat.zero_le _⟩) (fun H locs hP hD hS => ?_)
  refine W.eq (g2 := F0 m 85 ls [.int (tkT_hasBit_r x0 0), .ref h0]) rfl ?_
  refine va_put (D := D) (ci := 0) (v := .int (tkT_hasBit_r x0 0)) (ty := .boolean) (C := RC) (T := TC) (N := 18) hx hb hw inC tyC tyC_ok nmC hown hK hP hD hS 0 rfl rfl 11 (by decide) f109 (fun _ h9 => h9) rfl (tyC_ok 11 (by decide)) (tk_nb (tkT_hasBit_b x0 0)) (tk_fb (tkT_hasBit_b x0 0)) (Nat.le_of_ble_eq_true rfl) dC_beginSettingUp_85 (fun H locs hP hD hS => ?_)
  have hP : va_P D vwCl [(h0, .inr (0, FC (tk_up (tk_up (tk_up (tk_up (tk_up (tk_up (tk_up (tk_up (tk_up (tk_up (tk_up (tk_up (tk_up (tk_up (tk_up c 7 0) 8 2) 2 0) 3 0) 4 0) 6 7) 12 0) 13 0) 14 0) 15 0) 16 0) 17 0) 9 (tkT_hasBit_r x0 3)) 10 (tkT_hasBit_r x0 1)) 11 (tkT_hasBit_r x0 0))))] H := hP
  have hD : va_D A [(h0, .inr (0, FC (tk_up (tk_up (tk_up (tk_up (tk_up (tk_up (tk_up (tk_up (tk_up (tk_up (tk_up (tk_up (tk_up (tk_up (tk_up c 7 0) 8 2) 2 0) 3 0) 4 0) 6 7) 12 0) 13 0) 14 0) 15 0) 16 0) 17 0) 9 (tkT_hasBit_r x0 3)) 10 (tkT_hasBit_r x0 1)) 11 (tkT_hasBit_r x0 0))))] := hD
  exact tk_vret hx hb hr hlk hP hD hS dC_beginSettingUp_88 (tk_ewC rfl)
def tkC_takeReadingCommand_s (c : Nat → Int32) (x0 : Int32) : Nat → Int32 :=
  if tkT_hasBit_r x0 6 = 0 then (if tkT_hasBit_r x0 2 = 0 then (if tkT_hasBit_r x0 1 = 0 then c
      else tk_up c 16 (tkT_hasBit_r x0 0))
    else tk_up c 17 1)
  else if tkT_hasBit_r x0 2 = 0 then (if tkT_hasBit_r x0 1 = 0 then tk_up c 14 (tkT_hasBit_r x0 5)
      else tk_up (tk_up c 14 (tkT_hasBit_r x0 5)) 16 (tkT_hasBit_r x0 0))
    else tk_up (tk_up c 14 (tkT_hasBit_r x0 5)) 17 1
set_option maxHeartbeats 1000000 in
set_option maxRecDepth 100000 in
theorem kC_takeReadingCommand (l : Launch) (D : va_G) (h0 : Nat) (c : Nat → Int32) (x0 : Int32) : tk_M l yC_takeReadingCommand wsC_takeReadingCommand { frames := 1, cells := 0, slots := 0, locals := 21 } D [] [.ref h0, .int x0] [(h0, .inr (0, FC c))] [(h0, .inr (0, FC (tkC_takeReadingCommand_s c x0)))] none := by
  refine tk_M.of (cc := cC_takeReadingCommand) (maxL := 2) (ret := none) (by decide) rfl (Nat.le_of_ble_eq_true rfl) ?_
  intro p e s m below meth co A H locs ls hB hK hN hA hP hD hS hl
  obtain ⟨hx, hb, hr, hml, hown, hlk, hnm, hts⟩ := hB
  have hown : s.vm.findClass RC = some m.cls := hown
  have hl : lv_has ls 2 [(0, .ref h0), (1, .int x0)] := hl
  have hw : ∀ w ∈ tkW, w.before _ s = true := fun w h => hts w (List.mem_cons_of_mem _ h)
  have f90 := hw _ wF_C_90
  have f84 := hw _ wF_C_84
  have f103 := hw _ wF_C_103
  refine lv_iload_n hx hb dC_takeReadingCommand_0 rfl (lv_at hl 1 rfl) ?_
  refine lv_bipush (v := 6) hx hb dC_takeReadingCommand_1 (by decide) ?_
  refine tk_call0 hP hD hS hA (va_runSN (As := [.int x0, .int 6]) (rest := []) ⟨hx, hb, hml, hown, hw⟩ (kT_hasBit l D x0 6 H.size) ⟨va_cnB 2 hw (tk_g0 tkW_good wC_T_hasBit) rfl rfl rfl (hN (.methodLinkNest RC 38 yT_hasBit "TickLines") (by decide +kernel)) (hw _ wZ_T) (by decide +kernel) ⟨Nat.le_of_ble_eq_true rfl, Nat.le_of_ble_eq_true rfl⟩, hw _ wT_T_hasBit, trivial⟩ (tk_preS hK hN hP hD [] [] rfl rfl rfl) rfl rfl hl.1 rfl (lv_room (Nat.le_of_ble_eq_true rfl)) dC_takeReadingCommand_3 ⟨Nat.zero_le _, Nat.zero_le _⟩) (fun H locs hP hD hS => ?_)
  refine W.eq (g2 := F0 m 6 ls [.int (tkT_hasBit_r x0 6)]) rfl ?_
  refine lv_if_eq (tgt := 18) hx hb dC_takeReadingCommand_6 (by decide) (fun (h1_ : tkT_hasBit_r x0 6 = 0) => ?_) (fun (h1_ : ¬ (tkT_hasBit_r x0 6 = 0)) => ?_)
  · refine lv_iload_n hx hb dC_takeReadingCommand_18 rfl (lv_at hl 1 rfl) ?_
    refine lv_iconst (v := 2) hx hb dC_takeReadingCommand_19 (by decide) ?_
    refine tk_call0 hP hD hS hA (va_runSN (As := [.int x0, .int 2]) (rest := []) ⟨hx, hb, hml, hown, hw⟩ (kT_hasBit l D x0 2 H.size) ⟨va_cnB 2 hw (tk_g0 tkW_good wC_T_hasBit) rfl rfl rfl (hN (.methodLinkNest RC 38 yT_hasBit "TickLines") (by decide +kernel)) (hw _ wZ_T) (by decide +kernel) ⟨Nat.le_of_ble_eq_true rfl, Nat.le_of_ble_eq_true rfl⟩, hw _ wT_T_hasBit, trivial⟩ (tk_preS hK hN hP hD [] [] rfl rfl rfl) rfl rfl hl.1 rfl (lv_room (Nat.le_of_ble_eq_true rfl)) dC_takeReadingCommand_20 ⟨Nat.zero_le _, Nat.zero_le _⟩) (fun H locs hP hD hS => ?_)
    refine W.eq (g2 := F0 m 23 ls [.int (tkT_hasBit_r x0 2)]) rfl ?_
    refine lv_if_eq (tgt := 34) hx hb dC_takeReadingCommand_23 (by decide) (fun (h2_ : tkT_hasBit_r x0 2 = 0) => ?_) (fun (h2_ : ¬ (tkT_hasBit_r x0 2 = 0)) => ?_)
    · refine lv_iload_n hx hb dC_takeReadingCommand_34 rfl (lv_at hl 1 rfl) ?_
      refine lv_iconst (v := 1) hx hb dC_takeReadingCommand_35 (by decide) ?_
      refine tk_call0 hP hD hS hA (va_runSN (As := [.int x0, .int 1]) (rest := []) ⟨hx, hb, hml, hown, hw⟩ (kT_hasBit l D x0 1 H.size) ⟨va_cnB 2 hw (tk_g0 tkW_good wC_T_hasBit) rfl rfl rfl (hN (.methodLinkNest RC 38 yT_hasBit "TickLines") (by decide +kernel)) (hw _ wZ_T) (by decide +kernel) ⟨Nat.le_of_ble_eq_true rfl, Nat.le_of_ble_eq_true rfl⟩, hw _ wT_T_hasBit, trivial⟩ (tk_preS hK hN hP hD [] [] rfl rfl rfl) rfl rfl hl.1 rfl (lv_room (Nat.le_of_ble_eq_true rfl)) dC_takeReadingCommand_36 ⟨Nat.zero_le _, Nat.zero_le _⟩) (fun H locs hP hD hS => ?_)
      refine W.eq (g2 := F0 m 39 ls [.int (tkT_hasBit_r x0 1)]) rfl ?_
      refine lv_if_eq (tgt := 51) hx hb dC_takeReadingCommand_39 (by decide) (fun (h3_ : tkT_hasBit_r x0 1 = 0) => ?_) (fun (h3_ : ¬ (tkT_hasBit_r x0 1 = 0)) => ?_)
      · exact tk_vret hx hb hr hlk hP hD hS dC_takeReadingCommand_51 (tk_ewC (by unfold tkC_takeReadingCommand_s; rw [if_pos h1_, if_pos h2_, if_pos h3_]))
      · refine lv_aload_n hx hb dC_takeReadingCommand_42 rfl (lv_at hl 0 rfl) ?_
        refine lv_iload_n hx hb dC_takeReadingCommand_43 rfl (lv_at hl 1 rfl) ?_
        refine lv_iconst (v := 0) hx hb dC_takeReadingCommand_44 (by decide) ?_
        refine tk_call0 hP hD hS hA (va_runSN (As := [.int x0, .int 0]) (rest := [.ref h0]) ⟨hx, hb, hml, hown, hw⟩ (kT_hasBit l D x0 0 H.size) ⟨va_cnB 2 hw (tk_g0 tkW_good wC_T_hasBit) rfl rfl rfl (hN (.methodLinkNest RC 38 yT_hasBit "TickLines") (by decide +kernel)) (hw _ wZ_T) (by decide +kernel) ⟨Nat.le_of_ble_eq_true rfl, Nat.le_of_ble_eq_true rfl⟩, hw _ wT_T_hasBit, trivial⟩ (tk_preS hK hN hP hD [] [] rfl rfl rfl) rfl rfl hl.1 rfl (lv_room (Nat.le_of_ble_eq_true rfl)) dC_takeReadingCommand_45 ⟨Nat.zero_le _, Nat.zero_le _⟩) (fun H locs hP hD hS => ?_)
        refine W.eq (g2 := F0 m 48 ls [.int (tkT_hasBit_r x0 0), .ref h0]) rfl ?_
        refine va_put (D := D) (ci := 0) (v := .int (tkT_hasBit_r x0 0)) (ty := .boolean) (C := RC) (T := TC) (N := 18) hx hb hw inC tyC tyC_ok nmC hown hK hP hD hS 0 rfl rfl 16 (by decide) f90 (fun _ h9 => h9) rfl (tyC_ok 16 (by decide)) (tk_nb (tkT_hasBit_b x0 0)) (tk_fb (tkT_hasBit_b x0 0)) (Nat.le_of_ble_eq_true rfl) dC_takeReadingCommand_48 (fun H locs hP hD hS => ?_)
        have hP : va_P D vwCl [(h0, .inr (0, FC (tk_up c 16 (tkT_hasBit_r x0 0))))] H := hP
        have hD : va_D A [(h0, .inr (0, FC (tk_up c 16 (tkT_hasBit_r x0 0))))] := hD
        exact tk_vret hx hb hr hlk hP hD hS dC_takeReadingCommand_51 (tk_ewC (by unfold tkC_takeReadingCommand_s; rw [if_pos h1_, if_pos h2_, if_neg h3_]))
    · refine lv_aload_n hx hb dC_takeReadingCommand_26 rfl (lv_at hl 0 rfl) ?_
      refine lv_iconst (v := 1) hx hb dC_takeReadingCommand_27 (by decide) ?_
      refine va_put (D := D) (ci := 0) (v := .int 1) (ty := .boolean) (C := RC) (T := TC) (N := 18) hx hb hw inC tyC tyC_ok nmC hown hK hP hD hS 0 rfl rfl 17 (by decide) f84 (fun _ h9 => h9) rfl (tyC_ok 17 (by decide)) rfl rfl (Nat.le_of_ble_eq_true rfl) dC_takeReadingCommand_28 (fun H locs hP hD hS => ?_)
      have hP : va_P D vwCl [(h0, .inr (0, FC (tk_up c 17 1)))] H := hP
      have hD : va_D A [(h0, .inr (0, FC (tk_up c 17 1)))] := hD
      refine lv_goto (tgt := 51) hx hb dC_takeReadingCommand_31 (by decide) ?_
      exact tk_vret hx hb hr hlk hP hD hS dC_takeReadingCommand_51 (tk_ewC (by unfold tkC_takeReadingCommand_s; rw [if_pos h1_, if_neg h2_]))
  · refine lv_aload_n hx hb dC_takeReadingCommand_9 rfl (lv_at hl 0 rfl) ?_
    refine lv_iload_n hx hb dC_takeReadingCommand_10 rfl (lv_at hl 1 rfl) ?_
    refine lv_iconst (v := 5) hx hb dC_takeReadingCommand_11 (by decide) ?_
    refine tk_call0 hP hD hS hA (va_runSN (As := [.int x0, .int 5]) (rest := [.ref h0]) ⟨hx, hb, hml, hown, hw⟩ (kT_hasBit l D x0 5 H.size) ⟨va_cnB 2 hw (tk_g0 tkW_good wC_T_hasBit) rfl rfl rfl (hN (.methodLinkNest RC 38 yT_hasBit "TickLines") (by decide +kernel)) (hw _ wZ_T) (by decide +kernel) ⟨Nat.le_of_ble_eq_true rfl, Nat.le_of_ble_eq_true rfl⟩, hw _ wT_T_hasBit, trivial⟩ (tk_preS hK hN hP hD [] [] rfl rfl rfl) rfl rfl hl.1 rfl (lv_room (Nat.le_of_ble_eq_true rfl)) dC_takeReadingCommand_12 ⟨Nat.zero_le _, Nat.zero_le _⟩) (fun H locs hP hD hS => ?_)
    refine W.eq (g2 := F0 m 15 ls [.int (tkT_hasBit_r x0 5), .ref h0]) rfl ?_
    refine va_put (D := D) (ci := 0) (v := .int (tkT_hasBit_r x0 5)) (ty := .boolean) (C := RC) (T := TC) (N := 18) hx hb hw inC tyC tyC_ok nmC hown hK hP hD hS 0 rfl rfl 14 (by decide) f103 (fun _ h9 => h9) rfl (tyC_ok 14 (by decide)) (tk_nb (tkT_hasBit_b x0 5)) (tk_fb (tkT_hasBit_b x0 5)) (Nat.le_of_ble_eq_true rfl) dC_takeReadingCommand_15 (fun H locs hP hD hS => ?_)
    have hP : va_P D vwCl [(h0, .inr (0, FC (tk_up c 14 (tkT_hasBit_r x0 5))))] H := hP
    have hD : va_D A [(h0, .inr (0, FC (tk_up c 14 (tkT_hasBit_r x0 5))))] := hD
    refine lv_iload_n hx hb dC_takeReadingCommand_18 rfl (lv_at hl 1 rfl) ?_
    refine lv_iconst (v := 2) hx hb dC_takeReadingCommand_19 (by decide) ?_
    refine tk_call0 hP hD hS hA (va_runSN (As := [.int x0, .int 2]) (rest := []) ⟨hx, hb, hml, hown, hw⟩ (kT_hasBit l D x0 2 H.size) ⟨va_cnB 2 hw (tk_g0 tkW_good wC_T_hasBit) rfl rfl rfl (hN (.methodLinkNest RC 38 yT_hasBit "TickLines") (by decide +kernel)) (hw _ wZ_T) (by decide +kernel) ⟨Nat.le_of_ble_eq_true rfl, Nat.le_of_ble_eq_true rfl⟩, hw _ wT_T_hasBit, trivial⟩ (tk_preS hK hN hP hD [] [] rfl rfl rfl) rfl rfl hl.1 rfl (lv_room (Nat.le_of_ble_eq_true rfl)) dC_takeReadingCommand_20 ⟨Nat.zero_le _, Nat.zero_le _⟩) (fun H locs hP hD hS => ?_)
    refine W.eq (g2 := F0 m 23 ls [.int (tkT_hasBit_r x0 2)]) rfl ?_
    refine lv_if_eq (tgt := 34) hx hb dC_takeReadingCommand_23 (by decide) (fun (h4_ : tkT_hasBit_r x0 2 = 0) => ?_) (fun (h4_ : ¬ (tkT_hasBit_r x0 2 = 0)) => ?_)
    · refine lv_iload_n hx hb dC_takeReadingCommand_34 rfl (lv_at hl 1 rfl) ?_
      refine lv_iconst (v := 1) hx hb dC_takeReadingCommand_35 (by decide) ?_
      refine tk_call0 hP hD hS hA (va_runSN (As := [.int x0, .int 1]) (rest := []) ⟨hx, hb, hml, hown, hw⟩ (kT_hasBit l D x0 1 H.size) ⟨va_cnB 2 hw (tk_g0 tkW_good wC_T_hasBit) rfl rfl rfl (hN (.methodLinkNest RC 38 yT_hasBit "TickLines") (by decide +kernel)) (hw _ wZ_T) (by decide +kernel) ⟨Nat.le_of_ble_eq_true rfl, Nat.le_of_ble_eq_true rfl⟩, hw _ wT_T_hasBit, trivial⟩ (tk_preS hK hN hP hD [] [] rfl rfl rfl) rfl rfl hl.1 rfl (lv_room (Nat.le_of_ble_eq_true rfl)) dC_takeReadingCommand_36 ⟨Nat.zero_le _, Nat.zero_le _⟩) (fun H locs hP hD hS => ?_)
      refine W.eq (g2 := F0 m 39 ls [.int (tkT_hasBit_r x0 1)]) rfl ?_
      refine lv_if_eq (tgt := 51) hx hb dC_takeReadingCommand_39 (by decide) (fun (h5_ : tkT_hasBit_r x0 1 = 0) => ?_) (fun (h5_ : ¬ (tkT_hasBit_r x0 1 = 0)) => ?_)
      · exact tk_vret hx hb hr hlk hP hD hS dC_takeReadingCommand_51 (tk_ewC (by unfold tkC_takeReadingCommand_s; rw [if_neg h1_, if_pos h4_, if_pos h5_]))
      · refine lv_aload_n hx hb dC_takeReadingCommand_42 rfl (lv_at hl 0 rfl) ?_
        refine lv_iload_n hx hb dC_takeReadingCommand_43 rfl (lv_at hl 1 rfl) ?_
        refine lv_iconst (v := 0) hx hb dC_takeReadingCommand_44 (by decide) ?_
        refine tk_call0 hP hD hS hA (va_runSN (As := [.int x0, .int 0]) (rest := [.ref h0]) ⟨hx, hb, hml, hown, hw⟩ (kT_hasBit l D x0 0 H.size) ⟨va_cnB 2 hw (tk_g0 tkW_good wC_T_hasBit) rfl rfl rfl (hN (.methodLinkNest RC 38 yT_hasBit "TickLines") (by decide +kernel)) (hw _ wZ_T) (by decide +kernel) ⟨Nat.le_of_ble_eq_true rfl, Nat.le_of_ble_eq_true rfl⟩, hw _ wT_T_hasBit, trivial⟩ (tk_preS hK hN hP hD [] [] rfl rfl rfl) rfl rfl hl.1 rfl (lv_room (Nat.le_of_ble_eq_true rfl)) dC_takeReadingCommand_45 ⟨Nat.zero_le _, Nat.zero_le _⟩) (fun H locs hP hD hS => ?_)
        refine W.eq (g2 := F0 m 48 ls [.int (tkT_hasBit_r x0 0), .ref h0]) rfl ?_
        refine va_put (D := D) (ci := 0) (v := .int (tkT_hasBit_r x0 0)) (ty := .boolean) (C := RC) (T := TC) (N := 18) hx hb hw inC tyC tyC_ok nmC hown hK hP hD hS 0 rfl rfl 16 (by decide) f90 (fun _ h9 => h9) rfl (tyC_ok 16 (by decide)) (tk_nb (tkT_hasBit_b x0 0)) (tk_fb (tkT_hasBit_b x0 0)) (Nat.le_of_ble_eq_true rfl) dC_takeReadingCommand_48 (fun H locs hP hD hS => ?_)
        have hP : va_P D vwCl [(h0, .inr (0, FC (tk_up (tk_up c 14 (tkT_hasBit_r x0 5)) 16 (tkT_hasBit_r x0 0))))] H := hP
        have hD : va_D A [(h0, .inr (0, FC (tk_up (tk_up c 14 (tkT_hasBit_r x0 5)) 16 (tkT_hasBit_r x0 0))))] := hD
        exact tk_vret hx hb hr hlk hP hD hS dC_takeReadingCommand_51 (tk_ewC (by unfold tkC_takeReadingCommand_s; rw [if_neg h1_, if_pos h4_, if_neg h5_]))
    · refine lv_aload_n hx hb dC_takeReadingCommand_26 rfl (lv_at hl 0 rfl) ?_
      refine lv_iconst (v := 1) hx hb dC_takeReadingCommand_27 (by decide) ?_
      refine va_put (D := D) (ci := 0) (v := .int 1) (ty := .boolean) (C := RC) (T := TC) (N := 18) hx hb hw inC tyC tyC_ok nmC hown hK hP hD hS 0 rfl rfl 17 (by decide) f84 (fun _ h9 => h9) rfl (tyC_ok 17 (by decide)) rfl rfl (Nat.le_of_ble_eq_true rfl) dC_takeReadingCommand_28 (fun H locs hP hD hS => ?_)
      have hP : va_P D vwCl [(h0, .inr (0, FC (tk_up (tk_up c 14 (tkT_hasBit_r x0 5)) 17 1)))] H := hP
      have hD : va_D A [(h0, .inr (0, FC (tk_up (tk_up c 14 (tkT_hasBit_r x0 5)) 17 1)))] := hD
      refine lv_goto (tgt := 51) hx hb dC_takeReadingCommand_31 (by decide) ?_
      exact tk_vret hx hb hr hlk hP hD hS dC_takeReadingCommand_51 (tk_ewC (by unfold tkC_takeReadingCommand_s; rw [if_neg h1_, if_neg h4_]))
def tkC_firstHolding_r (c : Nat → Int32) : Int32 :=
  if tkT_hasBit_r (tkC_holdingLevels_r c) (((c 6) + 1) &&& 7) = 0 then (if tkT_hasBit_r (tkC_holdingLevels_r c) (((c 6) + 2) &&& 7) = 0 then (if tkT_hasBit_r (tkC_holdingLevels_r c) (((c 6) + 3) &&& 7) = 0 then (if tkT_hasBit_r (tkC_holdingLevels_r c) (((c 6) + 4) &&& 7) = 0 then (if tkT_hasBit_r (tkC_holdingLevels_r c) (((c 6) + 5) &&& 7) = 0 then (if tkT_hasBit_r (tkC_holdingLevels_r c) (((c 6) + 6) &&& 7) = 0 then (if tkT_hasBit_r (tkC_holdingLevels_r c) (((c 6) + 7) &&& 7) = 0 then (if tkT_hasBit_r (tkC_holdingLevels_r c) (((c 6) + 8) &&& 7) = 0 then (-1)
                else ((c 6) + 8) &&& 7)
              else ((c 6) + 7) &&& 7)
            else ((c 6) + 6) &&& 7)
          else ((c 6) + 5) &&& 7)
        else ((c 6) + 4) &&& 7)
      else ((c 6) + 3) &&& 7)
    else ((c 6) + 2) &&& 7)
  else ((c 6) + 1) &&& 7
set_option maxHeartbeats 1000000 in
set_option maxRecDepth 100000 in
theorem kC_firstHolding (l : Launch) (D : va_G) (h0 : Nat) (c : Nat → Int32) : tk_M l yC_firstHolding wsC_firstHolding { frames := 1, cells := 0, slots := 0, locals := 21 } D [] [.ref h0] [(h0, .inr (0, FC c))] [(h0, .inr (0, FC c))] (some (.int (tkC_firstHolding_r c))) := by
  refine tk_M.of (cc := cC_firstHolding) (maxL := 4) (ret := (some .int)) (by decide) rfl (Nat.le_of_ble_eq_true rfl) ?_
  intro p e s m below meth co A H locs ls hB hK hN hA hP hD hS hl
  obtain ⟨hx, hb, hr, hml, hown, hlk, hnm, hts⟩ := hB
  have hown : s.vm.findClass RC = some m.cls := hown
  have hl : lv_has ls 4 [(0, .ref h0)] := hl
  have hw : ∀ w ∈ tkW, w.before _ s = true := fun w h => hts w (List.mem_cons_of_mem _ h)
  have f15 := hw _ wF_C_15
  refine lv_aload_n hx hb dC_firstHolding_0 rfl (lv_at hl 0 rfl) ?_
  refine tk_callA hD hS hA (va_runV (As := []) (rest := []) ⟨hx, hb, hml, hown, hw⟩ (kC_holdingLevels l D h0 c H.size) (cwV 0 hw (tk_gV tkW_good wM_C_35 wI_C_holdingLevels wS_C_holdingLevels wZ_C wC_C_holdingLevels) rfl rfl rfl (by decide +kernel) ⟨Nat.le_of_ble_eq_true rfl, Nat.le_of_ble_eq_true rfl⟩) (tk_preV (q0 := 0) hK hN hP hD [0] [] rfl rfl rfl rfl rfl) rfl rfl hl.1 rfl (lv_room (Nat.le_of_ble_eq_true rfl)) dC_firstHolding_1 ⟨Nat.zero_le _, Nat.zero_le _⟩) (fun H locs hP hD hS => ?_)
  refine W.eq (g2 := F0 m 4 ls [.int (tkC_holdingLevels_r c)]) rfl ?_
  refine lv_istore_n hx hb dC_firstHolding_4 rfl hl (by decide) rfl (fun ls hl => ?_)
  have hl : lv_has ls 4 [(1, .int (tkC_holdingLevels_r c)), (0, .ref h0)] := hl
  refine lv_iconst (v := 1) hx hb dC_firstHolding_5 (by decide) ?_
  refine lv_istore_n hx hb dC_firstHolding_6 rfl hl (by decide) rfl (fun ls hl => ?_)
  have hl : lv_has ls 4 [(2, .int 1), (1, .int (tkC_holdingLevels_r c)), (0, .ref h0)] := hl
  refine lv_iload_n hx hb dC_firstHolding_7 rfl (lv_at hl 0 rfl) ?_
  refine lv_bipush (v := 8) hx hb dC_firstHolding_8 (by decide) ?_
  refine lv_icmp_gt (tgt := 39) hx hb dC_firstHolding_10 (by decide) (fun h => absurd h (by decide)) (fun _ => ?_)
  refine lv_aload_n hx hb dC_firstHolding_13 rfl (lv_at hl 2 rfl) ?_
  refine va_get (D := D) (ci := 0) (v := .int (c 6)) (C := RC) (T := TC) (N := 18) hx hb hw inC hown hK hP 0 rfl rfl 6 (by decide) f15 (fun _ h9 => h9) rfl dC_firstHolding_14 ?_
  refine lv_iload_n hx hb dC_firstHolding_17 rfl (lv_at hl 0 rfl) ?_
  refine lv_iadd hx hb dC_firstHolding_18 ?_
  refine lv_bipush (v := 7) hx hb dC_firstHolding_19 (by decide) ?_
  refine lv_iand hx hb dC_firstHolding_21 ?_
  refine lv_istore_n hx hb dC_firstHolding_22 rfl hl (by decide) rfl (fun ls hl => ?_)
  have hl : lv_has ls 4 [(3, .int (((c 6) + 1) &&& 7)), (2, .int 1), (1, .int (tkC_holdingLevels_r c)), (0, .ref h0)] := hl
  refine lv_iload_n hx hb dC_firstHolding_23 rfl (lv_at hl 2 rfl) ?_
  refine lv_iload_n hx hb dC_firstHolding_24 rfl (lv_at hl 0 rfl) ?_
  refine tk_call0 hP hD hS hA (va_runSN (As := [.int (tkC_holdingLevels_r c), .int (((c 6) + 1) &&& 7)]) (rest := []) ⟨hx, hb, hml, hown, hw⟩ (kT_hasBit l D (tkC_holdingLevels_r c) (((c 6) + 1) &&& 7) H.size) ⟨va_cnB 2 hw (tk_g0 tkW_good wC_T_hasBit) rfl rfl rfl (hN (.methodLinkNest RC 38 yT_hasBit "TickLines") (by decide +kernel)) (hw _ wZ_T) (by decide +kernel) ⟨Nat.le_of_ble_eq_true rfl, Nat.le_of_ble_eq_true rfl⟩, hw _ wT_T_hasBit, trivial⟩ (tk_preS hK hN hP hD [] [] rfl rfl rfl) rfl rfl hl.1 rfl (lv_room (Nat.le_of_ble_eq_true rfl)) dC_firstHolding_25 ⟨Nat.zero_le _, Nat.zero_le _⟩) (fun H locs hP hD hS => ?_)
  refine W.eq (g2 := F0 m 28 ls [.int (tkT_hasBit_r (tkC_holdingLevels_r c) (((c 6) + 1) &&& 7))]) rfl ?_
  refine lv_if_eq (tgt := 33) hx hb dC_firstHolding_28 (by decide) (fun (h1_ : tkT_hasBit_r (tkC_holdingLevels_r c) (((c 6) + 1) &&& 7) = 0) => ?_) (fun (h1_ : ¬ (tkT_hasBit_r (tkC_holdingLevels_r c) (((c 6) + 1) &&& 7) = 0)) => ?_)
  · refine lv_iinc (k := 1) (v := 2) hx hb dC_firstHolding_33 hl rfl (by decide) (by decide) rfl (fun ls hl => ?_)
    have hl : lv_has ls 4 [(2, .int 2), (3, .int (((c 6) + 1) &&& 7)), (1, .int (tkC_holdingLevels_r c)), (0, .ref h0)] := hl
    refine lv_goto (tgt := 7) hx hb dC_firstHolding_36 (by decide) ?_
    refine lv_iload_n hx hb dC_firstHolding_7 rfl (lv_at hl 0 rfl) ?_
    refine lv_bipush (v := 8) hx hb dC_firstHolding_8 (by decide) ?_
    refine lv_icmp_gt (tgt := 39) hx hb dC_firstHolding_10 (by decide) (fun h => absurd h (by decide)) (fun _ => ?_)
    refine lv_aload_n hx hb dC_firstHolding_13 rfl (lv_at hl 3 rfl) ?_
    refine va_get (D := D) (ci := 0) (v := .int (c 6)) (C := RC) (T := TC) (N := 18) hx hb hw inC hown hK hP 0 rfl rfl 6 (by decide) f15 (fun _ h9 => h9) rfl dC_firstHolding_14 ?_
    refine lv_iload_n hx hb dC_firstHolding_17 rfl (lv_at hl 0 rfl) ?_
    refine lv_iadd hx hb dC_firstHolding_18 ?_
    refine lv_bipush (v := 7) hx hb dC_firstHolding_19 (by decide) ?_
    refine lv_iand hx hb dC_firstHolding_21 ?_
    refine lv_istore_n hx hb dC_firstHolding_22 rfl hl (by decide) rfl (fun ls hl => ?_)
    have hl : lv_has ls 4 [(3, .int (((c 6) + 2) &&& 7)), (2, .int 2), (1, .int (tkC_holdingLevels_r c)), (0, .ref h0)] := hl
    refine lv_iload_n hx hb dC_firstHolding_23 rfl (lv_at hl 2 rfl) ?_
    refine lv_iload_n hx hb dC_firstHolding_24 rfl (lv_at hl 0 rfl) ?_
    refine tk_call0 hP hD hS hA (va_runSN (As := [.int (tkC_holdingLevels_r c), .int (((c 6) + 2) &&& 7)]) (rest := []) ⟨hx, hb, hml, hown, hw⟩ (kT_hasBit l D (tkC_holdingLevels_r c) (((c 6) + 2) &&& 7) H.size) ⟨va_cnB 2 hw (tk_g0 tkW_good wC_T_hasBit) rfl rfl rfl (hN (.methodLinkNest RC 38 yT_hasBit "TickLines") (by decide +kernel)) (hw _ wZ_T) (by decide +kernel) ⟨Nat.le_of_ble_eq_true rfl, Nat.le_of_ble_eq_true rfl⟩, hw _ wT_T_hasBit, trivial⟩ (tk_preS hK hN hP hD [] [] rfl rfl rfl) rfl rfl hl.1 rfl (lv_room (Nat.le_of_ble_eq_true rfl)) dC_firstHolding_25 ⟨Nat.zero_le _, Nat.zero_le _⟩) (fun H locs hP hD hS => ?_)
    refine W.eq (g2 := F0 m 28 ls [.int (tkT_hasBit_r (tkC_holdingLevels_r c) (((c 6) + 2) &&& 7))]) rfl ?_
    refine lv_if_eq (tgt := 33) hx hb dC_firstHolding_28 (by decide) (fun (h2_ : tkT_hasBit_r (tkC_holdingLevels_r c) (((c 6) + 2) &&& 7) = 0) => ?_) (fun (h2_ : ¬ (tkT_hasBit_r (tkC_holdingLevels_r c) (((c 6) + 2) &&& 7) = 0)) => ?_)
    · refine lv_iinc (k := 1) (v := 3) hx hb dC_firstHolding_33 hl rfl (by decide) (by decide) rfl (fun ls hl => ?_)
      have hl : lv_has ls 4 [(2, .int 3), (3, .int (((c 6) + 2) &&& 7)), (1, .int (tkC_holdingLevels_r c)), (0, .ref h0)] := hl
      refine lv_goto (tgt := 7) hx hb dC_firstHolding_36 (by decide) ?_
      refine lv_iload_n hx hb dC_firstHolding_7 rfl (lv_at hl 0 rfl) ?_
      refine lv_bipush (v := 8) hx hb dC_firstHolding_8 (by decide) ?_
      refine lv_icmp_gt (tgt := 39) hx hb dC_firstHolding_10 (by decide) (fun h => absurd h (by decide)) (fun _ => ?_)
      refine lv_aload_n hx hb dC_firstHolding_13 rfl (lv_at hl 3 rfl) ?_
      refine va_get (D := D) (ci := 0) (v := .int (c 6)) (C := RC) (T := TC) (N := 18) hx hb hw inC hown hK hP 0 rfl rfl 6 (by decide) f15 (fun _ h9 => h9) rfl dC_firstHolding_14 ?_
      refine lv_iload_n hx hb dC_firstHolding_17 rfl (lv_at hl 0 rfl) ?_
      refine lv_iadd hx hb dC_firstHolding_18 ?_
      refine lv_bipush (v := 7) hx hb dC_firstHolding_19 (by decide) ?_
      refine lv_iand hx hb dC_firstHolding_21 ?_
      refine lv_istore_n hx hb dC_firstHolding_22 rfl hl (by decide) rfl (fun ls hl => ?_)
      have hl : lv_has ls 4 [(3, .int (((c 6) + 3) &&& 7)), (2, .int 3), (1, .int (tkC_holdingLevels_r c)), (0, .ref h0)] := hl
      refine lv_iload_n hx hb dC_firstHolding_23 rfl (lv_at hl 2 rfl) ?_
      refine lv_iload_n hx hb dC_firstHolding_24 rfl (lv_at hl 0 rfl) ?_
      refine tk_call0 hP hD hS hA (va_runSN (As := [.int (tkC_holdingLevels_r c), .int (((c 6) + 3) &&& 7)]) (rest := []) ⟨hx, hb, hml, hown, hw⟩ (kT_hasBit l D (tkC_holdingLevels_r c) (((c 6) + 3) &&& 7) H.size) ⟨va_cnB 2 hw (tk_g0 tkW_good wC_T_hasBit) rfl rfl rfl (hN (.methodLinkNest RC 38 yT_hasBit "TickLines") (by decide +kernel)) (hw _ wZ_T) (by decide +kernel) ⟨Nat.le_of_ble_eq_true rfl, Nat.le_of_ble_eq_true rfl⟩, hw _ wT_T_hasBit, trivial⟩ (tk_preS hK hN hP hD [] [] rfl rfl rfl) rfl rfl hl.1 rfl (lv_room (Nat.le_of_ble_eq_true rfl)) dC_firstHolding_25 ⟨Nat.zero_le _, Nat.zero_le _⟩) (fun H locs hP hD hS => ?_)
      refine W.eq (g2 := F0 m 28 ls [.int (tkT_hasBit_r (tkC_holdingLevels_r c) (((c 6) + 3) &&& 7))]) rfl ?_
      refine lv_if_eq (tgt := 33) hx hb dC_firstHolding_28 (by decide) (fun (h3_ : tkT_hasBit_r (tkC_holdingLevels_r c) (((c 6) + 3) &&& 7) = 0) => ?_) (fun (h3_ : ¬ (tkT_hasBit_r (tkC_holdingLevels_r c) (((c 6) + 3) &&& 7) = 0)) => ?_)
      · refine lv_iinc (k := 1) (v := 4) hx hb dC_firstHolding_33 hl rfl (by decide) (by decide) rfl (fun ls hl => ?_)
        have hl : lv_has ls 4 [(2, .int 4), (3, .int (((c 6) + 3) &&& 7)), (1, .int (tkC_holdingLevels_r c)), (0, .ref h0)] := hl
        refine lv_goto (tgt := 7) hx hb dC_firstHolding_36 (by decide) ?_
        refine lv_iload_n hx hb dC_firstHolding_7 rfl (lv_at hl 0 rfl) ?_
        refine lv_bipush (v := 8) hx hb dC_firstHolding_8 (by decide) ?_
        refine lv_icmp_gt (tgt := 39) hx hb dC_firstHolding_10 (by decide) (fun h => absurd h (by decide)) (fun _ => ?_)
        refine lv_aload_n hx hb dC_firstHolding_13 rfl (lv_at hl 3 rfl) ?_
        refine va_get (D := D) (ci := 0) (v := .int (c 6)) (C := RC) (T := TC) (N := 18) hx hb hw inC hown hK hP 0 rfl rfl 6 (by decide) f15 (fun _ h9 => h9) rfl dC_firstHolding_14 ?_
        refine lv_iload_n hx hb dC_firstHolding_17 rfl (lv_at hl 0 rfl) ?_
        refine lv_iadd hx hb dC_firstHolding_18 ?_
        refine lv_bipush (v := 7) hx hb dC_firstHolding_19 (by decide) ?_
        refine lv_iand hx hb dC_firstHolding_21 ?_
        refine lv_istore_n hx hb dC_firstHolding_22 rfl hl (by decide) rfl (fun ls hl => ?_)
        have hl : lv_has ls 4 [(3, .int (((c 6) + 4) &&& 7)), (2, .int 4), (1, .int (tkC_holdingLevels_r c)), (0, .ref h0)] := hl
        refine lv_iload_n hx hb dC_firstHolding_23 rfl (lv_at hl 2 rfl) ?_
        refine lv_iload_n hx hb dC_firstHolding_24 rfl (lv_at hl 0 rfl) ?_
        refine tk_call0 hP hD hS hA (va_runSN (As := [.int (tkC_holdingLevels_r c), .int (((c 6) + 4) &&& 7)]) (rest := []) ⟨hx, hb, hml, hown, hw⟩ (kT_hasBit l D (tkC_holdingLevels_r c) (((c 6) + 4) &&& 7) H.size) ⟨va_cnB 2 hw (tk_g0 tkW_good wC_T_hasBit) rfl rfl rfl (hN (.methodLinkNest RC 38 yT_hasBit "TickLines") (by decide +kernel)) (hw _ wZ_T) (by decide +kernel) ⟨Nat.le_of_ble_eq_true rfl, Nat.le_of_ble_eq_true rfl⟩, hw _ wT_T_hasBit, trivial⟩ (tk_preS hK hN hP hD [] [] rfl rfl rfl) rfl rfl hl.1 rfl (lv_room (Nat.le_of_ble_eq_true rfl)) dC_firstHolding_25 ⟨Nat.zero_le _, Nat.zero_le _⟩) (fun H locs hP hD hS => ?_)
        refine W.eq (g2 := F0 m 28 ls [.int (tkT_hasBit_r (tkC_holdingLevels_r c) (((c 6) + 4) &&& 7))]) rfl ?_
        refine lv_if_eq (tgt := 33) hx hb dC_firstHolding_28 (by decide) (fun (h4_ : tkT_hasBit_r (tkC_holdingLevels_r c) (((c 6) + 4) &&& 7) = 0) => ?_) (fun (h4_ : ¬ (tkT_hasBit_r (tkC_holdingLevels_r c) (((c 6) + 4) &&& 7) = 0)) => ?_)
        · refine lv_iinc (k := 1) (v := 5) hx hb dC_firstHolding_33 hl rfl (by decide) (by decide) rfl (fun ls hl => ?_)
          have hl : lv_has ls 4 [(2, .int 5), (3, .int (((c 6) + 4) &&& 7)), (1, .int (tkC_holdingLevels_r c)), (0, .ref h0)] := hl
          refine lv_goto (tgt := 7) hx hb dC_firstHolding_36 (by decide) ?_
          refine lv_iload_n hx hb dC_firstHolding_7 rfl (lv_at hl 0 rfl) ?_
          refine lv_bipush (v := 8) hx hb dC_firstHolding_8 (by decide) ?_
          refine lv_icmp_gt (tgt := 39) hx hb dC_firstHolding_10 (by decide) (fun h => absurd h (by decide)) (fun _ => ?_)
          refine lv_aload_n hx hb dC_firstHolding_13 rfl (lv_at hl 3 rfl) ?_
          refine va_get (D := D) (ci := 0) (v := .int (c 6)) (C := RC) (T := TC) (N := 18) hx hb hw inC hown hK hP 0 rfl rfl 6 (by decide) f15 (fun _ h9 => h9) rfl dC_firstHolding_14 ?_
          refine lv_iload_n hx hb dC_firstHolding_17 rfl (lv_at hl 0 rfl) ?_
          refine lv_iadd hx hb dC_firstHolding_18 ?_
          refine lv_bipush (v := 7) hx hb dC_firstHolding_19 (by decide) ?_
          refine lv_iand hx hb dC_firstHolding_21 ?_
          refine lv_istore_n hx hb dC_firstHolding_22 rfl hl (by decide) rfl (fun ls hl => ?_)
          have hl : lv_has ls 4 [(3, .int (((c 6) + 5) &&& 7)), (2, .int 5), (1, .int (tkC_holdingLevels_r c)), (0, .ref h0)] := hl
          refine lv_iload_n hx hb dC_firstHolding_23 rfl (lv_at hl 2 rfl) ?_
          refine lv_iload_n hx hb dC_firstHolding_24 rfl (lv_at hl 0 rfl) ?_
          refine tk_call0 hP hD hS hA (va_runSN (As := [.int (tkC_holdingLevels_r c), .int (((c 6) + 5) &&& 7)]) (rest := []) ⟨hx, hb, hml, hown, hw⟩ (kT_hasBit l D (tkC_holdingLevels_r c) (((c 6) + 5) &&& 7) H.size) ⟨va_cnB 2 hw (tk_g0 tkW_good wC_T_hasBit) rfl rfl rfl (hN (.methodLinkNest RC 38 yT_hasBit "TickLines") (by decide +kernel)) (hw _ wZ_T) (by decide +kernel) ⟨Nat.le_of_ble_eq_true rfl, Nat.le_of_ble_eq_true rfl⟩, hw _ wT_T_hasBit, trivial⟩ (tk_preS hK hN hP hD [] [] rfl rfl rfl) rfl rfl hl.1 rfl (lv_room (Nat.le_of_ble_eq_true rfl)) dC_firstHolding_25 ⟨Nat.zero_le _, Nat.zero_le _⟩) (fun H locs hP hD hS => ?_)
          refine W.eq (g2 := F0 m 28 ls [.int (tkT_hasBit_r (tkC_holdingLevels_r c) (((c 6) + 5) &&& 7))]) rfl ?_
          refine lv_if_eq (tgt := 33) hx hb dC_firstHolding_28 (by decide) (fun (h5_ : tkT_hasBit_r (tkC_holdingLevels_r c) (((c 6) + 5) &&& 7) = 0) => ?_) (fun (h5_ : ¬ (tkT_hasBit_r (tkC_holdingLevels_r c) (((c 6) + 5) &&& 7) = 0)) => ?_)
          · refine lv_iinc (k := 1) (v := 6) hx hb dC_firstHolding_33 hl rfl (by decide) (by decide) rfl (fun ls hl => ?_)
            have hl : lv_has ls 4 [(2, .int 6), (3, .int (((c 6) + 5) &&& 7)), (1, .int (tkC_holdingLevels_r c)), (0, .ref h0)] := hl
            refine lv_goto (tgt := 7) hx hb dC_firstHolding_36 (by decide) ?_
            refine lv_iload_n hx hb dC_firstHolding_7 rfl (lv_at hl 0 rfl) ?_
            refine lv_bipush (v := 8) hx hb dC_firstHolding_8 (by decide) ?_
            refine lv_icmp_gt (tgt := 39) hx hb dC_firstHolding_10 (by decide) (fun h => absurd h (by decide)) (fun _ => ?_)
            refine lv_aload_n hx hb dC_firstHolding_13 rfl (lv_at hl 3 rfl) ?_
            refine va_get (D := D) (ci := 0) (v := .int (c 6)) (C := RC) (T := TC) (N := 18) hx hb hw inC hown hK hP 0 rfl rfl 6 (by decide) f15 (fun _ h9 => h9) rfl dC_firstHolding_14 ?_
            refine lv_iload_n hx hb dC_firstHolding_17 rfl (lv_at hl 0 rfl) ?_
            refine lv_iadd hx hb dC_firstHolding_18 ?_
            refine lv_bipush (v := 7) hx hb dC_firstHolding_19 (by decide) ?_
            refine lv_iand hx hb dC_firstHolding_21 ?_
            refine lv_istore_n hx hb dC_firstHolding_22 rfl hl (by decide) rfl (fun ls hl => ?_)
            have hl : lv_has ls 4 [(3, .int (((c 6) + 6) &&& 7)), (2, .int 6), (1, .int (tkC_holdingLevels_r c)), (0, .ref h0)] := hl
            refine lv_iload_n hx hb dC_firstHolding_23 rfl (lv_at hl 2 rfl) ?_
            refine lv_iload_n hx hb dC_firstHolding_24 rfl (lv_at hl 0 rfl) ?_
            refine tk_call0 hP hD hS hA (va_runSN (As := [.int (tkC_holdingLevels_r c), .int (((c 6) + 6) &&& 7)]) (rest := []) ⟨hx, hb, hml, hown, hw⟩ (kT_hasBit l D (tkC_holdingLevels_r c) (((c 6) + 6) &&& 7) H.size) ⟨va_cnB 2 hw (tk_g0 tkW_good wC_T_hasBit) rfl rfl rfl (hN (.methodLinkNest RC 38 yT_hasBit "TickLines") (by decide +kernel)) (hw _ wZ_T) (by decide +kernel) ⟨Nat.le_of_ble_eq_true rfl, Nat.le_of_ble_eq_true rfl⟩, hw _ wT_T_hasBit, trivial⟩ (tk_preS hK hN hP hD [] [] rfl rfl rfl) rfl rfl hl.1 rfl (lv_room (Nat.le_of_ble_eq_true rfl)) dC_firstHolding_25 ⟨Nat.zero_le _, Nat.zero_le _⟩) (fun H locs hP hD hS => ?_)
            refine W.eq (g2 := F0 m 28 ls [.int (tkT_hasBit_r (tkC_holdingLevels_r c) (((c 6) + 6) &&& 7))]) rfl ?_
            refine lv_if_eq (tgt := 33) hx hb dC_firstHolding_28 (by decide) (fun (h6_ : tkT_hasBit_r (tkC_holdingLevels_r c) (((c 6) + 6) &&& 7) = 0) => ?_) (fun (h6_ : ¬ (tkT_hasBit_r (tkC_holdingLevels_r c) (((c 6) + 6) &&& 7) = 0)) => ?_)
            · refine lv_iinc (k := 1) (v := 7) hx hb dC_firstHolding_33 hl rfl (by decide) (by decide) rfl (fun ls hl => ?_)
              have hl : lv_has ls 4 [(2, .int 7), (3, .int (((c 6) + 6) &&& 7)), (1, .int (tkC_holdingLevels_r c)), (0, .ref h0)] := hl
              refine lv_goto (tgt := 7) hx hb dC_firstHolding_36 (by decide) ?_
              refine lv_iload_n hx hb dC_firstHolding_7 rfl (lv_at hl 0 rfl) ?_
              refine lv_bipush (v := 8) hx hb dC_firstHolding_8 (by decide) ?_
              refine lv_icmp_gt (tgt := 39) hx hb dC_firstHolding_10 (by decide) (fun h => absurd h (by decide)) (fun _ => ?_)
              refine lv_aload_n hx hb dC_firstHolding_13 rfl (lv_at hl 3 rfl) ?_
              refine va_get (D := D) (ci := 0) (v := .int (c 6)) (C := RC) (T := TC) (N := 18) hx hb hw inC hown hK hP 0 rfl rfl 6 (by decide) f15 (fun _ h9 => h9) rfl dC_firstHolding_14 ?_
              refine lv_iload_n hx hb dC_firstHolding_17 rfl (lv_at hl 0 rfl) ?_
              refine lv_iadd hx hb dC_firstHolding_18 ?_
              refine lv_bipush (v := 7) hx hb dC_firstHolding_19 (by decide) ?_
              refine lv_iand hx hb dC_firstHolding_21 ?_
              refine lv_istore_n hx hb dC_firstHolding_22 rfl hl (by decide) rfl (fun ls hl => ?_)
              have hl : lv_has ls 4 [(3, .int (((c 6) + 7) &&& 7)), (2, .int 7), (1, .int (tkC_holdingLevels_r c)), (0, .ref h0)] := hl
              refine lv_iload_n hx hb dC_firstHolding_23 rfl (lv_at hl 2 rfl) ?_
              refine lv_iload_n hx hb dC_firstHolding_24 rfl (lv_at hl 0 rfl) ?_
              refine tk_call0 hP hD hS hA (va_runSN (As := [.int (tkC_holdingLevels_r c), .int (((c 6) + 7) &&& 7)]) (rest := []) ⟨hx, hb, hml, hown, hw⟩ (kT_hasBit l D (tkC_holdingLevels_r c) (((c 6) + 7) &&& 7) H.size) ⟨va_cnB 2 hw (tk_g0 tkW_good wC_T_hasBit) rfl rfl rfl (hN (.methodLinkNest RC 38 yT_hasBit "TickLines") (by decide +kernel)) (hw _ wZ_T) (by decide +kernel) ⟨Nat.le_of_ble_eq_true rfl, Nat.le_of_ble_eq_true rfl⟩, hw _ wT_T_hasBit, trivial⟩ (tk_preS hK hN hP hD [] [] rfl rfl rfl) rfl rfl hl.1 rfl (lv_room (Nat.le_of_ble_eq_true rfl)) dC_firstHolding_25 ⟨Nat.zero_le _, Nat.zero_le _⟩) (fun H locs hP hD hS => ?_)
              refine W.eq (g2 := F0 m 28 ls [.int (tkT_hasBit_r (tkC_holdingLevels_r c) (((c 6) + 7) &&& 7))]) rfl ?_
              refine lv_if_eq (tgt := 33) hx hb dC_firstHolding_28 (by decide) (fun (h7_ : tkT_hasBit_r (tkC_holdingLevels_r c) (((c 6) + 7) &&& 7) = 0) => ?_) (fun (h7_ : ¬ (tkT_hasBit_r (tkC_holdingLevels_r c) (((c 6) + 7) &&& 7) = 0)) => ?_)
              · refine lv_iinc (k := 1) (v := 8) hx hb dC_firstHolding_33 hl rfl (by decide) (by decide) rfl (fun ls hl => ?_)
                have hl : lv_has ls 4 [(2, .int 8), (3, .int (((c 6) + 7) &&& 7)), (1, .int (tkC_holdingLevels_r c)), (0, .ref h0)] := hl
                refine lv_goto (tgt := 7) hx hb dC_firstHolding_36 (by decide) ?_
                refine lv_iload_n hx hb dC_firstHolding_7 rfl (lv_at hl 0 rfl) ?_
                refine lv_bipush (v := 8) hx hb dC_firstHolding_8 (by decide) ?_
                refine lv_icmp_gt (tgt := 39) hx hb dC_firstHolding_10 (by decide) (fun h => absurd h (by decide)) (fun _ => ?_)
                refine lv_aload_n hx hb dC_firstHolding_13 rfl (lv_at hl 3 rfl) ?_
                refine va_get (D := D) (ci := 0) (v := .int (c 6)) (C := RC) (T := TC) (N := 18) hx hb hw inC hown hK hP 0 rfl rfl 6 (by decide) f15 (fun _ h9 => h9) rfl dC_firstHolding_14 ?_
                refine lv_iload_n hx hb dC_firstHolding_17 rfl (lv_at hl 0 rfl) ?_
                refine lv_iadd hx hb dC_firstHolding_18 ?_
                refine lv_bipush (v := 7) hx hb dC_firstHolding_19 (by decide) ?_
                refine lv_iand hx hb dC_firstHolding_21 ?_
                refine lv_istore_n hx hb dC_firstHolding_22 rfl hl (by decide) rfl (fun ls hl => ?_)
                have hl : lv_has ls 4 [(3, .int (((c 6) + 8) &&& 7)), (2, .int 8), (1, .int (tkC_holdingLevels_r c)), (0, .ref h0)] := hl
                refine lv_iload_n hx hb dC_firstHolding_23 rfl (lv_at hl 2 rfl) ?_
                refine lv_iload_n hx hb dC_firstHolding_24 rfl (lv_at hl 0 rfl) ?_
                refine tk_call0 hP hD hS hA (va_runSN (As := [.int (tkC_holdingLevels_r c), .int (((c 6) + 8) &&& 7)]) (rest := []) ⟨hx, hb, hml, hown, hw⟩ (kT_hasBit l D (tkC_holdingLevels_r c) (((c 6) + 8) &&& 7) H.size) ⟨va_cnB 2 hw (tk_g0 tkW_good wC_T_hasBit) rfl rfl rfl (hN (.methodLinkNest RC 38 yT_hasBit "TickLines") (by decide +kernel)) (hw _ wZ_T) (by decide +kernel) ⟨Nat.le_of_ble_eq_true rfl, Nat.le_of_ble_eq_true rfl⟩, hw _ wT_T_hasBit, trivial⟩ (tk_preS hK hN hP hD [] [] rfl rfl rfl) rfl rfl hl.1 rfl (lv_room (Nat.le_of_ble_eq_true rfl)) dC_firstHolding_25 ⟨Nat.zero_le _, Nat.zero_le _⟩) (fun H locs hP hD hS => ?_)
                refine W.eq (g2 := F0 m 28 ls [.int (tkT_hasBit_r (tkC_holdingLevels_r c) (((c 6) + 8) &&& 7))]) rfl ?_
                refine lv_if_eq (tgt := 33) hx hb dC_firstHolding_28 (by decide) (fun (h8_ : tkT_hasBit_r (tkC_holdingLevels_r c) (((c 6) + 8) &&& 7) = 0) => ?_) (fun (h8_ : ¬ (tkT_hasBit_r (tkC_holdingLevels_r c) (((c 6) + 8) &&& 7) = 0)) => ?_)
                · refine lv_iinc (k := 1) (v := 9) hx hb dC_firstHolding_33 hl rfl (by decide) (by decide) rfl (fun ls hl => ?_)
                  have hl : lv_has ls 4 [(2, .int 9), (3, .int (((c 6) + 8) &&& 7)), (1, .int (tkC_holdingLevels_r c)), (0, .ref h0)] := hl
                  refine lv_goto (tgt := 7) hx hb dC_firstHolding_36 (by decide) ?_
                  refine lv_iload_n hx hb dC_firstHolding_7 rfl (lv_at hl 0 rfl) ?_
                  refine lv_bipush (v := 8) hx hb dC_firstHolding_8 (by decide) ?_
                  refine lv_icmp_gt (tgt := 39) hx hb dC_firstHolding_10 (by decide) (fun _ => ?_) (fun h => absurd (by decide) h)
                  refine lv_iconst (v := -1) hx hb dC_firstHolding_39 (by decide) ?_
                  exact tk_iret hx hb hr hlk hP hD hS dC_firstHolding_40 (by unfold tkC_firstHolding_r; rw [if_pos h1_, if_pos h2_, if_pos h3_, if_pos h4_, if_pos h5_, if_pos h6_, if_pos h7_, if_pos h8_]) rfl
                · refine lv_iload_n hx hb dC_firstHolding_31 rfl (lv_at hl 0 rfl) ?_
                  exact tk_iret hx hb hr hlk hP hD hS dC_firstHolding_32 (by unfold tkC_firstHolding_r; rw [if_pos h1_, if_pos h2_, if_pos h3_, if_pos h4_, if_pos h5_, if_pos h6_, if_pos h7_, if_neg h8_]) rfl
              · refine lv_iload_n hx hb dC_firstHolding_31 rfl (lv_at hl 0 rfl) ?_
                exact tk_iret hx hb hr hlk hP hD hS dC_firstHolding_32 (by unfold tkC_firstHolding_r; rw [if_pos h1_, if_pos h2_, if_pos h3_, if_pos h4_, if_pos h5_, if_pos h6_, if_neg h7_]) rfl
            · refine lv_iload_n hx hb dC_firstHolding_31 rfl (lv_at hl 0 rfl) ?_
              exact tk_iret hx hb hr hlk hP hD hS dC_firstHolding_32 (by unfold tkC_firstHolding_r; rw [if_pos h1_, if_pos h2_, if_pos h3_, if_pos h4_, if_pos h5_, if_neg h6_]) rfl
          · refine lv_iload_n hx hb dC_firstHolding_31 rfl (lv_at hl 0 rfl) ?_
            exact tk_iret hx hb hr hlk hP hD hS dC_firstHolding_32 (by unfold tkC_firstHolding_r; rw [if_pos h1_, if_pos h2_, if_pos h3_, if_pos h4_, if_neg h5_]) rfl
        · refine lv_iload_n hx hb dC_firstHolding_31 rfl (lv_at hl 0 rfl) ?_
          exact tk_iret hx hb hr hlk hP hD hS dC_firstHolding_32 (by unfold tkC_firstHolding_r; rw [if_pos h1_, if_pos h2_, if_pos h3_, if_neg h4_]) rfl
      · refine lv_iload_n hx hb dC_firstHolding_31 rfl (lv_at hl 0 rfl) ?_
        exact tk_iret hx hb hr hlk hP hD hS dC_firstHolding_32 (by unfold tkC_firstHolding_r; rw [if_pos h1_, if_pos h2_, if_neg h3_]) rfl
    · refine lv_iload_n hx hb dC_firstHolding_31 rfl (lv_at hl 0 rfl) ?_
      exact tk_iret hx hb hr hlk hP hD hS dC_firstHolding_32 (by unfold tkC_firstHolding_r; rw [if_pos h1_, if_neg h2_]) rfl
  · refine lv_iload_n hx hb dC_firstHolding_31 rfl (lv_at hl 0 rfl) ?_
    exact tk_iret hx hb hr hlk hP hD hS dC_firstHolding_32 (by unfold tkC_firstHolding_r; rw [if_neg h1_]) rfl
def tkC_endService_s (c : Nat → Int32) (x0 : Int32) : Nat → Int32 :=
  if x0 = (-1) then c
  else tk_up c 4 ((c 4) &&& (((1 : Int32) <<< (x0 &&& 31)) ^^^ (-1)))
set_option maxHeartbeats 1000000 in
set_option maxRecDepth 100000 in
theorem kC_endService (l : Launch) (D : va_G) (h0 : Nat) (c : Nat → Int32) (x0 : Int32) : tk_M l yC_endService wsC_endService { frames := 0, cells := 0, slots := 0, locals := 0 } D [] [.ref h0, .int x0] [(h0, .inr (0, FC c))] [(h0, .inr (0, FC (tkC_endService_s c x0)))] none := by
  refine tk_M.of (cc := cC_endService) (maxL := 2) (ret := none) (by decide) rfl (Nat.le_of_ble_eq_true rfl) ?_
  intro p e s m below meth co A H locs ls hB hK hN hA hP hD hS hl
  obtain ⟨hx, hb, hr, hml, hown, hlk, hnm, hts⟩ := hB
  have hown : s.vm.findClass RC = some m.cls := hown
  have hl : lv_has ls 2 [(0, .ref h0), (1, .int x0)] := hl
  have hw : ∀ w ∈ tkW, w.before _ s = true := fun w h => hts w (List.mem_cons_of_mem _ h)
  have f93 := hw _ wF_C_93
  refine lv_iload_n hx hb dC_endService_0 rfl (lv_at hl 1 rfl) ?_
  refine lv_iconst (v := -1) hx hb dC_endService_1 (by decide) ?_
  refine lv_icmp_eq (tgt := 19) hx hb dC_endService_2 (by decide) (fun (h1_ : x0 = (-1)) => ?_) (fun (h1_ : ¬ (x0 = (-1))) => ?_)
  · exact tk_vret hx hb hr hlk hP hD hS dC_endService_19 (tk_ewC (by unfold tkC_endService_s; rw [if_pos h1_]))
  · refine lv_aload_n hx hb dC_endService_5 rfl (lv_at hl 0 rfl) ?_
    refine lv_dup hx hb dC_endService_6 rfl ?_
    refine va_get (D := D) (ci := 0) (v := .int (c 4)) (C := RC) (T := TC) (N := 18) hx hb hw inC hown hK hP 0 rfl rfl 4 (by decide) f93 (fun _ h9 => h9) rfl dC_endService_7 ?_
    refine lv_iconst (v := 1) hx hb dC_endService_10 (by decide) ?_
    refine lv_iload_n hx hb dC_endService_11 rfl (lv_at hl 1 rfl) ?_
    refine lv_ishl hx hb dC_endService_12 ?_
    refine lv_iconst (v := -1) hx hb dC_endService_13 (by decide) ?_
    refine lv_ixor hx hb dC_endService_14 ?_
    refine lv_iand hx hb dC_endService_15 ?_
    refine va_put (D := D) (ci := 0) (v := .int ((c 4) &&& (((1 : Int32) <<< (x0 &&& 31)) ^^^ (-1)))) (ty := .int) (C := RC) (T := TC) (N := 18) hx hb hw inC tyC tyC_ok nmC hown hK hP hD hS 0 rfl rfl 4 (by decide) f93 (fun _ h9 => h9) rfl (tyC_ok 4 (by decide)) rfl rfl (Nat.le_of_ble_eq_true rfl) dC_endService_16 (fun H locs hP hD hS => ?_)
    have hP : va_P D vwCl [(h0, .inr (0, FC (tk_up c 4 ((c 4) &&& (((1 : Int32) <<< (x0 &&& 31)) ^^^ (-1))))))] H := hP
    have hD : va_D A [(h0, .inr (0, FC (tk_up c 4 ((c 4) &&& (((1 : Int32) <<< (x0 &&& 31)) ^^^ (-1))))))] := hD
    exact tk_vret hx hb hr hlk hP hD hS dC_endService_19 (tk_ewC (by unfold tkC_endService_s; rw [if_neg h1_]))
def tkC_endServiceAndTurn_s (c : Nat → Int32) (x0 : Int32) : Nat → Int32 :=
  if x0 = (-1) then tkC_endService_s c x0
  else tk_up (tkC_endService_s c x0) 6 x0
set_option maxHeartbeats 1000000 in
set_option maxRecDepth 100000 in
theorem kC_endServiceAndTurn (l : Launch) (D : va_G) (h0 : Nat) (c : Nat → Int32) (x0 : Int32) : tk_M l yC_endServiceAndTurn wsC_endServiceAndTurn { frames := 1, cells := 0, slots := 0, locals := 21 } D [] [.ref h0, .int x0] [(h0, .inr (0, FC c))] [(h0, .inr (0, FC (tkC_endServiceAndTurn_s c x0)))] none := by
  refine tk_M.of (cc := cC_endServiceAndTurn) (maxL := 2) (ret := none) (by decide) rfl (Nat.le_of_ble_eq_true rfl) ?_
  intro p e s m below meth co A H locs ls hB hK hN hA hP hD hS hl
  obtain ⟨hx, hb, hr, hml, hown, hlk, hnm, hts⟩ := hB
  have hown : s.vm.findClass RC = some m.cls := hown
  have hl : lv_has ls 2 [(0, .ref h0), (1, .int x0)] := hl
  have hw : ∀ w ∈ tkW, w.before _ s = true := fun w h => hts w (List.mem_cons_of_mem _ h)
  have f15 := hw _ wF_C_15
  refine lv_aload_n hx hb dC_endServiceAndTurn_0 rfl (lv_at hl 0 rfl) ?_
  refine lv_iload_n hx hb dC_endServiceAndTurn_1 rfl (lv_at hl 1 rfl) ?_
  refine tk_callA hD hS hA (va_runV (As := [.int x0]) (rest := []) ⟨hx, hb, hml, hown, hw⟩ (kC_endService l D h0 c x0 H.size) (cwV 1 hw (tk_gV tkW_good wM_C_115 wI_C_endService wS_C_endService wZ_C wC_C_endService) rfl rfl rfl (by decide +kernel) ⟨Nat.le_of_ble_eq_true rfl, Nat.le_of_ble_eq_true rfl⟩) (tk_preV (q0 := 0) hK hN hP hD [0] [] rfl rfl rfl rfl rfl) rfl rfl hl.1 rfl (lv_room (Nat.le_of_ble_eq_true rfl)) dC_endServiceAndTurn_2 ⟨Nat.zero_le _, Nat.zero_le _⟩) (fun H locs hP hD hS => ?_)
  refine W.eq (g2 := F0 m 5 ls []) rfl ?_
  refine lv_iload_n hx hb dC_endServiceAndTurn_5 rfl (lv_at hl 1 rfl) ?_
  refine lv_iconst (v := -1) hx hb dC_endServiceAndTurn_6 (by decide) ?_
  refine lv_icmp_eq (tgt := 15) hx hb dC_endServiceAndTurn_7 (by decide) (fun (h1_ : x0 = (-1)) => ?_) (fun (h1_ : ¬ (x0 = (-1))) => ?_)
  · exact tk_vret hx hb hr hlk hP hD hS dC_endServiceAndTurn_15 (tk_ewC (by unfold tkC_endServiceAndTurn_s; rw [if_pos h1_]))
  · refine lv_aload_n hx hb dC_endServiceAndTurn_10 rfl (lv_at hl 0 rfl) ?_
    refine lv_iload_n hx hb dC_endServiceAndTurn_11 rfl (lv_at hl 1 rfl) ?_
    refine va_put (D := D) (ci := 0) (v := .int x0) (ty := .int) (C := RC) (T := TC) (N := 18) hx hb hw inC tyC tyC_ok nmC hown hK hP hD hS 0 rfl rfl 6 (by decide) f15 (fun _ h9 => h9) rfl (tyC_ok 6 (by decide)) rfl rfl (Nat.le_of_ble_eq_true rfl) dC_endServiceAndTurn_12 (fun H locs hP hD hS => ?_)
    have hP : va_P D vwCl [(h0, .inr (0, FC (tk_up (tkC_endService_s c x0) 6 x0)))] H := hP
    have hD : va_D A [(h0, .inr (0, FC (tk_up (tkC_endService_s c x0) 6 x0)))] := hD
    exact tk_vret hx hb hr hlk hP hD hS dC_endServiceAndTurn_15 (tk_ewC (by unfold tkC_endServiceAndTurn_s; rw [if_neg h1_]))
def tkC_takeServiceCommand_s (c : Nat → Int32) (x0 x1 : Int32) : Nat → Int32 :=
  if x0 = 0 then tk_up c 15 0
  else if x0 = 1 then tkC_endService_s c (tkC_firstHolding_r c)
    else if x0 = 2 then c
      else if x0 = 3 then tkC_endService_s c x1
        else if x0 = 4 then tk_up c 15 1
          else if x0 = 5 then tkC_endServiceAndTurn_s c (tkC_firstHolding_r c)
            else if x0 = 6 then tk_up c 6 x1
              else if x0 = 7 then tkC_endServiceAndTurn_s c x1
                else c
set_option maxHeartbeats 1000000 in
set_option maxRecDepth 100000 in
theorem kC_takeServiceCommand (l : Launch) (D : va_G) (h0 : Nat) (c : Nat → Int32) (x0 x1 : Int32) : tk_M l yC_takeServiceCommand wsC_takeServiceCommand { frames := 2, cells := 0, slots := 0, locals := 44 } D [] [.ref h0, .int x0, .int x1] [(h0, .inr (0, FC c))] [(h0, .inr (0, FC (tkC_takeServiceCommand_s c x0 x1)))] none := by
  refine tk_M.of (cc := cC_takeServiceCommand) (maxL := 3) (ret := none) (by decide) rfl (Nat.le_of_ble_eq_true rfl) ?_
  intro p e s m below meth co A H locs ls hB hK hN hA hP hD hS hl
  obtain ⟨hx, hb, hr, hml, hown, hlk, hnm, hts⟩ := hB
  have hown : s.vm.findClass RC = some m.cls := hown
  have hl : lv_has ls 3 [(0, .ref h0), (1, .int x0), (2, .int x1)] := hl
  have hw : ∀ w ∈ tkW, w.before _ s = true := fun w h => hts w (List.mem_cons_of_mem _ h)
  have f106 := hw _ wF_C_106
  have f15 := hw _ wF_C_15
  refine lv_iload_n hx hb dC_takeServiceCommand_0 rfl (lv_at hl 1 rfl) ?_
  by_cases h1_ : x0 = 0
  · refine lv_tableIn (tgt := 48) hx hb dC_takeServiceCommand_1 (by rw [h1_]; decide) (by rw [h1_]; decide) (by rw [h1_]; rfl) (by decide) ?_
    refine lv_aload_n hx hb dC_takeServiceCommand_48 rfl (lv_at hl 0 rfl) ?_
    refine lv_iconst (v := 0) hx hb dC_takeServiceCommand_49 (by decide) ?_
    refine va_put (D := D) (ci := 0) (v := .int 0) (ty := .boolean) (C := RC) (T := TC) (N := 18) hx hb hw inC tyC tyC_ok nmC hown hK hP hD hS 0 rfl rfl 15 (by decide) f106 (fun _ h9 => h9) rfl (tyC_ok 15 (by decide)) rfl rfl (Nat.le_of_ble_eq_true rfl) dC_takeServiceCommand_50 (fun H locs hP hD hS => ?_)
    have hP : va_P D vwCl [(h0, .inr (0, FC (tk_up c 15 0)))] H := hP
    have hD : va_D A [(h0, .inr (0, FC (tk_up c 15 0)))] := hD
    refine lv_goto (tgt := 110) hx hb dC_takeServiceCommand_53 (by decide) ?_
    exact tk_vret hx hb hr hlk hP hD hS dC_takeServiceCommand_110 (tk_ewC (by unfold tkC_takeServiceCommand_s; rw [if_pos h1_]))
  by_cases h2_ : x0 = 1
  · refine lv_tableIn (tgt := 56) hx hb dC_takeServiceCommand_1 (by rw [h2_]; decide) (by rw [h2_]; decide) (by rw [h2_]; rfl) (by decide) ?_
    refine lv_aload_n hx hb dC_takeServiceCommand_56 rfl (lv_at hl 0 rfl) ?_
    refine lv_aload_n hx hb dC_takeServiceCommand_57 rfl (lv_at hl 0 rfl) ?_
    refine tk_callA hD hS hA (va_runV (As := []) (rest := [.ref h0]) ⟨hx, hb, hml, hown, hw⟩ (kC_firstHolding l D h0 c H.size) (cwV 0 hw (tk_gV tkW_good wM_C_112 wI_C_firstHolding wS_C_firstHolding wZ_C wC_C_firstHolding) rfl rfl rfl (by decide +kernel) ⟨Nat.le_of_ble_eq_true rfl, Nat.le_of_ble_eq_true rfl⟩) (tk_preV (q0 := 0) hK hN hP hD [0] [] rfl rfl rfl rfl rfl) rfl rfl hl.1 rfl (lv_room (Nat.le_of_ble_eq_true rfl)) dC_takeServiceCommand_58 ⟨Nat.zero_le _, Nat.zero_le _⟩) (fun H locs hP hD hS => ?_)
    refine W.eq (g2 := F0 m 61 ls [.int (tkC_firstHolding_r c), .ref h0]) rfl ?_
    refine tk_callA hD hS hA (va_runV (As := [.int (tkC_firstHolding_r c)]) (rest := []) ⟨hx, hb, hml, hown, hw⟩ (kC_endService l D h0 c (tkC_firstHolding_r c) H.size) (cwV 1 hw (tk_gV tkW_good wM_C_115 wI_C_endService wS_C_endService wZ_C wC_C_endService) rfl rfl rfl (by decide +kernel) ⟨Nat.le_of_ble_eq_true rfl, Nat.le_of_ble_eq_true rfl⟩) (tk_preV (q0 := 0) hK hN hP hD [0] [] rfl rfl rfl rfl rfl) rfl rfl hl.1 rfl (lv_room (Nat.le_of_ble_eq_true rfl)) dC_takeServiceCommand_61 ⟨Nat.zero_le _, Nat.zero_le _⟩) (fun H locs hP hD hS => ?_)
    refine W.eq (g2 := F0 m 64 ls []) rfl ?_
    refine lv_goto (tgt := 110) hx hb dC_takeServiceCommand_64 (by decide) ?_
    exact tk_vret hx hb hr hlk hP hD hS dC_takeServiceCommand_110 (tk_ewC (by unfold tkC_takeServiceCommand_s; rw [if_neg h1_, if_pos h2_]))
  by_cases h3_ : x0 = 2
  · refine lv_tableIn (tgt := 110) hx hb dC_takeServiceCommand_1 (by rw [h3_]; decide) (by rw [h3_]; decide) (by rw [h3_]; rfl) (by decide) ?_
    exact tk_vret hx hb hr hlk hP hD hS dC_takeServiceCommand_110 (tk_ewC (by unfold tkC_takeServiceCommand_s; rw [if_neg h1_, if_neg h2_, if_pos h3_]))
  by_cases h4_ : x0 = 3
  · refine lv_tableIn (tgt := 67) hx hb dC_takeServiceCommand_1 (by rw [h4_]; decide) (by rw [h4_]; decide) (by rw [h4_]; rfl) (by decide) ?_
    refine lv_aload_n hx hb dC_takeServiceCommand_67 rfl (lv_at hl 0 rfl) ?_
    refine lv_iload_n hx hb dC_takeServiceCommand_68 rfl (lv_at hl 2 rfl) ?_
    refine tk_callA hD hS hA (va_runV (As := [.int x1]) (rest := []) ⟨hx, hb, hml, hown, hw⟩ (kC_endService l D h0 c x1 H.size) (cwV 1 hw (tk_gV tkW_good wM_C_115 wI_C_endService wS_C_endService wZ_C wC_C_endService) rfl rfl rfl (by decide +kernel) ⟨Nat.le_of_ble_eq_true rfl, Nat.le_of_ble_eq_true rfl⟩) (tk_preV (q0 := 0) hK hN hP hD [0] [] rfl rfl rfl rfl rfl) rfl rfl hl.1 rfl (lv_room (Nat.le_of_ble_eq_true rfl)) dC_takeServiceCommand_69 ⟨Nat.zero_le _, Nat.zero_le _⟩) (fun H locs hP hD hS => ?_)
    refine W.eq (g2 := F0 m 72 ls []) rfl ?_
    refine lv_goto (tgt := 110) hx hb dC_takeServiceCommand_72 (by decide) ?_
    exact tk_vret hx hb hr hlk hP hD hS dC_takeServiceCommand_110 (tk_ewC (by unfold tkC_takeServiceCommand_s; rw [if_neg h1_, if_neg h2_, if_neg h3_, if_pos h4_]))
  by_cases h5_ : x0 = 4
  · refine lv_tableIn (tgt := 75) hx hb dC_takeServiceCommand_1 (by rw [h5_]; decide) (by rw [h5_]; decide) (by rw [h5_]; rfl) (by decide) ?_
    refine lv_aload_n hx hb dC_takeServiceCommand_75 rfl (lv_at hl 0 rfl) ?_
    refine lv_iconst (v := 1) hx hb dC_takeServiceCommand_76 (by decide) ?_
    refine va_put (D := D) (ci := 0) (v := .int 1) (ty := .boolean) (C := RC) (T := TC) (N := 18) hx hb hw inC tyC tyC_ok nmC hown hK hP hD hS 0 rfl rfl 15 (by decide) f106 (fun _ h9 => h9) rfl (tyC_ok 15 (by decide)) rfl rfl (Nat.le_of_ble_eq_true rfl) dC_takeServiceCommand_77 (fun H locs hP hD hS => ?_)
    have hP : va_P D vwCl [(h0, .inr (0, FC (tk_up c 15 1)))] H := hP
    have hD : va_D A [(h0, .inr (0, FC (tk_up c 15 1)))] := hD
    refine lv_goto (tgt := 110) hx hb dC_takeServiceCommand_80 (by decide) ?_
    exact tk_vret hx hb hr hlk hP hD hS dC_takeServiceCommand_110 (tk_ewC (by unfold tkC_takeServiceCommand_s; rw [if_neg h1_, if_neg h2_, if_neg h3_, if_neg h4_, if_pos h5_]))
  by_cases h6_ : x0 = 5
  · refine lv_tableIn (tgt := 83) hx hb dC_takeServiceCommand_1 (by rw [h6_]; decide) (by rw [h6_]; decide) (by rw [h6_]; rfl) (by decide) ?_
    refine lv_aload_n hx hb dC_takeServiceCommand_83 rfl (lv_at hl 0 rfl) ?_
    refine lv_aload_n hx hb dC_takeServiceCommand_84 rfl (lv_at hl 0 rfl) ?_
    refine tk_callA hD hS hA (va_runV (As := []) (rest := [.ref h0]) ⟨hx, hb, hml, hown, hw⟩ (kC_firstHolding l D h0 c H.size) (cwV 0 hw (tk_gV tkW_good wM_C_112 wI_C_firstHolding wS_C_firstHolding wZ_C wC_C_firstHolding) rfl rfl rfl (by decide +kernel) ⟨Nat.le_of_ble_eq_true rfl, Nat.le_of_ble_eq_true rfl⟩) (tk_preV (q0 := 0) hK hN hP hD [0] [] rfl rfl rfl rfl rfl) rfl rfl hl.1 rfl (lv_room (Nat.le_of_ble_eq_true rfl)) dC_takeServiceCommand_85 ⟨Nat.zero_le _, Nat.zero_le _⟩) (fun H locs hP hD hS => ?_)
    refine W.eq (g2 := F0 m 88 ls [.int (tkC_firstHolding_r c), .ref h0]) rfl ?_
    refine tk_callA hD hS hA (va_runV (As := [.int (tkC_firstHolding_r c)]) (rest := []) ⟨hx, hb, hml, hown, hw⟩ (kC_endServiceAndTurn l D h0 c (tkC_firstHolding_r c) H.size) (cwV 1 hw (tk_gV tkW_good wM_C_118 wI_C_endServiceAndTurn wS_C_endServiceAndTurn wZ_C wC_C_endServiceAndTurn) rfl rfl rfl (by decide +kernel) ⟨Nat.le_of_ble_eq_true rfl, Nat.le_of_ble_eq_true rfl⟩) (tk_preV (q0 := 0) hK hN hP hD [0] [] rfl rfl rfl rfl rfl) rfl rfl hl.1 rfl (lv_room (Nat.le_of_ble_eq_true rfl)) dC_takeServiceCommand_88 ⟨Nat.zero_le _, Nat.zero_le _⟩) (fun H locs hP hD hS => ?_)
    refine W.eq (g2 := F0 m 91 ls []) rfl ?_
    refine lv_goto (tgt := 110) hx hb dC_takeServiceCommand_91 (by decide) ?_
    exact tk_vret hx hb hr hlk hP hD hS dC_takeServiceCommand_110 (tk_ewC (by unfold tkC_takeServiceCommand_s; rw [if_neg h1_, if_neg h2_, if_neg h3_, if_neg h4_, if_neg h5_, if_pos h6_]))
  by_cases h7_ : x0 = 6
  · refine lv_tableIn (tgt := 94) hx hb dC_takeServiceCommand_1 (by rw [h7_]; decide) (by rw [h7_]; decide) (by rw [h7_]; rfl) (by decide) ?_
    refine lv_aload_n hx hb dC_takeServiceCommand_94 rfl (lv_at hl 0 rfl) ?_
    refine lv_iload_n hx hb dC_takeServiceCommand_95 rfl (lv_at hl 2 rfl) ?_
    refine va_put (D := D) (ci := 0) (v := .int x1) (ty := .int) (C := RC) (T := TC) (N := 18) hx hb hw inC tyC tyC_ok nmC hown hK hP hD hS 0 rfl rfl 6 (by decide) f15 (fun _ h9 => h9) rfl (tyC_ok 6 (by decide)) rfl rfl (Nat.le_of_ble_eq_true rfl) dC_takeServiceCommand_96 (fun H locs hP hD hS => ?_)
    have hP : va_P D vwCl [(h0, .inr (0, FC (tk_up c 6 x1)))] H := hP
    have hD : va_D A [(h0, .inr (0, FC (tk_up c 6 x1)))] := hD
    refine lv_goto (tgt := 110) hx hb dC_takeServiceCommand_99 (by decide) ?_
    exact tk_vret hx hb hr hlk hP hD hS dC_takeServiceCommand_110 (tk_ewC (by unfold tkC_takeServiceCommand_s; rw [if_neg h1_, if_neg h2_, if_neg h3_, if_neg h4_, if_neg h5_, if_neg h6_, if_pos h7_]))
  by_cases h8_ : x0 = 7
  · refine lv_tableIn (tgt := 102) hx hb dC_takeServiceCommand_1 (by rw [h8_]; decide) (by rw [h8_]; decide) (by rw [h8_]; rfl) (by decide) ?_
    refine lv_aload_n hx hb dC_takeServiceCommand_102 rfl (lv_at hl 0 rfl) ?_
    refine lv_iload_n hx hb dC_takeServiceCommand_103 rfl (lv_at hl 2 rfl) ?_
    refine tk_callA hD hS hA (va_runV (As := [.int x1]) (rest := []) ⟨hx, hb, hml, hown, hw⟩ (kC_endServiceAndTurn l D h0 c x1 H.size) (cwV 1 hw (tk_gV tkW_good wM_C_118 wI_C_endServiceAndTurn wS_C_endServiceAndTurn wZ_C wC_C_endServiceAndTurn) rfl rfl rfl (by decide +kernel) ⟨Nat.le_of_ble_eq_true rfl, Nat.le_of_ble_eq_true rfl⟩) (tk_preV (q0 := 0) hK hN hP hD [0] [] rfl rfl rfl rfl rfl) rfl rfl hl.1 rfl (lv_room (Nat.le_of_ble_eq_true rfl)) dC_takeServiceCommand_104 ⟨Nat.zero_le _, Nat.zero_le _⟩) (fun H locs hP hD hS => ?_)
    refine W.eq (g2 := F0 m 107 ls []) rfl ?_
    refine lv_goto (tgt := 110) hx hb dC_takeServiceCommand_107 (by decide) ?_
    exact tk_vret hx hb hr hlk hP hD hS dC_takeServiceCommand_110 (tk_ewC (by unfold tkC_takeServiceCommand_s; rw [if_neg h1_, if_neg h2_, if_neg h3_, if_neg h4_, if_neg h5_, if_neg h6_, if_neg h7_, if_pos h8_]))
  have ho : (x0).toInt < 0 ∨ 7 < (x0).toInt := by
    refine tk_out (fun k h1 h2 => ?_)
    rcases (show k = 0 ∨ k = 1 ∨ k = 2 ∨ k = 3 ∨ k = 4 ∨ k = 5 ∨ k = 6 ∨ k = 7 by omega) with rfl | rfl | rfl | rfl | rfl | rfl | rfl | rfl
    · exact h1_
    · exact h2_
    · exact h3_
    · exact h4_
    · exact h5_
    · exact h6_
    · exact h7_
    · exact h8_
  refine lv_tableOut (tgt := 110) hx hb dC_takeServiceCommand_1 ho (by decide) ?_
  exact tk_vret hx hb hr hlk hP hD hS dC_takeServiceCommand_110 (tk_ewC (by unfold tkC_takeServiceCommand_s; rw [if_neg h1_, if_neg h2_, if_neg h3_, if_neg h4_, if_neg h5_, if_neg h6_, if_neg h7_, if_neg h8_]))
def tkC_takeSideZero_s (c : Nat → Int32) (x0 : Int32) : Nat → Int32 :=
  if tkT_hasBit_r x0 4 = 0 then (if c 7 = 0 then c
    else if tkT_hasBit_r x0 3 = 0 then tkC_takeServiceCommand_s c (x0 >>> ((5 : Int32) &&& 31)) (x0 &&& 7)
      else tkC_takeReadingCommand_s c x0)
  else tkC_beginSettingUp_s c x0
set_option maxHeartbeats 1000000 in
set_option maxRecDepth 100000 in
theorem kC_takeSideZero (l : Launch) (D : va_G) (h0 : Nat) (c : Nat → Int32) (x0 : Int32) : tk_M l yC_takeSideZero wsC_takeSideZero { frames := 3, cells := 0, slots := 0, locals := 66 } D [] [.ref h0, .int x0] [(h0, .inr (0, FC c))] [(h0, .inr (0, FC (tkC_takeSideZero_s c x0)))] none := by
  refine tk_M.of (cc := cC_takeSideZero) (maxL := 2) (ret := none) (by decide) rfl (Nat.le_of_ble_eq_true rfl) ?_
  intro p e s m below meth co A H locs ls hB hK hN hA hP hD hS hl
  obtain ⟨hx, hb, hr, hml, hown, hlk, hnm, hts⟩ := hB
  have hown : s.vm.findClass RC = some m.cls := hown
  have hl : lv_has ls 2 [(0, .ref h0), (1, .int x0)] := hl
  have hw : ∀ w ∈ tkW, w.before _ s = true := fun w h => hts w (List.mem_cons_of_mem _ h)
  have f25 := hw _ wF_C_25
  refine lv_iload_n hx hb dC_takeSideZero_0 rfl (lv_at hl 1 rfl) ?_
  refine lv_iconst (v := 4) hx hb dC_takeSideZero_1 (by decide) ?_
  refine tk_call0 hP hD hS hA (va_runSN (As := [.int x0, .int 4]) (rest := []) ⟨hx, hb, hml, hown, hw⟩ (kT_hasBit l D x0 4 H.size) ⟨va_cnB 2 hw (tk_g0 tkW_good wC_T_hasBit) rfl rfl rfl (hN (.methodLinkNest RC 38 yT_hasBit "TickLines") (by decide +kernel)) (hw _ wZ_T) (by decide +kernel) ⟨Nat.le_of_ble_eq_true rfl, Nat.le_of_ble_eq_true rfl⟩, hw _ wT_T_hasBit, trivial⟩ (tk_preS hK hN hP hD [] [] rfl rfl rfl) rfl rfl hl.1 rfl (lv_room (Nat.le_of_ble_eq_true rfl)) dC_takeSideZero_2 ⟨Nat.zero_le _, Nat.zero_le _⟩) (fun H locs hP hD hS => ?_)
  refine W.eq (g2 := F0 m 5 ls [.int (tkT_hasBit_r x0 4)]) rfl ?_
  refine lv_if_eq (tgt := 16) hx hb dC_takeSideZero_5 (by decide) (fun (h1_ : tkT_hasBit_r x0 4 = 0) => ?_) (fun (h1_ : ¬ (tkT_hasBit_r x0 4 = 0)) => ?_)
  · refine lv_aload_n hx hb dC_takeSideZero_16 rfl (lv_at hl 0 rfl) ?_
    refine va_get (D := D) (ci := 0) (v := .int (c 7)) (C := RC) (T := TC) (N := 18) hx hb hw inC hown hK hP 0 rfl rfl 7 (by decide) f25 (fun _ h9 => h9) rfl dC_takeSideZero_17 ?_
    refine lv_if_eq (tgt := 39) hx hb dC_takeSideZero_20 (by decide) (fun (h2_ : c 7 = 0) => ?_) (fun (h2_ : ¬ (c 7 = 0)) => ?_)
    · refine lv_aload_n hx hb dC_takeSideZero_39 rfl (lv_at hl 0 rfl) ?_
      refine va_get (D := D) (ci := 0) (v := .int (c 7)) (C := RC) (T := TC) (N := 18) hx hb hw inC hown hK hP 0 rfl rfl 7 (by decide) f25 (fun _ h9 => h9) rfl dC_takeSideZero_40 ?_
      refine lv_if_eq (tgt := 57) hx hb dC_takeSideZero_43 (by decide) (fun _ => ?_) (fun h => absurd h2_ h)
      exact tk_vret hx hb hr hlk hP hD hS dC_takeSideZero_57 (tk_ewC (by unfold tkC_takeSideZero_s; rw [if_pos h1_, if_pos h2_]))
    · refine lv_iload_n hx hb dC_takeSideZero_23 rfl (lv_at hl 1 rfl) ?_
      refine lv_iconst (v := 3) hx hb dC_takeSideZero_24 (by decide) ?_
      refine tk_call0 hP hD hS hA (va_runSN (As := [.int x0, .int 3]) (rest := []) ⟨hx, hb, hml, hown, hw⟩ (kT_hasBit l D x0 3 H.size) ⟨va_cnB 2 hw (tk_g0 tkW_good wC_T_hasBit) rfl rfl rfl (hN (.methodLinkNest RC 38 yT_hasBit "TickLines") (by decide +kernel)) (hw _ wZ_T) (by decide +kernel) ⟨Nat.le_of_ble_eq_true rfl, Nat.le_of_ble_eq_true rfl⟩, hw _ wT_T_hasBit, trivial⟩ (tk_preS hK hN hP hD [] [] rfl rfl rfl) rfl rfl hl.1 rfl (lv_room (Nat.le_of_ble_eq_true rfl)) dC_takeSideZero_25 ⟨Nat.zero_le _, Nat.zero_le _⟩) (fun H locs hP hD hS => ?_)
      refine W.eq (g2 := F0 m 28 ls [.int (tkT_hasBit_r x0 3)]) rfl ?_
      refine lv_if_eq (tgt := 39) hx hb dC_takeSideZero_28 (by decide) (fun (h3_ : tkT_hasBit_r x0 3 = 0) => ?_) (fun (h3_ : ¬ (tkT_hasBit_r x0 3 = 0)) => ?_)
      · refine lv_aload_n hx hb dC_takeSideZero_39 rfl (lv_at hl 0 rfl) ?_
        refine va_get (D := D) (ci := 0) (v := .int (c 7)) (C := RC) (T := TC) (N := 18) hx hb hw inC hown hK hP 0 rfl rfl 7 (by decide) f25 (fun _ h9 => h9) rfl dC_takeSideZero_40 ?_
        refine lv_if_eq (tgt := 57) hx hb dC_takeSideZero_43 (by decide) (fun h => absurd h h2_) (fun _ => ?_)
        refine lv_aload_n hx hb dC_takeSideZero_46 rfl (lv_at hl 0 rfl) ?_
        refine lv_iload_n hx hb dC_takeSideZero_47 rfl (lv_at hl 1 rfl) ?_
        refine lv_iconst (v := 5) hx hb dC_takeSideZero_48 (by decide) ?_
        refine lv_ishr hx hb dC_takeSideZero_49 ?_
        refine lv_iload_n hx hb dC_takeSideZero_50 rfl (lv_at hl 1 rfl) ?_
        refine lv_bipush (v := 7) hx hb dC_takeSideZero_51 (by decide) ?_
        refine lv_iand hx hb dC_takeSideZero_53 ?_
        refine tk_callA hD hS hA (va_runV (As := [.int (x0 >>> ((5 : Int32) &&& 31)), .int (x0 &&& 7)]) (rest := []) ⟨hx, hb, hml, hown, hw⟩ (kC_takeServiceCommand l D h0 c (x0 >>> ((5 : Int32) &&& 31)) (x0 &&& 7) H.size) (cwV 2 hw (tk_gV tkW_good wM_C_62 wI_C_takeServiceCommand wS_C_takeServiceCommand wZ_C wC_C_takeServiceCommand) rfl rfl rfl (by decide +kernel) ⟨Nat.le_of_ble_eq_true rfl, Nat.le_of_ble_eq_true rfl⟩) (tk_preV (q0 := 0) hK hN hP hD [0] [] rfl rfl rfl rfl rfl) rfl rfl hl.1 rfl (lv_room (Nat.le_of_ble_eq_true rfl)) dC_takeSideZero_54 ⟨Nat.zero_le _, Nat.zero_le _⟩) (fun H locs hP hD hS => ?_)
        refine W.eq (g2 := F0 m 57 ls []) rfl ?_
        exact tk_vret hx hb hr hlk hP hD hS dC_takeSideZero_57 (tk_ewC (by unfold tkC_takeSideZero_s; rw [if_pos h1_, if_neg h2_, if_pos h3_]))
      · refine lv_aload_n hx hb dC_takeSideZero_31 rfl (lv_at hl 0 rfl) ?_
        refine lv_iload_n hx hb dC_takeSideZero_32 rfl (lv_at hl 1 rfl) ?_
        refine tk_callA hD hS hA (va_runV (As := [.int x0]) (rest := []) ⟨hx, hb, hml, hown, hw⟩ (kC_takeReadingCommand l D h0 c x0 H.size) (cwV 1 hw (tk_gV tkW_good wM_C_59 wI_C_takeReadingCommand wS_C_takeReadingCommand wZ_C wC_C_takeReadingCommand) rfl rfl rfl (by decide +kernel) ⟨Nat.le_of_ble_eq_true rfl, Nat.le_of_ble_eq_true rfl⟩) (tk_preV (q0 := 0) hK hN hP hD [0] [] rfl rfl rfl rfl rfl) rfl rfl hl.1 rfl (lv_room (Nat.le_of_ble_eq_true rfl)) dC_takeSideZero_33 ⟨Nat.zero_le _, Nat.zero_le _⟩) (fun H locs hP hD hS => ?_)
        refine W.eq (g2 := F0 m 36 ls []) rfl ?_
        refine lv_goto (tgt := 57) hx hb dC_takeSideZero_36 (by decide) ?_
        exact tk_vret hx hb hr hlk hP hD hS dC_takeSideZero_57 (tk_ewC (by unfold tkC_takeSideZero_s; rw [if_pos h1_, if_neg h2_, if_neg h3_]))
  · refine lv_aload_n hx hb dC_takeSideZero_8 rfl (lv_at hl 0 rfl) ?_
    refine lv_iload_n hx hb dC_takeSideZero_9 rfl (lv_at hl 1 rfl) ?_
    refine tk_callA hD hS hA (va_runV (As := [.int x0]) (rest := []) ⟨hx, hb, hml, hown, hw⟩ (kC_beginSettingUp l D h0 c x0 H.size) (cwV 1 hw (tk_gV tkW_good wM_C_56 wI_C_beginSettingUp wS_C_beginSettingUp wZ_C wC_C_beginSettingUp) rfl rfl rfl (by decide +kernel) ⟨Nat.le_of_ble_eq_true rfl, Nat.le_of_ble_eq_true rfl⟩) (tk_preV (q0 := 0) hK hN hP hD [0] [] rfl rfl rfl rfl rfl) rfl rfl hl.1 rfl (lv_room (Nat.le_of_ble_eq_true rfl)) dC_takeSideZero_10 ⟨Nat.zero_le _, Nat.zero_le _⟩) (fun H locs hP hD hS => ?_)
    refine W.eq (g2 := F0 m 13 ls []) rfl ?_
    refine lv_goto (tgt := 57) hx hb dC_takeSideZero_13 (by decide) ?_
    exact tk_vret hx hb hr hlk hP hD hS dC_takeSideZero_57 (tk_ewC (by unfold tkC_takeSideZero_s; rw [if_neg h1_]))
def tkC_becomeReady_s (c : Nat → Int32) : Nat → Int32 :=
  tk_up (tk_up c 8 0) 7 1
set_option maxHeartbeats 1000000 in
set_option maxRecDepth 100000 in
theorem kC_becomeReady (l : Launch) (D : va_G) (h0 : Nat) (c : Nat → Int32) : tk_M l yC_becomeReady wsC_becomeReady { frames := 0, cells := 0, slots := 0, locals := 0 } D [] [.ref h0] [(h0, .inr (0, FC c))] [(h0, .inr (0, FC (tkC_becomeReady_s c)))] none := by
  refine tk_M.of (cc := cC_becomeReady) (maxL := 1) (ret := none) (by decide) rfl (Nat.le_of_ble_eq_true rfl) ?_
  intro p e s m below meth co A H locs ls hB hK hN hA hP hD hS hl
  obtain ⟨hx, hb, hr, hml, hown, hlk, hnm, hts⟩ := hB
  have hown : s.vm.findClass RC = some m.cls := hown
  have hl : lv_has ls 1 [(0, .ref h0)] := hl
  have hw : ∀ w ∈ tkW, w.before _ s = true := fun w h => hts w (List.mem_cons_of_mem _ h)
  have f66 := hw _ wF_C_66
  have f25 := hw _ wF_C_25
  refine lv_aload_n hx hb dC_becomeReady_0 rfl (lv_at hl 0 rfl) ?_
  refine lv_iconst (v := 0) hx hb dC_becomeReady_1 (by decide) ?_
  refine va_put (D := D) (ci := 0) (v := .int 0) (ty := .int) (C := RC) (T := TC) (N := 18) hx hb hw inC tyC tyC_ok nmC hown hK hP hD hS 0 rfl rfl 8 (by decide) f66 (fun _ h9 => h9) rfl (tyC_ok 8 (by decide)) rfl rfl (Nat.le_of_ble_eq_true rfl) dC_becomeReady_2 (fun H locs hP hD hS => ?_)
  have hP : va_P D vwCl [(h0, .inr (0, FC (tk_up c 8 0)))] H := hP
  have hD : va_D A [(h0, .inr (0, FC (tk_up c 8 0)))] := hD
  refine lv_aload_n hx hb dC_becomeReady_5 rfl (lv_at hl 0 rfl) ?_
  refine lv_iconst (v := 1) hx hb dC_becomeReady_6 (by decide) ?_
  refine va_put (D := D) (ci := 0) (v := .int 1) (ty := .boolean) (C := RC) (T := TC) (N := 18) hx hb hw inC tyC tyC_ok nmC hown hK hP hD hS 0 rfl rfl 7 (by decide) f25 (fun _ h9 => h9) rfl (tyC_ok 7 (by decide)) rfl rfl (Nat.le_of_ble_eq_true rfl) dC_becomeReady_7 (fun H locs hP hD hS => ?_)
  have hP : va_P D vwCl [(h0, .inr (0, FC (tk_up (tk_up c 8 0) 7 1)))] H := hP
  have hD : va_D A [(h0, .inr (0, FC (tk_up (tk_up c 8 0) 7 1)))] := hD
  exact tk_vret hx hb hr hlk hP hD hS dC_becomeReady_10 (tk_ewC rfl)
def tkC_awaitFrom_s (c : Nat → Int32) (x0 : Int32) : Nat → Int32 :=
  if x0 = 4 then (if c 11 = 0 then tkC_becomeReady_s c
    else tk_up c 8 x0)
  else tk_up c 8 x0
set_option maxHeartbeats 1000000 in
set_option maxRecDepth 100000 in
theorem kC_awaitFrom (l : Launch) (D : va_G) (h0 : Nat) (c : Nat → Int32) (x0 : Int32) : tk_M l yC_awaitFrom wsC_awaitFrom { frames := 1, cells := 0, slots := 0, locals := 20 } D [] [.ref h0, .int x0] [(h0, .inr (0, FC c))] [(h0, .inr (0, FC (tkC_awaitFrom_s c x0)))] none := by
  refine tk_M.of (cc := cC_awaitFrom) (maxL := 2) (ret := none) (by decide) rfl (Nat.le_of_ble_eq_true rfl) ?_
  intro p e s m below meth co A H locs ls hB hK hN hA hP hD hS hl
  obtain ⟨hx, hb, hr, hml, hown, hlk, hnm, hts⟩ := hB
  have hown : s.vm.findClass RC = some m.cls := hown
  have hl : lv_has ls 2 [(0, .ref h0), (1, .int x0)] := hl
  have hw : ∀ w ∈ tkW, w.before _ s = true := fun w h => hts w (List.mem_cons_of_mem _ h)
  have f66 := hw _ wF_C_66
  have f109 := hw _ wF_C_109
  refine lv_iload_n hx hb dC_awaitFrom_0 rfl (lv_at hl 1 rfl) ?_
  refine lv_iconst (v := 4) hx hb dC_awaitFrom_1 (by decide) ?_
  refine lv_icmp_ne (tgt := 19) hx hb dC_awaitFrom_2 (by decide) (fun (h1_ : ¬ (x0 = 4)) => ?_) (fun (h1_ : x0 = 4) => ?_)
  · refine lv_aload_n hx hb dC_awaitFrom_19 rfl (lv_at hl 0 rfl) ?_
    refine lv_iload_n hx hb dC_awaitFrom_20 rfl (lv_at hl 1 rfl) ?_
    refine va_put (D := D) (ci := 0) (v := .int x0) (ty := .int) (C := RC) (T := TC) (N := 18) hx hb hw inC tyC tyC_ok nmC hown hK hP hD hS 0 rfl rfl 8 (by decide) f66 (fun _ h9 => h9) rfl (tyC_ok 8 (by decide)) rfl rfl (Nat.le_of_ble_eq_true rfl) dC_awaitFrom_21 (fun H locs hP hD hS => ?_)
    have hP : va_P D vwCl [(h0, .inr (0, FC (tk_up c 8 x0)))] H := hP
    have hD : va_D A [(h0, .inr (0, FC (tk_up c 8 x0)))] := hD
    exact tk_vret hx hb hr hlk hP hD hS dC_awaitFrom_24 (tk_ewC (by unfold tkC_awaitFrom_s; rw [if_neg h1_]))
  · refine lv_aload_n hx hb dC_awaitFrom_5 rfl (lv_at hl 0 rfl) ?_
    refine va_get (D := D) (ci := 0) (v := .int (c 11)) (C := RC) (T := TC) (N := 18) hx hb hw inC hown hK hP 0 rfl rfl 11 (by decide) f109 (fun _ h9 => h9) rfl dC_awaitFrom_6 ?_
    refine lv_if_ne (tgt := 19) hx hb dC_awaitFrom_9 (by decide) (fun (h2_ : ¬ (c 11 = 0)) => ?_) (fun (h2_ : c 11 = 0) => ?_)
    · refine lv_aload_n hx hb dC_awaitFrom_19 rfl (lv_at hl 0 rfl) ?_
      refine lv_iload_n hx hb dC_awaitFrom_20 rfl (lv_at hl 1 rfl) ?_
      refine va_put (D := D) (ci := 0) (v := .int x0) (ty := .int) (C := RC) (T := TC) (N := 18) hx hb hw inC tyC tyC_ok nmC hown hK hP hD hS 0 rfl rfl 8 (by decide) f66 (fun _ h9 => h9) rfl (tyC_ok 8 (by decide)) rfl rfl (Nat.le_of_ble_eq_true rfl) dC_awaitFrom_21 (fun H locs hP hD hS => ?_)
      have hP : va_P D vwCl [(h0, .inr (0, FC (tk_up c 8 x0)))] H := hP
      have hD : va_D A [(h0, .inr (0, FC (tk_up c 8 x0)))] := hD
      exact tk_vret hx hb hr hlk hP hD hS dC_awaitFrom_24 (tk_ewC (by unfold tkC_awaitFrom_s; rw [if_pos h1_, if_neg h2_]))
    · refine lv_aload_n hx hb dC_awaitFrom_12 rfl (lv_at hl 0 rfl) ?_
      refine tk_callA hD hS hA (va_runV (As := []) (rest := []) ⟨hx, hb, hml, hown, hw⟩ (kC_becomeReady l D h0 c H.size) (cwV 0 hw (tk_gV tkW_good wM_C_81 wI_C_becomeReady wS_C_becomeReady wZ_C wC_C_becomeReady) rfl rfl rfl (by decide +kernel) ⟨Nat.le_of_ble_eq_true rfl, Nat.le_of_ble_eq_true rfl⟩) (tk_preV (q0 := 0) hK hN hP hD [0] [] rfl rfl rfl rfl rfl) rfl rfl hl.1 rfl (lv_room (Nat.le_of_ble_eq_true rfl)) dC_awaitFrom_13 ⟨Nat.zero_le _, Nat.zero_le _⟩) (fun H locs hP hD hS => ?_)
      refine W.eq (g2 := F0 m 16 ls []) rfl ?_
      refine lv_goto (tgt := 24) hx hb dC_awaitFrom_16 (by decide) ?_
      exact tk_vret hx hb hr hlk hP hD hS dC_awaitFrom_24 (tk_ewC (by unfold tkC_awaitFrom_s; rw [if_pos h1_, if_pos h2_]))
def tkC_takeSideOne_s (c : Nat → Int32) (x0 : Int32) : Nat → Int32 :=
  if c 7 = 0 then (if c 8 = 2 then (if c 10 = 0 then tkC_awaitFrom_s (tk_up c 5 (x0 &&& (-8))) 3
      else tkC_awaitFrom_s (tk_up c 5 (x0 &&& (-8))) 4)
    else if c 8 = 3 then tkC_awaitFrom_s c 4
      else if c 8 = 4 then tkC_becomeReady_s (tk_up (tk_up c 12 (tkT_hasBit_r x0 1)) 13 (tkT_hasBit_r x0 4))
        else c)
  else tk_up c 3 x0
set_option maxHeartbeats 1000000 in
set_option maxRecDepth 100000 in
theorem kC_takeSideOne (l : Launch) (D : va_G) (h0 : Nat) (c : Nat → Int32) (x0 : Int32) : tk_M l yC_takeSideOne wsC_takeSideOne { frames := 2, cells := 0, slots := 0, locals := 41 } D [] [.ref h0, .int x0] [(h0, .inr (0, FC c))] [(h0, .inr (0, FC (tkC_takeSideOne_s c x0)))] none := by
  refine tk_M.of (cc := cC_takeSideOne) (maxL := 2) (ret := none) (by decide) rfl (Nat.le_of_ble_eq_true rfl) ?_
  intro p e s m below meth co A H locs ls hB hK hN hA hP hD hS hl
  obtain ⟨hx, hb, hr, hml, hown, hlk, hnm, hts⟩ := hB
  have hown : s.vm.findClass RC = some m.cls := hown
  have hl : lv_has ls 2 [(0, .ref h0), (1, .int x0)] := hl
  have hw : ∀ w ∈ tkW, w.before _ s = true := fun w h => hts w (List.mem_cons_of_mem _ h)
  have f25 := hw _ wF_C_25
  have f66 := hw _ wF_C_66
  have f75 := hw _ wF_C_75
  have f78 := hw _ wF_C_78
  have f53 := hw _ wF_C_53
  have f69 := hw _ wF_C_69
  have f32 := hw _ wF_C_32
  refine lv_aload_n hx hb dC_takeSideOne_0 rfl (lv_at hl 0 rfl) ?_
  refine va_get (D := D) (ci := 0) (v := .int (c 7)) (C := RC) (T := TC) (N := 18) hx hb hw inC hown hK hP 0 rfl rfl 7 (by decide) f25 (fun _ h9 => h9) rfl dC_takeSideOne_1 ?_
  refine lv_if_eq (tgt := 15) hx hb dC_takeSideOne_4 (by decide) (fun (h1_ : c 7 = 0) => ?_) (fun (h1_ : ¬ (c 7 = 0)) => ?_)
  · refine lv_aload_n hx hb dC_takeSideOne_15 rfl (lv_at hl 0 rfl) ?_
    refine va_get (D := D) (ci := 0) (v := .int (c 8)) (C := RC) (T := TC) (N := 18) hx hb hw inC hown hK hP 0 rfl rfl 8 (by decide) f66 (fun _ h9 => h9) rfl dC_takeSideOne_16 ?_
    refine lv_iconst (v := 2) hx hb dC_takeSideOne_19 (by decide) ?_
    refine lv_icmp_ne (tgt := 50) hx hb dC_takeSideOne_20 (by decide) (fun (h2_ : ¬ (c 8 = 2)) => ?_) (fun (h2_ : c 8 = 2) => ?_)
    · refine lv_aload_n hx hb dC_takeSideOne_50 rfl (lv_at hl 0 rfl) ?_
      refine va_get (D := D) (ci := 0) (v := .int (c 8)) (C := RC) (T := TC) (N := 18) hx hb hw inC hown hK hP 0 rfl rfl 8 (by decide) f66 (fun _ h9 => h9) rfl dC_takeSideOne_51 ?_
      refine lv_iconst (v := 3) hx hb dC_takeSideOne_54 (by decide) ?_
      refine lv_icmp_ne (tgt := 66) hx hb dC_takeSideOne_55 (by decide) (fun (h3_ : ¬ (c 8 = 3)) => ?_) (fun (h3_ : c 8 = 3) => ?_)
      · refine lv_aload_n hx hb dC_takeSideOne_66 rfl (lv_at hl 0 rfl) ?_
        refine va_get (D := D) (ci := 0) (v := .int (c 8)) (C := RC) (T := TC) (N := 18) hx hb hw inC hown hK hP 0 rfl rfl 8 (by decide) f66 (fun _ h9 => h9) rfl dC_takeSideOne_67 ?_
        refine lv_iconst (v := 4) hx hb dC_takeSideOne_70 (by decide) ?_
        refine lv_icmp_ne (tgt := 96) hx hb dC_takeSideOne_71 (by decide) (fun (h4_ : ¬ (c 8 = 4)) => ?_) (fun (h4_ : c 8 = 4) => ?_)
        · exact tk_vret hx hb hr hlk hP hD hS dC_takeSideOne_96 (tk_ewC (by unfold tkC_takeSideOne_s; rw [if_pos h1_, if_neg h2_, if_neg h3_, if_neg h4_]))
        · refine lv_aload_n hx hb dC_takeSideOne_74 rfl (lv_at hl 0 rfl) ?_
          refine lv_iload_n hx hb dC_takeSideOne_75 rfl (lv_at hl 1 rfl) ?_
          refine lv_iconst (v := 1) hx hb dC_takeSideOne_76 (by decide) ?_
          refine tk_call0 hP hD hS hA (va_runSN (As := [.int x0, .int 1]) (rest := [.ref h0]) ⟨hx, hb, hml, hown, hw⟩ (kT_hasBit l D x0 1 H.size) ⟨va_cnB 2 hw (tk_g0 tkW_good wC_T_hasBit) rfl rfl rfl (hN (.methodLinkNest RC 38 yT_hasBit "TickLines") (by decide +kernel)) (hw _ wZ_T) (by decide +kernel) ⟨Nat.le_of_ble_eq_true rfl, Nat.le_of_ble_eq_true rfl⟩, hw _ wT_T_hasBit, trivial⟩ (tk_preS hK hN hP hD [] [] rfl rfl rfl) rfl rfl hl.1 rfl (lv_room (Nat.le_of_ble_eq_true rfl)) dC_takeSideOne_77 ⟨Nat.zero_le _, Nat.zero_le _⟩) (fun H locs hP hD hS => ?_)
          refine W.eq (g2 := F0 m 80 ls [.int (tkT_hasBit_r x0 1), .ref h0]) rfl ?_
          refine va_put (D := D) (ci := 0) (v := .int (tkT_hasBit_r x0 1)) (ty := .boolean) (C := RC) (T := TC) (N := 18) hx hb hw inC tyC tyC_ok nmC hown hK hP hD hS 0 rfl rfl 12 (by decide) f75 (fun _ h9 => h9) rfl (tyC_ok 12 (by decide)) (tk_nb (tkT_hasBit_b x0 1)) (tk_fb (tkT_hasBit_b x0 1)) (Nat.le_of_ble_eq_true rfl) dC_takeSideOne_80 (fun H locs hP hD hS => ?_)
          have hP : va_P D vwCl [(h0, .inr (0, FC (tk_up c 12 (tkT_hasBit_r x0 1))))] H := hP
          have hD : va_D A [(h0, .inr (0, FC (tk_up c 12 (tkT_hasBit_r x0 1))))] := hD
          refine lv_aload_n hx hb dC_takeSideOne_83 rfl (lv_at hl 0 rfl) ?_
          refine lv_iload_n hx hb dC_takeSideOne_84 rfl (lv_at hl 1 rfl) ?_
          refine lv_iconst (v := 4) hx hb dC_takeSideOne_85 (by decide) ?_
          refine tk_call0 hP hD hS hA (va_runSN (As := [.int x0, .int 4]) (rest := [.ref h0]) ⟨hx, hb, hml, hown, hw⟩ (kT_hasBit l D x0 4 H.size) ⟨va_cnB 2 hw (tk_g0 tkW_good wC_T_hasBit) rfl rfl rfl (hN (.methodLinkNest RC 38 yT_hasBit "TickLines") (by decide +kernel)) (hw _ wZ_T) (by decide +kernel) ⟨Nat.le_of_ble_eq_true rfl, Nat.le_of_ble_eq_true rfl⟩, hw _ wT_T_hasBit, trivial⟩ (tk_preS hK hN hP hD [] [] rfl rfl rfl) rfl rfl hl.1 rfl (lv_room (Nat.le_of_ble_eq_true rfl)) dC_takeSideOne_86 ⟨Nat.zero_le _, Nat.zero_le _⟩) (fun H locs hP hD hS => ?_)
          refine W.eq (g2 := F0 m 89 ls [.int (tkT_hasBit_r x0 4), .ref h0]) rfl ?_
          refine va_put (D := D) (ci := 0) (v := .int (tkT_hasBit_r x0 4)) (ty := .boolean) (C := RC) (T := TC) (N := 18) hx hb hw inC tyC tyC_ok nmC hown hK hP hD hS 0 rfl rfl 13 (by decide) f78 (fun _ h9 => h9) rfl (tyC_ok 13 (by decide)) (tk_nb (tkT_hasBit_b x0 4)) (tk_fb (tkT_hasBit_b x0 4)) (Nat.le_of_ble_eq_true rfl) dC_takeSideOne_89 (fun H locs hP hD hS => ?_)
          have hP : va_P D vwCl [(h0, .inr (0, FC (tk_up (tk_up c 12 (tkT_hasBit_r x0 1)) 13 (tkT_hasBit_r x0 4))))] H := hP
          have hD : va_D A [(h0, .inr (0, FC (tk_up (tk_up c 12 (tkT_hasBit_r x0 1)) 13 (tkT_hasBit_r x0 4))))] := hD
          refine lv_aload_n hx hb dC_takeSideOne_92 rfl (lv_at hl 0 rfl) ?_
          refine tk_callA hD hS hA (va_runV (As := []) (rest := []) ⟨hx, hb, hml, hown, hw⟩ (kC_becomeReady l D h0 (tk_up (tk_up c 12 (tkT_hasBit_r x0 1)) 13 (tkT_hasBit_r x0 4)) H.size) (cwV 0 hw (tk_gV tkW_good wM_C_81 wI_C_becomeReady wS_C_becomeReady wZ_C wC_C_becomeReady) rfl rfl rfl (by decide +kernel) ⟨Nat.le_of_ble_eq_true rfl, Nat.le_of_ble_eq_true rfl⟩) (tk_preV (q0 := 0) hK hN hP hD [0] [] rfl rfl rfl rfl rfl) rfl rfl hl.1 rfl (lv_room (Nat.le_of_ble_eq_true rfl)) dC_takeSideOne_93 ⟨Nat.zero_le _, Nat.zero_le _⟩) (fun H locs hP hD hS => ?_)
          refine W.eq (g2 := F0 m 96 ls []) rfl ?_
          exact tk_vret hx hb hr hlk hP hD hS dC_takeSideOne_96 (tk_ewC (by unfold tkC_takeSideOne_s; rw [if_pos h1_, if_neg h2_, if_neg h3_, if_pos h4_]))
      · refine lv_aload_n hx hb dC_takeSideOne_58 rfl (lv_at hl 0 rfl) ?_
        refine lv_iconst (v := 4) hx hb dC_takeSideOne_59 (by decide) ?_
        refine tk_callA hD hS hA (va_runV (As := [.int 4]) (rest := []) ⟨hx, hb, hml, hown, hw⟩ (kC_awaitFrom l D h0 c 4 H.size) (cwV 1 hw (tk_gV tkW_good wM_C_72 wI_C_awaitFrom wS_C_awaitFrom wZ_C wC_C_awaitFrom) rfl rfl rfl (by decide +kernel) ⟨Nat.le_of_ble_eq_true rfl, Nat.le_of_ble_eq_true rfl⟩) (tk_preV (q0 := 0) hK hN hP hD [0] [] rfl rfl rfl rfl rfl) rfl rfl hl.1 rfl (lv_room (Nat.le_of_ble_eq_true rfl)) dC_takeSideOne_60 ⟨Nat.zero_le _, Nat.zero_le _⟩) (fun H locs hP hD hS => ?_)
        refine W.eq (g2 := F0 m 63 ls []) rfl ?_
        refine lv_goto (tgt := 96) hx hb dC_takeSideOne_63 (by decide) ?_
        exact tk_vret hx hb hr hlk hP hD hS dC_takeSideOne_96 (tk_ewC (by unfold tkC_takeSideOne_s; rw [if_pos h1_, if_neg h2_, if_pos h3_]))
    · refine lv_aload_n hx hb dC_takeSideOne_23 rfl (lv_at hl 0 rfl) ?_
      refine lv_iload_n hx hb dC_takeSideOne_24 rfl (lv_at hl 1 rfl) ?_
      refine lv_bipush (v := -8) hx hb dC_takeSideOne_25 (by decide) ?_
      refine lv_iand hx hb dC_takeSideOne_27 ?_
      refine va_put (D := D) (ci := 0) (v := .int (x0 &&& (-8))) (ty := .int) (C := RC) (T := TC) (N := 18) hx hb hw inC tyC tyC_ok nmC hown hK hP hD hS 0 rfl rfl 5 (by decide) f53 (fun _ h9 => h9) rfl (tyC_ok 5 (by decide)) rfl rfl (Nat.le_of_ble_eq_true rfl) dC_takeSideOne_28 (fun H locs hP hD hS => ?_)
      have hP : va_P D vwCl [(h0, .inr (0, FC (tk_up c 5 (x0 &&& (-8)))))] H := hP
      have hD : va_D A [(h0, .inr (0, FC (tk_up c 5 (x0 &&& (-8)))))] := hD
      refine lv_aload_n hx hb dC_takeSideOne_31 rfl (lv_at hl 0 rfl) ?_
      refine lv_aload_n hx hb dC_takeSideOne_32 rfl (lv_at hl 0 rfl) ?_
      refine va_get (D := D) (ci := 0) (v := .int (c 10)) (C := RC) (T := TC) (N := 18) hx hb hw inC hown hK hP 0 rfl rfl 10 (by decide) f69 (fun _ h9 => h9) rfl dC_takeSideOne_33 ?_
      refine lv_if_eq (tgt := 43) hx hb dC_takeSideOne_36 (by decide) (fun (h5_ : c 10 = 0) => ?_) (fun (h5_ : ¬ (c 10 = 0)) => ?_)
      · refine lv_iconst (v := 3) hx hb dC_takeSideOne_43 (by decide) ?_
        refine tk_callA hD hS hA (va_runV (As := [.int 3]) (rest := []) ⟨hx, hb, hml, hown, hw⟩ (kC_awaitFrom l D h0 (tk_up c 5 (x0 &&& (-8))) 3 H.size) (cwV 1 hw (tk_gV tkW_good wM_C_72 wI_C_awaitFrom wS_C_awaitFrom wZ_C wC_C_awaitFrom) rfl rfl rfl (by decide +kernel) ⟨Nat.le_of_ble_eq_true rfl, Nat.le_of_ble_eq_true rfl⟩) (tk_preV (q0 := 0) hK hN hP hD [0] [] rfl rfl rfl rfl rfl) rfl rfl hl.1 rfl (lv_room (Nat.le_of_ble_eq_true rfl)) dC_takeSideOne_44 ⟨Nat.zero_le _, Nat.zero_le _⟩) (fun H locs hP hD hS => ?_)
        refine W.eq (g2 := F0 m 47 ls []) rfl ?_
        refine lv_goto (tgt := 96) hx hb dC_takeSideOne_47 (by decide) ?_
        exact tk_vret hx hb hr hlk hP hD hS dC_takeSideOne_96 (tk_ewC (by unfold tkC_takeSideOne_s; rw [if_pos h1_, if_pos h2_, if_pos h5_]))
      · refine lv_iconst (v := 4) hx hb dC_takeSideOne_39 (by decide) ?_
        refine lv_goto (tgt := 44) hx hb dC_takeSideOne_40 (by decide) ?_
        refine tk_callA hD hS hA (va_runV (As := [.int 4]) (rest := []) ⟨hx, hb, hml, hown, hw⟩ (kC_awaitFrom l D h0 (tk_up c 5 (x0 &&& (-8))) 4 H.size) (cwV 1 hw (tk_gV tkW_good wM_C_72 wI_C_awaitFrom wS_C_awaitFrom wZ_C wC_C_awaitFrom) rfl rfl rfl (by decide +kernel) ⟨Nat.le_of_ble_eq_true rfl, Nat.le_of_ble_eq_true rfl⟩) (tk_preV (q0 := 0) hK hN hP hD [0] [] rfl rfl rfl rfl rfl) rfl rfl hl.1 rfl (lv_room (Nat.le_of_ble_eq_true rfl)) dC_takeSideOne_44 ⟨Nat.zero_le _, Nat.zero_le _⟩) (fun H locs hP hD hS => ?_)
        refine W.eq (g2 := F0 m 47 ls []) rfl ?_
        refine lv_goto (tgt := 96) hx hb dC_takeSideOne_47 (by decide) ?_
        exact tk_vret hx hb hr hlk hP hD hS dC_takeSideOne_96 (tk_ewC (by unfold tkC_takeSideOne_s; rw [if_pos h1_, if_pos h2_, if_neg h5_]))
  · refine lv_aload_n hx hb dC_takeSideOne_7 rfl (lv_at hl 0 rfl) ?_
    refine lv_iload_n hx hb dC_takeSideOne_8 rfl (lv_at hl 1 rfl) ?_
    refine va_put (D := D) (ci := 0) (v := .int x0) (ty := .int) (C := RC) (T := TC) (N := 18) hx hb hw inC tyC tyC_ok nmC hown hK hP hD hS 0 rfl rfl 3 (by decide) f32 (fun _ h9 => h9) rfl (tyC_ok 3 (by decide)) rfl rfl (Nat.le_of_ble_eq_true rfl) dC_takeSideOne_9 (fun H locs hP hD hS => ?_)
    have hP : va_P D vwCl [(h0, .inr (0, FC (tk_up c 3 x0)))] H := hP
    have hD : va_D A [(h0, .inr (0, FC (tk_up c 3 x0)))] := hD
    refine lv_goto (tgt := 96) hx hb dC_takeSideOne_12 (by decide) ?_
    exact tk_vret hx hb hr hlk hP hD hS dC_takeSideOne_96 (tk_ewC (by unfold tkC_takeSideOne_s; rw [if_neg h1_]))
def tkC_giveSideZero_r (c : Nat → Int32) : Int32 :=
  if c 17 = 0 then (if c 16 = 0 then tkC_requests_r c
    else c 4)
  else if tkC_serveChosen_r (tk_up c 17 0) = (-1) then 0
    else 128 + (tkC_serveChosen_r (tk_up c 17 0))
def tkC_giveSideZero_s (c : Nat → Int32) : Nat → Int32 :=
  if c 17 = 0 then c
  else tkC_serveChosen_s (tk_up c 17 0)
set_option maxHeartbeats 1000000 in
set_option maxRecDepth 100000 in
theorem kC_giveSideZero (l : Launch) (D : va_G) (h0 : Nat) (c : Nat → Int32) : tk_M l yC_giveSideZero wsC_giveSideZero { frames := 3, cells := 0, slots := 0, locals := 67 } D [] [.ref h0] [(h0, .inr (0, FC c))] [(h0, .inr (0, FC (tkC_giveSideZero_s c)))] (some (.int (tkC_giveSideZero_r c))) := by
  refine tk_M.of (cc := cC_giveSideZero) (maxL := 2) (ret := (some .int)) (by decide) rfl (Nat.le_of_ble_eq_true rfl) ?_
  intro p e s m below meth co A H locs ls hB hK hN hA hP hD hS hl
  obtain ⟨hx, hb, hr, hml, hown, hlk, hnm, hts⟩ := hB
  have hown : s.vm.findClass RC = some m.cls := hown
  have hl : lv_has ls 2 [(0, .ref h0)] := hl
  have hw : ∀ w ∈ tkW, w.before _ s = true := fun w h => hts w (List.mem_cons_of_mem _ h)
  have f84 := hw _ wF_C_84
  have f90 := hw _ wF_C_90
  have f93 := hw _ wF_C_93
  refine lv_aload_n hx hb dC_giveSideZero_0 rfl (lv_at hl 0 rfl) ?_
  refine va_get (D := D) (ci := 0) (v := .int (c 17)) (C := RC) (T := TC) (N := 18) hx hb hw inC hown hK hP 0 rfl rfl 17 (by decide) f84 (fun _ h9 => h9) rfl dC_giveSideZero_1 ?_
  refine lv_if_eq (tgt := 32) hx hb dC_giveSideZero_4 (by decide) (fun (h1_ : c 17 = 0) => ?_) (fun (h1_ : ¬ (c 17 = 0)) => ?_)
  · refine lv_aload_n hx hb dC_giveSideZero_32 rfl (lv_at hl 0 rfl) ?_
    refine va_get (D := D) (ci := 0) (v := .int (c 16)) (C := RC) (T := TC) (N := 18) hx hb hw inC hown hK hP 0 rfl rfl 16 (by decide) f90 (fun _ h9 => h9) rfl dC_giveSideZero_33 ?_
    refine lv_if_eq (tgt := 46) hx hb dC_giveSideZero_36 (by decide) (fun (h2_ : c 16 = 0) => ?_) (fun (h2_ : ¬ (c 16 = 0)) => ?_)
    · refine lv_aload_n hx hb dC_giveSideZero_46 rfl (lv_at hl 0 rfl) ?_
      refine tk_callA hD hS hA (va_runV (As := []) (rest := []) ⟨hx, hb, hml, hown, hw⟩ (kC_requests l D h0 c H.size) (cwV 0 hw (tk_gV tkW_good wM_C_28 wI_C_requests wS_C_requests wZ_C wC_C_requests) rfl rfl rfl (by decide +kernel) ⟨Nat.le_of_ble_eq_true rfl, Nat.le_of_ble_eq_true rfl⟩) (tk_preV (q0 := 0) hK hN hP hD [0] [] rfl rfl rfl rfl rfl) rfl rfl hl.1 rfl (lv_room (Nat.le_of_ble_eq_true rfl)) dC_giveSideZero_47 ⟨Nat.zero_le _, Nat.zero_le _⟩) (fun H locs hP hD hS => ?_)
      refine W.eq (g2 := F0 m 50 ls [.int (tkC_requests_r c)]) rfl ?_
      exact tk_iret hx hb hr hlk hP hD hS dC_giveSideZero_50 (by unfold tkC_giveSideZero_r; rw [if_pos h1_, if_pos h2_]) (tk_ewC (by unfold tkC_giveSideZero_s; rw [if_pos h1_]))
    · refine lv_aload_n hx hb dC_giveSideZero_39 rfl (lv_at hl 0 rfl) ?_
      refine va_get (D := D) (ci := 0) (v := .int (c 4)) (C := RC) (T := TC) (N := 18) hx hb hw inC hown hK hP 0 rfl rfl 4 (by decide) f93 (fun _ h9 => h9) rfl dC_giveSideZero_40 ?_
      refine lv_goto (tgt := 50) hx hb dC_giveSideZero_43 (by decide) ?_
      exact tk_iret hx hb hr hlk hP hD hS dC_giveSideZero_50 (by unfold tkC_giveSideZero_r; rw [if_pos h1_, if_neg h2_]) (tk_ewC (by unfold tkC_giveSideZero_s; rw [if_pos h1_]))
  · refine lv_aload_n hx hb dC_giveSideZero_7 rfl (lv_at hl 0 rfl) ?_
    refine lv_iconst (v := 0) hx hb dC_giveSideZero_8 (by decide) ?_
    refine va_put (D := D) (ci := 0) (v := .int 0) (ty := .boolean) (C := RC) (T := TC) (N := 18) hx hb hw inC tyC tyC_ok nmC hown hK hP hD hS 0 rfl rfl 17 (by decide) f84 (fun _ h9 => h9) rfl (tyC_ok 17 (by decide)) rfl rfl (Nat.le_of_ble_eq_true rfl) dC_giveSideZero_9 (fun H locs hP hD hS => ?_)
    have hP : va_P D vwCl [(h0, .inr (0, FC (tk_up c 17 0)))] H := hP
    have hD : va_D A [(h0, .inr (0, FC (tk_up c 17 0)))] := hD
    refine lv_aload_n hx hb dC_giveSideZero_12 rfl (lv_at hl 0 rfl) ?_
    refine tk_callA hD hS hA (va_runV (As := []) (rest := []) ⟨hx, hb, hml, hown, hw⟩ (kC_serveChosen l D h0 (tk_up c 17 0) H.size) (cwV 0 hw (tk_gV tkW_good wM_C_87 wI_C_serveChosen wS_C_serveChosen wZ_C wC_C_serveChosen) rfl rfl rfl (by decide +kernel) ⟨Nat.le_of_ble_eq_true rfl, Nat.le_of_ble_eq_true rfl⟩) (tk_preV (q0 := 0) hK hN hP hD [0] [] rfl rfl rfl rfl rfl) rfl rfl hl.1 rfl (lv_room (Nat.le_of_ble_eq_true rfl)) dC_giveSideZero_13 ⟨Nat.zero_le _, Nat.zero_le _⟩) (fun H locs hP hD hS => ?_)
    refine W.eq (g2 := F0 m 16 ls [.int (tkC_serveChosen_r (tk_up c 17 0))]) rfl ?_
    refine lv_istore_n hx hb dC_giveSideZero_16 rfl hl (by decide) rfl (fun ls hl => ?_)
    have hl : lv_has ls 2 [(1, .int (tkC_serveChosen_r (tk_up c 17 0))), (0, .ref h0)] := hl
    refine lv_iload_n hx hb dC_giveSideZero_17 rfl (lv_at hl 0 rfl) ?_
    refine lv_iconst (v := -1) hx hb dC_giveSideZero_18 (by decide) ?_
    refine lv_icmp_ne (tgt := 26) hx hb dC_giveSideZero_19 (by decide) (fun (h3_ : ¬ (tkC_serveChosen_r (tk_up c 17 0) = (-1))) => ?_) (fun (h3_ : tkC_serveChosen_r (tk_up c 17 0) = (-1)) => ?_)
    · refine lv_sipush (v := 128) hx hb dC_giveSideZero_26 (by decide) ?_
      refine lv_iload_n hx hb dC_giveSideZero_29 rfl (lv_at hl 0 rfl) ?_
      refine lv_iadd hx hb dC_giveSideZero_30 ?_
      exact tk_iret hx hb hr hlk hP hD hS dC_giveSideZero_31 (by unfold tkC_giveSideZero_r; rw [if_neg h1_, if_neg h3_]) (tk_ewC (by unfold tkC_giveSideZero_s; rw [if_neg h1_]))
    · refine lv_iconst (v := 0) hx hb dC_giveSideZero_22 (by decide) ?_
      refine lv_goto (tgt := 31) hx hb dC_giveSideZero_23 (by decide) ?_
      exact tk_iret hx hb hr hlk hP hD hS dC_giveSideZero_31 (by unfold tkC_giveSideZero_r; rw [if_neg h1_, if_pos h3_]) (tk_ewC (by unfold tkC_giveSideZero_s; rw [if_neg h1_]))
def tkC_tell_r (c : Nat → Int32) (x0 : Int32) : Int32 :=
  if x0 = 0 then tkC_requests_r c
  else if x0 = 1 then c 4
    else if x0 = 2 then c 3
      else if x0 = 3 then c 6
        else if x0 = 4 then c 5
          else if x0 = 5 then c 1
            else if x0 = 6 then c 2
              else if x0 = 7 then tkT_asBit_r (c 7)
                else (-1)
set_option maxHeartbeats 1000000 in
set_option maxRecDepth 100000 in
theorem kC_tell (l : Launch) (D : va_G) (h0 : Nat) (c : Nat → Int32) (x0 : Int32) : tk_M l yC_tell wsC_tell { frames := 1, cells := 0, slots := 0, locals := 20 } D [] [.ref h0, .int x0] [(h0, .inr (0, FC c))] [(h0, .inr (0, FC c))] (some (.int (tkC_tell_r c x0))) := by
  refine tk_M.of (cc := cC_tell) (maxL := 2) (ret := (some .int)) (by decide) rfl (Nat.le_of_ble_eq_true rfl) ?_
  intro p e s m below meth co A H locs ls hB hK hN hA hP hD hS hl
  obtain ⟨hx, hb, hr, hml, hown, hlk, hnm, hts⟩ := hB
  have hown : s.vm.findClass RC = some m.cls := hown
  have hl : lv_has ls 2 [(0, .ref h0), (1, .int x0)] := hl
  have hw : ∀ w ∈ tkW, w.before _ s = true := fun w h => hts w (List.mem_cons_of_mem _ h)
  have f93 := hw _ wF_C_93
  have f32 := hw _ wF_C_32
  have f15 := hw _ wF_C_15
  have f53 := hw _ wF_C_53
  have f22 := hw _ wF_C_22
  have f19 := hw _ wF_C_19
  have f25 := hw _ wF_C_25
  refine lv_iload_n hx hb dC_tell_0 rfl (lv_at hl 1 rfl) ?_
  by_cases h1_ : x0 = 0
  · refine lv_tableIn (tgt := 48) hx hb dC_tell_1 (by rw [h1_]; decide) (by rw [h1_]; decide) (by rw [h1_]; rfl) (by decide) ?_
    refine lv_aload_n hx hb dC_tell_48 rfl (lv_at hl 0 rfl) ?_
    refine tk_callA hD hS hA (va_runV (As := []) (rest := []) ⟨hx, hb, hml, hown, hw⟩ (kC_requests l D h0 c H.size) (cwV 0 hw (tk_gV tkW_good wM_C_28 wI_C_requests wS_C_requests wZ_C wC_C_requests) rfl rfl rfl (by decide +kernel) ⟨Nat.le_of_ble_eq_true rfl, Nat.le_of_ble_eq_true rfl⟩) (tk_preV (q0 := 0) hK hN hP hD [0] [] rfl rfl rfl rfl rfl) rfl rfl hl.1 rfl (lv_room (Nat.le_of_ble_eq_true rfl)) dC_tell_49 ⟨Nat.zero_le _, Nat.zero_le _⟩) (fun H locs hP hD hS => ?_)
    refine W.eq (g2 := F0 m 52 ls [.int (tkC_requests_r c)]) rfl ?_
    exact tk_iret hx hb hr hlk hP hD hS dC_tell_52 (by unfold tkC_tell_r; rw [if_pos h1_]) rfl
  by_cases h2_ : x0 = 1
  · refine lv_tableIn (tgt := 53) hx hb dC_tell_1 (by rw [h2_]; decide) (by rw [h2_]; decide) (by rw [h2_]; rfl) (by decide) ?_
    refine lv_aload_n hx hb dC_tell_53 rfl (lv_at hl 0 rfl) ?_
    refine va_get (D := D) (ci := 0) (v := .int (c 4)) (C := RC) (T := TC) (N := 18) hx hb hw inC hown hK hP 0 rfl rfl 4 (by decide) f93 (fun _ h9 => h9) rfl dC_tell_54 ?_
    exact tk_iret hx hb hr hlk hP hD hS dC_tell_57 (by unfold tkC_tell_r; rw [if_neg h1_, if_pos h2_]) rfl
  by_cases h3_ : x0 = 2
  · refine lv_tableIn (tgt := 58) hx hb dC_tell_1 (by rw [h3_]; decide) (by rw [h3_]; decide) (by rw [h3_]; rfl) (by decide) ?_
    refine lv_aload_n hx hb dC_tell_58 rfl (lv_at hl 0 rfl) ?_
    refine va_get (D := D) (ci := 0) (v := .int (c 3)) (C := RC) (T := TC) (N := 18) hx hb hw inC hown hK hP 0 rfl rfl 3 (by decide) f32 (fun _ h9 => h9) rfl dC_tell_59 ?_
    exact tk_iret hx hb hr hlk hP hD hS dC_tell_62 (by unfold tkC_tell_r; rw [if_neg h1_, if_neg h2_, if_pos h3_]) rfl
  by_cases h4_ : x0 = 3
  · refine lv_tableIn (tgt := 63) hx hb dC_tell_1 (by rw [h4_]; decide) (by rw [h4_]; decide) (by rw [h4_]; rfl) (by decide) ?_
    refine lv_aload_n hx hb dC_tell_63 rfl (lv_at hl 0 rfl) ?_
    refine va_get (D := D) (ci := 0) (v := .int (c 6)) (C := RC) (T := TC) (N := 18) hx hb hw inC hown hK hP 0 rfl rfl 6 (by decide) f15 (fun _ h9 => h9) rfl dC_tell_64 ?_
    exact tk_iret hx hb hr hlk hP hD hS dC_tell_67 (by unfold tkC_tell_r; rw [if_neg h1_, if_neg h2_, if_neg h3_, if_pos h4_]) rfl
  by_cases h5_ : x0 = 4
  · refine lv_tableIn (tgt := 68) hx hb dC_tell_1 (by rw [h5_]; decide) (by rw [h5_]; decide) (by rw [h5_]; rfl) (by decide) ?_
    refine lv_aload_n hx hb dC_tell_68 rfl (lv_at hl 0 rfl) ?_
    refine va_get (D := D) (ci := 0) (v := .int (c 5)) (C := RC) (T := TC) (N := 18) hx hb hw inC hown hK hP 0 rfl rfl 5 (by decide) f53 (fun _ h9 => h9) rfl dC_tell_69 ?_
    exact tk_iret hx hb hr hlk hP hD hS dC_tell_72 (by unfold tkC_tell_r; rw [if_neg h1_, if_neg h2_, if_neg h3_, if_neg h4_, if_pos h5_]) rfl
  by_cases h6_ : x0 = 5
  · refine lv_tableIn (tgt := 73) hx hb dC_tell_1 (by rw [h6_]; decide) (by rw [h6_]; decide) (by rw [h6_]; rfl) (by decide) ?_
    refine lv_aload_n hx hb dC_tell_73 rfl (lv_at hl 0 rfl) ?_
    refine va_get (D := D) (ci := 0) (v := .int (c 1)) (C := RC) (T := TC) (N := 18) hx hb hw inC hown hK hP 0 rfl rfl 1 (by decide) f22 (fun _ h9 => h9) rfl dC_tell_74 ?_
    exact tk_iret hx hb hr hlk hP hD hS dC_tell_77 (by unfold tkC_tell_r; rw [if_neg h1_, if_neg h2_, if_neg h3_, if_neg h4_, if_neg h5_, if_pos h6_]) rfl
  by_cases h7_ : x0 = 6
  · refine lv_tableIn (tgt := 78) hx hb dC_tell_1 (by rw [h7_]; decide) (by rw [h7_]; decide) (by rw [h7_]; rfl) (by decide) ?_
    refine lv_aload_n hx hb dC_tell_78 rfl (lv_at hl 0 rfl) ?_
    refine va_get (D := D) (ci := 0) (v := .int (c 2)) (C := RC) (T := TC) (N := 18) hx hb hw inC hown hK hP 0 rfl rfl 2 (by decide) f19 (fun _ h9 => h9) rfl dC_tell_79 ?_
    exact tk_iret hx hb hr hlk hP hD hS dC_tell_82 (by unfold tkC_tell_r; rw [if_neg h1_, if_neg h2_, if_neg h3_, if_neg h4_, if_neg h5_, if_neg h6_, if_pos h7_]) rfl
  by_cases h8_ : x0 = 7
  · refine lv_tableIn (tgt := 83) hx hb dC_tell_1 (by rw [h8_]; decide) (by rw [h8_]; decide) (by rw [h8_]; rfl) (by decide) ?_
    refine lv_aload_n hx hb dC_tell_83 rfl (lv_at hl 0 rfl) ?_
    refine va_get (D := D) (ci := 0) (v := .int (c 7)) (C := RC) (T := TC) (N := 18) hx hb hw inC hown hK hP 0 rfl rfl 7 (by decide) f25 (fun _ h9 => h9) rfl dC_tell_84 ?_
    refine tk_call0 hP hD hS hA (va_runSN (As := [.int (c 7)]) (rest := []) ⟨hx, hb, hml, hown, hw⟩ (kT_asBit l D (c 7) H.size) ⟨va_cnB 1 hw (tk_g0 tkW_good wC_T_asBit) rfl rfl rfl (hN (.methodLinkNest RC 96 yT_asBit "TickLines") (by decide +kernel)) (hw _ wZ_T) (by decide +kernel) ⟨Nat.le_of_ble_eq_true rfl, Nat.le_of_ble_eq_true rfl⟩, hw _ wT_T_asBit, trivial⟩ (tk_preS hK hN hP hD [] [] rfl rfl rfl) rfl rfl hl.1 rfl (lv_room (Nat.le_of_ble_eq_true rfl)) dC_tell_87 ⟨Nat.zero_le _, Nat.zero_le _⟩) (fun H locs hP hD hS => ?_)
    refine W.eq (g2 := F0 m 90 ls [.int (tkT_asBit_r (c 7))]) rfl ?_
    exact tk_iret hx hb hr hlk hP hD hS dC_tell_90 (by unfold tkC_tell_r; rw [if_neg h1_, if_neg h2_, if_neg h3_, if_neg h4_, if_neg h5_, if_neg h6_, if_neg h7_, if_pos h8_]) rfl
  have ho : (x0).toInt < 0 ∨ 7 < (x0).toInt := by
    refine tk_out (fun k h1 h2 => ?_)
    rcases (show k = 0 ∨ k = 1 ∨ k = 2 ∨ k = 3 ∨ k = 4 ∨ k = 5 ∨ k = 6 ∨ k = 7 by omega) with rfl | rfl | rfl | rfl | rfl | rfl | rfl | rfl
    · exact h1_
    · exact h2_
    · exact h3_
    · exact h4_
    · exact h5_
    · exact h6_
    · exact h7_
    · exact h8_
  refine lv_tableOut (tgt := 91) hx hb dC_tell_1 ho (by decide) ?_
  refine lv_iconst (v := -1) hx hb dC_tell_91 (by decide) ?_
  exact tk_iret hx hb hr hlk hP hD hS dC_tell_92 (by unfold tkC_tell_r; rw [if_neg h1_, if_neg h2_, if_neg h3_, if_neg h4_, if_neg h5_, if_neg h6_, if_neg h7_, if_neg h8_]) rfl
