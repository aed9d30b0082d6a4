def tkT_counterWithMode_r (ad : Nat → Nat) (x0 : Int32) : Nat :=
  if x0 - 4 = 0 then (ad 4)
  else if x0 - 4 = 1 then (ad 5)
    else (ad 6)
def tkT_counterWithMode_k (g : Nat → Nat → Int32) (x0 : Int32) : Int32 :=
  if x0 - 4 = 0 then (if tkN_hasMode_r (g 4) = 0 then 2
    else 0)
  else if x0 - 4 = 1 then (if tkN_hasMode_r (g 5) = 0 then 2
      else 0)
    else if tkN_hasMode_r (g 6) = 0 then 2
      else 0
set_option maxHeartbeats 1000000 in
set_option maxRecDepth 100000 in
theorem kT_counterWithMode (l : Launch) (hl9 : l.stackTraces = false) (D : va_G) (ad : Nat → Nat) (cA : ClassId) (g : Nat → Nat → Int32) (x0 : Int32) (hj : x0 - 4 = 0 ∨ x0 - 4 = 1 ∨ x0 - 4 = 2) : tk_MX l yT_counterWithMode wsT_counterWithMode { frames := 6, cells := 1, slots := 6, locals := 81 } D [(cA, .object "TickLines$Counter")] [.ref (ad 0), .int x0] (WT ad cA g) (WT ad cA g) (some (.ref (tkT_counterWithMode_r ad x0))) (tkT_counterWithMode_k g x0) := by
  refine tk_MX.of (cc := cT_counterWithMode) (maxL := 3) (ret := (some (.object "TickLines$Counter"))) (by decide) rfl (Nat.le_of_ble_eq_true rfl) ?_
  intro p e s m below meth co A H locs ls hB hEx hE hK hN hA hP hD hS hl
  obtain ⟨hx, hb, hr, hml, hown, hlk, hnm, hts⟩ := hB
  have hown : s.vm.findClass RT = some m.cls := hown
  have hl : lv_has ls 3 [(0, .ref (ad 0)), (1, .int x0)] := hl
  have hw : ∀ w ∈ tkW, w.before _ s = true := fun w h => hts w (List.mem_cons_of_mem _ h)
  have f24 := hw _ wF_T_24
  refine lv_aload_n hx hb dT_counterWithMode_0 rfl (lv_at hl 0 rfl) ?_
  refine va_get (D := D) (ci := 2) (v := .ref (ad 3)) (C := RT) (T := TT) (N := 3) hx hb hw inT hown hK hP 0 rfl rfl 2 (by decide) f24 (fun _ h9 => h9) rfl dT_counterWithMode_1 ?_
  refine lv_iload_n hx hb dT_counterWithMode_4 rfl (lv_at hl 1 rfl) ?_
  refine lv_iconst (v := 4) hx hb dT_counterWithMode_5 (by decide) ?_
  refine lv_isub hx hb dT_counterWithMode_6 ?_
  rcases hj with h1_ | h1_ | h1_
  · refine tk_top h1_ ?_
    refine va_aldq hx hb hK hP 3 0 rfl rfl (by unfold vp_in; decide) dT_counterWithMode_7 ?_
    refine W.eq (g2 := F0 m 8 ls [.ref (ad 4)]) rfl ?_
    refine lv_astore_n hx hb dT_counterWithMode_8 rfl hl (by decide) rfl (fun ls hl => ?_)
    have hl : lv_has ls 3 [(2, .ref (ad 4)), (0, .ref (ad 0)), (1, .int x0)] := hl
    refine lv_aload_n hx hb dT_counterWithMode_9 rfl (lv_at hl 0 rfl) ?_
    refine tk_call1 (cell := (ad 4, .inr (1, FN (g 4)))) (cell' := (ad 4, .inr (1, FN (g 4)))) 4 hP hD hS hA rfl rfl (va_runV (As := []) (rest := []) ⟨hx, hb, hml, hown, hw⟩ (kN_hasMode l D (ad 4) (g 4) H.size) (cwV 0 hw (tk_gV tkW_good wM_T_116 wI_N_hasMode wS_N_hasMode wZ_N wC_N_hasMode) rfl rfl rfl (by decide +kernel) ⟨Nat.le_of_ble_eq_true rfl, Nat.le_of_ble_eq_true rfl⟩) (tk_preV (q0 := 4) hK hN hP hD [4] [] rfl rfl rfl rfl rfl) rfl rfl hl.1 rfl (lv_room (Nat.le_of_ble_eq_true rfl)) dT_counterWithMode_10 ⟨Nat.le_of_ble_eq_true rfl, Nat.le_of_ble_eq_true rfl⟩) (fun H locs hP hD hS => ?_)
    have hP : va_P D vwCl (WT ad cA g) H := hP
    have hD : va_D A (WT ad cA g) := hD
    refine W.eq (g2 := F0 m 13 ls [.int (tkN_hasMode_r (g 4))]) rfl ?_
    refine lv_if_ne (tgt := 24) hx hb dT_counterWithMode_13 (by decide) (fun (h2_ : ¬ (tkN_hasMode_r (g 4) = 0)) => ?_) (fun (h2_ : tkN_hasMode_r (g 4) = 0) => ?_)
    · refine lv_aload_n hx hb dT_counterWithMode_24 rfl (lv_at hl 0 rfl) ?_
      exact tk_aretX (Nat.le_of_ble_eq_true rfl) (Nat.le_of_ble_eq_true rfl) hx hb hr (Or.inl ⟨_, rfl⟩) hlk hP hD hS dT_counterWithMode_25 (by unfold tkT_counterWithMode_k; rw [if_pos h1_, if_neg h2_]) (by unfold tkT_counterWithMode_r; rw [if_pos h1_]) rfl
    · exact vx_throw0 (own := RT) (cls := "java/lang/IllegalStateException") (names := ["java/lang/RuntimeException", "java/lang/Exception"]) hx hb hl9 hown (by decide +kernel) (by decide +kernel) (hw _ wL_T_96) (hw _ wZ_IllegalStateException) (vx_hat (L := vx_at0 RT 98 "java/lang/IllegalStateException" ["java/lang/RuntimeException", "java/lang/Exception"]) (B := [.castable "java/lang/IllegalStateException" "java/lang/IllegalStateException", .declares ⟨"java/lang/RuntimeException", "<init>", "()V"⟩, .declares ⟨"java/lang/Exception", "<init>", "()V"⟩, .declares ⟨"java/lang/Throwable", "<init>", "()V"⟩]) (fun w h => hw w (tkW_inS w h)) (by decide +kernel) (vx_c (va_Nw.use rfl (hN (.castable "java/lang/IllegalStateException" "java/lang/IllegalStateException") (by decide +kernel))) (vx_c (va_Nw.use rfl (hN (.declares ⟨"java/lang/RuntimeException", "<init>", "()V"⟩) (by decide +kernel))) (vx_c (va_Nw.use rfl (hN (.declares ⟨"java/lang/Exception", "<init>", "()V"⟩) (by decide +kernel))) (vx_c (va_Nw.use rfl (hN (.declares ⟨"java/lang/Throwable", "<init>", "()V"⟩) (by decide +kernel))) vx_n))))) (by decide +kernel) hE.1 hE.2 hS (hl.1.trans hml.symm) dT_counterWithMode_16 dT_counterWithMode_19 dT_counterWithMode_20 dT_counterWithMode_23 (fun x hx => (hEx x hx).elim) (Nat.le_of_ble_eq_true rfl) (Nat.le_of_ble_eq_true rfl) (Nat.le_of_ble_eq_true rfl) (Nat.le_of_ble_eq_true rfl) hlk (tk_xc hP hS (Or.inr ⟨(by unfold tkT_counterWithMode_k; rw [if_pos h1_, if_pos h2_]), rfl⟩)) hS.2.2 (Nat.le_of_ble_eq_true rfl) (Nat.le_of_ble_eq_true rfl)
  · have h3_ : ¬ x0 - 4 = 0 := by rw [h1_]; decide
    refine tk_top h1_ ?_
    refine va_aldq hx hb hK hP 3 0 rfl rfl (by unfold vp_in; decide) dT_counterWithMode_7 ?_
    refine W.eq (g2 := F0 m 8 ls [.ref (ad 5)]) rfl ?_
    refine lv_astore_n hx hb dT_counterWithMode_8 rfl hl (by decide) rfl (fun ls hl => ?_)
    have hl : lv_has ls 3 [(2, .ref (ad 5)), (0, .ref (ad 0)), (1, .int x0)] := hl
    refine lv_aload_n hx hb dT_counterWithMode_9 rfl (lv_at hl 0 rfl) ?_
    refine tk_call1 (cell := (ad 5, .inr (1, FN (g 5)))) (cell' := (ad 5, .inr (1, FN (g 5)))) 5 hP hD hS hA rfl rfl (va_runV (As := []) (rest := []) ⟨hx, hb, hml, hown, hw⟩ (kN_hasMode l D (ad 5) (g 5) H.size) (cwV 0 hw (tk_gV tkW_good wM_T_116 wI_N_hasMode wS_N_hasMode wZ_N wC_N_hasMode) rfl rfl rfl (by decide +kernel) ⟨Nat.le_of_ble_eq_true rfl, Nat.le_of_ble_eq_true rfl⟩) (tk_preV (q0 := 5) hK hN hP hD [5] [] rfl rfl rfl rfl rfl) rfl rfl hl.1 rfl (lv_room (Nat.le_of_ble_eq_true rfl)) dT_counterWithMode_10 ⟨Nat.le_of_ble_eq_true rfl, Nat.le_of_ble_eq_true rfl⟩) (fun H locs hP hD hS => ?_)
    have hP : va_P D vwCl (WT ad cA g) H := hP
    have hD : va_D A (WT ad cA g) := hD
    refine W.eq (g2 := F0 m 13 ls [.int (tkN_hasMode_r (g 5))]) rfl ?_
    refine lv_if_ne (tgt := 24) hx hb dT_counterWithMode_13 (by decide) (fun (h4_ : ¬ (tkN_hasMode_r (g 5) = 0)) => ?_) (fun (h4_ : tkN_hasMode_r (g 5) = 0) => ?_)
    · refine lv_aload_n hx hb dT_counterWithMode_24 rfl (lv_at hl 0 rfl) ?_
      exact tk_aretX (Nat.le_of_ble_eq_true rfl) (Nat.le_of_ble_eq_true rfl) hx hb hr (Or.inl ⟨_, rfl⟩) hlk hP hD hS dT_counterWithMode_25 (by unfold tkT_counterWithMode_k; rw [if_neg h3_, if_pos h1_, if_neg h4_]) (by unfold tkT_counterWithMode_r; rw [if_neg h3_, if_pos h1_]) rfl
    · exact vx_throw0 (own := RT) (cls := "java/lang/IllegalStateException") (names := ["java/lang/RuntimeException", "java/lang/Exception"]) hx hb hl9 hown (by decide +kernel) (by decide +kernel) (hw _ wL_T_96) (hw _ wZ_IllegalStateException) (vx_hat (L := vx_at0 RT 98 "java/lang/IllegalStateException" ["java/lang/RuntimeException", "java/lang/Exception"]) (B := [.castable "java/lang/IllegalStateException" "java/lang/IllegalStateException", .declares ⟨"java/lang/RuntimeException", "<init>", "()V"⟩, .declares ⟨"java/lang/Exception", "<init>", "()V"⟩, .declares ⟨"java/lang/Throwable", "<init>", "()V"⟩]) (fun w h => hw w (tkW_inS w h)) (by decide +kernel) (vx_c (va_Nw.use rfl (hN (.castable "java/lang/IllegalStateException" "java/lang/IllegalStateException") (by decide +kernel))) (vx_c (va_Nw.use rfl (hN (.declares ⟨"java/lang/RuntimeException", "<init>", "()V"⟩) (by decide +kernel))) (vx_c (va_Nw.use rfl (hN (.declares ⟨"java/lang/Exception", "<init>", "()V"⟩) (by decide +kernel))) (vx_c (va_Nw.use rfl (hN (.declares ⟨"java/lang/Throwable", "<init>", "()V"⟩) (by decide +kernel))) vx_n))))) (by decide +kernel) hE.1 hE.2 hS (hl.1.trans hml.symm) dT_counterWithMode_16 dT_counterWithMode_19 dT_counterWithMode_20 dT_counterWithMode_23 (fun x hx => (hEx x hx).elim) (Nat.le_of_ble_eq_true rfl) (Nat.le_of_ble_eq_true rfl) (Nat.le_of_ble_eq_true rfl) (Nat.le_of_ble_eq_true rfl) hlk (tk_xc hP hS (Or.inr ⟨(by unfold tkT_counterWithMode_k; rw [if_neg h3_, if_pos h1_, if_pos h4_]), rfl⟩)) hS.2.2 (Nat.le_of_ble_eq_true rfl) (Nat.le_of_ble_eq_true rfl)
  · have h5_ : ¬ x0 - 4 = 0 := by rw [h1_]; decide
    have h6_ : ¬ x0 - 4 = 1 := by rw [h1_]; decide
    refine tk_top h1_ ?_
    refine va_aldq hx hb hK hP 3 0 rfl rfl (by unfold vp_in; decide) dT_counterWithMode_7 ?_
    refine W.eq (g2 := F0 m 8 ls [.ref (ad 6)]) rfl ?_
    refine lv_astore_n hx hb dT_counterWithMode_8 rfl hl (by decide) rfl (fun ls hl => ?_)
    have hl : lv_has ls 3 [(2, .ref (ad 6)), (0, .ref (ad 0)), (1, .int x0)] := hl
    refine lv_aload_n hx hb dT_counterWithMode_9 rfl (lv_at hl 0 rfl) ?_
    refine tk_call1 (cell := (ad 6, .inr (1, FN (g 6)))) (cell' := (ad 6, .inr (1, FN (g 6)))) 6 hP hD hS hA rfl rfl (va_runV (As := []) (rest := []) ⟨hx, hb, hml, hown, hw⟩ (kN_hasMode l D (ad 6) (g 6) H.size) (cwV 0 hw (tk_gV tkW_good wM_T_116 wI_N_hasMode wS_N_hasMode wZ_N wC_N_hasMode) rfl rfl rfl (by decide +kernel) ⟨Nat.le_of_ble_eq_true rfl, Nat.le_of_ble_eq_true rfl⟩) (tk_preV (q0 := 6) hK hN hP hD [6] [] rfl rfl rfl rfl rfl) rfl rfl hl.1 rfl (lv_room (Nat.le_of_ble_eq_true rfl)) dT_counterWithMode_10 ⟨Nat.le_of_ble_eq_true rfl, Nat.le_of_ble_eq_true rfl⟩) (fun H locs hP hD hS => ?_)
    have hP : va_P D vwCl (WT ad cA g) H := hP
    have hD : va_D A (WT ad cA g) := hD
    refine W.eq (g2 := F0 m 13 ls [.int (tkN_hasMode_r (g 6))]) rfl ?_
    refine lv_if_ne (tgt := 24) hx hb dT_counterWithMode_13 (by decide) (fun (h7_ : ¬ (tkN_hasMode_r (g 6) = 0)) => ?_) (fun (h7_ : tkN_hasMode_r (g 6) = 0) => ?_)
    · refine lv_aload_n hx hb dT_counterWithMode_24 rfl (lv_at hl 0 rfl) ?_
      exact tk_aretX (Nat.le_of_ble_eq_true rfl) (Nat.le_of_ble_eq_true rfl) hx hb hr (Or.inl ⟨_, rfl⟩) hlk hP hD hS dT_counterWithMode_25 (by unfold tkT_counterWithMode_k; rw [if_neg h5_, if_neg h6_, if_neg h7_]) (by unfold tkT_counterWithMode_r; rw [if_neg h5_, if_neg h6_]) rfl
    · exact vx_throw0 (own := RT) (cls := "java/lang/IllegalStateException") (names := ["java/lang/RuntimeException", "java/lang/Exception"]) hx hb hl9 hown (by decide +kernel) (by decide +kernel) (hw _ wL_T_96) (hw _ wZ_IllegalStateException) (vx_hat (L := vx_at0 RT 98 "java/lang/IllegalStateException" ["java/lang/RuntimeException", "java/lang/Exception"]) (B := [.castable "java/lang/IllegalStateException" "java/lang/IllegalStateException", .declares ⟨"java/lang/RuntimeException", "<init>", "()V"⟩, .declares ⟨"java/lang/Exception", "<init>", "()V"⟩, .declares ⟨"java/lang/Throwable", "<init>", "()V"⟩]) (fun w h => hw w (tkW_inS w h)) (by decide +kernel) (vx_c (va_Nw.use rfl (hN (.castable "java/lang/IllegalStateException" "java/lang/IllegalStateException") (by decide +kernel))) (vx_c (va_Nw.use rfl (hN (.declares ⟨"java/lang/RuntimeException", "<init>", "()V"⟩) (by decide +kernel))) (vx_c (va_Nw.use rfl (hN (.declares ⟨"java/lang/Exception", "<init>", "()V"⟩) (by decide +kernel))) (vx_c (va_Nw.use rfl (hN (.declares ⟨"java/lang/Throwable", "<init>", "()V"⟩) (by decide +kernel))) vx_n))))) (by decide +kernel) hE.1 hE.2 hS (hl.1.trans hml.symm) dT_counterWithMode_16 dT_counterWithMode_19 dT_counterWithMode_20 dT_counterWithMode_23 (fun x hx => (hEx x hx).elim) (Nat.le_of_ble_eq_true rfl) (Nat.le_of_ble_eq_true rfl) (Nat.le_of_ble_eq_true rfl) (Nat.le_of_ble_eq_true rfl) hlk (tk_xc hP hS (Or.inr ⟨(by unfold tkT_counterWithMode_k; rw [if_neg h5_, if_neg h6_, if_pos h7_]), rfl⟩)) hS.2.2 (Nat.le_of_ble_eq_true rfl) (Nat.le_of_ble_eq_true rfl)
def tkT_write_s (g : Nat → Nat → Int32) (x0 x1 : Int32) : Nat → Nat → Int32 :=
  if tkT_isPort_r x0 = 0 then g
  else if x1 < 0 then g
    else if x1 ≤ 255 then (if tkT_isCounterPort_r x0 = 0 then (if x0 = 7 then tkT_followLines_s (tkT_takeControl_s g x1)
          else if x0 &&& 1 = 0 then (if x0 >>> ((1 : Int32) &&& 31) = 0 then tkT_followLines_s (tk_up g 1 (tkC_takeSideZero_s (g 1) x1))
              else tkT_followLines_s (tk_up g 2 (tkC_takeSideZero_s (g 2) x1)))
            else if x0 >>> ((1 : Int32) &&& 31) = 0 then tkT_followLines_s (tk_up g 1 (tkC_takeSideOne_s (g 1) x1))
              else tkT_followLines_s (tk_up g 2 (tkC_takeSideOne_s (g 2) x1)))
        else if x0 - 4 = 0 then tkT_followLines_s (tk_up g 4 (tkN_takeByte_s (g 4) x1))
          else if x0 - 4 = 1 then tkT_followLines_s (tk_up g 5 (tkN_takeByte_s (g 5) x1))
            else tkT_followLines_s (tk_up g 6 (tkN_takeByte_s (g 6) x1)))
      else g
def tkT_write_k (g : Nat → Nat → Int32) (x0 x1 : Int32) : Int32 :=
  if tkT_isPort_r x0 = 0 then 1
  else if x1 < 0 then 1
    else if x1 ≤ 255 then (if tkT_isCounterPort_r x0 = 0 then 0
        else tkT_counterWithMode_k g x0)
      else 1
set_option maxHeartbeats 1000000 in
set_option maxRecDepth 100000 in
theorem kT_write (l : Launch) (hl9 : l.stackTraces = false) (D : va_G) (ad : Nat → Nat) (cA : ClassId) (g : Nat → Nat → Int32) (x0 x1 : Int32) : tk_MX l yT_write wsT_write { frames := 7, cells := 1, slots := 6, locals := 103 } D [(cA, .object "TickLines$Counter")] [.ref (ad 0), .int x0, .int x1] (WT ad cA g) (WT ad cA (tkT_write_s g x0 x1)) none (tkT_write_k g x0 x1) := by
  refine tk_MX.of (cc := cT_write) (maxL := 3) (ret := none) (by decide) rfl (Nat.le_of_ble_eq_true rfl) ?_
  intro p e s m below meth co A H locs ls hB hEx hE hK hN hA hP hD hS hl
  obtain ⟨hx, hb, hr, hml, hown, hlk, hnm, hts⟩ := hB
  have hown : s.vm.findClass RT = some m.cls := hown
  have hl : lv_has ls 3 [(0, .ref (ad 0)), (1, .int x0), (2, .int x1)] := hl
  have hw : ∀ w ∈ tkW, w.before _ s = true := fun w h => hts w (List.mem_cons_of_mem _ h)
  refine lv_iload_n hx hb dT_write_0 rfl (lv_at hl 1 rfl) ?_
  refine tk_call0 hP hD hS hA (va_runS (As := [.int x0]) (rest := []) ⟨hx, hb, hml, hown, hw⟩ (kT_isPort l D x0 H.size) (va_cwS 1 hw (tk_gS tkW_good wM_T_28 wT_T_isPort wZ_T wC_T_isPort) rfl rfl rfl (by decide +kernel) ⟨Nat.le_of_ble_eq_true rfl, Nat.le_of_ble_eq_true rfl⟩) (tk_preS hK hN hP hD [] [] rfl rfl rfl) rfl rfl hl.1 rfl (lv_room (Nat.le_of_ble_eq_true rfl)) dT_write_1 ⟨Nat.le_of_ble_eq_true rfl, Nat.le_of_ble_eq_true rfl⟩) (fun H locs hP hD hS => ?_)
  refine W.eq (g2 := F0 m 4 ls [.int (tkT_isPort_r x0)]) rfl ?_
  refine lv_if_eq (tgt := 18) hx hb dT_write_4 (by decide) (fun (h1_ : tkT_isPort_r x0 = 0) => ?_) (fun (h1_ : ¬ (tkT_isPort_r x0 = 0)) => ?_)
  · exact vx_throw0 (own := RT) (cls := "java/lang/IllegalArgumentException") (names := ["java/lang/RuntimeException", "java/lang/Exception"]) hx hb hl9 hown (by decide +kernel) (by decide +kernel) (hw _ wL_T_32) (hw _ wZ_IllegalArgumentException) (vx_hat (L := vx_at0 RT 34 "java/lang/IllegalArgumentException" ["java/lang/RuntimeException", "java/lang/Exception"]) (B := [.castable "java/lang/IllegalArgumentException" "java/lang/IllegalArgumentException", .declares ⟨"java/lang/RuntimeException", "<init>", "()V"⟩, .declares ⟨"java/lang/Exception", "<init>", "()V"⟩, .declares ⟨"java/lang/Throwable", "<init>", "()V"⟩]) (fun w h => hw w (tkW_inA w h)) (by decide +kernel) (vx_c (va_Nw.use rfl (hN (.castable "java/lang/IllegalArgumentException" "java/lang/IllegalArgumentException") (by decide +kernel))) (vx_c (va_Nw.use rfl (hN (.declares ⟨"java/lang/RuntimeException", "<init>", "()V"⟩) (by decide +kernel))) (vx_c (va_Nw.use rfl (hN (.declares ⟨"java/lang/Exception", "<init>", "()V"⟩) (by decide +kernel))) (vx_c (va_Nw.use rfl (hN (.declares ⟨"java/lang/Throwable", "<init>", "()V"⟩) (by decide +kernel))) vx_n))))) (by decide +kernel) hE.1 hE.2 hS (hl.1.trans hml.symm) dT_write_18 dT_write_21 dT_write_22 dT_write_25 (fun x hx => (hEx x hx).elim) (Nat.le_of_ble_eq_true rfl) (Nat.le_of_ble_eq_true rfl) (Nat.le_of_ble_eq_true rfl) (Nat.le_of_ble_eq_true rfl) hlk (tk_xc hP hS (Or.inl ⟨(by unfold tkT_write_k; rw [if_pos h1_]), rfl⟩)) hS.2.2 (Nat.le_of_ble_eq_true rfl) (Nat.le_of_ble_eq_true rfl)
  · refine lv_iload_n hx hb dT_write_7 rfl (lv_at hl 2 rfl) ?_
    refine lv_if_lt (tgt := 18) hx hb dT_write_8 (by decide) (fun (h2_ : x1 < 0) => ?_) (fun (h2_ : ¬ (x1 < 0)) => ?_)
    · exact vx_throw0 (own := RT) (cls := "java/lang/IllegalArgumentException") (names := ["java/lang/RuntimeException", "java/lang/Exception"]) hx hb hl9 hown (by decide +kernel) (by decide +kernel) (hw _ wL_T_32) (hw _ wZ_IllegalArgumentException) (vx_hat (L := vx_at0 RT 34 "java/lang/IllegalArgumentException" ["java/lang/RuntimeException", "java/lang/Exception"]) (B := [.castable "java/lang/IllegalArgumentException" "java/lang/IllegalArgumentException", .declares ⟨"java/lang/RuntimeException", "<init>", "()V"⟩, .declares ⟨"java/lang/Exception", "<init>", "()V"⟩, .declares ⟨"java/lang/Throwable", "<init>", "()V"⟩]) (fun w h => hw w (tkW_inA w h)) (by decide +kernel) (vx_c (va_Nw.use rfl (hN (.castable "java/lang/IllegalArgumentException" "java/lang/IllegalArgumentException") (by decide +kernel))) (vx_c (va_Nw.use rfl (hN (.declares ⟨"java/lang/RuntimeException", "<init>", "()V"⟩) (by decide +kernel))) (vx_c (va_Nw.use rfl (hN (.declares ⟨"java/lang/Exception", "<init>", "()V"⟩) (by decide +kernel))) (vx_c (va_Nw.use rfl (hN (.declares ⟨"java/lang/Throwable", "<init>", "()V"⟩) (by decide +kernel))) vx_n))))) (by decide +kernel) hE.1 hE.2 hS (hl.1.trans hml.symm) dT_write_18 dT_write_21 dT_write_22 dT_write_25 (fun x hx => (hEx x hx).elim) (Nat.le_of_ble_eq_true rfl) (Nat.le_of_ble_eq_true rfl) (Nat.le_of_ble_eq_true rfl) (Nat.le_of_ble_eq_true rfl) hlk (tk_xc hP hS (Or.inl ⟨(by unfold tkT_write_k; rw [if_neg h1_, if_pos h2_]), rfl⟩)) hS.2.2 (Nat.le_of_ble_eq_true rfl) (Nat.le_of_ble_eq_true rfl)
    · refine lv_iload_n hx hb dT_write_11 rfl (lv_at hl 2 rfl) ?_
      refine lv_sipush (v := 255) hx hb dT_write_12 (by decide) ?_
      refine lv_icmp_le (tgt := 26) hx hb dT_write_15 (by decide) (fun (h3_ : x1 ≤ 255) => ?_) (fun (h3_ : ¬ (x1 ≤ 255)) => ?_)
      · refine lv_iload_n hx hb dT_write_26 rfl (lv_at hl 1 rfl) ?_
        refine tk_call0 hP hD hS hA (va_runS (As := [.int x0]) (rest := []) ⟨hx, hb, hml, hown, hw⟩ (kT_isCounterPort l D x0 H.size) (va_cwS 1 hw (tk_gS tkW_good wM_T_35 wT_T_isCounterPort wZ_T wC_T_isCounterPort) rfl rfl rfl (by decide +kernel) ⟨Nat.le_of_ble_eq_true rfl, Nat.le_of_ble_eq_true rfl⟩) (tk_preS hK hN hP hD [] [] rfl rfl rfl) rfl rfl hl.1 rfl (lv_room (Nat.le_of_ble_eq_true rfl)) dT_write_27 ⟨Nat.le_of_ble_eq_true rfl, Nat.le_of_ble_eq_true rfl⟩) (fun H locs hP hD hS => ?_)
        refine W.eq (g2 := F0 m 30 ls [.int (tkT_isCounterPort_r x0)]) rfl ?_
        refine lv_if_eq (tgt := 45) hx hb dT_write_30 (by decide) (fun (h4_ : tkT_isCounterPort_r x0 = 0) => ?_) (fun (h4_ : ¬ (tkT_isCounterPort_r x0 = 0)) => ?_)
        · refine lv_iload_n hx hb dT_write_45 rfl (lv_at hl 1 rfl) ?_
          refine lv_bipush (v := 7) hx hb dT_write_46 (by decide) ?_
          refine lv_icmp_ne (tgt := 59) hx hb dT_write_48 (by decide) (fun (h5_ : ¬ (x0 = 7)) => ?_) (fun (h5_ : x0 = 7) => ?_)
          · refine lv_iload_n hx hb dT_write_59 rfl (lv_at hl 1 rfl) ?_
            refine lv_iconst (v := 1) hx hb dT_write_60 (by decide) ?_
            refine lv_iand hx hb dT_write_61 ?_
            refine lv_if_ne (tgt := 79) hx hb dT_write_62 (by decide) (fun (h6_ : ¬ (x0 &&& 1 = 0)) => ?_) (fun (h6_ : x0 &&& 1 = 0) => ?_)
            · refine lv_aload_n hx hb dT_write_79 rfl (lv_at hl 0 rfl) ?_
              refine lv_iload_n hx hb dT_write_80 rfl (lv_at hl 1 rfl) ?_
              refine lv_iconst (v := 1) hx hb dT_write_81 (by decide) ?_
              refine lv_ishr hx hb dT_write_82 ?_
              refine tk_callA hD hS hA (va_runV (As := [.int (x0 >>> ((1 : Int32) &&& 31))]) (rest := []) ⟨hx, hb, hml, hown, hw⟩ (kT_controllerOf l D ad cA g (x0 >>> ((1 : Int32) &&& 31)) H.size) (cwV 1 hw (tk_gV tkW_good wM_T_49 wI_T_controllerOf wS_T_controllerOf wZ_T wC_T_controllerOf) rfl rfl rfl (by decide +kernel) ⟨Nat.le_of_ble_eq_true rfl, Nat.le_of_ble_eq_true rfl⟩) (tk_preT hK hN hP hD) rfl rfl hl.1 rfl (lv_room (Nat.le_of_ble_eq_true rfl)) dT_write_83 ⟨Nat.le_of_ble_eq_true rfl, Nat.le_of_ble_eq_true rfl⟩) (fun H locs hP hD hS => ?_)
              refine W.eq (g2 := F0 m 86 ls (.ref (tkT_controllerOf_r ad (x0 >>> ((1 : Int32) &&& 31))) :: [])) rfl ?_
              by_cases h7_ : x0 >>> ((1 : Int32) &&& 31) = 0
              · refine tk_topr (show tkT_controllerOf_r ad (x0 >>> ((1 : Int32) &&& 31)) = ad 1 from if_pos h7_) ?_
                refine W.eq (g2 := F0 m 86 ls [.ref (ad 1)]) rfl ?_
                refine lv_iload_n hx hb dT_write_86 rfl (lv_at hl 2 rfl) ?_
                refine tk_call1 (cell := (ad 1, .inr (0, FC (g 1)))) (cell' := (ad 1, .inr (0, FC (tkC_takeSideOne_s (g 1) x1)))) 1 hP hD hS hA rfl rfl (va_runV (As := [.int x1]) (rest := []) ⟨hx, hb, hml, hown, hw⟩ (kC_takeSideOne l D (ad 1) (g 1) x1 H.size) (cwV 1 hw (tk_gV tkW_good wM_T_56 wI_C_takeSideOne wS_C_takeSideOne wZ_C wC_C_takeSideOne) rfl rfl rfl (by decide +kernel) ⟨Nat.le_of_ble_eq_true rfl, Nat.le_of_ble_eq_true rfl⟩) (tk_preV (q0 := 1) hK hN hP hD [1] [] rfl rfl rfl rfl rfl) rfl rfl hl.1 rfl (lv_room (Nat.le_of_ble_eq_true rfl)) dT_write_87 ⟨Nat.le_of_ble_eq_true rfl, Nat.le_of_ble_eq_true rfl⟩) (fun H locs hP hD hS => ?_)
                have hP : va_P D vwCl (WT ad cA (tk_up g 1 (tkC_takeSideOne_s (g 1) x1))) H := hP
                have hD : va_D A (WT ad cA (tk_up g 1 (tkC_takeSideOne_s (g 1) x1))) := hD
                refine W.eq (g2 := F0 m 90 ls []) rfl ?_
                refine lv_aload_n hx hb dT_write_90 rfl (lv_at hl 0 rfl) ?_
                refine tk_callA hD hS hA (va_runV (As := []) (rest := []) ⟨hx, hb, hml, hown, hw⟩ (kT_followLines l D ad cA (tk_up g 1 (tkC_takeSideOne_s (g 1) x1)) H.size) (cwV 0 hw (tk_gV tkW_good wM_T_59 wI_T_followLines wS_T_followLines wZ_T wC_T_followLines) rfl rfl rfl (by decide +kernel) ⟨Nat.le_of_ble_eq_true rfl, Nat.le_of_ble_eq_true rfl⟩) (tk_preT hK hN hP hD) rfl rfl hl.1 rfl (lv_room (Nat.le_of_ble_eq_true rfl)) dT_write_91 ⟨Nat.le_of_ble_eq_true rfl, Nat.le_of_ble_eq_true rfl⟩) (fun H locs hP hD hS => ?_)
                refine W.eq (g2 := F0 m 94 ls []) rfl ?_
                exact tk_vretX (Nat.le_of_ble_eq_true rfl) (Nat.le_of_ble_eq_true rfl) hx hb hr hlk hP hD hS dT_write_94 (by unfold tkT_write_k; rw [if_neg h1_, if_neg h2_, if_pos h3_, if_pos h4_]) (congrArg (WT ad cA) (by unfold tkT_write_s; rw [if_neg h1_, if_neg h2_, if_pos h3_, if_pos h4_, if_neg h5_, if_neg h6_, if_pos h7_]))
              · refine tk_topr (show tkT_controllerOf_r ad (x0 >>> ((1 : Int32) &&& 31)) = ad 2 from if_neg h7_) ?_
                refine W.eq (g2 := F0 m 86 ls [.ref (ad 2)]) rfl ?_
                refine lv_iload_n hx hb dT_write_86 rfl (lv_at hl 2 rfl) ?_
                refine tk_call1 (cell := (ad 2, .inr (0, FC (g 2)))) (cell' := (ad 2, .inr (0, FC (tkC_takeSideOne_s (g 2) x1)))) 2 hP hD hS hA rfl rfl (va_runV (As := [.int x1]) (rest := []) ⟨hx, hb, hml, hown, hw⟩ (kC_takeSideOne l D (ad 2) (g 2) x1 H.size) (cwV 1 hw (tk_gV tkW_good wM_T_56 wI_C_takeSideOne wS_C_takeSideOne wZ_C wC_C_takeSideOne) rfl rfl rfl (by decide +kernel) ⟨Nat.le_of_ble_eq_true rfl, Nat.le_of_ble_eq_true rfl⟩) (tk_preV (q0 := 2) hK hN hP hD [2] [] rfl rfl rfl rfl rfl) rfl rfl hl.1 rfl (lv_room (Nat.le_of_ble_eq_true rfl)) dT_write_87 ⟨Nat.le_of_ble_eq_true rfl, Nat.le_of_ble_eq_true rfl⟩) (fun H locs hP hD hS => ?_)
                have hP : va_P D vwCl (WT ad cA (tk_up g 2 (tkC_takeSideOne_s (g 2) x1))) H := hP
                have hD : va_D A (WT ad cA (tk_up g 2 (tkC_takeSideOne_s (g 2) x1))) := hD
                refine W.eq (g2 := F0 m 90 ls []) rfl ?_
                refine lv_aload_n hx hb dT_write_90 rfl (lv_at hl 0 rfl) ?_
                refine tk_callA hD hS hA (va_runV (As := []) (rest := []) ⟨hx, hb, hml, hown, hw⟩ (kT_followLines l D ad cA (tk_up g 2 (tkC_takeSideOne_s (g 2) x1)) H.size) (cwV 0 hw (tk_gV tkW_good wM_T_59 wI_T_followLines wS_T_followLines wZ_T wC_T_followLines) rfl rfl rfl (by decide +kernel) ⟨Nat.le_of_ble_eq_true rfl, Nat.le_of_ble_eq_true rfl⟩) (tk_preT hK hN hP hD) rfl rfl hl.1 rfl (lv_room (Nat.le_of_ble_eq_true rfl)) dT_write_91 ⟨Nat.le_of_ble_eq_true rfl, Nat.le_of_ble_eq_true rfl⟩) (fun H locs hP hD hS => ?_)
                refine W.eq (g2 := F0 m 94 ls []) rfl ?_
                exact tk_vretX (Nat.le_of_ble_eq_true rfl) (Nat.le_of_ble_eq_true rfl) hx hb hr hlk hP hD hS dT_write_94 (by unfold tkT_write_k; rw [if_neg h1_, if_neg h2_, if_pos h3_, if_pos h4_]) (congrArg (WT ad cA) (by unfold tkT_write_s; rw [if_neg h1_, if_neg h2_, if_pos h3_, if_pos h4_, if_neg h5_, if_neg h6_, if_neg h7_]))
            · refine lv_aload_n hx hb dT_write_65 rfl (lv_at hl 0 rfl) ?_
              refine lv_iload_n hx hb dT_write_66 rfl (lv_at hl 1 rfl) ?_
              refine lv_iconst (v := 1) hx hb dT_write_67 (by decide) ?_
              refine lv_ishr hx hb dT_write_68 ?_
              refine tk_callA hD hS hA (va_runV (As := [.int (x0 >>> ((1 : Int32) &&& 31))]) (rest := []) ⟨hx, hb, hml, hown, hw⟩ (kT_controllerOf l D ad cA g (x0 >>> ((1 : Int32) &&& 31)) H.size) (cwV 1 hw (tk_gV tkW_good wM_T_49 wI_T_controllerOf wS_T_controllerOf wZ_T wC_T_controllerOf) rfl rfl rfl (by decide +kernel) ⟨Nat.le_of_ble_eq_true rfl, Nat.le_of_ble_eq_true rfl⟩) (tk_preT hK hN hP hD) rfl rfl hl.1 rfl (lv_room (Nat.le_of_ble_eq_true rfl)) dT_write_69 ⟨Nat.le_of_ble_eq_true rfl, Nat.le_of_ble_eq_true rfl⟩) (fun H locs hP hD hS => ?_)
              refine W.eq (g2 := F0 m 72 ls (.ref (tkT_controllerOf_r ad (x0 >>> ((1 : Int32) &&& 31))) :: [])) rfl ?_
              by_cases h8_ : x0 >>> ((1 : Int32) &&& 31) = 0
              · refine tk_topr (show tkT_controllerOf_r ad (x0 >>> ((1 : Int32) &&& 31)) = ad 1 from if_pos h8_) ?_
                refine W.eq (g2 := F0 m 72 ls [.ref (ad 1)]) rfl ?_
                refine lv_iload_n hx hb dT_write_72 rfl (lv_at hl 2 rfl) ?_
                refine tk_call1 (cell := (ad 1, .inr (0, FC (g 1)))) (cell' := (ad 1, .inr (0, FC (tkC_takeSideZero_s (g 1) x1)))) 1 hP hD hS hA rfl rfl (va_runV (As := [.int x1]) (rest := []) ⟨hx, hb, hml, hown, hw⟩ (kC_takeSideZero l D (ad 1) (g 1) x1 H.size) (cwV 1 hw (tk_gV tkW_good wM_T_53 wI_C_takeSideZero wS_C_takeSideZero wZ_C wC_C_takeSideZero) rfl rfl rfl (by decide +kernel) ⟨Nat.le_of_ble_eq_true rfl, Nat.le_of_ble_eq_true rfl⟩) (tk_preV (q0 := 1) hK hN hP hD [1] [] rfl rfl rfl rfl rfl) rfl rfl hl.1 rfl (lv_room (Nat.le_of_ble_eq_true rfl)) dT_write_73 ⟨Nat.le_of_ble_eq_true rfl, Nat.le_of_ble_eq_true rfl⟩) (fun H locs hP hD hS => ?_)
                have hP : va_P D vwCl (WT ad cA (tk_up g 1 (tkC_takeSideZero_s (g 1) x1))) H := hP
                have hD : va_D A (WT ad cA (tk_up g 1 (tkC_takeSideZero_s (g 1) x1))) := hD
                refine W.eq (g2 := F0 m 76 ls []) rfl ?_
                refine lv_goto (tgt := 90) hx hb dT_write_76 (by decide) ?_
                refine lv_aload_n hx hb dT_write_90 rfl (lv_at hl 0 rfl) ?_
                refine tk_callA hD hS hA (va_runV (As := []) (rest := []) ⟨hx, hb, hml, hown, hw⟩ (kT_followLines l D ad cA (tk_up g 1 (tkC_takeSideZero_s (g 1) x1)) H.size) (cwV 0 hw (tk_gV tkW_good wM_T_59 wI_T_followLines wS_T_followLines wZ_T wC_T_followLines) rfl rfl rfl (by decide +kernel) ⟨Nat.le_of_ble_eq_true rfl, Nat.le_of_ble_eq_true rfl⟩) (tk_preT hK hN hP hD) rfl rfl hl.1 rfl (lv_room (Nat.le_of_ble_eq_true rfl)) dT_write_91 ⟨Nat.le_of_ble_eq_true rfl, Nat.le_of_ble_eq_true rfl⟩) (fun H locs hP hD hS => ?_)
                refine W.eq (g2 := F0 m 94 ls []) rfl ?_
                exact tk_vretX (Nat.le_of_ble_eq_true rfl) (Nat.le_of_ble_eq_true rfl) hx hb hr hlk hP hD hS dT_write_94 (by unfold tkT_write_k; rw [if_neg h1_, if_neg h2_, if_pos h3_, if_pos h4_]) (congrArg (WT ad cA) (by unfold tkT_write_s; rw [if_neg h1_, if_neg h2_, if_pos h3_, if_pos h4_, if_neg h5_, if_pos h6_, if_pos h8_]))
              · refine tk_topr (show tkT_controllerOf_r ad (x0 >>> ((1 : Int32) &&& 31)) = ad 2 from if_neg h8_) ?_
                refine W.eq (g2 := F0 m 72 ls [.ref (ad 2)]) rfl ?_
                refine lv_iload_n hx hb dT_write_72 rfl (lv_at hl 2 rfl) ?_
                refine tk_call1 (cell := (ad 2, .inr (0, FC (g 2)))) (cell' := (ad 2, .inr (0, FC (tkC_takeSideZero_s (g 2) x1)))) 2 hP hD hS hA rfl rfl (va_runV (As := [.int x1]) (rest := []) ⟨hx, hb, hml, hown, hw⟩ (kC_takeSideZero l D (ad 2) (g 2) x1 H.size) (cwV 1 hw (tk_gV tkW_good wM_T_53 wI_C_takeSideZero wS_C_takeSideZero wZ_C wC_C_takeSideZero) rfl rfl rfl (by decide +kernel) ⟨Nat.le_of_ble_eq_true rfl, Nat.le_of_ble_eq_true rfl⟩) (tk_preV (q0 := 2) hK hN hP hD [2] [] rfl rfl rfl rfl rfl) rfl rfl hl.1 rfl (lv_room (Nat.le_of_ble_eq_true rfl)) dT_write_73 ⟨Nat.le_of_ble_eq_true rfl, Nat.le_of_ble_eq_true rfl⟩) (fun H locs hP hD hS => ?_)
                have hP : va_P D vwCl (WT ad cA (tk_up g 2 (tkC_takeSideZero_s (g 2) x1))) H := hP
                have hD : va_D A (WT ad cA (tk_up g 2 (tkC_takeSideZero_s (g 2) x1))) := hD
                refine W.eq (g2 := F0 m 76 ls []) rfl ?_
                refine lv_goto (tgt := 90) hx hb dT_write_76 (by decide) ?_
                refine lv_aload_n hx hb dT_write_90 rfl (lv_at hl 0 rfl) ?_
                refine tk_callA hD hS hA (va_runV (As := []) (rest := []) ⟨hx, hb, hml, hown, hw⟩ (kT_followLines l D ad cA (tk_up g 2 (tkC_takeSideZero_s (g 2) x1)) H.size) (cwV 0 hw (tk_gV tkW_good wM_T_59 wI_T_followLines wS_T_followLines wZ_T wC_T_followLines) rfl rfl rfl (by decide +kernel) ⟨Nat.le_of_ble_eq_true rfl, Nat.le_of_ble_eq_true rfl⟩) (tk_preT hK hN hP hD) rfl rfl hl.1 rfl (lv_room (Nat.le_of_ble_eq_true rfl)) dT_write_91 ⟨Nat.le_of_ble_eq_true rfl, Nat.le_of_ble_eq_true rfl⟩) (fun H locs hP hD hS => ?_)
                refine W.eq (g2 := F0 m 94 ls []) rfl ?_
                exact tk_vretX (Nat.le_of_ble_eq_true rfl) (Nat.le_of_ble_eq_true rfl) hx hb hr hlk hP hD hS dT_write_94 (by unfold tkT_write_k; rw [if_neg h1_, if_neg h2_, if_pos h3_, if_pos h4_]) (congrArg (WT ad cA) (by unfold tkT_write_s; rw [if_neg h1_, if_neg h2_, if_pos h3_, if_pos h4_, if_neg h5_, if_pos h6_, if_neg h8_]))
          · refine lv_aload_n hx hb dT_write_51 rfl (lv_at hl 0 rfl) ?_
            refine lv_iload_n hx hb dT_write_52 rfl (lv_at hl 2 rfl) ?_
            refine tk_callA hD hS hA (va_runV (As := [.int x1]) (rest := []) ⟨hx, hb, hml, hown, hw⟩ (kT_takeControl l D ad cA g x1 H.size) (cwV 1 hw (tk_gV tkW_good wM_T_46 wI_T_takeControl wS_T_takeControl wZ_T wC_T_takeControl) rfl rfl rfl (by decide +kernel) ⟨Nat.le_of_ble_eq_true rfl, Nat.le_of_ble_eq_true rfl⟩) (tk_preT hK hN hP hD) rfl rfl hl.1 rfl (lv_room (Nat.le_of_ble_eq_true rfl)) dT_write_53 ⟨Nat.le_of_ble_eq_true rfl, Nat.le_of_ble_eq_true rfl⟩) (fun H locs hP hD hS => ?_)
            refine W.eq (g2 := F0 m 56 ls []) rfl ?_
            refine lv_goto (tgt := 90) hx hb dT_write_56 (by decide) ?_
            refine lv_aload_n hx hb dT_write_90 rfl (lv_at hl 0 rfl) ?_
            refine tk_callA hD hS hA (va_runV (As := []) (rest := []) ⟨hx, hb, hml, hown, hw⟩ (kT_followLines l D ad cA (tkT_takeControl_s g x1) H.size) (cwV 0 hw (tk_gV tkW_good wM_T_59 wI_T_followLines wS_T_followLines wZ_T wC_T_followLines) rfl rfl rfl (by decide +kernel) ⟨Nat.le_of_ble_eq_true rfl, Nat.le_of_ble_eq_true rfl⟩) (tk_preT hK hN hP hD) rfl rfl hl.1 rfl (lv_room (Nat.le_of_ble_eq_true rfl)) dT_write_91 ⟨Nat.le_of_ble_eq_true rfl, Nat.le_of_ble_eq_true rfl⟩) (fun H locs hP hD hS => ?_)
            refine W.eq (g2 := F0 m 94 ls []) rfl ?_
            exact tk_vretX (Nat.le_of_ble_eq_true rfl) (Nat.le_of_ble_eq_true rfl) hx hb hr hlk hP hD hS dT_write_94 (by unfold tkT_write_k; rw [if_neg h1_, if_neg h2_, if_pos h3_, if_pos h4_]) (congrArg (WT ad cA) (by unfold tkT_write_s; rw [if_neg h1_, if_neg h2_, if_pos h3_, if_pos h4_, if_pos h5_]))
        · refine lv_aload_n hx hb dT_write_33 rfl (lv_at hl 0 rfl) ?_
          refine lv_iload_n hx hb dT_write_34 rfl (lv_at hl 1 rfl) ?_
          rcases (tkT_isCounter_c (x0 - 4) h4_) with h9_ | h9_ | h9_
          · refine tk_callX hD hS hA (vx_runV (As := [.int x0]) (rest := []) ⟨hx, hb, hml, hown, hw⟩ (kT_counterWithMode l hl9 D ad cA g x0 (Or.inl h9_) H.size) (cwV 1 hw (tk_gV tkW_good wM_T_38 wI_T_counterWithMode wS_T_counterWithMode wZ_T wC_T_counterWithMode) rfl rfl rfl (by decide +kernel) ⟨Nat.le_of_ble_eq_true rfl, Nat.le_of_ble_eq_true rfl⟩) (tk_preTX hE hS hA hK hN hP hD) rfl rfl hl.1 rfl (lv_room (Nat.le_of_ble_eq_true rfl)) dT_write_35 ⟨Nat.le_of_ble_eq_true rfl, Nat.le_of_ble_eq_true rfl⟩) (fun E ce q9 H locs hEk hP hS hce hcv hcl => tk_outX (Nat.le_of_ble_eq_true rfl) (Nat.le_of_ble_eq_true rfl) hEx hlk hP hS hce hcv hcl hEk (by unfold tkT_write_k; rw [if_neg h1_, if_neg h2_, if_pos h3_, if_neg h4_])) (fun h10_ H locs hP hD hS => ?_)
            refine W.eq (g2 := F0 m 38 ls (.ref (tkT_counterWithMode_r ad x0) :: [])) rfl ?_
            refine tk_topr (show tkT_counterWithMode_r ad x0 = ad 4 from (by unfold tkT_counterWithMode_r; rw [if_pos h9_])) ?_
            refine W.eq (g2 := F0 m 38 ls [.ref (ad 4)]) rfl ?_
            refine lv_iload_n hx hb dT_write_38 rfl (lv_at hl 2 rfl) ?_
            refine tk_call1 (cell := (ad 4, .inr (1, FN (g 4)))) (cell' := (ad 4, .inr (1, FN (tkN_takeByte_s (g 4) x1)))) 4 hP hD hS hA rfl rfl (va_runV (As := [.int x1]) (rest := []) ⟨hx, hb, hml, hown, hw⟩ (kN_takeByte l D (ad 4) (g 4) x1 H.size) (cwV 1 hw (tk_gV tkW_good wM_T_42 wI_N_takeByte wS_N_takeByte wZ_N wC_N_takeByte) rfl rfl rfl (by decide +kernel) ⟨Nat.le_of_ble_eq_true rfl, Nat.le_of_ble_eq_true rfl⟩) (tk_preV (q0 := 4) hK hN hP hD [4] [] rfl rfl rfl rfl rfl) rfl rfl hl.1 rfl (lv_room (Nat.le_of_ble_eq_true rfl)) dT_write_39 ⟨Nat.le_of_ble_eq_true rfl, Nat.le_of_ble_eq_true rfl⟩) (fun H locs hP hD hS => ?_)
            have hP : va_P D vwCl (WT ad cA (tk_up g 4 (tkN_takeByte_s (g 4) x1))) H := hP
            have hD : va_D A (WT ad cA (tk_up g 4 (tkN_takeByte_s (g 4) x1))) := hD
            refine W.eq (g2 := F0 m 42 ls []) rfl ?_
            refine lv_goto (tgt := 90) hx hb dT_write_42 (by decide) ?_
            refine lv_aload_n hx hb dT_write_90 rfl (lv_at hl 0 rfl) ?_
            refine tk_callA hD hS hA (va_runV (As := []) (rest := []) ⟨hx, hb, hml, hown, hw⟩ (kT_followLines l D ad cA (tk_up g 4 (tkN_takeByte_s (g 4) x1)) H.size) (cwV 0 hw (tk_gV tkW_good wM_T_59 wI_T_followLines wS_T_followLines wZ_T wC_T_followLines) rfl rfl rfl (by decide +kernel) ⟨Nat.le_of_ble_eq_true rfl, Nat.le_of_ble_eq_true rfl⟩) (tk_preT hK hN hP hD) rfl rfl hl.1 rfl (lv_room (Nat.le_of_ble_eq_true rfl)) dT_write_91 ⟨Nat.le_of_ble_eq_true rfl, Nat.le_of_ble_eq_true rfl⟩) (fun H locs hP hD hS => ?_)
            refine W.eq (g2 := F0 m 94 ls []) rfl ?_
            exact tk_vretX (Nat.le_of_ble_eq_true rfl) (Nat.le_of_ble_eq_true rfl) hx hb hr hlk hP hD hS dT_write_94 (Eq.trans (by unfold tkT_write_k; rw [if_neg h1_, if_neg h2_, if_pos h3_, if_neg h4_]) h10_) (congrArg (WT ad cA) (by unfold tkT_write_s; rw [if_neg h1_, if_neg h2_, if_pos h3_, if_neg h4_, if_pos h9_]))
          · have h11_ : ¬ x0 - 4 = 0 := by rw [h9_]; decide
            refine tk_callX hD hS hA (vx_runV (As := [.int x0]) (rest := []) ⟨hx, hb, hml, hown, hw⟩ (kT_counterWithMode l hl9 D ad cA g x0 (Or.inr (Or.inl h9_)) H.size) (cwV 1 hw (tk_gV tkW_good wM_T_38 wI_T_counterWithMode wS_T_counterWithMode wZ_T wC_T_counterWithMode) rfl rfl rfl (by decide +kernel) ⟨Nat.le_of_ble_eq_true rfl, Nat.le_of_ble_eq_true rfl⟩) (tk_preTX hE hS hA hK hN hP hD) rfl rfl hl.1 rfl (lv_room (Nat.le_of_ble_eq_true rfl)) dT_write_35 ⟨Nat.le_of_ble_eq_true rfl, Nat.le_of_ble_eq_true rfl⟩) (fun E ce q9 H locs hEk hP hS hce hcv hcl => tk_outX (Nat.le_of_ble_eq_true rfl) (Nat.le_of_ble_eq_true rfl) hEx hlk hP hS hce hcv hcl hEk (by unfold tkT_write_k; rw [if_neg h1_, if_neg h2_, if_pos h3_, if_neg h4_])) (fun h12_ H locs hP hD hS => ?_)
            refine W.eq (g2 := F0 m 38 ls (.ref (tkT_counterWithMode_r ad x0) :: [])) rfl ?_
            refine tk_topr (show tkT_counterWithMode_r ad x0 = ad 5 from (by unfold tkT_counterWithMode_r; rw [if_neg h11_, if_pos h9_])) ?_
            refine W.eq (g2 := F0 m 38 ls [.ref (ad 5)]) rfl ?_
            refine lv_iload_n hx hb dT_write_38 rfl (lv_at hl 2 rfl) ?_
            refine tk_call1 (cell := (ad 5, .inr (1, FN (g 5)))) (cell' := (ad 5, .inr (1, FN (tkN_takeByte_s (g 5) x1)))) 5 hP hD hS hA rfl rfl (va_runV (As := [.int x1]) (rest := []) ⟨hx, hb, hml, hown, hw⟩ (kN_takeByte l D (ad 5) (g 5) x1 H.size) (cwV 1 hw (tk_gV tkW_good wM_T_42 wI_N_takeByte wS_N_takeByte wZ_N wC_N_takeByte) rfl rfl rfl (by decide +kernel) ⟨Nat.le_of_ble_eq_true rfl, Nat.le_of_ble_eq_true rfl⟩) (tk_preV (q0 := 5) hK hN hP hD [5] [] rfl rfl rfl rfl rfl) rfl rfl hl.1 rfl (lv_room (Nat.le_of_ble_eq_true rfl)) dT_write_39 ⟨Nat.le_of_ble_eq_true rfl, Nat.le_of_ble_eq_true rfl⟩) (fun H locs hP hD hS => ?_)
            have hP : va_P D vwCl (WT ad cA (tk_up g 5 (tkN_takeByte_s (g 5) x1))) H := hP
            have hD : va_D A (WT ad cA (tk_up g 5 (tkN_takeByte_s (g 5) x1))) := hD
            refine W.eq (g2 := F0 m 42 ls []) rfl ?_
            refine lv_goto (tgt := 90) hx hb dT_write_42 (by decide) ?_
            refine lv_aload_n hx hb dT_write_90 rfl (lv_at hl 0 rfl) ?_
            refine tk_callA hD hS hA (va_runV (As := []) (rest := []) ⟨hx, hb, hml, hown, hw⟩ (kT_followLines l D ad cA (tk_up g 5 (tkN_takeByte_s (g 5) x1)) H.size) (cwV 0 hw (tk_gV tkW_good wM_T_59 wI_T_followLines wS_T_followLines wZ_T wC_T_followLines) rfl rfl rfl (by decide +kernel) ⟨Nat.le_of_ble_eq_true rfl, Nat.le_of_ble_eq_true rfl⟩) (tk_preT hK hN hP hD) rfl rfl hl.1 rfl (lv_room (Nat.le_of_ble_eq_true rfl)) dT_write_91 ⟨Nat.le_of_ble_eq_true rfl, Nat.le_of_ble_eq_true rfl⟩) (fun H locs hP hD hS => ?_)
            refine W.eq (g2 := F0 m 94 ls []) rfl ?_
            exact tk_vretX (Nat.le_of_ble_eq_true rfl) (Nat.le_of_ble_eq_true rfl) hx hb hr hlk hP hD hS dT_write_94 (Eq.trans (by unfold tkT_write_k; rw [if_neg h1_, if_neg h2_, if_pos h3_, if_neg h4_]) h12_) (congrArg (WT ad cA) (by unfold tkT_write_s; rw [if_neg h1_, if_neg h2_, if_pos h3_, if_neg h4_, if_neg h11_, if_pos h9_]))
          · have h13_ : ¬ x0 - 4 = 0 := by rw [h9_]; decide
            have h14_ : ¬ x0 - 4 = 1 := by rw [h9_]; decide
            refine tk_callX hD hS hA (vx_runV (As := [.int x0]) (rest := []) ⟨hx, hb, hml, hown, hw⟩ (kT_counterWithMode l hl9 D ad cA g x0 (Or.inr (Or.inr h9_)) H.size) (cwV 1 hw (tk_gV tkW_good wM_T_38 wI_T_counterWithMode wS_T_counterWithMode wZ_T wC_T_counterWithMode) rfl rfl rfl (by decide +kernel) ⟨Nat.le_of_ble_eq_true rfl, Nat.le_of_ble_eq_true rfl⟩) (tk_preTX hE hS hA hK hN hP hD) rfl rfl hl.1 rfl (lv_room (Nat.le_of_ble_eq_true rfl)) dT_write_35 ⟨Nat.le_of_ble_eq_true rfl, Nat.le_of_ble_eq_true rfl⟩) (fun E ce q9 H locs hEk hP hS hce hcv hcl => tk_outX (Nat.le_of_ble_eq_true rfl) (Nat.le_of_ble_eq_true rfl) hEx hlk hP hS hce hcv hcl hEk (by unfold tkT_write_k; rw [if_neg h1_, if_neg h2_, if_pos h3_, if_neg h4_])) (fun h15_ H locs hP hD hS => ?_)
            refine W.eq (g2 := F0 m 38 ls (.ref (tkT_counterWithMode_r ad x0) :: [])) rfl ?_
            refine tk_topr (show tkT_counterWithMode_r ad x0 = ad 6 from (by unfold tkT_counterWithMode_r; rw [if_neg h13_, if_neg h14_])) ?_
            refine W.eq (g2 := F0 m 38 ls [.ref (ad 6)]) rfl ?_
            refine lv_iload_n hx hb dT_write_38 rfl (lv_at hl 2 rfl) ?_
            refine tk_call1 (cell := (ad 6, .inr (1, FN (g 6)))) (cell' := (ad 6, .inr (1, FN (tkN_takeByte_s (g 6) x1)))) 6 hP hD hS hA rfl rfl (va_runV (As := [.int x1]) (rest := []) ⟨hx, hb, hml, hown, hw⟩ (kN_takeByte l D (ad 6) (g 6) x1 H.size) (cwV 1 hw (tk_gV tkW_good wM_T_42 wI_N_takeByte wS_N_takeByte wZ_N wC_N_takeByte) rfl rfl rfl (by decide +kernel) ⟨Nat.le_of_ble_eq_true rfl, Nat.le_of_ble_eq_true rfl⟩) (tk_preV (q0 := 6) hK hN hP hD [6] [] rfl rfl rfl rfl rfl) rfl rfl hl.1 rfl (lv_room (Nat.le_of_ble_eq_true rfl)) dT_write_39 ⟨Nat.le_of_ble_eq_true rfl, Nat.le_of_ble_eq_true rfl⟩) (fun H locs hP hD hS => ?_)
            have hP : va_P D vwCl (WT ad cA (tk_up g 6 (tkN_takeByte_s (g 6) x1))) H := hP
            have hD : va_D A (WT ad cA (tk_up g 6 (tkN_takeByte_s (g 6) x1))) := hD
            refine W.eq (g2 := F0 m 42 ls []) rfl ?_
            refine lv_goto (tgt := 90) hx hb dT_write_42 (by decide) ?_
            refine lv_aload_n hx hb dT_write_90 rfl (lv_at hl 0 rfl) ?_
            refine tk_callA hD hS hA (va_runV (As := []) (rest := []) ⟨hx, hb, hml, hown, hw⟩ (kT_followLines l D ad cA (tk_up g 6 (tkN_takeByte_s (g 6) x1)) H.size) (cwV 0 hw (tk_gV tkW_good wM_T_59 wI_T_followLines wS_T_followLines wZ_T wC_T_followLines) rfl rfl rfl (by decide +kernel) ⟨Nat.le_of_ble_eq_true rfl, Nat.le_of_ble_eq_true rfl⟩) (tk_preT hK hN hP hD) rfl rfl hl.1 rfl (lv_room (Nat.le_of_ble_eq_true rfl)) dT_write_91 ⟨Nat.le_of_ble_eq_true rfl, Nat.le_of_ble_eq_true rfl⟩) (fun H locs hP hD hS => ?_)
            refine W.eq (g2 := F0 m 94 ls []) rfl ?_
            exact tk_vretX (Nat.le_of_ble_eq_true rfl) (Nat.le_of_ble_eq_true rfl) hx hb hr hlk hP hD hS dT_write_94 (Eq.trans (by unfold tkT_write_k; rw [if_neg h1_, if_neg h2_, if_pos h3_, if_neg h4_]) h15_) (congrArg (WT ad cA) (by unfold tkT_write_s; rw [if_neg h1_, if_neg h2_, if_pos h3_, if_neg h4_, if_neg h13_, if_neg h14_]))
      · exact vx_throw0 (own := RT) (cls := "java/lang/IllegalArgumentException") (names := ["java/lang/RuntimeException", "java/lang/Exception"]) hx hb hl9 hown (by decide +kernel) (by decide +kernel) (hw _ wL_T_32) (hw _ wZ_IllegalArgumentException) (vx_hat (L := vx_at0 RT 34 "java/lang/IllegalArgumentException" ["java/lang/RuntimeException", "java/lang/Exception"]) (B := [.castable "java/lang/IllegalArgumentException" "java/lang/IllegalArgumentException", .declares ⟨"java/lang/RuntimeException", "<init>", "()V"⟩, .declares ⟨"java/lang/Exception", "<init>", "()V"⟩, .declares ⟨"java/lang/Throwable", "<init>", "()V"⟩]) (fun w h => hw w (tkW_inA w h)) (by decide +kernel) (vx_c (va_Nw.use rfl (hN (.castable "java/lang/IllegalArgumentException" "java/lang/IllegalArgumentException") (by decide +kernel))) (vx_c (va_Nw.use rfl (hN (.declares ⟨"java/lang/RuntimeException", "<init>", "()V"⟩) (by decide +kernel))) (vx_c (va_Nw.use rfl (hN (.declares ⟨"java/lang/Exception", "<init>", "()V"⟩) (by decide +kernel))) (vx_c (va_Nw.use rfl (hN (.declares ⟨"java/lang/Throwable", "<init>", "()V"⟩) (by decide +kernel))) vx_n))))) (by decide +kernel) hE.1 hE.2 hS (hl.1.trans hml.symm) dT_write_18 dT_write_21 dT_write_22 dT_write_25 (fun x hx => (hEx x hx).elim) (Nat.le_of_ble_eq_true rfl) (Nat.le_of_ble_eq_true rfl) (Nat.le_of_ble_eq_true rfl) (Nat.le_of_ble_eq_true rfl) hlk (tk_xc hP hS (Or.inl ⟨(by unfold tkT_write_k; rw [if_neg h1_, if_neg h2_, if_neg h3_]), rfl⟩)) hS.2.2 (Nat.le_of_ble_eq_true rfl) (Nat.le_of_ble_eq_true rfl)
def tkT_read_r (g : Nat → Nat → Int32) (x0 : Int32) : Int32 :=
  if tkT_isPort_r x0 = 0 then 0
  else if x0 = 7 then 0
    else if tkT_isCounterPort_r x0 = 0 then (if x0 &&& 1 = 0 then (if x0 >>> ((1 : Int32) &&& 31) = 0 then tkC_giveSideZero_r (g 1)
          else tkC_giveSideZero_r (g 2))
        else if x0 >>> ((1 : Int32) &&& 31) = 0 then (g 1) 3
          else (g 2) 3)
      else if x0 - 4 = 0 then tkN_giveByte_r (g 4)
        else if x0 - 4 = 1 then tkN_giveByte_r (g 5)
          else tkN_giveByte_r (g 6)
def tkT_read_s (g : Nat → Nat → Int32) (x0 : Int32) : Nat → Nat → Int32 :=
  if tkT_isPort_r x0 = 0 then g
  else if x0 = 7 then g
    else if tkT_isCounterPort_r x0 = 0 then (if x0 &&& 1 = 0 then (if x0 >>> ((1 : Int32) &&& 31) = 0 then tkT_followLines_s (tk_up g 1 (tkC_giveSideZero_s (g 1)))
          else tkT_followLines_s (tk_up g 2 (tkC_giveSideZero_s (g 2))))
        else tkT_followLines_s g)
      else if x0 - 4 = 0 then tkT_followLines_s (tk_up g 4 (tkN_giveByte_s (g 4)))
        else if x0 - 4 = 1 then tkT_followLines_s (tk_up g 5 (tkN_giveByte_s (g 5)))
          else tkT_followLines_s (tk_up g 6 (tkN_giveByte_s (g 6)))
def tkT_read_k (g : Nat → Nat → Int32) (x0 : Int32) : Int32 :=
  if tkT_isPort_r x0 = 0 then 1
  else if x0 = 7 then 1
    else if tkT_isCounterPort_r x0 = 0 then 0
      else tkT_counterWithMode_k g x0
set_option maxHeartbeats 1000000 in
set_option maxRecDepth 100000 in
theorem kT_read (l : Launch) (hl9 : l.stackTraces = false) (D : va_G) (ad : Nat → Nat) (cA : ClassId) (g : Nat → Nat → Int32) (x0 : Int32) : tk_MX l yT_read wsT_read { frames := 7, cells := 1, slots := 6, locals := 103 } D [(cA, .object "TickLines$Counter")] [.ref (ad 0), .int x0] (WT ad cA g) (WT ad cA (tkT_read_s g x0)) (some (.int (tkT_read_r g x0))) (tkT_read_k g x0) := by
  refine tk_MX.of (cc := cT_read) (maxL := 3) (ret := (some .int)) (by decide) rfl (Nat.le_of_ble_eq_true rfl) ?_
  intro p e s m below meth co A H locs ls hB hEx hE hK hN hA hP hD hS hl
  obtain ⟨hx, hb, hr, hml, hown, hlk, hnm, hts⟩ := hB
  have hown : s.vm.findClass RT = some m.cls := hown
  have hl : lv_has ls 3 [(0, .ref (ad 0)), (1, .int x0)] := hl
  have hw : ∀ w ∈ tkW, w.before _ s = true := fun w h => hts w (List.mem_cons_of_mem _ h)
  refine lv_iload_n hx hb dT_read_0 rfl (lv_at hl 1 rfl) ?_
  refine tk_call0 hP hD hS hA (va_runS (As := [.int x0]) (rest := []) ⟨hx, hb, hml, hown, hw⟩ (kT_isPort l D x0 H.size) (va_cwS 1 hw (tk_gS tkW_good wM_T_28 wT_T_isPort wZ_T wC_T_isPort) rfl rfl rfl (by decide +kernel) ⟨Nat.le_of_ble_eq_true rfl, Nat.le_of_ble_eq_true rfl⟩) (tk_preS hK hN hP hD [] [] rfl rfl rfl) rfl rfl hl.1 rfl (lv_room (Nat.le_of_ble_eq_true rfl)) dT_read_1 ⟨Nat.le_of_ble_eq_true rfl, Nat.le_of_ble_eq_true rfl⟩) (fun H locs hP hD hS => ?_)
  refine W.eq (g2 := F0 m 4 ls [.int (tkT_isPort_r x0)]) rfl ?_
  refine lv_if_eq (tgt := 13) hx hb dT_read_4 (by decide) (fun (h1_ : tkT_isPort_r x0 = 0) => ?_) (fun (h1_ : ¬ (tkT_isPort_r x0 = 0)) => ?_)
  · exact vx_throw0 (own := RT) (cls := "java/lang/IllegalArgumentException") (names := ["java/lang/RuntimeException", "java/lang/Exception"]) hx hb hl9 hown (by decide +kernel) (by decide +kernel) (hw _ wL_T_32) (hw _ wZ_IllegalArgumentException) (vx_hat (L := vx_at0 RT 34 "java/lang/IllegalArgumentException" ["java/lang/RuntimeException", "java/lang/Exception"]) (B := [.castable "java/lang/IllegalArgumentException" "java/lang/IllegalArgumentException", .declares ⟨"java/lang/RuntimeException", "<init>", "()V"⟩, .declares ⟨"java/lang/Exception", "<init>", "()V"⟩, .declares ⟨"java/lang/Throwable", "<init>", "()V"⟩]) (fun w h => hw w (tkW_inA w h)) (by decide +kernel) (vx_c (va_Nw.use rfl (hN (.castable "java/lang/IllegalArgumentException" "java/lang/IllegalArgumentException") (by decide +kernel))) (vx_c (va_Nw.use rfl (hN (.declares ⟨"java/lang/RuntimeException", "<init>", "()V"⟩) (by decide +kernel))) (vx_c (va_Nw.use rfl (hN (.declares ⟨"java/lang/Exception", "<init>", "()V"⟩) (by decide +kernel))) (vx_c (va_Nw.use rfl (hN (.declares ⟨"java/lang/Throwable", "<init>", "()V"⟩) (by decide +kernel))) vx_n))))) (by decide +kernel) hE.1 hE.2 hS (hl.1.trans hml.symm) dT_read_13 dT_read_16 dT_read_17 dT_read_20 (fun x hx => (hEx x hx).elim) (Nat.le_of_ble_eq_true rfl) (Nat.le_of_ble_eq_true rfl) (Nat.le_of_ble_eq_true rfl) (Nat.le_of_ble_eq_true rfl) hlk (tk_xc hP hS (Or.inl ⟨(by unfold tkT_read_k; rw [if_pos h1_]), rfl⟩)) hS.2.2 (Nat.le_of_ble_eq_true rfl) (Nat.le_of_ble_eq_true rfl)
  · refine lv_iload_n hx hb dT_read_7 rfl (lv_at hl 1 rfl) ?_
    refine lv_bipush (v := 7) hx hb dT_read_8 (by decide) ?_
    refine lv_icmp_ne (tgt := 21) hx hb dT_read_10 (by decide) (fun (h2_ : ¬ (x0 = 7)) => ?_) (fun (h2_ : x0 = 7) => ?_)
    · refine lv_iload_n hx hb dT_read_21 rfl (lv_at hl 1 rfl) ?_
      refine tk_call0 hP hD hS hA (va_runS (As := [.int x0]) (rest := []) ⟨hx, hb, hml, hown, hw⟩ (kT_isCounterPort l D x0 H.size) (va_cwS 1 hw (tk_gS tkW_good wM_T_35 wT_T_isCounterPort wZ_T wC_T_isCounterPort) rfl rfl rfl (by decide +kernel) ⟨Nat.le_of_ble_eq_true rfl, Nat.le_of_ble_eq_true rfl⟩) (tk_preS hK hN hP hD [] [] rfl rfl rfl) rfl rfl hl.1 rfl (lv_room (Nat.le_of_ble_eq_true rfl)) dT_read_22 ⟨Nat.le_of_ble_eq_true rfl, Nat.le_of_ble_eq_true rfl⟩) (fun H locs hP hD hS => ?_)
      refine W.eq (g2 := F0 m 25 ls [.int (tkT_isCounterPort_r x0)]) rfl ?_
      refine lv_if_eq (tgt := 40) hx hb dT_read_25 (by decide) (fun (h3_ : tkT_isCounterPort_r x0 = 0) => ?_) (fun (h3_ : ¬ (tkT_isCounterPort_r x0 = 0)) => ?_)
      · refine lv_iload_n hx hb dT_read_40 rfl (lv_at hl 1 rfl) ?_
        refine lv_iconst (v := 1) hx hb dT_read_41 (by decide) ?_
        refine lv_iand hx hb dT_read_42 ?_
        refine lv_if_ne (tgt := 60) hx hb dT_read_43 (by decide) (fun (h4_ : ¬ (x0 &&& 1 = 0)) => ?_) (fun (h4_ : x0 &&& 1 = 0) => ?_)
        · refine lv_aload_n hx hb dT_read_60 rfl (lv_at hl 0 rfl) ?_
          refine lv_iload_n hx hb dT_read_61 rfl (lv_at hl 1 rfl) ?_
          refine lv_iconst (v := 1) hx hb dT_read_62 (by decide) ?_
          refine lv_ishr hx hb dT_read_63 ?_
          refine tk_callA hD hS hA (va_runV (As := [.int (x0 >>> ((1 : Int32) &&& 31))]) (rest := []) ⟨hx, hb, hml, hown, hw⟩ (kT_controllerOf l D ad cA g (x0 >>> ((1 : Int32) &&& 31)) H.size) (cwV 1 hw (tk_gV tkW_good wM_T_49 wI_T_controllerOf wS_T_controllerOf wZ_T wC_T_controllerOf) rfl rfl rfl (by decide +kernel) ⟨Nat.le_of_ble_eq_true rfl, Nat.le_of_ble_eq_true rfl⟩) (tk_preT hK hN hP hD) rfl rfl hl.1 rfl (lv_room (Nat.le_of_ble_eq_true rfl)) dT_read_64 ⟨Nat.le_of_ble_eq_true rfl, Nat.le_of_ble_eq_true rfl⟩) (fun H locs hP hD hS => ?_)
          refine W.eq (g2 := F0 m 67 ls (.ref (tkT_controllerOf_r ad (x0 >>> ((1 : Int32) &&& 31))) :: [])) rfl ?_
          by_cases h5_ : x0 >>> ((1 : Int32) &&& 31) = 0
          · refine tk_topr (show tkT_controllerOf_r ad (x0 >>> ((1 : Int32) &&& 31)) = ad 1 from if_pos h5_) ?_
            refine W.eq (g2 := F0 m 67 ls [.ref (ad 1)]) rfl ?_
            refine va_getN (D := D) (ci := 0) (v := .int ((g 1) 3)) (C := RC) (T := TC) (N := 18) hx hb hw inC hown hK hP 1 rfl rfl 3 (by decide) (va_Nw.use rfl (hN (.fieldLinkNest RT 69 "TickLines$Controller" "mask" "I" "TickLines") (by decide +kernel))) (fun _ h9 => h9) rfl dT_read_67 ?_
            refine lv_istore_n hx hb dT_read_70 rfl hl (by decide) rfl (fun ls hl => ?_)
            have hl : lv_has ls 3 [(2, .int ((g 1) 3)), (0, .ref (ad 0)), (1, .int x0)] := hl
            refine lv_aload_n hx hb dT_read_71 rfl (lv_at hl 1 rfl) ?_
            refine tk_callA hD hS hA (va_runV (As := []) (rest := []) ⟨hx, hb, hml, hown, hw⟩ (kT_followLines l D ad cA g H.size) (cwV 0 hw (tk_gV tkW_good wM_T_59 wI_T_followLines wS_T_followLines wZ_T wC_T_followLines) rfl rfl rfl (by decide +kernel) ⟨Nat.le_of_ble_eq_true rfl, Nat.le_of_ble_eq_true rfl⟩) (tk_preT hK hN hP hD) rfl rfl hl.1 rfl (lv_room (Nat.le_of_ble_eq_true rfl)) dT_read_72 ⟨Nat.le_of_ble_eq_true rfl, Nat.le_of_ble_eq_true rfl⟩) (fun H locs hP hD hS => ?_)
            refine W.eq (g2 := F0 m 75 ls []) rfl ?_
            refine lv_iload_n hx hb dT_read_75 rfl (lv_at hl 0 rfl) ?_
            exact tk_iretX (Nat.le_of_ble_eq_true rfl) (Nat.le_of_ble_eq_true rfl) hx hb hr hlk hP hD hS dT_read_76 (by unfold tkT_read_k; rw [if_neg h1_, if_neg h2_, if_pos h3_]) (by unfold tkT_read_r; rw [if_neg h1_, if_neg h2_, if_pos h3_, if_neg h4_, if_pos h5_]) (congrArg (WT ad cA) (by unfold tkT_read_s; rw [if_neg h1_, if_neg h2_, if_pos h3_, if_neg h4_]))
          · refine tk_topr (show tkT_controllerOf_r ad (x0 >>> ((1 : Int32) &&& 31)) = ad 2 from if_neg h5_) ?_
            refine W.eq (g2 := F0 m 67 ls [.ref (ad 2)]) rfl ?_
            refine va_getN (D := D) (ci := 0) (v := .int ((g 2) 3)) (C := RC) (T := TC) (N := 18) hx hb hw inC hown hK hP 2 rfl rfl 3 (by decide) (va_Nw.use rfl (hN (.fieldLinkNest RT 69 "TickLines$Controller" "mask" "I" "TickLines") (by decide +kernel))) (fun _ h9 => h9) rfl dT_read_67 ?_
            refine lv_istore_n hx hb dT_read_70 rfl hl (by decide) rfl (fun ls hl => ?_)
            have hl : lv_has ls 3 [(2, .int ((g 2) 3)), (0, .ref (ad 0)), (1, .int x0)] := hl
            refine lv_aload_n hx hb dT_read_71 rfl (lv_at hl 1 rfl) ?_
            refine tk_callA hD hS hA (va_runV (As := []) (rest := []) ⟨hx, hb, hml, hown, hw⟩ (kT_followLines l D ad cA g H.size) (cwV 0 hw (tk_gV tkW_good wM_T_59 wI_T_followLines wS_T_followLines wZ_T wC_T_followLines) rfl rfl rfl (by decide +kernel) ⟨Nat.le_of_ble_eq_true rfl, Nat.le_of_ble_eq_true rfl⟩) (tk_preT hK hN hP hD) rfl rfl hl.1 rfl (lv_room (Nat.le_of_ble_eq_true rfl)) dT_read_72 ⟨Nat.le_of_ble_eq_true rfl, Nat.le_of_ble_eq_true rfl⟩) (fun H locs hP hD hS => ?_)
            refine W.eq (g2 := F0 m 75 ls []) rfl ?_
            refine lv_iload_n hx hb dT_read_75 rfl (lv_at hl 0 rfl) ?_
            exact tk_iretX (Nat.le_of_ble_eq_true rfl) (Nat.le_of_ble_eq_true rfl) hx hb hr hlk hP hD hS dT_read_76 (by unfold tkT_read_k; rw [if_neg h1_, if_neg h2_, if_pos h3_]) (by unfold tkT_read_r; rw [if_neg h1_, if_neg h2_, if_pos h3_, if_neg h4_, if_neg h5_]) (congrArg (WT ad cA) (by unfold tkT_read_s; rw [if_neg h1_, if_neg h2_, if_pos h3_, if_neg h4_]))
        · refine lv_aload_n hx hb dT_read_46 rfl (lv_at hl 0 rfl) ?_
          refine lv_iload_n hx hb dT_read_47 rfl (lv_at hl 1 rfl) ?_
          refine lv_iconst (v := 1) hx hb dT_read_48 (by decide) ?_
          refine lv_ishr hx hb dT_read_49 ?_
          refine tk_callA hD hS hA (va_runV (As := [.int (x0 >>> ((1 : Int32) &&& 31))]) (rest := []) ⟨hx, hb, hml, hown, hw⟩ (kT_controllerOf l D ad cA g (x0 >>> ((1 : Int32) &&& 31)) H.size) (cwV 1 hw (tk_gV tkW_good wM_T_49 wI_T_controllerOf wS_T_controllerOf wZ_T wC_T_controllerOf) rfl rfl rfl (by decide +kernel) ⟨Nat.le_of_ble_eq_true rfl, Nat.le_of_ble_eq_true rfl⟩) (tk_preT hK hN hP hD) rfl rfl hl.1 rfl (lv_room (Nat.le_of_ble_eq_true rfl)) dT_read_50 ⟨Nat.le_of_ble_eq_true rfl, Nat.le_of_ble_eq_true rfl⟩) (fun H locs hP hD hS => ?_)
          refine W.eq (g2 := F0 m 53 ls (.ref (tkT_controllerOf_r ad (x0 >>> ((1 : Int32) &&& 31))) :: [])) rfl ?_
          by_cases h6_ : x0 >>> ((1 : Int32) &&& 31) = 0
          · refine tk_topr (show tkT_controllerOf_r ad (x0 >>> ((1 : Int32) &&& 31)) = ad 1 from if_pos h6_) ?_
            refine W.eq (g2 := F0 m 53 ls [.ref (ad 1)]) rfl ?_
            refine tk_call1 (cell := (ad 1, .inr (0, FC (g 1)))) (cell' := (ad 1, .inr (0, FC (tkC_giveSideZero_s (g 1))))) 1 hP hD hS hA rfl rfl (va_runV (As := []) (rest := []) ⟨hx, hb, hml, hown, hw⟩ (kC_giveSideZero l D (ad 1) (g 1) H.size) (cwV 0 hw (tk_gV tkW_good wM_T_66 wI_C_giveSideZero wS_C_giveSideZero wZ_C wC_C_giveSideZero) rfl rfl rfl (by decide +kernel) ⟨Nat.le_of_ble_eq_true rfl, Nat.le_of_ble_eq_true rfl⟩) (tk_preV (q0 := 1) hK hN hP hD [1] [] rfl rfl rfl rfl rfl) rfl rfl hl.1 rfl (lv_room (Nat.le_of_ble_eq_true rfl)) dT_read_53 ⟨Nat.le_of_ble_eq_true rfl, Nat.le_of_ble_eq_true rfl⟩) (fun H locs hP hD hS => ?_)
            have hP : va_P D vwCl (WT ad cA (tk_up g 1 (tkC_giveSideZero_s (g 1)))) H := hP
            have hD : va_D A (WT ad cA (tk_up g 1 (tkC_giveSideZero_s (g 1)))) := hD
            refine W.eq (g2 := F0 m 56 ls [.int (tkC_giveSideZero_r (g 1))]) rfl ?_
            refine lv_istore_n hx hb dT_read_56 rfl hl (by decide) rfl (fun ls hl => ?_)
            have hl : lv_has ls 3 [(2, .int (tkC_giveSideZero_r (g 1))), (0, .ref (ad 0)), (1, .int x0)] := hl
            refine lv_goto (tgt := 71) hx hb dT_read_57 (by decide) ?_
            refine lv_aload_n hx hb dT_read_71 rfl (lv_at hl 1 rfl) ?_
            refine tk_callA hD hS hA (va_runV (As := []) (rest := []) ⟨hx, hb, hml, hown, hw⟩ (kT_followLines l D ad cA (tk_up g 1 (tkC_giveSideZero_s (g 1))) H.size) (cwV 0 hw (tk_gV tkW_good wM_T_59 wI_T_followLines wS_T_followLines wZ_T wC_T_followLines) rfl rfl rfl (by decide +kernel) ⟨Nat.le_of_ble_eq_true rfl, Nat.le_of_ble_eq_true rfl⟩) (tk_preT hK hN hP hD) rfl rfl hl.1 rfl (lv_room (Nat.le_of_ble_eq_true rfl)) dT_read_72 ⟨Nat.le_of_ble_eq_true rfl, Nat.le_of_ble_eq_true rfl⟩) (fun H locs hP hD hS => ?_)
            refine W.eq (g2 := F0 m 75 ls []) rfl ?_
            refine lv_iload_n hx hb dT_read_75 rfl (lv_at hl 0 rfl) ?_
            exact tk_iretX (Nat.le_of_ble_eq_true rfl) (Nat.le_of_ble_eq_true rfl) hx hb hr hlk hP hD hS dT_read_76 (by unfold tkT_read_k; rw [if_neg h1_, if_neg h2_, if_pos h3_]) (by unfold tkT_read_r; rw [if_neg h1_, if_neg h2_, if_pos h3_, if_pos h4_, if_pos h6_]) (congrArg (WT ad cA) (by unfold tkT_read_s; rw [if_neg h1_, if_neg h2_, if_pos h3_, if_pos h4_, if_pos h6_]))
          · refine tk_topr (show tkT_controllerOf_r ad (x0 >>> ((1 : Int32) &&& 31)) = ad 2 from if_neg h6_) ?_
            refine W.eq (g2 := F0 m 53 ls [.ref (ad 2)]) rfl ?_
            refine tk_call1 (cell := (ad 2, .inr (0, FC (g 2)))) (cell' := (ad 2, .inr (0, FC (tkC_giveSideZero_s (g 2))))) 2 hP hD hS hA rfl rfl (va_runV (As := []) (rest := []) ⟨hx, hb, hml, hown, hw⟩ (kC_giveSideZero l D (ad 2) (g 2) H.size) (cwV 0 hw (tk_gV tkW_good wM_T_66 wI_C_giveSideZero wS_C_giveSideZero wZ_C wC_C_giveSideZero) rfl rfl rfl (by decide +kernel) ⟨Nat.le_of_ble_eq_true rfl, Nat.le_of_ble_eq_true rfl⟩) (tk_preV (q0 := 2) hK hN hP hD [2] [] rfl rfl rfl rfl rfl) rfl rfl hl.1 rfl (lv_room (Nat.le_of_ble_eq_true rfl)) dT_read_53 ⟨Nat.le_of_ble_eq_true rfl, Nat.le_of_ble_eq_true rfl⟩) (fun H locs hP hD hS => ?_)
            have hP : va_P D vwCl (WT ad cA (tk_up g 2 (tkC_giveSideZero_s (g 2)))) H := hP
            have hD : va_D A (WT ad cA (tk_up g 2 (tkC_giveSideZero_s (g 2)))) := hD
            refine W.eq (g2 := F0 m 56 ls [.int (tkC_giveSideZero_r (g 2))]) rfl ?_
            refine lv_istore_n hx hb dT_read_56 rfl hl (by decide) rfl (fun ls hl => ?_)
            have hl : lv_has ls 3 [(2, .int (tkC_giveSideZero_r (g 2))), (0, .ref (ad 0)), (1, .int x0)] := hl
            refine lv_goto (tgt := 71) hx hb dT_read_57 (by decide) ?_
            refine lv_aload_n hx hb dT_read_71 rfl (lv_at hl 1 rfl) ?_
            refine tk_callA hD hS hA (va_runV (As := []) (rest := []) ⟨hx, hb, hml, hown, hw⟩ (kT_followLines l D ad cA (tk_up g 2 (tkC_giveSideZero_s (g 2))) H.size) (cwV 0 hw (tk_gV tkW_good wM_T_59 wI_T_followLines wS_T_followLines wZ_T wC_T_followLines) rfl rfl rfl (by decide +kernel) ⟨Nat.le_of_ble_eq_true rfl, Nat.le_of_ble_eq_true rfl⟩) (tk_preT hK hN hP hD) rfl rfl hl.1 rfl (lv_room (Nat.le_of_ble_eq_true rfl)) dT_read_72 ⟨Nat.le_of_ble_eq_true rfl, Nat.le_of_ble_eq_true rfl⟩) (fun H locs hP hD hS => ?_)
            refine W.eq (g2 := F0 m 75 ls []) rfl ?_
            refine lv_iload_n hx hb dT_read_75 rfl (lv_at hl 0 rfl) ?_
            exact tk_iretX (Nat.le_of_ble_eq_true rfl) (Nat.le_of_ble_eq_true rfl) hx hb hr hlk hP hD hS dT_read_76 (by unfold tkT_read_k; rw [if_neg h1_, if_neg h2_, if_pos h3_]) (by unfold tkT_read_r; rw [if_neg h1_, if_neg h2_, if_pos h3_, if_pos h4_, if_neg h6_]) (congrArg (WT ad cA) (by unfold tkT_read_s; rw [if_neg h1_, if_neg h2_, if_pos h3_, if_pos h4_, if_neg h6_]))
      · refine lv_aload_n hx hb dT_read_28 rfl (lv_at hl 0 rfl) ?_
        refine lv_iload_n hx hb dT_read_29 rfl (lv_at hl 1 rfl) ?_
        rcases (tkT_isCounter_c (x0 - 4) h3_) with h7_ | h7_ | h7_
        · refine tk_callX hD hS hA (vx_runV (As := [.int x0]) (rest := []) ⟨hx, hb, hml, hown, hw⟩ (kT_counterWithMode l hl9 D ad cA g x0 (Or.inl h7_) H.size) (cwV 1 hw (tk_gV tkW_good wM_T_38 wI_T_counterWithMode wS_T_counterWithMode wZ_T wC_T_counterWithMode) rfl rfl rfl (by decide +kernel) ⟨Nat.le_of_ble_eq_true rfl, Nat.le_of_ble_eq_true rfl⟩) (tk_preTX hE hS hA hK hN hP hD) rfl rfl hl.1 rfl (lv_room (Nat.le_of_ble_eq_true rfl)) dT_read_30 ⟨Nat.le_of_ble_eq_true rfl, Nat.le_of_ble_eq_true rfl⟩) (fun E ce q9 H locs hEk hP hS hce hcv hcl => tk_outX (Nat.le_of_ble_eq_true rfl) (Nat.le_of_ble_eq_true rfl) hEx hlk hP hS hce hcv hcl hEk (by unfold tkT_read_k; rw [if_neg h1_, if_neg h2_, if_neg h3_])) (fun h8_ H locs hP hD hS => ?_)
          refine W.eq (g2 := F0 m 33 ls (.ref (tkT_counterWithMode_r ad x0) :: [])) rfl ?_
          refine tk_topr (show tkT_counterWithMode_r ad x0 = ad 4 from (by unfold tkT_counterWithMode_r; rw [if_pos h7_])) ?_
          refine W.eq (g2 := F0 m 33 ls [.ref (ad 4)]) rfl ?_
          refine tk_call1 (cell := (ad 4, .inr (1, FN (g 4)))) (cell' := (ad 4, .inr (1, FN (tkN_giveByte_s (g 4))))) 4 hP hD hS hA rfl rfl (va_runV (As := []) (rest := []) ⟨hx, hb, hml, hown, hw⟩ (kN_giveByte l D (ad 4) (g 4) H.size) (cwV 0 hw (tk_gV tkW_good wM_T_62 wI_N_giveByte wS_N_giveByte wZ_N wC_N_giveByte) rfl rfl rfl (by decide +kernel) ⟨Nat.le_of_ble_eq_true rfl, Nat.le_of_ble_eq_true rfl⟩) (tk_preV (q0 := 4) hK hN hP hD [4] [] rfl rfl rfl rfl rfl) rfl rfl hl.1 rfl (lv_room (Nat.le_of_ble_eq_true rfl)) dT_read_33 ⟨Nat.le_of_ble_eq_true rfl, Nat.le_of_ble_eq_true rfl⟩) (fun H locs hP hD hS => ?_)
          have hP : va_P D vwCl (WT ad cA (tk_up g 4 (tkN_giveByte_s (g 4)))) H := hP
          have hD : va_D A (WT ad cA (tk_up g 4 (tkN_giveByte_s (g 4)))) := hD
          refine W.eq (g2 := F0 m 36 ls [.int (tkN_giveByte_r (g 4))]) rfl ?_
          refine lv_istore_n hx hb dT_read_36 rfl hl (by decide) rfl (fun ls hl => ?_)
          have hl : lv_has ls 3 [(2, .int (tkN_giveByte_r (g 4))), (0, .ref (ad 0)), (1, .int x0)] := hl
          refine lv_goto (tgt := 71) hx hb dT_read_37 (by decide) ?_
          refine lv_aload_n hx hb dT_read_71 rfl (lv_at hl 1 rfl) ?_
          refine tk_callA hD hS hA (va_runV (As := []) (rest := []) ⟨hx, hb, hml, hown, hw⟩ (kT_followLines l D ad cA (tk_up g 4 (tkN_giveByte_s (g 4))) H.size) (cwV 0 hw (tk_gV tkW_good wM_T_59 wI_T_followLines wS_T_followLines wZ_T wC_T_followLines) rfl rfl rfl (by decide +kernel) ⟨Nat.le_of_ble_eq_true rfl, Nat.le_of_ble_eq_true rfl⟩) (tk_preT hK hN hP hD) rfl rfl hl.1 rfl (lv_room (Nat.le_of_ble_eq_true rfl)) dT_read_72 ⟨Nat.le_of_ble_eq_true rfl, Nat.le_of_ble_eq_true rfl⟩) (fun H locs hP hD hS => ?_)
          refine W.eq (g2 := F0 m 75 ls []) rfl ?_
          refine lv_iload_n hx hb dT_read_75 rfl (lv_at hl 0 rfl) ?_
          exact tk_iretX (Nat.le_of_ble_eq_true rfl) (Nat.le_of_ble_eq_true rfl) hx hb hr hlk hP hD hS dT_read_76 (Eq.trans (by unfold tkT_read_k; rw [if_neg h1_, if_neg h2_, if_neg h3_]) h8_) (by unfold tkT_read_r; rw [if_neg h1_, if_neg h2_, if_neg h3_, if_pos h7_]) (congrArg (WT ad cA) (by unfold tkT_read_s; rw [if_neg h1_, if_neg h2_, if_neg h3_, if_pos h7_]))
        · have h9_ : ¬ x0 - 4 = 0 := by rw [h7_]; decide
          refine tk_callX hD hS hA (vx_runV (As := [.int x0]) (rest := []) ⟨hx, hb, hml, hown, hw⟩ (kT_counterWithMode l hl9 D ad cA g x0 (Or.inr (Or.inl h7_)) H.size) (cwV 1 hw (tk_gV tkW_good wM_T_38 wI_T_counterWithMode wS_T_counterWithMode wZ_T wC_T_counterWithMode) rfl rfl rfl (by decide +kernel) ⟨Nat.le_of_ble_eq_true rfl, Nat.le_of_ble_eq_true rfl⟩) (tk_preTX hE hS hA hK hN hP hD) rfl rfl hl.1 rfl (lv_room (Nat.le_of_ble_eq_true rfl)) dT_read_30 ⟨Nat.le_of_ble_eq_true rfl, Nat.le_of_ble_eq_true rfl⟩) (fun E ce q9 H locs hEk hP hS hce hcv hcl => tk_outX (Nat.le_of_ble_eq_true rfl) (Nat.le_of_ble_eq_true rfl) hEx hlk hP hS hce hcv hcl hEk (by unfold tkT_read_k; rw [if_neg h1_, if_neg h2_, if_neg h3_])) (fun h10_ H locs hP hD hS => ?_)
          refine W.eq (g2 := F0 m 33 ls (.ref (tkT_counterWithMode_r ad x0) :: [])) rfl ?_
          refine tk_topr (show tkT_counterWithMode_r ad x0 = ad 5 from (by unfold tkT_counterWithMode_r; rw [if_neg h9_, if_pos h7_])) ?_
          refine W.eq (g2 := F0 m 33 ls [.ref (ad 5)]) rfl ?_
          refine tk_call1 (cell := (ad 5, .inr (1, FN (g 5)))) (cell' := (ad 5, .inr (1, FN (tkN_giveByte_s (g 5))))) 5 hP hD hS hA rfl rfl (va_runV (As := []) (rest := []) ⟨hx, hb, hml, hown, hw⟩ (kN_giveByte l D (ad 5) (g 5) H.size) (cwV 0 hw (tk_gV tkW_good wM_T_62 wI_N_giveByte wS_N_giveByte wZ_N wC_N_giveByte) rfl rfl rfl (by decide +kernel) ⟨Nat.le_of_ble_eq_true rfl, Nat.le_of_ble_eq_true rfl⟩) (tk_preV (q0 := 5) hK hN hP hD [5] [] rfl rfl rfl rfl rfl) rfl rfl hl.1 rfl (lv_room (Nat.le_of_ble_eq_true rfl)) dT_read_33 ⟨Nat.le_of_ble_eq_true rfl, Nat.le_of_ble_eq_true rfl⟩) (fun H locs hP hD hS => ?_)
          have hP : va_P D vwCl (WT ad cA (tk_up g 5 (tkN_giveByte_s (g 5)))) H := hP
          have hD : va_D A (WT ad cA (tk_up g 5 (tkN_giveByte_s (g 5)))) := hD
          refine W.eq (g2 := F0 m 36 ls [.int (tkN_giveByte_r (g 5))]) rfl ?_
          refine lv_istore_n hx hb dT_read_36 rfl hl (by decide) rfl (fun ls hl => ?_)
          have hl : lv_has ls 3 [(2, .int (tkN_giveByte_r (g 5))), (0, .ref (ad 0)), (1, .int x0)] := hl
          refine lv_goto (tgt := 71) hx hb dT_read_37 (by decide) ?_
          refine lv_aload_n hx hb dT_read_71 rfl (lv_at hl 1 rfl) ?_
          refine tk_callA hD hS hA (va_runV (As := []) (rest := []) ⟨hx, hb, hml, hown, hw⟩ (kT_followLines l D ad cA (tk_up g 5 (tkN_giveByte_s (g 5))) H.size) (cwV 0 hw (tk_gV tkW_good wM_T_59 wI_T_followLines wS_T_followLines wZ_T wC_T_followLines) rfl rfl rfl (by decide +kernel) ⟨Nat.le_of_ble_eq_true rfl, Nat.le_of_ble_eq_true rfl⟩) (tk_preT hK hN hP hD) rfl rfl hl.1 rfl (lv_room (Nat.le_of_ble_eq_true rfl)) dT_read_72 ⟨Nat.le_of_ble_eq_true rfl, Nat.le_of_ble_eq_true rfl⟩) (fun H locs hP hD hS => ?_)
          refine W.eq (g2 := F0 m 75 ls []) rfl ?_
          refine lv_iload_n hx hb dT_read_75 rfl (lv_at hl 0 rfl) ?_
          exact tk_iretX (Nat.le_of_ble_eq_true rfl) (Nat.le_of_ble_eq_true rfl) hx hb hr hlk hP hD hS dT_read_76 (Eq.trans (by unfold tkT_read_k; rw [if_neg h1_, if_neg h2_, if_neg h3_]) h10_) (by unfold tkT_read_r; rw [if_neg h1_, if_neg h2_, if_neg h3_, if_neg h9_, if_pos h7_]) (congrArg (WT ad cA) (by unfold tkT_read_s; rw [if_neg h1_, if_neg h2_, if_neg h3_, if_neg h9_, if_pos h7_]))
        · have h11_ : ¬ x0 - 4 = 0 := by rw [h7_]; decide
          have h12_ : ¬ x0 - 4 = 1 := by rw [h7_]; decide
          refine tk_callX hD hS hA (vx_runV (As := [.int x0]) (rest := []) ⟨hx, hb, hml, hown, hw⟩ (kT_counterWithMode l hl9 D ad cA g x0 (Or.inr (Or.inr h7_)) H.size) (cwV 1 hw (tk_gV tkW_good wM_T_38 wI_T_counterWithMode wS_T_counterWithMode wZ_T wC_T_counterWithMode) rfl rfl rfl (by decide +kernel) ⟨Nat.le_of_ble_eq_true rfl, Nat.le_of_ble_eq_true rfl⟩) (tk_preTX hE hS hA hK hN hP hD) rfl rfl hl.1 rfl (lv_room (Nat.le_of_ble_eq_true rfl)) dT_read_30 ⟨Nat.le_of_ble_eq_true rfl, Nat.le_of_ble_eq_true rfl⟩) (fun E ce q9 H locs hEk hP hS hce hcv hcl => tk_outX (Nat.le_of_ble_eq_true rfl) (Nat.le_of_ble_eq_true rfl) hEx hlk hP hS hce hcv hcl hEk (by unfold tkT_read_k; rw [if_neg h1_, if_neg h2_, if_neg h3_])) (fun h13_ H locs hP hD hS => ?_)
          refine W.eq (g2 := F0 m 33 ls (.ref (tkT_counterWithMode_r ad x0) :: [])) rfl ?_
          refine tk_topr (show tkT_counterWithMode_r ad x0 = ad 6 from (by unfold tkT_counterWithMode_r; rw [if_neg h11_, if_neg h12_])) ?_
          refine W.eq (g2 := F0 m 33 ls [.ref (ad 6)]) rfl ?_
          refine tk_call1 (cell := (ad 6, .inr (1, FN (g 6)))) (cell' := (ad 6, .inr (1, FN (tkN_giveByte_s (g 6))))) 6 hP hD hS hA rfl rfl (va_runV (As := []) (rest := []) ⟨hx, hb, hml, hown, hw⟩ (kN_giveByte l D (ad 6) (g 6) H.size) (cwV 0 hw (tk_gV tkW_good wM_T_62 wI_N_giveByte wS_N_giveByte wZ_N wC_N_giveByte) rfl rfl rfl (by decide +kernel) ⟨Nat.le_of_ble_eq_true rfl, Nat.le_of_ble_eq_true rfl⟩) (tk_preV (q0 := 6) hK hN hP hD [6] [] rfl rfl rfl rfl rfl) rfl rfl hl.1 rfl (lv_room (Nat.le_of_ble_eq_true rfl)) dT_read_33 ⟨Nat.le_of_ble_eq_true rfl, Nat.le_of_ble_eq_true rfl⟩) (fun H locs hP hD hS => ?_)
          have hP : va_P D vwCl (WT ad cA (tk_up g 6 (tkN_giveByte_s (g 6)))) H := hP
          have hD : va_D A (WT ad cA (tk_up g 6 (tkN_giveByte_s (g 6)))) := hD
          refine W.eq (g2 := F0 m 36 ls [.int (tkN_giveByte_r (g 6))]) rfl ?_
          refine lv_istore_n hx hb dT_read_36 rfl hl (by decide) rfl (fun ls hl => ?_)
          have hl : lv_has ls 3 [(2, .int (tkN_giveByte_r (g 6))), (0, .ref (ad 0)), (1, .int x0)] := hl
          refine lv_goto (tgt := 71) hx hb dT_read_37 (by decide) ?_
          refine lv_aload_n hx hb dT_read_71 rfl (lv_at hl 1 rfl) ?_
          refine tk_callA hD hS hA (va_runV (As := []) (rest := []) ⟨hx, hb, hml, hown, hw⟩ (kT_followLines l D ad cA (tk_up g 6 (tkN_giveByte_s (g 6))) H.size) (cwV 0 hw (tk_gV tkW_good wM_T_59 wI_T_followLines wS_T_followLines wZ_T wC_T_followLines) rfl rfl rfl (by decide +kernel) ⟨Nat.le_of_ble_eq_true rfl, Nat.le_of_ble_eq_true rfl⟩) (tk_preT hK hN hP hD) rfl rfl hl.1 rfl (lv_room (Nat.le_of_ble_eq_true rfl)) dT_read_72 ⟨Nat.le_of_ble_eq_true rfl, Nat.le_of_ble_eq_true rfl⟩) (fun H locs hP hD hS => ?_)
          refine W.eq (g2 := F0 m 75 ls []) rfl ?_
          refine lv_iload_n hx hb dT_read_75 rfl (lv_at hl 0 rfl) ?_
          exact tk_iretX (Nat.le_of_ble_eq_true rfl) (Nat.le_of_ble_eq_true rfl) hx hb hr hlk hP hD hS dT_read_76 (Eq.trans (by unfold tkT_read_k; rw [if_neg h1_, if_neg h2_, if_neg h3_]) h13_) (by unfold tkT_read_r; rw [if_neg h1_, if_neg h2_, if_neg h3_, if_neg h11_, if_neg h12_]) (congrArg (WT ad cA) (by unfold tkT_read_s; rw [if_neg h1_, if_neg h2_, if_neg h3_, if_neg h11_, if_neg h12_]))
    · exact vx_throw0 (own := RT) (cls := "java/lang/IllegalArgumentException") (names := ["java/lang/RuntimeException", "java/lang/Exception"]) hx hb hl9 hown (by decide +kernel) (by decide +kernel) (hw _ wL_T_32) (hw _ wZ_IllegalArgumentException) (vx_hat (L := vx_at0 RT 34 "java/lang/IllegalArgumentException" ["java/lang/RuntimeException", "java/lang/Exception"]) (B := [.castable "java/lang/IllegalArgumentException" "java/lang/IllegalArgumentException", .declares ⟨"java/lang/RuntimeException", "<init>", "()V"⟩, .declares ⟨"java/lang/Exception", "<init>", "()V"⟩, .declares ⟨"java/lang/Throwable", "<init>", "()V"⟩]) (fun w h => hw w (tkW_inA w h)) (by decide +kernel) (vx_c (va_Nw.use rfl (hN (.castable "java/lang/IllegalArgumentException" "java/lang/IllegalArgumentException") (by decide +kernel))) (vx_c (va_Nw.use rfl (hN (.declares ⟨"java/lang/RuntimeException", "<init>", "()V"⟩) (by decide +kernel))) (vx_c (va_Nw.use rfl (hN (.declares ⟨"java/lang/Exception", "<init>", "()V"⟩) (by decide +kernel))) (vx_c (va_Nw.use rfl (hN (.declares ⟨"java/lang/Throwable", "<init>", "()V"⟩) (by decide +kernel))) vx_n))))) (by decide +kernel) hE.1 hE.2 hS (hl.1.trans hml.symm) dT_read_13 dT_read_16 dT_read_17 dT_read_20 (fun x hx => (hEx x hx).elim) (Nat.le_of_ble_eq_true rfl) (Nat.le_of_ble_eq_true rfl) (Nat.le_of_ble_eq_true rfl) (Nat.le_of_ble_eq_true rfl) hlk (tk_xc hP hS (Or.inl ⟨(by unfold tkT_read_k; rw [if_neg h1_, if_pos h2_]), rfl⟩)) hS.2.2 (Nat.le_of_ble_eq_true rfl) (Nat.le_of_ble_eq_true rfl)
def tkT_acknowledge_r (g : Nat → Nat → Int32) : Int32 :=
  if (g 1) 7 = 0 then 0
  else if tkC_serveChosen_r (g 1) = 2 then (if (tkC_serveChosen_s (g 1)) 10 = 0 then tkC_vectorOf_r (tkC_serveChosen_s (g 2)) (tkC_serveChosen_r (g 2))
      else tkC_vectorOf_r (tkC_serveChosen_s (g 1)) (tkC_serveChosen_r (g 1)))
    else tkC_vectorOf_r (tkC_serveChosen_s (g 1)) (tkC_serveChosen_r (g 1))
def tkT_acknowledge_s (g : Nat → Nat → Int32) : Nat → Nat → Int32 :=
  if (g 1) 7 = 0 then g
  else if tkC_serveChosen_r (g 1) = 2 then (if (tkC_serveChosen_s (g 1)) 10 = 0 then tkT_followLines_s (tk_up (tk_up g 1 (tkC_serveChosen_s (g 1))) 2 (tkC_serveChosen_s (g 2)))
      else tkT_followLines_s (tk_up g 1 (tkC_serveChosen_s (g 1))))
    else tkT_followLines_s (tk_up g 1 (tkC_serveChosen_s (g 1)))
def tkT_acknowledge_k (g : Nat → Nat → Int32) : Int32 :=
  if (g 1) 7 = 0 then 2
  else 0
set_option maxHeartbeats 1000000 in
set_option maxRecDepth 100000 in
theorem kT_acknowledge (l : Launch) (hl9 : l.stackTraces = false) (D : va_G) (ad : Nat → Nat) (cA : ClassId) (g : Nat → Nat → Int32) : tk_MX l yT_acknowledge wsT_acknowledge { frames := 6, cells := 1, slots := 6, locals := 81 } D [(cA, .object "TickLines$Counter")] [.ref (ad 0)] (WT ad cA g) (WT ad cA (tkT_acknowledge_s g)) (some (.int (tkT_acknowledge_r g))) (tkT_acknowledge_k g) := by
  refine tk_MX.of (cc := cT_acknowledge) (maxL := 3) (ret := (some .int)) (by decide) rfl (Nat.le_of_ble_eq_true rfl) ?_
  intro p e s m below meth co A H locs ls hB hEx hE hK hN hA hP hD hS hl
  obtain ⟨hx, hb, hr, hml, hown, hlk, hnm, hts⟩ := hB
  have hown : s.vm.findClass RT = some m.cls := hown
  have hl : lv_has ls 3 [(0, .ref (ad 0))] := hl
  have hw : ∀ w ∈ tkW, w.before _ s = true := fun w h => hts w (List.mem_cons_of_mem _ h)
  have f12 := hw _ wF_T_12
  have f18 := hw _ wF_T_18
  refine lv_aload_n hx hb dT_acknowledge_0 rfl (lv_at hl 0 rfl) ?_
  refine va_get (D := D) (ci := 2) (v := .ref (ad 1)) (C := RT) (T := TT) (N := 3) hx hb hw inT hown hK hP 0 rfl rfl 0 (by decide) f12 (fun _ h9 => h9) rfl dT_acknowledge_1 ?_
  refine va_getN (D := D) (ci := 0) (v := .int ((g 1) 7)) (C := RC) (T := TC) (N := 18) hx hb hw inC hown hK hP 1 rfl rfl 7 (by decide) (va_Nw.use rfl (hN (.fieldLinkNest RT 93 "TickLines$Controller" "ready" "Z" "TickLines") (by decide +kernel))) (fun _ h9 => h9) rfl dT_acknowledge_4 ?_
  refine lv_if_ne (tgt := 18) hx hb dT_acknowledge_7 (by decide) (fun (h1_ : ¬ ((g 1) 7 = 0)) => ?_) (fun (h1_ : (g 1) 7 = 0) => ?_)
  · refine lv_aload_n hx hb dT_acknowledge_18 rfl (lv_at hl 0 rfl) ?_
    refine va_get (D := D) (ci := 2) (v := .ref (ad 1)) (C := RT) (T := TT) (N := 3) hx hb hw inT hown hK hP 0 rfl rfl 0 (by decide) f12 (fun _ h9 => h9) rfl dT_acknowledge_19 ?_
    refine tk_call1 (cell := (ad 1, .inr (0, FC (g 1)))) (cell' := (ad 1, .inr (0, FC (tkC_serveChosen_s (g 1))))) 1 hP hD hS hA rfl rfl (va_runV (As := []) (rest := []) ⟨hx, hb, hml, hown, hw⟩ (kC_serveChosen l D (ad 1) (g 1) H.size) (cwV 0 hw (tk_gV tkW_good wM_T_99 wI_C_serveChosen wS_C_serveChosen wZ_C wC_C_serveChosen) rfl rfl rfl (by decide +kernel) ⟨Nat.le_of_ble_eq_true rfl, Nat.le_of_ble_eq_true rfl⟩) (tk_preV (q0 := 1) hK hN hP hD [1] [] rfl rfl rfl rfl rfl) rfl rfl hl.1 rfl (lv_room (Nat.le_of_ble_eq_true rfl)) dT_acknowledge_22 ⟨Nat.le_of_ble_eq_true rfl, Nat.le_of_ble_eq_true rfl⟩) (fun H locs hP hD hS => ?_)
    have hP : va_P D vwCl (WT ad cA (tk_up g 1 (tkC_serveChosen_s (g 1)))) H := hP
    have hD : va_D A (WT ad cA (tk_up g 1 (tkC_serveChosen_s (g 1)))) := hD
    refine W.eq (g2 := F0 m 25 ls [.int (tkC_serveChosen_r (g 1))]) rfl ?_
    refine lv_istore_n hx hb dT_acknowledge_25 rfl hl (by decide) rfl (fun ls hl => ?_)
    have hl : lv_has ls 3 [(1, .int (tkC_serveChosen_r (g 1))), (0, .ref (ad 0))] := hl
    refine lv_iload_n hx hb dT_acknowledge_26 rfl (lv_at hl 0 rfl) ?_
    refine lv_iconst (v := 2) hx hb dT_acknowledge_27 (by decide) ?_
    refine lv_icmp_ne (tgt := 59) hx hb dT_acknowledge_28 (by decide) (fun (h2_ : ¬ (tkC_serveChosen_r (g 1) = 2)) => ?_) (fun (h2_ : tkC_serveChosen_r (g 1) = 2) => ?_)
    · refine lv_aload_n hx hb dT_acknowledge_59 rfl (lv_at hl 1 rfl) ?_
      refine va_get (D := D) (ci := 2) (v := .ref (ad 1)) (C := RT) (T := TT) (N := 3) hx hb hw inT hown hK hP 0 rfl rfl 0 (by decide) f12 (fun _ h9 => h9) rfl dT_acknowledge_60 ?_
      refine lv_iload_n hx hb dT_acknowledge_63 rfl (lv_at hl 0 rfl) ?_
      refine tk_call1 (cell := (ad 1, .inr (0, FC (tkC_serveChosen_s (g 1))))) (cell' := (ad 1, .inr (0, FC (tkC_serveChosen_s (g 1))))) 1 hP hD hS hA rfl rfl (va_runV (As := [.int (tkC_serveChosen_r (g 1))]) (rest := []) ⟨hx, hb, hml, hown, hw⟩ (kC_vectorOf l D (ad 1) (tkC_serveChosen_s (g 1)) (tkC_serveChosen_r (g 1)) H.size) (cwV 1 hw (tk_gV tkW_good wM_T_105 wI_C_vectorOf wS_C_vectorOf wZ_C wC_C_vectorOf) rfl rfl rfl (by decide +kernel) ⟨Nat.le_of_ble_eq_true rfl, Nat.le_of_ble_eq_true rfl⟩) (tk_preV (q0 := 1) hK hN hP hD [1] [] rfl rfl rfl rfl rfl) rfl rfl hl.1 rfl (lv_room (Nat.le_of_ble_eq_true rfl)) dT_acknowledge_64 ⟨Nat.le_of_ble_eq_true rfl, Nat.le_of_ble_eq_true rfl⟩) (fun H locs hP hD hS => ?_)
      have hP : va_P D vwCl (WT ad cA (tk_up g 1 (tkC_serveChosen_s (g 1)))) H := hP
      have hD : va_D A (WT ad cA (tk_up g 1 (tkC_serveChosen_s (g 1)))) := hD
      refine W.eq (g2 := F0 m 67 ls [.int (tkC_vectorOf_r (tkC_serveChosen_s (g 1)) (tkC_serveChosen_r (g 1)))]) rfl ?_
      refine lv_istore_n hx hb dT_acknowledge_67 rfl hl (by decide) rfl (fun ls hl => ?_)
      have hl : lv_has ls 3 [(2, .int (tkC_vectorOf_r (tkC_serveChosen_s (g 1)) (tkC_serveChosen_r (g 1)))), (1, .int (tkC_serveChosen_r (g 1))), (0, .ref (ad 0))] := hl
      refine lv_aload_n hx hb dT_acknowledge_68 rfl (lv_at hl 2 rfl) ?_
      refine tk_callA hD hS hA (va_runV (As := []) (rest := []) ⟨hx, hb, hml, hown, hw⟩ (kT_followLines l D ad cA (tk_up g 1 (tkC_serveChosen_s (g 1))) H.size) (cwV 0 hw (tk_gV tkW_good wM_T_59 wI_T_followLines wS_T_followLines wZ_T wC_T_followLines) rfl rfl rfl (by decide +kernel) ⟨Nat.le_of_ble_eq_true rfl, Nat.le_of_ble_eq_true rfl⟩) (tk_preT hK hN hP hD) rfl rfl hl.1 rfl (lv_room (Nat.le_of_ble_eq_true rfl)) dT_acknowledge_69 ⟨Nat.le_of_ble_eq_true rfl, Nat.le_of_ble_eq_true rfl⟩) (fun H locs hP hD hS => ?_)
      refine W.eq (g2 := F0 m 72 ls []) rfl ?_
      refine lv_iload_n hx hb dT_acknowledge_72 rfl (lv_at hl 0 rfl) ?_
      exact tk_iretX (Nat.le_of_ble_eq_true rfl) (Nat.le_of_ble_eq_true rfl) hx hb hr hlk hP hD hS dT_acknowledge_73 (by unfold tkT_acknowledge_k; rw [if_neg h1_]) (by unfold tkT_acknowledge_r; rw [if_neg h1_, if_neg h2_]) (congrArg (WT ad cA) (by unfold tkT_acknowledge_s; rw [if_neg h1_, if_neg h2_]))
    · refine lv_aload_n hx hb dT_acknowledge_31 rfl (lv_at hl 1 rfl) ?_
      refine va_get (D := D) (ci := 2) (v := .ref (ad 1)) (C := RT) (T := TT) (N := 3) hx hb hw inT hown hK hP 0 rfl rfl 0 (by decide) f12 (fun _ h9 => h9) rfl dT_acknowledge_32 ?_
      refine va_getN (D := D) (ci := 0) (v := .int ((tkC_serveChosen_s (g 1)) 10)) (C := RC) (T := TC) (N := 18) hx hb hw inC hown hK hP 1 rfl rfl 10 (by decide) (va_Nw.use rfl (hN (.fieldLinkNest RT 102 "TickLines$Controller" "single" "Z" "TickLines") (by decide +kernel))) (fun _ h9 => h9) rfl dT_acknowledge_35 ?_
      refine lv_if_ne (tgt := 59) hx hb dT_acknowledge_38 (by decide) (fun (h3_ : ¬ ((tkC_serveChosen_s (g 1)) 10 = 0)) => ?_) (fun (h3_ : (tkC_serveChosen_s (g 1)) 10 = 0) => ?_)
      · refine lv_aload_n hx hb dT_acknowledge_59 rfl (lv_at hl 1 rfl) ?_
        refine va_get (D := D) (ci := 2) (v := .ref (ad 1)) (C := RT) (T := TT) (N := 3) hx hb hw inT hown hK hP 0 rfl rfl 0 (by decide) f12 (fun _ h9 => h9) rfl dT_acknowledge_60 ?_
        refine lv_iload_n hx hb dT_acknowledge_63 rfl (lv_at hl 0 rfl) ?_
        refine tk_call1 (cell := (ad 1, .inr (0, FC (tkC_serveChosen_s (g 1))))) (cell' := (ad 1, .inr (0, FC (tkC_serveChosen_s (g 1))))) 1 hP hD hS hA rfl rfl (va_runV (As := [.int (tkC_serveChosen_r (g 1))]) (rest := []) ⟨hx, hb, hml, hown, hw⟩ (kC_vectorOf l D (ad 1) (tkC_serveChosen_s (g 1)) (tkC_serveChosen_r (g 1)) H.size) (cwV 1 hw (tk_gV tkW_good wM_T_105 wI_C_vectorOf wS_C_vectorOf wZ_C wC_C_vectorOf) rfl rfl rfl (by decide +kernel) ⟨Nat.le_of_ble_eq_true rfl, Nat.le_of_ble_eq_true rfl⟩) (tk_preV (q0 := 1) hK hN hP hD [1] [] rfl rfl rfl rfl rfl) rfl rfl hl.1 rfl (lv_room (Nat.le_of_ble_eq_true rfl)) dT_acknowledge_64 ⟨Nat.le_of_ble_eq_true rfl, Nat.le_of_ble_eq_true rfl⟩) (fun H locs hP hD hS => ?_)
        have hP : va_P D vwCl (WT ad cA (tk_up g 1 (tkC_serveChosen_s (g 1)))) H := hP
        have hD : va_D A (WT ad cA (tk_up g 1 (tkC_serveChosen_s (g 1)))) := hD
        refine W.eq (g2 := F0 m 67 ls [.int (tkC_vectorOf_r (tkC_serveChosen_s (g 1)) (tkC_serveChosen_r (g 1)))]) rfl ?_
        refine lv_istore_n hx hb dT_acknowledge_67 rfl hl (by decide) rfl (fun ls hl => ?_)
        have hl : lv_has ls 3 [(2, .int (tkC_vectorOf_r (tkC_serveChosen_s (g 1)) (tkC_serveChosen_r (g 1)))), (1, .int (tkC_serveChosen_r (g 1))), (0, .ref (ad 0))] := hl
        refine lv_aload_n hx hb dT_acknowledge_68 rfl (lv_at hl 2 rfl) ?_
        refine tk_callA hD hS hA (va_runV (As := []) (rest := []) ⟨hx, hb, hml, hown, hw⟩ (kT_followLines l D ad cA (tk_up g 1 (tkC_serveChosen_s (g 1))) H.size) (cwV 0 hw (tk_gV tkW_good wM_T_59 wI_T_followLines wS_T_followLines wZ_T wC_T_followLines) rfl rfl rfl (by decide +kernel) ⟨Nat.le_of_ble_eq_true rfl, Nat.le_of_ble_eq_true rfl⟩) (tk_preT hK hN hP hD) rfl rfl hl.1 rfl (lv_room (Nat.le_of_ble_eq_true rfl)) dT_acknowledge_69 ⟨Nat.le_of_ble_eq_true rfl, Nat.le_of_ble_eq_true rfl⟩) (fun H locs hP hD hS => ?_)
        refine W.eq (g2 := F0 m 72 ls []) rfl ?_
        refine lv_iload_n hx hb dT_acknowledge_72 rfl (lv_at hl 0 rfl) ?_
        exact tk_iretX (Nat.le_of_ble_eq_true rfl) (Nat.le_of_ble_eq_true rfl) hx hb hr hlk hP hD hS dT_acknowledge_73 (by unfold tkT_acknowledge_k; rw [if_neg h1_]) (by unfold tkT_acknowledge_r; rw [if_neg h1_, if_pos h2_, if_neg h3_]) (congrArg (WT ad cA) (by unfold tkT_acknowledge_s; rw [if_neg h1_, if_pos h2_, if_neg h3_]))
      · refine lv_aload_n hx hb dT_acknowledge_41 rfl (lv_at hl 1 rfl) ?_
        refine va_get (D := D) (ci := 2) (v := .ref (ad 2)) (C := RT) (T := TT) (N := 3) hx hb hw inT hown hK hP 0 rfl rfl 1 (by decide) f18 (fun _ h9 => h9) rfl dT_acknowledge_42 ?_
        refine lv_aload_n hx hb dT_acknowledge_45 rfl (lv_at hl 1 rfl) ?_
        refine va_get (D := D) (ci := 2) (v := .ref (ad 2)) (C := RT) (T := TT) (N := 3) hx hb hw inT hown hK hP 0 rfl rfl 1 (by decide) f18 (fun _ h9 => h9) rfl dT_acknowledge_46 ?_
        refine tk_call1 (cell := (ad 2, .inr (0, FC (g 2)))) (cell' := (ad 2, .inr (0, FC (tkC_serveChosen_s (g 2))))) 2 hP hD hS hA rfl rfl (va_runV (As := []) (rest := [.ref (ad 2)]) ⟨hx, hb, hml, hown, hw⟩ (kC_serveChosen l D (ad 2) (g 2) H.size) (cwV 0 hw (tk_gV tkW_good wM_T_99 wI_C_serveChosen wS_C_serveChosen wZ_C wC_C_serveChosen) rfl rfl rfl (by decide +kernel) ⟨Nat.le_of_ble_eq_true rfl, Nat.le_of_ble_eq_true rfl⟩) (tk_preV (q0 := 2) hK hN hP hD [2] [] rfl rfl rfl rfl rfl) rfl rfl hl.1 rfl (lv_room (Nat.le_of_ble_eq_true rfl)) dT_acknowledge_49 ⟨Nat.le_of_ble_eq_true rfl, Nat.le_of_ble_eq_true rfl⟩) (fun H locs hP hD hS => ?_)
        have hP : va_P D vwCl (WT ad cA (tk_up (tk_up g 1 (tkC_serveChosen_s (g 1))) 2 (tkC_serveChosen_s (g 2)))) H := hP
        have hD : va_D A (WT ad cA (tk_up (tk_up g 1 (tkC_serveChosen_s (g 1))) 2 (tkC_serveChosen_s (g 2)))) := hD
        refine W.eq (g2 := F0 m 52 ls [.int (tkC_serveChosen_r (g 2)), .ref (ad 2)]) rfl ?_
        refine tk_call1 (cell := (ad 2, .inr (0, FC (tkC_serveChosen_s (g 2))))) (cell' := (ad 2, .inr (0, FC (tkC_serveChosen_s (g 2))))) 2 hP hD hS hA rfl rfl (va_runV (As := [.int (tkC_serveChosen_r (g 2))]) (rest := []) ⟨hx, hb, hml, hown, hw⟩ (kC_vectorOf l D (ad 2) (tkC_serveChosen_s (g 2)) (tkC_serveChosen_r (g 2)) H.size) (cwV 1 hw (tk_gV tkW_good wM_T_105 wI_C_vectorOf wS_C_vectorOf wZ_C wC_C_vectorOf) rfl rfl rfl (by decide +kernel) ⟨Nat.le_of_ble_eq_true rfl, Nat.le_of_ble_eq_true rfl⟩) (tk_preV (q0 := 2) hK hN hP hD [2] [] rfl rfl rfl rfl rfl) rfl rfl hl.1 rfl (lv_room (Nat.le_of_ble_eq_true rfl)) dT_acknowledge_52 ⟨Nat.le_of_ble_eq_true rfl, Nat.le_of_ble_eq_true rfl⟩) (fun H locs hP hD hS => ?_)
        have hP : va_P D vwCl (WT ad cA (tk_up (tk_up g 1 (tkC_serveChosen_s (g 1))) 2 (tkC_serveChosen_s (g 2)))) H := hP
        have hD : va_D A (WT ad cA (tk_up (tk_up g 1 (tkC_serveChosen_s (g 1))) 2 (tkC_serveChosen_s (g 2)))) := hD
        refine W.eq (g2 := F0 m 55 ls [.int (tkC_vectorOf_r (tkC_serveChosen_s (g 2)) (tkC_serveChosen_r (g 2)))]) rfl ?_
        refine lv_istore_n hx hb dT_acknowledge_55 rfl hl (by decide) rfl (fun ls hl => ?_)
        have hl : lv_has ls 3 [(2, .int (tkC_vectorOf_r (tkC_serveChosen_s (g 2)) (tkC_serveChosen_r (g 2)))), (1, .int (tkC_serveChosen_r (g 1))), (0, .ref (ad 0))] := hl
        refine lv_goto (tgt := 68) hx hb dT_acknowledge_56 (by decide) ?_
        refine lv_aload_n hx hb dT_acknowledge_68 rfl (lv_at hl 2 rfl) ?_
        refine tk_callA hD hS hA (va_runV (As := []) (rest := []) ⟨hx, hb, hml, hown, hw⟩ (kT_followLines l D ad cA (tk_up (tk_up g 1 (tkC_serveChosen_s (g 1))) 2 (tkC_serveChosen_s (g 2))) H.size) (cwV 0 hw (tk_gV tkW_good wM_T_59 wI_T_followLines wS_T_followLines wZ_T wC_T_followLines) rfl rfl rfl (by decide +kernel) ⟨Nat.le_of_ble_eq_true rfl, Nat.le_of_ble_eq_true rfl⟩) (tk_preT hK hN hP hD) rfl rfl hl.1 rfl (lv_room (Nat.le_of_ble_eq_true rfl)) dT_acknowledge_69 ⟨Nat.le_of_ble_eq_true rfl, Nat.le_of_ble_eq_true rfl⟩) (fun H locs hP hD hS => ?_)
        refine W.eq (g2 := F0 m 72 ls []) rfl ?_
        refine lv_iload_n hx hb dT_acknowledge_72 rfl (lv_at hl 0 rfl) ?_
        exact tk_iretX (Nat.le_of_ble_eq_true rfl) (Nat.le_of_ble_eq_true rfl) hx hb hr hlk hP hD hS dT_acknowledge_73 (by unfold tkT_acknowledge_k; rw [if_neg h1_]) (by unfold tkT_acknowledge_r; rw [if_neg h1_, if_pos h2_, if_pos h3_]) (congrArg (WT ad cA) (by unfold tkT_acknowledge_s; rw [if_neg h1_, if_pos h2_, if_pos h3_]))
  · exact vx_throw0 (own := RT) (cls := "java/lang/IllegalStateException") (names := ["java/lang/RuntimeException", "java/lang/Exception"]) hx hb hl9 hown (by decide +kernel) (by decide +kernel) (hw _ wL_T_96) (hw _ wZ_IllegalStateException) (vx_hat (L := vx_at0 RT 98 "java/lang/IllegalStateException" ["java/lang/RuntimeException", "java/lang/Exception"]) (B := [.castable "java/lang/IllegalStateException" "java/lang/IllegalStateException", .declares ⟨"java/lang/RuntimeException", "<init>", "()V"⟩, .declares ⟨"java/lang/Exception", "<init>", "()V"⟩, .declares ⟨"java/lang/Throwable", "<init>", "()V"⟩]) (fun w h => hw w (tkW_inS w h)) (by decide +kernel) (vx_c (va_Nw.use rfl (hN (.castable "java/lang/IllegalStateException" "java/lang/IllegalStateException") (by decide +kernel))) (vx_c (va_Nw.use rfl (hN (.declares ⟨"java/lang/RuntimeException", "<init>", "()V"⟩) (by decide +kernel))) (vx_c (va_Nw.use rfl (hN (.declares ⟨"java/lang/Exception", "<init>", "()V"⟩) (by decide +kernel))) (vx_c (va_Nw.use rfl (hN (.declares ⟨"java/lang/Throwable", "<init>", "()V"⟩) (by decide +kernel))) vx_n))))) (by decide +kernel) hE.1 hE.2 hS (hl.1.trans hml.symm) dT_acknowledge_10 dT_acknowledge_13 dT_acknowledge_14 dT_acknowledge_17 (fun x hx => (hEx x hx).elim) (Nat.le_of_ble_eq_true rfl) (Nat.le_of_ble_eq_true rfl) (Nat.le_of_ble_eq_true rfl) (Nat.le_of_ble_eq_true rfl) hlk (tk_xc hP hS (Or.inr ⟨(by unfold tkT_acknowledge_k; rw [if_pos h1_]), rfl⟩)) hS.2.2 (Nat.le_of_ble_eq_true rfl) (Nat.le_of_ble_eq_true rfl)
def tkT_tickB_r (g : Nat → Nat → Int32) (r : Int32) : Int32 :=
  if (g 4) 1 = 0 then (if (tkN_step_s (g 4)) 1 = 0 then r
    else r + 1)
  else r
def tkT_tickB_s (g : Nat → Nat → Int32) : Nat → Nat → Int32 :=
  tkT_followLines_s (tk_up (tk_up (tk_up g 4 (tkN_step_s (g 4))) 5 (tkN_step_s (g 5))) 6 (tkN_step_s (g 6)))
def tkT_ticks : Nat → (Nat → Nat → Int32) → Int32 → (Nat → Nat → Int32) × Int32
  | 0, g, r => (g, r)
  | k + 1, g, r => tkT_ticks k (tkT_tickB_s g) (tkT_tickB_r g r)
def tkT_tick_r (g : Nat → Nat → Int32) (x0 : Int32) : Int32 := (tkT_ticks x0.toInt.toNat g 0).2
def tkT_tick_s (g : Nat → Nat → Int32) (x0 : Int32) : Nat → Nat → Int32 := (tkT_ticks x0.toInt.toNat g 0).1
def tkT_tick_k (g : Nat → Nat → Int32) (x0 : Int32) : Int32 :=
  if x0 < 0 then 1
  else if x0 ≤ 100 then 0
    else 1
set_option maxHeartbeats 1000000 in
set_option maxRecDepth 100000 in
theorem kT_tick (l : Launch) (hl9 : l.stackTraces = false) (D : va_G) (ad : Nat → Nat) (cA : ClassId) (g : Nat → Nat → Int32) (x0 : Int32) : tk_MX l yT_tick wsT_tick { frames := 6, cells := 1, slots := 6, locals := 81 } D [(cA, .object "TickLines$Counter")] [.ref (ad 0), .int x0] (WT ad cA g) (WT ad cA (tkT_tick_s g x0)) (some (.int (tkT_tick_r g x0))) (tkT_tick_k g x0) := by
  refine tk_MX.of (cc := cT_tick) (maxL := 6) (ret := (some .int)) (by decide) rfl (Nat.le_of_ble_eq_true rfl) ?_
  intro p e s m below meth co A H locs ls hB hEx hE hK hN hA hP hD hS hl
  obtain ⟨hx, hb, hr, hml, hown, hlk, hnm, hts⟩ := hB
  have hown : s.vm.findClass RT = some m.cls := hown
  have hl : lv_has ls 6 [(0, .ref (ad 0)), (1, .int x0)] := hl
  have hw : ∀ w ∈ tkW, w.before _ s = true := fun w h => hts w (List.mem_cons_of_mem _ h)
  have f24 := hw _ wF_T_24
  have loop : tkT_tick_k g x0 = 0 → ∀ (k i : Nat) (g1 : Nat → Nat → Int32) (r : Int32) (H : Heap) (locs : List Loc) (ls : Array Slot), i + k = x0.toInt.toNat → tkT_ticks k g1 r = tkT_ticks x0.toInt.toNat g 0 → lv_has ls 6 [(3, .int (nI i)), (2, .int r), (0, .ref (ad 0)), (1, .int x0)] → va_P D vwCl (WT ad cA g1) H → va_D A (WT ad cA g1) → va_S A s.heap H locs → W p l e { frames := 6, cells := 1, slots := 6, locals := 81 } s m #[.ref (ad 0), .int x0] below meth co H locs 0 0 (vx_MQ below (tk_QX (tkT_tick_k g x0) D A (WT ad cA (tkT_tick_s g x0)) (some (.int (tkT_tick_r g x0)))) (tk_XC D A (WT ad cA g) (tkT_tick_k g x0)) #[.ref (ad 0), .int x0] s 1 6 A) (F0 m 22 ls []) := by
    intro hk9 k
    induction k with
    | zero =>
      intro i g1 r H locs ls hik hF hl hP hD hS
      have hF : tkT_ticks x0.toInt.toNat g 0 = (g1, r) := hF.symm
      have hc : x0 ≤ nI i := tk_ge (by omega)
      refine lv_iload_n hx hb dT_tick_22 rfl (lv_at hl 0 rfl) ?_
      refine lv_iload_n hx hb dT_tick_23 rfl (lv_at hl 3 rfl) ?_
      refine lv_icmp_ge (tgt := 93) hx hb dT_tick_24 (by decide) (fun _ => ?_) (fun h => absurd hc h)
      refine lv_iload_n hx hb dT_tick_93 rfl (lv_at hl 1 rfl) ?_
      exact tk_iretX (Nat.le_of_ble_eq_true rfl) (Nat.le_of_ble_eq_true rfl) hx hb hr hlk hP hD hS dT_tick_94 hk9 (congrArg Prod.snd hF) (congrArg (fun z => WT ad cA z.1) hF)
    | succ k ih =>
      intro i g1 r H locs ls hik hF hl hP hD hS
      have hc : ¬ x0 ≤ nI i := tk_nge (by omega)
      refine lv_iload_n hx hb dT_tick_22 rfl (lv_at hl 0 rfl) ?_
      refine lv_iload_n hx hb dT_tick_23 rfl (lv_at hl 3 rfl) ?_
      refine lv_icmp_ge (tgt := 93) hx hb dT_tick_24 (by decide) (fun h => absurd h hc) (fun _ => ?_)
      refine lv_aload_n hx hb dT_tick_27 rfl (lv_at hl 2 rfl) ?_
      refine va_get (D := D) (ci := 2) (v := .ref (ad 3)) (C := RT) (T := TT) (N := 3) hx hb hw inT hown hK hP 0 rfl rfl 2 (by decide) f24 (fun _ h9 => h9) rfl dT_tick_28 ?_
      refine lv_iconst (v := 0) hx hb dT_tick_31 (by decide) ?_
      refine va_aldq hx hb hK hP 3 0 rfl rfl (by unfold vp_in; decide) dT_tick_32 ?_
      refine W.eq (g2 := F0 m 33 ls [.ref (ad 4)]) rfl ?_
      refine va_getN (D := D) (ci := 1) (v := .int ((g1 4) 1)) (C := RN) (T := TN) (N := 14) hx hb hw inN hown hK hP 4 rfl rfl 1 (by decide) (va_Nw.use rfl (hN (.fieldLinkNest RT 86 "TickLines$Counter" "output" "Z" "TickLines") (by decide +kernel))) (fun _ h9 => h9) rfl dT_tick_33 ?_
      refine lv_istore hx hb dT_tick_36 hl (by decide) rfl (fun ls hl => ?_)
      have hl : lv_has ls 6 [(4, .int ((g1 4) 1)), (3, .int (nI i)), (2, .int r), (0, .ref (ad 0)), (1, .int x0)] := hl
      refine lv_iconst (v := 0) hx hb dT_tick_38 (by decide) ?_
      refine lv_istore hx hb dT_tick_39 hl (by decide) rfl (fun ls hl => ?_)
      have hl : lv_has ls 6 [(5, .int 0), (4, .int ((g1 4) 1)), (3, .int (nI i)), (2, .int r), (0, .ref (ad 0)), (1, .int x0)] := hl
      refine lv_iload hx hb dT_tick_41 (lv_at hl 0 rfl) ?_
      refine lv_iconst (v := 3) hx hb dT_tick_43 (by decide) ?_
      refine lv_icmp_ge (tgt := 63) hx hb dT_tick_44 (by decide) (fun h => absurd h (by decide)) (fun _ => ?_)
      refine lv_aload_n hx hb dT_tick_47 rfl (lv_at hl 4 rfl) ?_
      refine va_get (D := D) (ci := 2) (v := .ref (ad 3)) (C := RT) (T := TT) (N := 3) hx hb hw inT hown hK hP 0 rfl rfl 2 (by decide) f24 (fun _ h9 => h9) rfl dT_tick_48 ?_
      refine lv_iload hx hb dT_tick_51 (lv_at hl 0 rfl) ?_
      refine va_aldq hx hb hK hP 3 0 rfl rfl (by unfold vp_in; decide) dT_tick_53 ?_
      refine W.eq (g2 := F0 m 54 ls [.ref (ad 4)]) rfl ?_
      refine tk_call1 (cell := (ad 4, .inr (1, FN (g1 4)))) (cell' := (ad 4, .inr (1, FN (tkN_step_s (g1 4))))) 4 hP hD hS hA rfl rfl (va_runV (As := []) (rest := []) ⟨hx, hb, hml, hown, hw⟩ (kN_step l D (ad 4) (g1 4) H.size) (cwV 0 hw (tk_gV tkW_good wM_T_90 wI_N_step wS_N_step wZ_N wC_N_step) rfl rfl rfl (by decide +kernel) ⟨Nat.le_of_ble_eq_true rfl, Nat.le_of_ble_eq_true rfl⟩) (tk_preV (q0 := 4) hK hN hP hD [4] [] rfl rfl rfl rfl rfl) rfl rfl hl.1 rfl (lv_room (Nat.le_of_ble_eq_true rfl)) dT_tick_54 ⟨Nat.le_of_ble_eq_true rfl, Nat.le_of_ble_eq_true rfl⟩) (fun H locs hP hD hS => ?_)
      have hP : va_P D vwCl (WT ad cA (tk_up g1 4 (tkN_step_s (g1 4)))) H := hP
      have hD : va_D A (WT ad cA (tk_up g1 4 (tkN_step_s (g1 4)))) := hD
      refine W.eq (g2 := F0 m 57 ls []) rfl ?_
      refine lv_iinc (k := 0) (v := 1) hx hb dT_tick_57 hl rfl (by decide) (by decide) rfl (fun ls hl => ?_)
      have hl : lv_has ls 6 [(5, .int 1), (4, .int ((g1 4) 1)), (3, .int (nI i)), (2, .int r), (0, .ref (ad 0)), (1, .int x0)] := hl
      refine lv_goto (tgt := 41) hx hb dT_tick_60 (by decide) ?_
      refine lv_iload hx hb dT_tick_41 (lv_at hl 0 rfl) ?_
      refine lv_iconst (v := 3) hx hb dT_tick_43 (by decide) ?_
      refine lv_icmp_ge (tgt := 63) hx hb dT_tick_44 (by decide) (fun h => absurd h (by decide)) (fun _ => ?_)
      refine lv_aload_n hx hb dT_tick_47 rfl (lv_at hl 4 rfl) ?_
      refine va_get (D := D) (ci := 2) (v := .ref (ad 3)) (C := RT) (T := TT) (N := 3) hx hb hw inT hown hK hP 0 rfl rfl 2 (by decide) f24 (fun _ h9 => h9) rfl dT_tick_48 ?_
      refine lv_iload hx hb dT_tick_51 (lv_at hl 0 rfl) ?_
      refine va_aldq hx hb hK hP 3 0 rfl rfl (by unfold vp_in; decide) dT_tick_53 ?_
      refine W.eq (g2 := F0 m 54 ls [.ref (ad 5)]) rfl ?_
      refine tk_call1 (cell := (ad 5, .inr (1, FN (g1 5)))) (cell' := (ad 5, .inr (1, FN (tkN_step_s (g1 5))))) 5 hP hD hS hA rfl rfl (va_runV (As := []) (rest := []) ⟨hx, hb, hml, hown, hw⟩ (kN_step l D (ad 5) (g1 5) H.size) (cwV 0 hw (tk_gV tkW_good wM_T_90 wI_N_step wS_N_step wZ_N wC_N_step) rfl rfl rfl (by decide +kernel) ⟨Nat.le_of_ble_eq_true rfl, Nat.le_of_ble_eq_true rfl⟩) (tk_preV (q0 := 5) hK hN hP hD [5] [] rfl rfl rfl rfl rfl) rfl rfl hl.1 rfl (lv_room (Nat.le_of_ble_eq_true rfl)) dT_tick_54 ⟨Nat.le_of_ble_eq_true rfl, Nat.le_of_ble_eq_true rfl⟩) (fun H locs hP hD hS => ?_)
      have hP : va_P D vwCl (WT ad cA (tk_up (tk_up g1 4 (tkN_step_s (g1 4))) 5 (tkN_step_s (g1 5)))) H := hP
      have hD : va_D A (WT ad cA (tk_up (tk_up g1 4 (tkN_step_s (g1 4))) 5 (tkN_step_s (g1 5)))) := hD
      refine W.eq (g2 := F0 m 57 ls []) rfl ?_
      refine lv_iinc (k := 0) (v := 2) hx hb dT_tick_57 hl rfl (by decide) (by decide) rfl (fun ls hl => ?_)
      have hl : lv_has ls 6 [(5, .int 2), (4, .int ((g1 4) 1)), (3, .int (nI i)), (2, .int r), (0, .ref (ad 0)), (1, .int x0)] := hl
      refine lv_goto (tgt := 41) hx hb dT_tick_60 (by decide) ?_
      refine lv_iload hx hb dT_tick_41 (lv_at hl 0 rfl) ?_
      refine lv_iconst (v := 3) hx hb dT_tick_43 (by decide) ?_
      refine lv_icmp_ge (tgt := 63) hx hb dT_tick_44 (by decide) (fun h => absurd h (by decide)) (fun _ => ?_)
      refine lv_aload_n hx hb dT_tick_47 rfl (lv_at hl 4 rfl) ?_
      refine va_get (D := D) (ci := 2) (v := .ref (ad 3)) (C := RT) (T := TT) (N := 3) hx hb hw inT hown hK hP 0 rfl rfl 2 (by decide) f24 (fun _ h9 => h9) rfl dT_tick_48 ?_
      refine lv_iload hx hb dT_tick_51 (lv_at hl 0 rfl) ?_
      refine va_aldq hx hb hK hP 3 0 rfl rfl (by unfold vp_in; decide) dT_tick_53 ?_
      refine W.eq (g2 := F0 m 54 ls [.ref (ad 6)]) rfl ?_
      refine tk_call1 (cell := (ad 6, .inr (1, FN (g1 6)))) (cell' := (ad 6, .inr (1, FN (tkN_step_s (g1 6))))) 6 hP hD hS hA rfl rfl (va_runV (As := []) (rest := []) ⟨hx, hb, hml, hown, hw⟩ (kN_step l D (ad 6) (g1 6) H.size) (cwV 0 hw (tk_gV tkW_good wM_T_90 wI_N_step wS_N_step wZ_N wC_N_step) rfl rfl rfl (by decide +kernel) ⟨Nat.le_of_ble_eq_true rfl, Nat.le_of_ble_eq_true rfl⟩) (tk_preV (q0 := 6) hK hN hP hD [6] [] rfl rfl rfl rfl rfl) rfl rfl hl.1 rfl (lv_room (Nat.le_of_ble_eq_true rfl)) dT_tick_54 ⟨Nat.le_of_ble_eq_true rfl, Nat.le_of_ble_eq_true rfl⟩) (fun H locs hP hD hS => ?_)
      have hP : va_P D vwCl (WT ad cA (tk_up (tk_up (tk_up g1 4 (tkN_step_s (g1 4))) 5 (tkN_step_s (g1 5))) 6 (tkN_step_s (g1 6)))) H := hP
      have hD : va_D A (WT ad cA (tk_up (tk_up (tk_up g1 4 (tkN_step_s (g1 4))) 5 (tkN_step_s (g1 5))) 6 (tkN_step_s (g1 6)))) := hD
      refine W.eq (g2 := F0 m 57 ls []) rfl ?_
      refine lv_iinc (k := 0) (v := 3) hx hb dT_tick_57 hl rfl (by decide) (by decide) rfl (fun ls hl => ?_)
      have hl : lv_has ls 6 [(5, .int 3), (4, .int ((g1 4) 1)), (3, .int (nI i)), (2, .int r), (0, .ref (ad 0)), (1, .int x0)] := hl
      refine lv_goto (tgt := 41) hx hb dT_tick_60 (by decide) ?_
      refine lv_iload hx hb dT_tick_41 (lv_at hl 0 rfl) ?_
      refine lv_iconst (v := 3) hx hb dT_tick_43 (by decide) ?_
      refine lv_icmp_ge (tgt := 63) hx hb dT_tick_44 (by decide) (fun _ => ?_) (fun h => absurd (by decide) h)
      refine lv_iload hx hb dT_tick_63 (lv_at hl 1 rfl) ?_
      refine lv_if_ne (tgt := 83) hx hb dT_tick_65 (by decide) (fun (h1_ : ¬ ((g1 4) 1 = 0)) => ?_) (fun (h1_ : (g1 4) 1 = 0) => ?_)
      · refine lv_aload_n hx hb dT_tick_83 rfl (lv_at hl 4 rfl) ?_
        refine tk_callA hD hS hA (va_runV (As := []) (rest := []) ⟨hx, hb, hml, hown, hw⟩ (kT_followLines l D ad cA (tk_up (tk_up (tk_up g1 4 (tkN_step_s (g1 4))) 5 (tkN_step_s (g1 5))) 6 (tkN_step_s (g1 6))) H.size) (cwV 0 hw (tk_gV tkW_good wM_T_59 wI_T_followLines wS_T_followLines wZ_T wC_T_followLines) rfl rfl rfl (by decide +kernel) ⟨Nat.le_of_ble_eq_true rfl, Nat.le_of_ble_eq_true rfl⟩) (tk_preT hK hN hP hD) rfl rfl hl.1 rfl (lv_room (Nat.le_of_ble_eq_true rfl)) dT_tick_84 ⟨Nat.le_of_ble_eq_true rfl, Nat.le_of_ble_eq_true rfl⟩) (fun H locs hP hD hS => ?_)
        refine W.eq (g2 := F0 m 87 ls []) rfl ?_
        refine lv_iinc (k := 2) (v := nI (i + 1)) hx hb dT_tick_87 hl rfl (tk_inc _) (by decide) rfl (fun ls hl => ?_)
        have hl : lv_has ls 6 [(3, .int (nI (i + 1))), (5, .int 3), (4, .int ((g1 4) 1)), (2, .int r), (0, .ref (ad 0)), (1, .int x0)] := hl
        refine lv_goto (tgt := 22) hx hb dT_tick_90 (by decide) ?_
        exact ih (i + 1) _ _ H locs ls (by omega) (by rw [← hF, tkT_ticks]; exact congrArg (fun z => tkT_ticks k (tkT_tickB_s g1) z) (by unfold tkT_tickB_r; rw [if_neg h1_])) (lv_sub hl [0, 3, 4, 5] rfl) hP hD hS
      · refine lv_aload_n hx hb dT_tick_68 rfl (lv_at hl 4 rfl) ?_
        refine va_get (D := D) (ci := 2) (v := .ref (ad 3)) (C := RT) (T := TT) (N := 3) hx hb hw inT hown hK hP 0 rfl rfl 2 (by decide) f24 (fun _ h9 => h9) rfl dT_tick_69 ?_
        refine lv_iconst (v := 0) hx hb dT_tick_72 (by decide) ?_
        refine va_aldq hx hb hK hP 3 0 rfl rfl (by unfold vp_in; decide) dT_tick_73 ?_
        refine W.eq (g2 := F0 m 74 ls [.ref (ad 4)]) rfl ?_
        refine va_getN (D := D) (ci := 1) (v := .int ((tkN_step_s (g1 4)) 1)) (C := RN) (T := TN) (N := 14) hx hb hw inN hown hK hP 4 rfl rfl 1 (by decide) (va_Nw.use rfl (hN (.fieldLinkNest RT 86 "TickLines$Counter" "output" "Z" "TickLines") (by decide +kernel))) (fun _ h9 => h9) rfl dT_tick_74 ?_
        refine lv_if_eq (tgt := 83) hx hb dT_tick_77 (by decide) (fun (h2_ : (tkN_step_s (g1 4)) 1 = 0) => ?_) (fun (h2_ : ¬ ((tkN_step_s (g1 4)) 1 = 0)) => ?_)
        · refine lv_aload_n hx hb dT_tick_83 rfl (lv_at hl 4 rfl) ?_
          refine tk_callA hD hS hA (va_runV (As := []) (rest := []) ⟨hx, hb, hml, hown, hw⟩ (kT_followLines l D ad cA (tk_up (tk_up (tk_up g1 4 (tkN_step_s (g1 4))) 5 (tkN_step_s (g1 5))) 6 (tkN_step_s (g1 6))) H.size) (cwV 0 hw (tk_gV tkW_good wM_T_59 wI_T_followLines wS_T_followLines wZ_T wC_T_followLines) rfl rfl rfl (by decide +kernel) ⟨Nat.le_of_ble_eq_true rfl, Nat.le_of_ble_eq_true rfl⟩) (tk_preT hK hN hP hD) rfl rfl hl.1 rfl (lv_room (Nat.le_of_ble_eq_true rfl)) dT_tick_84 ⟨Nat.le_of_ble_eq_true rfl, Nat.le_of_ble_eq_true rfl⟩) (fun H locs hP hD hS => ?_)
          refine W.eq (g2 := F0 m 87 ls []) rfl ?_
          refine lv_iinc (k := 2) (v := nI (i + 1)) hx hb dT_tick_87 hl rfl (tk_inc _) (by decide) rfl (fun ls hl => ?_)
          have hl : lv_has ls 6 [(3, .int (nI (i + 1))), (5, .int 3), (4, .int ((g1 4) 1)), (2, .int r), (0, .ref (ad 0)), (1, .int x0)] := hl
          refine lv_goto (tgt := 22) hx hb dT_tick_90 (by decide) ?_
          exact ih (i + 1) _ _ H locs ls (by omega) (by rw [← hF, tkT_ticks]; exact congrArg (fun z => tkT_ticks k (tkT_tickB_s g1) z) (by unfold tkT_tickB_r; rw [if_pos h1_, if_pos h2_])) (lv_sub hl [0, 3, 4, 5] rfl) hP hD hS
        · refine lv_iinc (k := 3) (v := r + 1) hx hb dT_tick_80 hl rfl rfl (by decide) rfl (fun ls hl => ?_)
          have hl : lv_has ls 6 [(2, .int (r + 1)), (5, .int 3), (4, .int ((g1 4) 1)), (3, .int (nI i)), (0, .ref (ad 0)), (1, .int x0)] := hl
          refine lv_aload_n hx hb dT_tick_83 rfl (lv_at hl 4 rfl) ?_
          refine tk_callA hD hS hA (va_runV (As := []) (rest := []) ⟨hx, hb, hml, hown, hw⟩ (kT_followLines l D ad cA (tk_up (tk_up (tk_up g1 4 (tkN_step_s (g1 4))) 5 (tkN_step_s (g1 5))) 6 (tkN_step_s (g1 6))) H.size) (cwV 0 hw (tk_gV tkW_good wM_T_59 wI_T_followLines wS_T_followLines wZ_T wC_T_followLines) rfl rfl rfl (by decide +kernel) ⟨Nat.le_of_ble_eq_true rfl, Nat.le_of_ble_eq_true rfl⟩) (tk_preT hK hN hP hD) rfl rfl hl.1 rfl (lv_room (Nat.le_of_ble_eq_true rfl)) dT_tick_84 ⟨Nat.le_of_ble_eq_true rfl, Nat.le_of_ble_eq_true rfl⟩) (fun H locs hP hD hS => ?_)
          refine W.eq (g2 := F0 m 87 ls []) rfl ?_
          refine lv_iinc (k := 3) (v := nI (i + 1)) hx hb dT_tick_87 hl rfl (tk_inc _) (by decide) rfl (fun ls hl => ?_)
          have hl : lv_has ls 6 [(3, .int (nI (i + 1))), (2, .int (r + 1)), (5, .int 3), (4, .int ((g1 4) 1)), (0, .ref (ad 0)), (1, .int x0)] := hl
          refine lv_goto (tgt := 22) hx hb dT_tick_90 (by decide) ?_
          exact ih (i + 1) _ _ H locs ls (by omega) (by rw [← hF, tkT_ticks]; exact congrArg (fun z => tkT_ticks k (tkT_tickB_s g1) z) (by unfold tkT_tickB_r; rw [if_pos h1_, if_neg h2_])) (lv_sub hl [0, 1, 4, 5] rfl) hP hD hS
  refine lv_iload_n hx hb dT_tick_0 rfl (lv_at hl 1 rfl) ?_
  refine lv_if_lt (tgt := 10) hx hb dT_tick_1 (by decide) (fun (h3_ : x0 < 0) => ?_) (fun (h3_ : ¬ (x0 < 0)) => ?_)
  · exact vx_throw0 (own := RT) (cls := "java/lang/IllegalArgumentException") (names := ["java/lang/RuntimeException", "java/lang/Exception"]) hx hb hl9 hown (by decide +kernel) (by decide +kernel) (hw _ wL_T_32) (hw _ wZ_IllegalArgumentException) (vx_hat (L := vx_at0 RT 34 "java/lang/IllegalArgumentException" ["java/lang/RuntimeException", "java/lang/Exception"]) (B := [.castable "java/lang/IllegalArgumentException" "java/lang/IllegalArgumentException", .declares ⟨"java/lang/RuntimeException", "<init>", "()V"⟩, .declares ⟨"java/lang/Exception", "<init>", "()V"⟩, .declares ⟨"java/lang/Throwable", "<init>", "()V"⟩]) (fun w h => hw w (tkW_inA w h)) (by decide +kernel) (vx_c (va_Nw.use rfl (hN (.castable "java/lang/IllegalArgumentException" "java/lang/IllegalArgumentException") (by decide +kernel))) (vx_c (va_Nw.use rfl (hN (.declares ⟨"java/lang/RuntimeException", "<init>", "()V"⟩) (by decide +kernel))) (vx_c (va_Nw.use rfl (hN (.declares ⟨"java/lang/Exception", "<init>", "()V"⟩) (by decide +kernel))) (vx_c (va_Nw.use rfl (hN (.declares ⟨"java/lang/Throwable", "<init>", "()V"⟩) (by decide +kernel))) vx_n))))) (by decide +kernel) hE.1 hE.2 hS (hl.1.trans hml.symm) dT_tick_10 dT_tick_13 dT_tick_14 dT_tick_17 (fun x hx => (hEx x hx).elim) (Nat.le_of_ble_eq_true rfl) (Nat.le_of_ble_eq_true rfl) (Nat.le_of_ble_eq_true rfl) (Nat.le_of_ble_eq_true rfl) hlk (tk_xc hP hS (Or.inl ⟨(by unfold tkT_tick_k; rw [if_pos h3_]), rfl⟩)) hS.2.2 (Nat.le_of_ble_eq_true rfl) (Nat.le_of_ble_eq_true rfl)
  · refine lv_iload_n hx hb dT_tick_4 rfl (lv_at hl 1 rfl) ?_
    refine lv_bipush (v := 100) hx hb dT_tick_5 (by decide) ?_
    refine lv_icmp_le (tgt := 18) hx hb dT_tick_7 (by decide) (fun (h4_ : x0 ≤ 100) => ?_) (fun (h4_ : ¬ (x0 ≤ 100)) => ?_)
    · refine lv_iconst (v := 0) hx hb dT_tick_18 (by decide) ?_
      refine lv_istore_n hx hb dT_tick_19 rfl hl (by decide) rfl (fun ls hl => ?_)
      have hl : lv_has ls 6 [(2, .int 0), (0, .ref (ad 0)), (1, .int x0)] := hl
      refine lv_iconst (v := 0) hx hb dT_tick_20 (by decide) ?_
      refine lv_istore_n hx hb dT_tick_21 rfl hl (by decide) rfl (fun ls hl => ?_)
      have hl : lv_has ls 6 [(3, .int 0), (2, .int 0), (0, .ref (ad 0)), (1, .int x0)] := hl
      have hk9 : tkT_tick_k g x0 = 0 := (by unfold tkT_tick_k; rw [if_neg h3_, if_pos h4_])
      exact loop hk9 x0.toInt.toNat 0 _ _ H locs ls (by omega) rfl (lv_sub hl [0, 1, 2, 3] rfl) hP hD hS
    · exact vx_throw0 (own := RT) (cls := "java/lang/IllegalArgumentException") (names := ["java/lang/RuntimeException", "java/lang/Exception"]) hx hb hl9 hown (by decide +kernel) (by decide +kernel) (hw _ wL_T_32) (hw _ wZ_IllegalArgumentException) (vx_hat (L := vx_at0 RT 34 "java/lang/IllegalArgumentException" ["java/lang/RuntimeException", "java/lang/Exception"]) (B := [.castable "java/lang/IllegalArgumentException" "java/lang/IllegalArgumentException", .declares ⟨"java/lang/RuntimeException", "<init>", "()V"⟩, .declares ⟨"java/lang/Exception", "<init>", "()V"⟩, .declares ⟨"java/lang/Throwable", "<init>", "()V"⟩]) (fun w h => hw w (tkW_inA w h)) (by decide +kernel) (vx_c (va_Nw.use rfl (hN (.castable "java/lang/IllegalArgumentException" "java/lang/IllegalArgumentException") (by decide +kernel))) (vx_c (va_Nw.use rfl (hN (.declares ⟨"java/lang/RuntimeException", "<init>", "()V"⟩) (by decide +kernel))) (vx_c (va_Nw.use rfl (hN (.declares ⟨"java/lang/Exception", "<init>", "()V"⟩) (by decide +kernel))) (vx_c (va_Nw.use rfl (hN (.declares ⟨"java/lang/Throwable", "<init>", "()V"⟩) (by decide +kernel))) vx_n))))) (by decide +kernel) hE.1 hE.2 hS (hl.1.trans hml.symm) dT_tick_10 dT_tick_13 dT_tick_14 dT_tick_17 (fun x hx => (hEx x hx).elim) (Nat.le_of_ble_eq_true rfl) (Nat.le_of_ble_eq_true rfl) (Nat.le_of_ble_eq_true rfl) (Nat.le_of_ble_eq_true rfl) hlk (tk_xc hP hS (Or.inl ⟨(by unfold tkT_tick_k; rw [if_neg h3_, if_neg h4_]), rfl⟩)) hS.2.2 (Nat.le_of_ble_eq_true rfl) (Nat.le_of_ble_eq_true rfl)
