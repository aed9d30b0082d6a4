set_option maxHeartbeats 2000000 in
set_option maxRecDepth 100000 in
theorem kL_write (l : Launch) (hl9 : l.stackTraces = false) (D : va_G) (ad : Nat → Nat) (cA : ClassId) (g : Nat → Nat → Int32) (x0 x1 : Int32) : ∀ sz : Nat, Met l yL_write (.codeWith yL_write cL_write 4 (some .int) hhL_write :: tkWH) { frames := 8, cells := 1, slots := 6, locals := 125 } (va_Pc [.ref (ad 0), .int x0, .int x1] (tk_PH D [(cA, .object "TickLines$Counter")] (WT ad cA g) sz)) (tk_Q D (va_A (WT ad cA g) sz) (WT ad cA (if tkT_write_k g x0 x1 = 0 then tkT_write_s g x0 x1 else g)) (some (.int (tkT_write_k g x0 x1)))) 1 6 (va_A (WT ad cA g) sz) := by
  refine tk_ofH (cc := cL_write) (maxL := 4) (ret := (some .int)) (by decide) rfl (Nat.le_of_ble_eq_true rfl) ?_
  intro p e s m below meth co A H locs ls hB hTab hE hNc hK hN hA hP hD hS hl
  obtain ⟨hx, hb, hr, hml, hown, hlk, hnm, hts⟩ := hB
  have hown : s.vm.findClass "TickLinesLaw" = some m.cls := hown
  have hw : ∀ w ∈ tkWH, w.before _ s = true := fun w h => hts w (List.mem_cons_of_mem _ h)
  have hl : lv_has ls 4 [(0, .ref (ad 0)), (1, .int x0), (2, .int x1)] := hl
  refine lv_aload_n hx hb dL_write_0 rfl (lv_at hl 0 rfl) ?_
  refine lv_iload_n hx hb dL_write_1 rfl (lv_at hl 1 rfl) ?_
  refine lv_iload_n hx hb dL_write_2 rfl (lv_at hl 2 rfl) ?_
  refine tk_callX hD hS hA (vx_runV (As := [.int x0, .int x1]) (rest := []) ⟨hx, hb, hml, hown, hw⟩ (kT_write l hl9 D ad cA g x0 x1 H.size) (cwV 2 hw (tk_gVL tkWH_k tkWH_good (tkWH_l _ wM_L_7) wI_T_write wS_T_write wZ_T wC_T_write) rfl rfl rfl (by decide +kernel) ⟨(Nat.le_of_ble_eq_true rfl), (Nat.le_of_ble_eq_true rfl)⟩) (tk_preTX hE hS hA hK hN hP hD) rfl rfl hl.1 rfl (lv_room (Nat.le_of_ble_eq_true rfl)) dL_write_3 ⟨(Nat.le_of_ble_eq_true rfl), (Nat.le_of_ble_eq_true rfl)⟩) (fun E ce q9 H locs hEk hP hS hce hcv hcl => ?_) (fun hk0 H locs hP hD hS => ?_)
  · rcases hEk with ⟨hk1, rfl⟩ | ⟨hk1, rfl⟩
    · refine vx_catch (own := "TickLinesLaw") (name := "java/lang/IllegalArgumentException") (E := "java/lang/IllegalArgumentException") hown [] ⟨0, 6, 9, 13⟩ [⟨0, 6, 12, 15⟩] (by rw [hTab]; rfl) (fun z hz => nomatch hz) (by decide) (by decide) (hw _ (tkWH_l _ wL_L_13)) (va_Nw.use rfl (hN (.castable "java/lang/IllegalArgumentException" "java/lang/IllegalArgumentException") (by decide +kernel))) hce hcv hcl ?_
      refine lv_astore_n hx hb dL_write_9 rfl hl (by decide) rfl (fun ls hl => ?_)
      refine lv_iconst (v := 1) hx hb dL_write_10 (by decide) ?_
      have hP : va_P D vwCl (WT ad cA g) H := hP
      exact tk_iret hx hb hr hlk hP hD hS dL_write_11 hk1 (by rw [if_neg (by rw [hk1]; decide)])
    · refine vx_catch (own := "TickLinesLaw") (name := "java/lang/IllegalStateException") (E := "java/lang/IllegalStateException") hown [⟨0, 6, 9, 13⟩] ⟨0, 6, 12, 15⟩ [] (by rw [hTab]; rfl) (fun z hz => by
        rcases List.mem_cons.mp hz with rfl | hz
        · exact Or.inr ⟨by decide, "java/lang/IllegalArgumentException", hw _ (tkWH_l _ wL_L_13), hNc⟩
        · cases hz) (by decide) (by decide) (hw _ (tkWH_l _ wL_L_15)) (va_Nw.use rfl (hN (.castable "java/lang/IllegalStateException" "java/lang/IllegalStateException") (by decide +kernel))) hce hcv hcl ?_
      refine lv_astore_n hx hb dL_write_12 rfl hl (by decide) rfl (fun ls hl => ?_)
      refine lv_iconst (v := 2) hx hb dL_write_13 (by decide) ?_
      have hP : va_P D vwCl (WT ad cA g) H := hP
      exact tk_iret hx hb hr hlk hP hD hS dL_write_14 hk1 (by rw [if_neg (by rw [hk1]; decide)])
  · refine W.eq (g2 := F0 m 6 ls []) rfl ?_
    refine lv_goto (tgt := 15) hx hb dL_write_6 (by decide) ?_
    refine lv_iconst (v := 0) hx hb dL_write_15 (by decide) ?_
    exact tk_iret hx hb hr hlk hP hD hS dL_write_16 hk0 (by rw [if_pos hk0])
set_option maxHeartbeats 2000000 in
set_option maxRecDepth 100000 in
theorem kL_read (l : Launch) (hl9 : l.stackTraces = false) (D : va_G) (ad : Nat → Nat) (cA : ClassId) (g : Nat → Nat → Int32) (ao : Nat) (cJ : ClassId) (f : Nat → Int64) (x0 : Int32) : ∀ sz : Nat, Met l yL_read (.codeWith yL_read cL_read 4 (some .int) hhL_read :: tkWH) { frames := 8, cells := 1, slots := 6, locals := 125 } (va_Pc [.ref (ad 0), .int x0, .ref ao] (tk_PH D [(cA, .object "TickLines$Counter"), (cJ, .long)] (WTo ad cA g ao cJ f) sz)) (tk_Q D (va_A (WTo ad cA g ao cJ f) sz) (WTo ad cA (if tkT_read_k g x0 = 0 then tkT_read_s g x0 else g) ao cJ (if tkT_read_k g x0 = 0 then vp_updL f (0 : Int32).toNatClampNeg (tkT_read_r g x0).toInt64 else f)) (some (.int (tkT_read_k g x0)))) 1 6 (va_A (WTo ad cA g ao cJ f) sz) := by
  refine tk_ofH (cc := cL_read) (maxL := 4) (ret := (some .int)) (by decide) rfl (Nat.le_of_ble_eq_true rfl) ?_
  intro p e s m below meth co A H locs ls hB hTab hE hNc hK hN hA hP hD hS hl
  obtain ⟨hx, hb, hr, hml, hown, hlk, hnm, hts⟩ := hB
  have hown : s.vm.findClass "TickLinesLaw" = some m.cls := hown
  have hw : ∀ w ∈ tkWH, w.before _ s = true := fun w h => hts w (List.mem_cons_of_mem _ h)
  have hl : lv_has ls 4 [(0, .ref (ad 0)), (1, .int x0), (2, .ref ao)] := hl
  refine lv_aload_n hx hb dL_read_0 rfl (lv_at hl 2 rfl) ?_
  refine lv_iconst (v := 0) hx hb dL_read_1 (by decide) ?_
  refine lv_aload_n hx hb dL_read_2 rfl (lv_at hl 0 rfl) ?_
  refine lv_iload_n hx hb dL_read_3 rfl (lv_at hl 1 rfl) ?_
  refine tk_callXS (wa := []) (wc := WT ad cA g) (wb := [(ao, .inl (cJ, 1, .inr (.inl f)))]) hP hD hS hA (vx_runV (As := [.int x0]) (rest := [.int 0, .ref ao]) ⟨hx, hb, hml, hown, hw⟩ (kT_read l hl9 D ad cA g x0 H.size) (cwV 1 hw (tk_gVL tkWH_k tkWH_good (tkWH_l _ wM_L_17) wI_T_read wS_T_read wZ_T wC_T_read) rfl rfl rfl (by decide +kernel) ⟨(Nat.le_of_ble_eq_true rfl), (Nat.le_of_ble_eq_true rfl)⟩) (tk_preVXY (q0 := 0) (T := TT) (N := 3) hE hS (tk_Fseg (wa := []) (wb := [(ao, .inl (cJ, 1, .inr (.inl f)))]) hD hS hA) (hK.sub [0] rfl) hN (tk_P_l hP) (tk_D_l hD) rfl rfl) rfl rfl hl.1 rfl (lv_room (Nat.le_of_ble_eq_true rfl)) dL_read_4 ⟨(Nat.le_of_ble_eq_true rfl), (Nat.le_of_ble_eq_true rfl)⟩) (fun E ce q9 H locs hEk hP hS hce hcv hcl => ?_) (fun hk0 H locs hP hD hS => ?_)
  · rcases hEk with ⟨hk1, rfl⟩ | ⟨hk1, rfl⟩
    · refine vx_catch (own := "TickLinesLaw") (name := "java/lang/IllegalArgumentException") (E := "java/lang/IllegalArgumentException") hown [] ⟨0, 9, 12, 13⟩ [⟨0, 9, 15, 15⟩] (by rw [hTab]; rfl) (fun z hz => nomatch hz) (by decide) (by decide) (hw _ (tkWH_l _ wL_L_13)) (va_Nw.use rfl (hN (.castable "java/lang/IllegalArgumentException" "java/lang/IllegalArgumentException") (by decide +kernel))) hce hcv hcl ?_
      refine lv_astore_n hx hb dL_read_12 rfl hl (by decide) rfl (fun ls hl => ?_)
      refine lv_iconst (v := 1) hx hb dL_read_13 (by decide) ?_
      have hP : va_P D vwCl (WTo ad cA g ao cJ f) H := hP
      exact tk_iret hx hb hr hlk hP hD hS dL_read_14 hk1 (by rw [if_neg (by rw [hk1]; decide), if_neg (by rw [hk1]; decide)])
    · refine vx_catch (own := "TickLinesLaw") (name := "java/lang/IllegalStateException") (E := "java/lang/IllegalStateException") hown [⟨0, 9, 12, 13⟩] ⟨0, 9, 15, 15⟩ [] (by rw [hTab]; rfl) (fun z hz => by
        rcases List.mem_cons.mp hz with rfl | hz
        · exact Or.inr ⟨by decide, "java/lang/IllegalArgumentException", hw _ (tkWH_l _ wL_L_13), hNc⟩
        · cases hz) (by decide) (by decide) (hw _ (tkWH_l _ wL_L_15)) (va_Nw.use rfl (hN (.castable "java/lang/IllegalStateException" "java/lang/IllegalStateException") (by decide +kernel))) hce hcv hcl ?_
      refine lv_astore_n hx hb dL_read_15 rfl hl (by decide) rfl (fun ls hl => ?_)
      refine lv_iconst (v := 2) hx hb dL_read_16 (by decide) ?_
      have hP : va_P D vwCl (WTo ad cA g ao cJ f) H := hP
      exact tk_iret hx hb hr hlk hP hD hS dL_read_17 hk1 (by rw [if_neg (by rw [hk1]; decide), if_neg (by rw [hk1]; decide)])
  · refine W.eq (g2 := F0 m 7 ls [.int (tkT_read_r g x0), .int 0, .ref ao]) rfl ?_
    refine lv_i2l (v := (tkT_read_r g x0).toInt64) hx hb dL_read_7 rfl ?_
    have hP : va_P D vwCl (WTo ad cA (tkT_read_s g x0) ao cJ f) H := hP
    have hD : va_D A (WTo ad cA (tkT_read_s g x0) ao cJ f) := hD
    refine va_last hx hb hK hP hD hS 7 1 rfl rfl (by unfold vp_in; decide) dL_read_8 (fun H locs hP hD hS => ?_)
    have hP : va_P D vwCl (WTo ad cA (tkT_read_s g x0) ao cJ (vp_updL f (0 : Int32).toNatClampNeg (tkT_read_r g x0).toInt64)) H := hP
    have hD : va_D A (WTo ad cA (tkT_read_s g x0) ao cJ (vp_updL f (0 : Int32).toNatClampNeg (tkT_read_r g x0).toInt64)) := hD
    refine lv_goto (tgt := 18) hx hb dL_read_9 (by decide) ?_
    refine lv_iconst (v := 0) hx hb dL_read_18 (by decide) ?_
    exact tk_iret hx hb hr hlk hP hD hS dL_read_19 hk0 (by rw [if_pos hk0, if_pos hk0])
set_option maxHeartbeats 2000000 in
set_option maxRecDepth 100000 in
theorem kL_tick (l : Launch) (hl9 : l.stackTraces = false) (D : va_G) (ad : Nat → Nat) (cA : ClassId) (g : Nat → Nat → Int32) (ao : Nat) (cJ : ClassId) (f : Nat → Int64) (x0 : Int32) : ∀ sz : Nat, Met l yL_tick (.codeWith yL_tick cL_tick 4 (some .int) hhL_tick :: tkWH) { frames := 7, cells := 1, slots := 6, locals := 106 } (va_Pc [.ref (ad 0), .int x0, .ref ao] (tk_PH D [(cA, .object "TickLines$Counter"), (cJ, .long)] (WTo ad cA g ao cJ f) sz)) (tk_Q D (va_A (WTo ad cA g ao cJ f) sz) (WTo ad cA (if tkT_tick_k g x0 = 0 then tkT_tick_s g x0 else g) ao cJ (if tkT_tick_k g x0 = 0 then vp_updL f (0 : Int32).toNatClampNeg (tkT_tick_r g x0).toInt64 else f)) (some (.int (tkT_tick_k g x0)))) 1 6 (va_A (WTo ad cA g ao cJ f) sz) := by
  refine tk_ofH (cc := cL_tick) (maxL := 4) (ret := (some .int)) (by decide) rfl (Nat.le_of_ble_eq_true rfl) ?_
  intro p e s m below meth co A H locs ls hB hTab hE hNc hK hN hA hP hD hS hl
  obtain ⟨hx, hb, hr, hml, hown, hlk, hnm, hts⟩ := hB
  have hown : s.vm.findClass "TickLinesLaw" = some m.cls := hown
  have hw : ∀ w ∈ tkWH, w.before _ s = true := fun w h => hts w (List.mem_cons_of_mem _ h)
  have hl : lv_has ls 4 [(0, .ref (ad 0)), (1, .int x0), (2, .ref ao)] := hl
  refine lv_aload_n hx hb dL_tick_0 rfl (lv_at hl 2 rfl) ?_
  refine lv_iconst (v := 0) hx hb dL_tick_1 (by decide) ?_
  refine lv_aload_n hx hb dL_tick_2 rfl (lv_at hl 0 rfl) ?_
  refine lv_iload_n hx hb dL_tick_3 rfl (lv_at hl 1 rfl) ?_
  refine tk_callXS (wa := []) (wc := WT ad cA g) (wb := [(ao, .inl (cJ, 1, .inr (.inl f)))]) hP hD hS hA (vx_runV (As := [.int x0]) (rest := [.int 0, .ref ao]) ⟨hx, hb, hml, hown, hw⟩ (kT_tick l hl9 D ad cA g x0 H.size) (cwV 1 hw (tk_gVL tkWH_k tkWH_good (tkWH_l _ wM_L_21) wI_T_tick wS_T_tick wZ_T wC_T_tick) rfl rfl rfl (by decide +kernel) ⟨(Nat.le_of_ble_eq_true rfl), (Nat.le_of_ble_eq_true rfl)⟩) (tk_preVXY (q0 := 0) (T := TT) (N := 3) hE hS (tk_Fseg (wa := []) (wb := [(ao, .inl (cJ, 1, .inr (.inl f)))]) hD hS hA) (hK.sub [0] rfl) hN (tk_P_l hP) (tk_D_l hD) rfl rfl) rfl rfl hl.1 rfl (lv_room (Nat.le_of_ble_eq_true rfl)) dL_tick_4 ⟨(Nat.le_of_ble_eq_true rfl), (Nat.le_of_ble_eq_true rfl)⟩) (fun E ce q9 H locs hEk hP hS hce hcv hcl => ?_) (fun hk0 H locs hP hD hS => ?_)
  · rcases hEk with ⟨hk1, rfl⟩ | ⟨hk1, rfl⟩
    · refine vx_catch (own := "TickLinesLaw") (name := "java/lang/IllegalArgumentException") (E := "java/lang/IllegalArgumentException") hown [] ⟨0, 9, 12, 13⟩ [] (by rw [hTab]; rfl) (fun z hz => nomatch hz) (by decide) (by decide) (hw _ (tkWH_l _ wL_L_13)) (va_Nw.use rfl (hN (.castable "java/lang/IllegalArgumentException" "java/lang/IllegalArgumentException") (by decide +kernel))) hce hcv hcl ?_
      refine lv_astore_n hx hb dL_tick_12 rfl hl (by decide) rfl (fun ls hl => ?_)
      refine lv_iconst (v := 1) hx hb dL_tick_13 (by decide) ?_
      have hP : va_P D vwCl (WTo ad cA g ao cJ f) H := hP
      exact tk_iret hx hb hr hlk hP hD hS dL_tick_14 hk1 (by rw [if_neg (by rw [hk1]; decide), if_neg (by rw [hk1]; decide)])
    · exact absurd hk1 (tkT_tick_k2 _ _)
  · refine W.eq (g2 := F0 m 7 ls [.int (tkT_tick_r g x0), .int 0, .ref ao]) rfl ?_
    refine lv_i2l (v := (tkT_tick_r g x0).toInt64) hx hb dL_tick_7 rfl ?_
    have hP : va_P D vwCl (WTo ad cA (tkT_tick_s g x0) ao cJ f) H := hP
    have hD : va_D A (WTo ad cA (tkT_tick_s g x0) ao cJ f) := hD
    refine va_last hx hb hK hP hD hS 7 1 rfl rfl (by unfold vp_in; decide) dL_tick_8 (fun H locs hP hD hS => ?_)
    have hP : va_P D vwCl (WTo ad cA (tkT_tick_s g x0) ao cJ (vp_updL f (0 : Int32).toNatClampNeg (tkT_tick_r g x0).toInt64)) H := hP
    have hD : va_D A (WTo ad cA (tkT_tick_s g x0) ao cJ (vp_updL f (0 : Int32).toNatClampNeg (tkT_tick_r g x0).toInt64)) := hD
    refine lv_goto (tgt := 15) hx hb dL_tick_9 (by decide) ?_
    refine lv_iconst (v := 0) hx hb dL_tick_15 (by decide) ?_
    exact tk_iret hx hb hr hlk hP hD hS dL_tick_16 hk0 (by rw [if_pos hk0, if_pos hk0])
set_option maxHeartbeats 2000000 in
set_option maxRecDepth 100000 in
theorem kL_acknowledge (l : Launch) (hl9 : l.stackTraces = false) (D : va_G) (ad : Nat → Nat) (cA : ClassId) (g : Nat → Nat → Int32) (ao : Nat) (cJ : ClassId) (f : Nat → Int64) : ∀ sz : Nat, Met l yL_acknowledge (.codeWith yL_acknowledge cL_acknowledge 3 (some .int) hhL_acknowledge :: tkWH) { frames := 7, cells := 1, slots := 6, locals := 103 } (va_Pc [.ref (ad 0), .ref ao] (tk_PH D [(cA, .object "TickLines$Counter"), (cJ, .long)] (WTo ad cA g ao cJ f) sz)) (tk_Q D (va_A (WTo ad cA g ao cJ f) sz) (WTo ad cA (if tkT_acknowledge_k g = 0 then tkT_acknowledge_s g else g) ao cJ (if tkT_acknowledge_k g = 0 then vp_updL f (0 : Int32).toNatClampNeg (tkT_acknowledge_r g).toInt64 else f)) (some (.int ((if tkT_acknowledge_k g = 0 then 0 else 1))))) 1 6 (va_A (WTo ad cA g ao cJ f) sz) := by
  refine tk_ofH (cc := cL_acknowledge) (maxL := 3) (ret := (some .int)) (by decide) rfl (Nat.le_of_ble_eq_true rfl) ?_
  intro p e s m below meth co A H locs ls hB hTab hE hNc hK hN hA hP hD hS hl
  obtain ⟨hx, hb, hr, hml, hown, hlk, hnm, hts⟩ := hB
  have hown : s.vm.findClass "TickLinesLaw" = some m.cls := hown
  have hw : ∀ w ∈ tkWH, w.before _ s = true := fun w h => hts w (List.mem_cons_of_mem _ h)
  have hl : lv_has ls 3 [(0, .ref (ad 0)), (1, .ref ao)] := hl
  refine lv_aload_n hx hb dL_acknowledge_0 rfl (lv_at hl 1 rfl) ?_
  refine lv_iconst (v := 0) hx hb dL_acknowledge_1 (by decide) ?_
  refine lv_aload_n hx hb dL_acknowledge_2 rfl (lv_at hl 0 rfl) ?_
  refine tk_callXS (wa := []) (wc := WT ad cA g) (wb := [(ao, .inl (cJ, 1, .inr (.inl f)))]) hP hD hS hA (vx_runV (As := []) (rest := [.int 0, .ref ao]) ⟨hx, hb, hml, hown, hw⟩ (kT_acknowledge l hl9 D ad cA g H.size) (cwV 0 hw (tk_gVL tkWH_k tkWH_good (tkWH_l _ wM_L_24) wI_T_acknowledge wS_T_acknowledge wZ_T wC_T_acknowledge) rfl rfl rfl (by decide +kernel) ⟨(Nat.le_of_ble_eq_true rfl), (Nat.le_of_ble_eq_true rfl)⟩) (tk_preVXY (q0 := 0) (T := TT) (N := 3) hE hS (tk_Fseg (wa := []) (wb := [(ao, .inl (cJ, 1, .inr (.inl f)))]) hD hS hA) (hK.sub [0] rfl) hN (tk_P_l hP) (tk_D_l hD) rfl rfl) rfl rfl hl.1 rfl (lv_room (Nat.le_of_ble_eq_true rfl)) dL_acknowledge_3 ⟨(Nat.le_of_ble_eq_true rfl), (Nat.le_of_ble_eq_true rfl)⟩) (fun E ce q9 H locs hEk hP hS hce hcv hcl => ?_) (fun hk0 H locs hP hD hS => ?_)
  · rcases hEk with ⟨hk1, rfl⟩ | ⟨hk1, rfl⟩
    · exact absurd hk1 (tkT_ack_k1 _)
    · refine vx_catch (own := "TickLinesLaw") (name := "java/lang/IllegalStateException") (E := "java/lang/IllegalStateException") hown [] ⟨0, 8, 11, 15⟩ [] (by rw [hTab]; rfl) (fun z hz => nomatch hz) (by decide) (by decide) (hw _ (tkWH_l _ wL_L_15)) (va_Nw.use rfl (hN (.castable "java/lang/IllegalStateException" "java/lang/IllegalStateException") (by decide +kernel))) hce hcv hcl ?_
      refine lv_astore_n hx hb dL_acknowledge_11 rfl hl (by decide) rfl (fun ls hl => ?_)
      refine lv_iconst (v := 1) hx hb dL_acknowledge_12 (by decide) ?_
      have hP : va_P D vwCl (WTo ad cA g ao cJ f) H := hP
      exact tk_iret hx hb hr hlk hP hD hS dL_acknowledge_13 (if_neg (by rw [hk1]; decide)) (by rw [if_neg (by rw [hk1]; decide), if_neg (by rw [hk1]; decide)])
  · refine W.eq (g2 := F0 m 6 ls [.int (tkT_acknowledge_r g), .int 0, .ref ao]) rfl ?_
    refine lv_i2l (v := (tkT_acknowledge_r g).toInt64) hx hb dL_acknowledge_6 rfl ?_
    have hP : va_P D vwCl (WTo ad cA (tkT_acknowledge_s g) ao cJ f) H := hP
    have hD : va_D A (WTo ad cA (tkT_acknowledge_s g) ao cJ f) := hD
    refine va_last hx hb hK hP hD hS 7 1 rfl rfl (by unfold vp_in; decide) dL_acknowledge_7 (fun H locs hP hD hS => ?_)
    have hP : va_P D vwCl (WTo ad cA (tkT_acknowledge_s g) ao cJ (vp_updL f (0 : Int32).toNatClampNeg (tkT_acknowledge_r g).toInt64)) H := hP
    have hD : va_D A (WTo ad cA (tkT_acknowledge_s g) ao cJ (vp_updL f (0 : Int32).toNatClampNeg (tkT_acknowledge_r g).toInt64)) := hD
    refine lv_goto (tgt := 14) hx hb dL_acknowledge_8 (by decide) ?_
    refine lv_iconst (v := 0) hx hb dL_acknowledge_14 (by decide) ?_
    exact tk_iret hx hb hr hlk hP hD hS dL_acknowledge_15 (if_pos hk0) (by rw [if_pos hk0, if_pos hk0])
