def tkM_choice_r (g : Nat → Nat → Int32) (x0 : Int32) : Int32 :=
  if g 7 x0.toNatClampNeg = 0 then (-1)
  else if (((tkM_requests_r g x0) &&& ((g 3 x0.toNatClampNeg) ^^^ (-1))) >>> (((((g 6 x0.toNatClampNeg) + 1) - ((g 6 x0.toNatClampNeg) + 1) / 8 * 8) - (((g 6 x0.toNatClampNeg) + 1) - ((g 6 x0.toNatClampNeg) + 1) / 8 * 8) / 8 * 8) &&& 31)) <<< ((31 : Int32) &&& 31) = 0 then (if tkM_holds_r g x0 (((g 6 x0.toNatClampNeg) + 1) - ((g 6 x0.toNatClampNeg) + 1) / 8 * 8) = 0 then (if (((tkM_requests_r g x0) &&& ((g 3 x0.toNatClampNeg) ^^^ (-1))) >>> (((((g 6 x0.toNatClampNeg) + 2) - ((g 6 x0.toNatClampNeg) + 2) / 8 * 8) - (((g 6 x0.toNatClampNeg) + 2) - ((g 6 x0.toNatClampNeg) + 2) / 8 * 8) / 8 * 8) &&& 31)) <<< ((31 : Int32) &&& 31) = 0 then (if tkM_holds_r g x0 (((g 6 x0.toNatClampNeg) + 2) - ((g 6 x0.toNatClampNeg) + 2) / 8 * 8) = 0 then (if (((tkM_requests_r g x0) &&& ((g 3 x0.toNatClampNeg) ^^^ (-1))) >>> (((((g 6 x0.toNatClampNeg) + 3) - ((g 6 x0.toNatClampNeg) + 3) / 8 * 8) - (((g 6 x0.toNatClampNeg) + 3) - ((g 6 x0.toNatClampNeg) + 3) / 8 * 8) / 8 * 8) &&& 31)) <<< ((31 : Int32) &&& 31) = 0 then (if tkM_holds_r g x0 (((g 6 x0.toNatClampNeg) + 3) - ((g 6 x0.toNatClampNeg) + 3) / 8 * 8) = 0 then (if (((tkM_requests_r g x0) &&& ((g 3 x0.toNatClampNeg) ^^^ (-1))) >>> (((((g 6 x0.toNatClampNeg) + 4) - ((g 6 x0.toNatClampNeg) + 4) / 8 * 8) - (((g 6 x0.toNatClampNeg) + 4) - ((g 6 x0.toNatClampNeg) + 4) / 8 * 8) / 8 * 8) &&& 31)) <<< ((31 : Int32) &&& 31) = 0 then (if tkM_holds_r g x0 (((g 6 x0.toNatClampNeg) + 4) - ((g 6 x0.toNatClampNeg) + 4) / 8 * 8) = 0 then (if (((tkM_requests_r g x0) &&& ((g 3 x0.toNatClampNeg) ^^^ (-1))) >>> (((((g 6 x0.toNatClampNeg) + 5) - ((g 6 x0.toNatClampNeg) + 5) / 8 * 8) - (((g 6 x0.toNatClampNeg) + 5) - ((g 6 x0.toNatClampNeg) + 5) / 8 * 8) / 8 * 8) &&& 31)) <<< ((31 : Int32) &&& 31) = 0 then (if tkM_holds_r g x0 (((g 6 x0.toNatClampNeg) + 5) - ((g 6 x0.toNatClampNeg) + 5) / 8 * 8) = 0 then (if (((tkM_requests_r g x0) &&& ((g 3 x0.toNatClampNeg) ^^^ (-1))) >>> (((((g 6 x0.toNatClampNeg) + 6) - ((g 6 x0.toNatClampNeg) + 6) / 8 * 8) - (((g 6 x0.toNatClampNeg) + 6) - ((g 6 x0.toNatClampNeg) + 6) / 8 * 8) / 8 * 8) &&& 31)) <<< ((31 : Int32) &&& 31) = 0 then (if tkM_holds_r g x0 (((g 6 x0.toNatClampNeg) + 6) - ((g 6 x0.toNatClampNeg) + 6) / 8 * 8) = 0 then (if (((tkM_requests_r g x0) &&& ((g 3 x0.toNatClampNeg) ^^^ (-1))) >>> (((((g 6 x0.toNatClampNeg) + 7) - ((g 6 x0.toNatClampNeg) + 7) / 8 * 8) - (((g 6 x0.toNatClampNeg) + 7) - ((g 6 x0.toNatClampNeg) + 7) / 8 * 8) / 8 * 8) &&& 31)) <<< ((31 : Int32) &&& 31) = 0 then (if tkM_holds_r g x0 (((g 6 x0.toNatClampNeg) + 7) - ((g 6 x0.toNatClampNeg) + 7) / 8 * 8) = 0 then (if (((tkM_requests_r g x0) &&& ((g 3 x0.toNatClampNeg) ^^^ (-1))) >>> (((((g 6 x0.toNatClampNeg) + 8) - ((g 6 x0.toNatClampNeg) + 8) / 8 * 8) - (((g 6 x0.toNatClampNeg) + 8) - ((g 6 x0.toNatClampNeg) + 8) / 8 * 8) / 8 * 8) &&& 31)) <<< ((31 : Int32) &&& 31) = 0 then (-1)
                                else if tkM_holds_r g x0 (((g 6 x0.toNatClampNeg) + 8) - ((g 6 x0.toNatClampNeg) + 8) / 8 * 8) = 0 then ((g 6 x0.toNatClampNeg) + 8) - ((g 6 x0.toNatClampNeg) + 8) / 8 * 8
                                  else if g 12 x0.toNatClampNeg = 0 then (-1)
                                    else if x0 = 0 then (if ((g 6 x0.toNatClampNeg) + 8) - ((g 6 x0.toNatClampNeg) + 8) / 8 * 8 = 2 then ((g 6 x0.toNatClampNeg) + 8) - ((g 6 x0.toNatClampNeg) + 8) / 8 * 8
                                        else (-1))
                                      else (-1))
                              else (-1))
                            else if tkM_holds_r g x0 (((g 6 x0.toNatClampNeg) + 7) - ((g 6 x0.toNatClampNeg) + 7) / 8 * 8) = 0 then ((g 6 x0.toNatClampNeg) + 7) - ((g 6 x0.toNatClampNeg) + 7) / 8 * 8
                              else if g 12 x0.toNatClampNeg = 0 then (-1)
                                else if x0 = 0 then (if ((g 6 x0.toNatClampNeg) + 7) - ((g 6 x0.toNatClampNeg) + 7) / 8 * 8 = 2 then ((g 6 x0.toNatClampNeg) + 7) - ((g 6 x0.toNatClampNeg) + 7) / 8 * 8
                                    else (-1))
                                  else (-1))
                          else (-1))
                        else if tkM_holds_r g x0 (((g 6 x0.toNatClampNeg) + 6) - ((g 6 x0.toNatClampNeg) + 6) / 8 * 8) = 0 then ((g 6 x0.toNatClampNeg) + 6) - ((g 6 x0.toNatClampNeg) + 6) / 8 * 8
                          else if g 12 x0.toNatClampNeg = 0 then (-1)
                            else if x0 = 0 then (if ((g 6 x0.toNatClampNeg) + 6) - ((g 6 x0.toNatClampNeg) + 6) / 8 * 8 = 2 then ((g 6 x0.toNatClampNeg) + 6) - ((g 6 x0.toNatClampNeg) + 6) / 8 * 8
                                else (-1))
                              else (-1))
                      else (-1))
                    else if tkM_holds_r g x0 (((g 6 x0.toNatClampNeg) + 5) - ((g 6 x0.toNatClampNeg) + 5) / 8 * 8) = 0 then ((g 6 x0.toNatClampNeg) + 5) - ((g 6 x0.toNatClampNeg) + 5) / 8 * 8
                      else if g 12 x0.toNatClampNeg = 0 then (-1)
                        else if x0 = 0 then (if ((g 6 x0.toNatClampNeg) + 5) - ((g 6 x0.toNatClampNeg) + 5) / 8 * 8 = 2 then ((g 6 x0.toNatClampNeg) + 5) - ((g 6 x0.toNatClampNeg) + 5) / 8 * 8
                            else (-1))
                          else (-1))
                  else (-1))
                else if tkM_holds_r g x0 (((g 6 x0.toNatClampNeg) + 4) - ((g 6 x0.toNatClampNeg) + 4) / 8 * 8) = 0 then ((g 6 x0.toNatClampNeg) + 4) - ((g 6 x0.toNatClampNeg) + 4) / 8 * 8
                  else if g 12 x0.toNatClampNeg = 0 then (-1)
                    else if x0 = 0 then (if ((g 6 x0.toNatClampNeg) + 4) - ((g 6 x0.toNatClampNeg) + 4) / 8 * 8 = 2 then ((g 6 x0.toNatClampNeg) + 4) - ((g 6 x0.toNatClampNeg) + 4) / 8 * 8
                        else (-1))
                      else (-1))
              else (-1))
            else if tkM_holds_r g x0 (((g 6 x0.toNatClampNeg) + 3) - ((g 6 x0.toNatClampNeg) + 3) / 8 * 8) = 0 then ((g 6 x0.toNatClampNeg) + 3) - ((g 6 x0.toNatClampNeg) + 3) / 8 * 8
              else if g 12 x0.toNatClampNeg = 0 then (-1)
                else if x0 = 0 then (if ((g 6 x0.toNatClampNeg) + 3) - ((g 6 x0.toNatClampNeg) + 3) / 8 * 8 = 2 then ((g 6 x0.toNatClampNeg) + 3) - ((g 6 x0.toNatClampNeg) + 3) / 8 * 8
                    else (-1))
                  else (-1))
          else (-1))
        else if tkM_holds_r g x0 (((g 6 x0.toNatClampNeg) + 2) - ((g 6 x0.toNatClampNeg) + 2) / 8 * 8) = 0 then ((g 6 x0.toNatClampNeg) + 2) - ((g 6 x0.toNatClampNeg) + 2) / 8 * 8
          else if g 12 x0.toNatClampNeg = 0 then (-1)
            else if x0 = 0 then (if ((g 6 x0.toNatClampNeg) + 2) - ((g 6 x0.toNatClampNeg) + 2) / 8 * 8 = 2 then ((g 6 x0.toNatClampNeg) + 2) - ((g 6 x0.toNatClampNeg) + 2) / 8 * 8
                else (-1))
              else (-1))
      else (-1))
    else if tkM_holds_r g x0 (((g 6 x0.toNatClampNeg) + 1) - ((g 6 x0.toNatClampNeg) + 1) / 8 * 8) = 0 then ((g 6 x0.toNatClampNeg) + 1) - ((g 6 x0.toNatClampNeg) + 1) / 8 * 8
      else if g 12 x0.toNatClampNeg = 0 then (-1)
        else if x0 = 0 then (if ((g 6 x0.toNatClampNeg) + 1) - ((g 6 x0.toNatClampNeg) + 1) / 8 * 8 = 2 then ((g 6 x0.toNatClampNeg) + 1) - ((g 6 x0.toNatClampNeg) + 1) / 8 * 8
            else (-1))
          else (-1)
set_option maxHeartbeats 1000000 in
set_option maxRecDepth 100000 in
theorem kM_choice (l : Launch) (D : va_G) (hm : Nat) (ad : Nat → Nat) (cI cZ : ClassId) (g : Nat → Nat → Int32) (x0 : Int32) (hi0 : vp_in x0 2) : tk_M l yM_choice wsM_choice { frames := 1, cells := 0, slots := 0, locals := 22 } D [(cI, .int), (cZ, .boolean)] [.ref hm, .int x0] (WM hm ad cI cZ g) (WM hm ad cI cZ g) (some (.int (tkM_choice_r g x0))) := by
  refine tk_M.of (cc := cM_choice) (maxL := 6) (ret := (some .int)) (by decide) rfl (Nat.le_of_ble_eq_true rfl) ?_
  intro p e s m below meth co A H locs ls hB hK hN hA hP hD hS hl
  obtain ⟨hx, hb, hr, hml, hown, hlk, hnm, hts⟩ := hB
  have hown : s.vm.findClass RM = some m.cls := hown
  have hl : lv_has ls 6 [(0, .ref hm), (1, .int x0)] := hl
  have hw : ∀ w ∈ tkWM, w.before _ s = true := fun w h => hts w (List.mem_cons_of_mem _ h)
  have f28 := hw _ wF_M_28
  have f25 := hw _ wF_M_25
  have f16 := hw _ wF_M_16
  have f44 := hw _ wF_M_44
  refine lv_iconst (v := 1) hx hb dM_choice_0 (by decide) ?_
  refine lv_istore_n hx hb dM_choice_1 rfl hl (by decide) rfl (fun ls hl => ?_)
  have hl : lv_has ls 6 [(2, .int 1), (0, .ref hm), (1, .int x0)] := hl
  refine lv_iload_n hx hb dM_choice_2 rfl (lv_at hl 0 rfl) ?_
  refine lv_bipush (v := 8) hx hb dM_choice_3 (by decide) ?_
  refine lv_icmp_gt (tgt := 112) hx hb dM_choice_5 (by decide) (fun h => absurd h (by decide)) (fun _ => ?_)
  refine lv_aload_n hx hb dM_choice_8 rfl (lv_at hl 1 rfl) ?_
  refine va_get (D := D) (ci := 3) (v := .ref (ad 7)) (C := RM) (T := TM) (N := 33) hx hb hw inM hown hK hP 0 rfl rfl 7 (by decide) f28 (fun _ h9 => h9) rfl dM_choice_9 ?_
  refine lv_iload_n hx hb dM_choice_12 rfl (lv_at hl 2 rfl) ?_
  refine tkld_7 hx hb hK hP hi0 dM_choice_13 ?_
  refine lv_if_eq (tgt := 112) hx hb dM_choice_14 (by decide) (fun (h1_ : g 7 x0.toNatClampNeg = 0) => ?_) (fun (h1_ : ¬ (g 7 x0.toNatClampNeg = 0)) => ?_)
  · refine lv_iconst (v := -1) hx hb dM_choice_112 (by decide) ?_
    exact tk_iret hx hb hr hlk hP hD hS dM_choice_113 (by unfold tkM_choice_r; rw [if_pos h1_]) rfl
  · refine lv_aload_n hx hb dM_choice_17 rfl (lv_at hl 1 rfl) ?_
    refine va_get (D := D) (ci := 3) (v := .ref (ad 6)) (C := RM) (T := TM) (N := 33) hx hb hw inM hown hK hP 0 rfl rfl 6 (by decide) f25 (fun _ h9 => h9) rfl dM_choice_18 ?_
    refine lv_iload_n hx hb dM_choice_21 rfl (lv_at hl 2 rfl) ?_
    refine tkld_6 hx hb hK hP hi0 dM_choice_22 ?_
    refine lv_iload_n hx hb dM_choice_23 rfl (lv_at hl 0 rfl) ?_
    refine lv_iadd hx hb dM_choice_24 ?_
    refine lv_bipush (v := 8) hx hb dM_choice_25 (by decide) ?_
    refine lv_irem hx hb dM_choice_27 (by decide) ?_
    refine lv_istore_n hx hb dM_choice_28 rfl hl (by decide) rfl (fun ls hl => ?_)
    have hl : lv_has ls 6 [(3, .int (((g 6 x0.toNatClampNeg) + 1) - ((g 6 x0.toNatClampNeg) + 1) / 8 * 8)), (2, .int 1), (0, .ref hm), (1, .int x0)] := hl
    refine lv_aload_n hx hb dM_choice_29 rfl (lv_at hl 2 rfl) ?_
    refine lv_iload_n hx hb dM_choice_30 rfl (lv_at hl 3 rfl) ?_
    refine lv_iload_n hx hb dM_choice_31 rfl (lv_at hl 0 rfl) ?_
    refine tk_callA hD hS hA (va_runV (As := [.int x0, .int (((g 6 x0.toNatClampNeg) + 1) - ((g 6 x0.toNatClampNeg) + 1) / 8 * 8)]) (rest := []) ⟨hx, hb, hml, hown, hw⟩ (kM_holds l D hm ad cI cZ g x0 (((g 6 x0.toNatClampNeg) + 1) - ((g 6 x0.toNatClampNeg) + 1) / 8 * 8) hi0 H.size) (cwV 2 hw (tk_gV tkWM_good wM_M_111 wI_M_holds wS_M_holds wZ_M wC_M_holds) rfl rfl rfl (by decide +kernel) ⟨Nat.le_of_ble_eq_true rfl, Nat.le_of_ble_eq_true rfl⟩) (tk_preM hK hN hP hD) rfl rfl hl.1 rfl (lv_room (Nat.le_of_ble_eq_true rfl)) dM_choice_32 ⟨Nat.zero_le _, Nat.zero_le _⟩) (fun H locs hP hD hS => ?_)
    refine W.eq (g2 := F0 m 35 ls [.int (tkM_holds_r g x0 (((g 6 x0.toNatClampNeg) + 1) - ((g 6 x0.toNatClampNeg) + 1) / 8 * 8))]) rfl ?_
    refine lv_istore hx hb dM_choice_35 hl (by decide) rfl (fun ls hl => ?_)
    have hl : lv_has ls 6 [(4, .int (tkM_holds_r g x0 (((g 6 x0.toNatClampNeg) + 1) - ((g 6 x0.toNatClampNeg) + 1) / 8 * 8))), (3, .int (((g 6 x0.toNatClampNeg) + 1) - ((g 6 x0.toNatClampNeg) + 1) / 8 * 8)), (2, .int 1), (0, .ref hm), (1, .int x0)] := hl
    refine lv_aload_n hx hb dM_choice_37 rfl (lv_at hl 3 rfl) ?_
    refine lv_iload_n hx hb dM_choice_38 rfl (lv_at hl 4 rfl) ?_
    refine tk_callA hD hS hA (va_runV (As := [.int x0]) (rest := []) ⟨hx, hb, hml, hown, hw⟩ (kM_requests l D hm ad cI cZ g x0 hi0 H.size) (cwV 1 hw (tk_gV tkWM_good wM_M_115 wI_M_requests wS_M_requests wZ_M wC_M_requests) rfl rfl rfl (by decide +kernel) ⟨Nat.le_of_ble_eq_true rfl, Nat.le_of_ble_eq_true rfl⟩) (tk_preM hK hN hP hD) rfl rfl hl.1 rfl (lv_room (Nat.le_of_ble_eq_true rfl)) dM_choice_39 ⟨Nat.zero_le _, Nat.zero_le _⟩) (fun H locs hP hD hS => ?_)
    refine W.eq (g2 := F0 m 42 ls [.int (tkM_requests_r g x0)]) rfl ?_
    refine lv_aload_n hx hb dM_choice_42 rfl (lv_at hl 3 rfl) ?_
    refine va_get (D := D) (ci := 3) (v := .ref (ad 3)) (C := RM) (T := TM) (N := 33) hx hb hw inM hown hK hP 0 rfl rfl 3 (by decide) f16 (fun _ h9 => h9) rfl dM_choice_43 ?_
    refine lv_iload_n hx hb dM_choice_46 rfl (lv_at hl 4 rfl) ?_
    refine tkld_3 hx hb hK hP hi0 dM_choice_47 ?_
    refine lv_iconst (v := -1) hx hb dM_choice_48 (by decide) ?_
    refine lv_ixor hx hb dM_choice_49 ?_
    refine lv_iand hx hb dM_choice_50 ?_
    refine lv_iload_n hx hb dM_choice_51 rfl (lv_at hl 1 rfl) ?_
    refine lv_bipush (v := 8) hx hb dM_choice_52 (by decide) ?_
    refine lv_irem hx hb dM_choice_54 (by decide) ?_
    refine lv_ishr hx hb dM_choice_55 ?_
    refine lv_bipush (v := 31) hx hb dM_choice_56 (by decide) ?_
    refine lv_ishl hx hb dM_choice_58 ?_
    refine lv_if_eq (tgt := 66) hx hb dM_choice_59 (by decide) (fun (h2_ : (((tkM_requests_r g x0) &&& ((g 3 x0.toNatClampNeg) ^^^ (-1))) >>> (((((g 6 x0.toNatClampNeg) + 1) - ((g 6 x0.toNatClampNeg) + 1) / 8 * 8) - (((g 6 x0.toNatClampNeg) + 1) - ((g 6 x0.toNatClampNeg) + 1) / 8 * 8) / 8 * 8) &&& 31)) <<< ((31 : Int32) &&& 31) = 0) => ?_) (fun (h2_ : ¬ ((((tkM_requests_r g x0) &&& ((g 3 x0.toNatClampNeg) ^^^ (-1))) >>> (((((g 6 x0.toNatClampNeg) + 1) - ((g 6 x0.toNatClampNeg) + 1) / 8 * 8) - (((g 6 x0.toNatClampNeg) + 1) - ((g 6 x0.toNatClampNeg) + 1) / 8 * 8) / 8 * 8) &&& 31)) <<< ((31 : Int32) &&& 31) = 0)) => ?_)
    · refine lv_iconst (v := 0) hx hb dM_choice_66 (by decide) ?_
      refine lv_istore hx hb dM_choice_67 hl (by decide) rfl (fun ls hl => ?_)
      have hl : lv_has ls 6 [(5, .int 0), (4, .int (tkM_holds_r g x0 (((g 6 x0.toNatClampNeg) + 1) - ((g 6 x0.toNatClampNeg) + 1) / 8 * 8))), (3, .int (((g 6 x0.toNatClampNeg) + 1) - ((g 6 x0.toNatClampNeg) + 1) / 8 * 8)), (2, .int 1), (0, .ref hm), (1, .int x0)] := hl
      refine lv_iload hx hb dM_choice_69 (lv_at hl 0 rfl) ?_
      refine lv_if_eq (tgt := 99) hx hb dM_choice_71 (by decide) (fun _ => ?_) (fun h => absurd (by decide) h)
      refine lv_iload hx hb dM_choice_99 (lv_at hl 1 rfl) ?_
      refine lv_if_eq (tgt := 106) hx hb dM_choice_101 (by decide) (fun (h3_ : tkM_holds_r g x0 (((g 6 x0.toNatClampNeg) + 1) - ((g 6 x0.toNatClampNeg) + 1) / 8 * 8) = 0) => ?_) (fun (h3_ : ¬ (tkM_holds_r g x0 (((g 6 x0.toNatClampNeg) + 1) - ((g 6 x0.toNatClampNeg) + 1) / 8 * 8) = 0)) => ?_)
      · refine lv_iinc (k := 3) (v := 2) hx hb dM_choice_106 hl rfl (by decide) (by decide) rfl (fun ls hl => ?_)
        have hl : lv_has ls 6 [(2, .int 2), (5, .int 0), (4, .int (tkM_holds_r g x0 (((g 6 x0.toNatClampNeg) + 1) - ((g 6 x0.toNatClampNeg) + 1) / 8 * 8))), (3, .int (((g 6 x0.toNatClampNeg) + 1) - ((g 6 x0.toNatClampNeg) + 1) / 8 * 8)), (0, .ref hm), (1, .int x0)] := hl
        refine lv_goto (tgt := 2) hx hb dM_choice_109 (by decide) ?_
        refine lv_iload_n hx hb dM_choice_2 rfl (lv_at hl 0 rfl) ?_
        refine lv_bipush (v := 8) hx hb dM_choice_3 (by decide) ?_
        refine lv_icmp_gt (tgt := 112) hx hb dM_choice_5 (by decide) (fun h => absurd h (by decide)) (fun _ => ?_)
        refine lv_aload_n hx hb dM_choice_8 rfl (lv_at hl 4 rfl) ?_
        refine va_get (D := D) (ci := 3) (v := .ref (ad 7)) (C := RM) (T := TM) (N := 33) hx hb hw inM hown hK hP 0 rfl rfl 7 (by decide) f28 (fun _ h9 => h9) rfl dM_choice_9 ?_
        refine lv_iload_n hx hb dM_choice_12 rfl (lv_at hl 5 rfl) ?_
        refine tkld_7 hx hb hK hP hi0 dM_choice_13 ?_
        refine lv_if_eq (tgt := 112) hx hb dM_choice_14 (by decide) (fun h => absurd h h1_) (fun _ => ?_)
        refine lv_aload_n hx hb dM_choice_17 rfl (lv_at hl 4 rfl) ?_
        refine va_get (D := D) (ci := 3) (v := .ref (ad 6)) (C := RM) (T := TM) (N := 33) hx hb hw inM hown hK hP 0 rfl rfl 6 (by decide) f25 (fun _ h9 => h9) rfl dM_choice_18 ?_
        refine lv_iload_n hx hb dM_choice_21 rfl (lv_at hl 5 rfl) ?_
        refine tkld_6 hx hb hK hP hi0 dM_choice_22 ?_
        refine lv_iload_n hx hb dM_choice_23 rfl (lv_at hl 0 rfl) ?_
        refine lv_iadd hx hb dM_choice_24 ?_
        refine lv_bipush (v := 8) hx hb dM_choice_25 (by decide) ?_
        refine lv_irem hx hb dM_choice_27 (by decide) ?_
        refine lv_istore_n hx hb dM_choice_28 rfl hl (by decide) rfl (fun ls hl => ?_)
        have hl : lv_has ls 6 [(3, .int (((g 6 x0.toNatClampNeg) + 2) - ((g 6 x0.toNatClampNeg) + 2) / 8 * 8)), (2, .int 2), (5, .int 0), (4, .int (tkM_holds_r g x0 (((g 6 x0.toNatClampNeg) + 1) - ((g 6 x0.toNatClampNeg) + 1) / 8 * 8))), (0, .ref hm), (1, .int x0)] := hl
        refine lv_aload_n hx hb dM_choice_29 rfl (lv_at hl 4 rfl) ?_
        refine lv_iload_n hx hb dM_choice_30 rfl (lv_at hl 5 rfl) ?_
        refine lv_iload_n hx hb dM_choice_31 rfl (lv_at hl 0 rfl) ?_
        refine tk_callA hD hS hA (va_runV (As := [.int x0, .int (((g 6 x0.toNatClampNeg) + 2) - ((g 6 x0.toNatClampNeg) + 2) / 8 * 8)]) (rest := []) ⟨hx, hb, hml, hown, hw⟩ (kM_holds l D hm ad cI cZ g x0 (((g 6 x0.toNatClampNeg) + 2) - ((g 6 x0.toNatClampNeg) + 2) / 8 * 8) hi0 H.size) (cwV 2 hw (tk_gV tkWM_good wM_M_111 wI_M_holds wS_M_holds wZ_M wC_M_holds) rfl rfl rfl (by decide +kernel) ⟨Nat.le_of_ble_eq_true rfl, Nat.le_of_ble_eq_true rfl⟩) (tk_preM hK hN hP hD) rfl rfl hl.1 rfl (lv_room (Nat.le_of_ble_eq_true rfl)) dM_choice_32 ⟨Nat.zero_le _, Nat.zero_le _⟩) (fun H locs hP hD hS => ?_)
        refine W.eq (g2 := F0 m 35 ls [.int (tkM_holds_r g x0 (((g 6 x0.toNatClampNeg) + 2) - ((g 6 x0.toNatClampNeg) + 2) / 8 * 8))]) rfl ?_
        refine lv_istore hx hb dM_choice_35 hl (by decide) rfl (fun ls hl => ?_)
        have hl : lv_has ls 6 [(4, .int (tkM_holds_r g x0 (((g 6 x0.toNatClampNeg) + 2) - ((g 6 x0.toNatClampNeg) + 2) / 8 * 8))), (3, .int (((g 6 x0.toNatClampNeg) + 2) - ((g 6 x0.toNatClampNeg) + 2) / 8 * 8)), (2, .int 2), (5, .int 0), (0, .ref hm), (1, .int x0)] := hl
        refine lv_aload_n hx hb dM_choice_37 rfl (lv_at hl 4 rfl) ?_
        refine lv_iload_n hx hb dM_choice_38 rfl (lv_at hl 5 rfl) ?_
        refine tk_callA hD hS hA (va_runV (As := [.int x0]) (rest := []) ⟨hx, hb, hml, hown, hw⟩ (kM_requests l D hm ad cI cZ g x0 hi0 H.size) (cwV 1 hw (tk_gV tkWM_good wM_M_115 wI_M_requests wS_M_requests wZ_M wC_M_requests) rfl rfl rfl (by decide +kernel) ⟨Nat.le_of_ble_eq_true rfl, Nat.le_of_ble_eq_true rfl⟩) (tk_preM hK hN hP hD) rfl rfl hl.1 rfl (lv_room (Nat.le_of_ble_eq_true rfl)) dM_choice_39 ⟨Nat.zero_le _, Nat.zero_le _⟩) (fun H locs hP hD hS => ?_)
        refine W.eq (g2 := F0 m 42 ls [.int (tkM_requests_r g x0)]) rfl ?_
        refine lv_aload_n hx hb dM_choice_42 rfl (lv_at hl 4 rfl) ?_
        refine va_get (D := D) (ci := 3) (v := .ref (ad 3)) (C := RM) (T := TM) (N := 33) hx hb hw inM hown hK hP 0 rfl rfl 3 (by decide) f16 (fun _ h9 => h9) rfl dM_choice_43 ?_
        refine lv_iload_n hx hb dM_choice_46 rfl (lv_at hl 5 rfl) ?_
        refine tkld_3 hx hb hK hP hi0 dM_choice_47 ?_
        refine lv_iconst (v := -1) hx hb dM_choice_48 (by decide) ?_
        refine lv_ixor hx hb dM_choice_49 ?_
        refine lv_iand hx hb dM_choice_50 ?_
        refine lv_iload_n hx hb dM_choice_51 rfl (lv_at hl 1 rfl) ?_
        refine lv_bipush (v := 8) hx hb dM_choice_52 (by decide) ?_
        refine lv_irem hx hb dM_choice_54 (by decide) ?_
        refine lv_ishr hx hb dM_choice_55 ?_
        refine lv_bipush (v := 31) hx hb dM_choice_56 (by decide) ?_
        refine lv_ishl hx hb dM_choice_58 ?_
        refine lv_if_eq (tgt := 66) hx hb dM_choice_59 (by decide) (fun (h4_ : (((tkM_requests_r g x0) &&& ((g 3 x0.toNatClampNeg) ^^^ (-1))) >>> (((((g 6 x0.toNatClampNeg) + 2) - ((g 6 x0.toNatClampNeg) + 2) / 8 * 8) - (((g 6 x0.toNatClampNeg) + 2) - ((g 6 x0.toNatClampNeg) + 2) / 8 * 8) / 8 * 8) &&& 31)) <<< ((31 : Int32) &&& 31) = 0) => ?_) (fun (h4_ : ¬ ((((tkM_requests_r g x0) &&& ((g 3 x0.toNatClampNeg) ^^^ (-1))) >>> (((((g 6 x0.toNatClampNeg) + 2) - ((g 6 x0.toNatClampNeg) + 2) / 8 * 8) - (((g 6 x0.toNatClampNeg) + 2) - ((g 6 x0.toNatClampNeg) + 2) / 8 * 8) / 8 * 8) &&& 31)) <<< ((31 : Int32) &&& 31) = 0)) => ?_)
        · refine lv_iconst (v := 0) hx hb dM_choice_66 (by decide) ?_
          refine lv_istore hx hb dM_choice_67 hl (by decide) rfl (fun ls hl => ?_)
          have hl : lv_has ls 6 [(5, .int 0), (4, .int (tkM_holds_r g x0 (((g 6 x0.toNatClampNeg) + 2) - ((g 6 x0.toNatClampNeg) + 2) / 8 * 8))), (3, .int (((g 6 x0.toNatClampNeg) + 2) - ((g 6 x0.toNatClampNeg) + 2) / 8 * 8)), (2, .int 2), (0, .ref hm), (1, .int x0)] := hl
          refine lv_iload hx hb dM_choice_69 (lv_at hl 0 rfl) ?_
          refine lv_if_eq (tgt := 99) hx hb dM_choice_71 (by decide) (fun _ => ?_) (fun h => absurd (by decide) h)
          refine lv_iload hx hb dM_choice_99 (lv_at hl 1 rfl) ?_
          refine lv_if_eq (tgt := 106) hx hb dM_choice_101 (by decide) (fun (h5_ : tkM_holds_r g x0 (((g 6 x0.toNatClampNeg) + 2) - ((g 6 x0.toNatClampNeg) + 2) / 8 * 8) = 0) => ?_) (fun (h5_ : ¬ (tkM_holds_r g x0 (((g 6 x0.toNatClampNeg) + 2) - ((g 6 x0.toNatClampNeg) + 2) / 8 * 8) = 0)) => ?_)
          · refine lv_iinc (k := 3) (v := 3) hx hb dM_choice_106 hl rfl (by decide) (by decide) rfl (fun ls hl => ?_)
            have hl : lv_has ls 6 [(2, .int 3), (5, .int 0), (4, .int (tkM_holds_r g x0 (((g 6 x0.toNatClampNeg) + 2) - ((g 6 x0.toNatClampNeg) + 2) / 8 * 8))), (3, .int (((g 6 x0.toNatClampNeg) + 2) - ((g 6 x0.toNatClampNeg) + 2) / 8 * 8)), (0, .ref hm), (1, .int x0)] := hl
            refine lv_goto (tgt := 2) hx hb dM_choice_109 (by decide) ?_
            refine lv_iload_n hx hb dM_choice_2 rfl (lv_at hl 0 rfl) ?_
            refine lv_bipush (v := 8) hx hb dM_choice_3 (by decide) ?_
            refine lv_icmp_gt (tgt := 112) hx hb dM_choice_5 (by decide) (fun h => absurd h (by decide)) (fun _ => ?_)
            refine lv_aload_n hx hb dM_choice_8 rfl (lv_at hl 4 rfl) ?_
            refine va_get (D := D) (ci := 3) (v := .ref (ad 7)) (C := RM) (T := TM) (N := 33) hx hb hw inM hown hK hP 0 rfl rfl 7 (by decide) f28 (fun _ h9 => h9) rfl dM_choice_9 ?_
            refine lv_iload_n hx hb dM_choice_12 rfl (lv_at hl 5 rfl) ?_
            refine tkld_7 hx hb hK hP hi0 dM_choice_13 ?_
            refine lv_if_eq (tgt := 112) hx hb dM_choice_14 (by decide) (fun h => absurd h h1_) (fun _ => ?_)
            refine lv_aload_n hx hb dM_choice_17 rfl (lv_at hl 4 rfl) ?_
            refine va_get (D := D) (ci := 3) (v := .ref (ad 6)) (C := RM) (T := TM) (N := 33) hx hb hw inM hown hK hP 0 rfl rfl 6 (by decide) f25 (fun _ h9 => h9) rfl dM_choice_18 ?_
            refine lv_iload_n hx hb dM_choice_21 rfl (lv_at hl 5 rfl) ?_
            refine tkld_6 hx hb hK hP hi0 dM_choice_22 ?_
            refine lv_iload_n hx hb dM_choice_23 rfl (lv_at hl 0 rfl) ?_
            refine lv_iadd hx hb dM_choice_24 ?_
            refine lv_bipush (v := 8) hx hb dM_choice_25 (by decide) ?_
            refine lv_irem hx hb dM_choice_27 (by decide) ?_
            refine lv_istore_n hx hb dM_choice_28 rfl hl (by decide) rfl (fun ls hl => ?_)
            have hl : lv_has ls 6 [(3, .int (((g 6 x0.toNatClampNeg) + 3) - ((g 6 x0.toNatClampNeg) + 3) / 8 * 8)), (2, .int 3), (5, .int 0), (4, .int (tkM_holds_r g x0 (((g 6 x0.toNatClampNeg) + 2) - ((g 6 x0.toNatClampNeg) + 2) / 8 * 8))), (0, .ref hm), (1, .int x0)] := hl
            refine lv_aload_n hx hb dM_choice_29 rfl (lv_at hl 4 rfl) ?_
            refine lv_iload_n hx hb dM_choice_30 rfl (lv_at hl 5 rfl) ?_
            refine lv_iload_n hx hb dM_choice_31 rfl (lv_at hl 0 rfl) ?_
            refine tk_callA hD hS hA (va_runV (As := [.int x0, .int (((g 6 x0.toNatClampNeg) + 3) - ((g 6 x0.toNatClampNeg) + 3) / 8 * 8)]) (rest := []) ⟨hx, hb, hml, hown, hw⟩ (kM_holds l D hm ad cI cZ g x0 (((g 6 x0.toNatClampNeg) + 3) - ((g 6 x0.toNatClampNeg) + 3) / 8 * 8) hi0 H.size) (cwV 2 hw (tk_gV tkWM_good wM_M_111 wI_M_holds wS_M_holds wZ_M wC_M_holds) rfl rfl rfl (by decide +kernel) ⟨Nat.le_of_ble_eq_true rfl, Nat.le_of_ble_eq_true rfl⟩) (tk_preM hK hN hP hD) rfl rfl hl.1 rfl (lv_room (Nat.le_of_ble_eq_true rfl)) dM_choice_32 ⟨Nat.zero_le _, Nat.zero_le _⟩) (fun H locs hP hD hS => ?_)
            refine W.eq (g2 := F0 m 35 ls [.int (tkM_holds_r g x0 (((g 6 x0.toNatClampNeg) + 3) - ((g 6 x0.toNatClampNeg) + 3) / 8 * 8))]) rfl ?_
            refine lv_istore hx hb dM_choice_35 hl (by decide) rfl (fun ls hl => ?_)
            have hl : lv_has ls 6 [(4, .int (tkM_holds_r g x0 (((g 6 x0.toNatClampNeg) + 3) - ((g 6 x0.toNatClampNeg) + 3) / 8 * 8))), (3, .int (((g 6 x0.toNatClampNeg) + 3) - ((g 6 x0.toNatClampNeg) + 3) / 8 * 8)), (2, .int 3), (5, .int 0), (0, .ref hm), (1, .int x0)] := hl
            refine lv_aload_n hx hb dM_choice_37 rfl (lv_at hl 4 rfl) ?_
            refine lv_iload_n hx hb dM_choice_38 rfl (lv_at hl 5 rfl) ?_
            refine tk_callA hD hS hA (va_runV (As := [.int x0]) (rest := []) ⟨hx, hb, hml, hown, hw⟩ (kM_requests l D hm ad cI cZ g x0 hi0 H.size) (cwV 1 hw (tk_gV tkWM_good wM_M_115 wI_M_requests wS_M_requests wZ_M wC_M_requests) rfl rfl rfl (by decide +kernel) ⟨Nat.le_of_ble_eq_true rfl, Nat.le_of_ble_eq_true rfl⟩) (tk_preM hK hN hP hD) rfl rfl hl.1 rfl (lv_room (Nat.le_of_ble_eq_true rfl)) dM_choice_39 ⟨Nat.zero_le _, Nat.zero_le _⟩) (fun H locs hP hD hS => ?_)
            refine W.eq (g2 := F0 m 42 ls [.int (tkM_requests_r g x0)]) rfl ?_
            refine lv_aload_n hx hb dM_choice_42 rfl (lv_at hl 4 rfl) ?_
            refine va_get (D := D) (ci := 3) (v := .ref (ad 3)) (C := RM) (T := TM) (N := 33) hx hb hw inM hown hK hP 0 rfl rfl 3 (by decide) f16 (fun _ h9 => h9) rfl dM_choice_43 ?_
            refine lv_iload_n hx hb dM_choice_46 rfl (lv_at hl 5 rfl) ?_
            refine tkld_3 hx hb hK hP hi0 dM_choice_47 ?_
            refine lv_iconst (v := -1) hx hb dM_choice_48 (by decide) ?_
            refine lv_ixor hx hb dM_choice_49 ?_
            refine lv_iand hx hb dM_choice_50 ?_
            refine lv_iload_n hx hb dM_choice_51 rfl (lv_at hl 1 rfl) ?_
            refine lv_bipush (v := 8) hx hb dM_choice_52 (by decide) ?_
            refine lv_irem hx hb dM_choice_54 (by decide) ?_
            refine lv_ishr hx hb dM_choice_55 ?_
            refine lv_bipush (v := 31) hx hb dM_choice_56 (by decide) ?_
            refine lv_ishl hx hb dM_choice_58 ?_
            refine lv_if_eq (tgt := 66) hx hb dM_choice_59 (by decide) (fun (h6_ : (((tkM_requests_r g x0) &&& ((g 3 x0.toNatClampNeg) ^^^ (-1))) >>> (((((g 6 x0.toNatClampNeg) + 3) - ((g 6 x0.toNatClampNeg) + 3) / 8 * 8) - (((g 6 x0.toNatClampNeg) + 3) - ((g 6 x0.toNatClampNeg) + 3) / 8 * 8) / 8 * 8) &&& 31)) <<< ((31 : Int32) &&& 31) = 0) => ?_) (fun (h6_ : ¬ ((((tkM_requests_r g x0) &&& ((g 3 x0.toNatClampNeg) ^^^ (-1))) >>> (((((g 6 x0.toNatClampNeg) + 3) - ((g 6 x0.toNatClampNeg) + 3) / 8 * 8) - (((g 6 x0.toNatClampNeg) + 3) - ((g 6 x0.toNatClampNeg) + 3) / 8 * 8) / 8 * 8) &&& 31)) <<< ((31 : Int32) &&& 31) = 0)) => ?_)
            · refine lv_iconst (v := 0) hx hb dM_choice_66 (by decide) ?_
              refine lv_istore hx hb dM_choice_67 hl (by decide) rfl (fun ls hl => ?_)
              have hl : lv_has ls 6 [(5, .int 0), (4, .int (tkM_holds_r g x0 (((g 6 x0.toNatClampNeg) + 3) - ((g 6 x0.toNatClampNeg) + 3) / 8 * 8))), (3, .int (((g 6 x0.toNatClampNeg) + 3) - ((g 6 x0.toNatClampNeg) + 3) / 8 * 8)), (2, .int 3), (0, .ref hm), (1, .int x0)] := hl
              refine lv_iload hx hb dM_choice_69 (lv_at hl 0 rfl) ?_
              refine lv_if_eq (tgt := 99) hx hb dM_choice_71 (by decide) (fun _ => ?_) (fun h => absurd (by decide) h)
              refine lv_iload hx hb dM_choice_99 (lv_at hl 1 rfl) ?_
              refine lv_if_eq (tgt := 106) hx hb dM_choice_101 (by decide) (fun (h7_ : tkM_holds_r g x0 (((g 6 x0.toNatClampNeg) + 3) - ((g 6 x0.toNatClampNeg) + 3) / 8 * 8) = 0) => ?_) (fun (h7_ : ¬ (tkM_holds_r g x0 (((g 6 x0.toNatClampNeg) + 3) - ((g 6 x0.toNatClampNeg) + 3) / 8 * 8) = 0)) => ?_)
              · refine lv_iinc (k := 3) (v := 4) hx hb dM_choice_106 hl rfl (by decide) (by decide) rfl (fun ls hl => ?_)
                have hl : lv_has ls 6 [(2, .int 4), (5, .int 0), (4, .int (tkM_holds_r g x0 (((g 6 x0.toNatClampNeg) + 3) - ((g 6 x0.toNatClampNeg) + 3) / 8 * 8))), (3, .int (((g 6 x0.toNatClampNeg) + 3) - ((g 6 x0.toNatClampNeg) + 3) / 8 * 8)), (0, .ref hm), (1, .int x0)] := hl
                refine lv_goto (tgt := 2) hx hb dM_choice_109 (by decide) ?_
                refine lv_iload_n hx hb dM_choice_2 rfl (lv_at hl 0 rfl) ?_
                refine lv_bipush (v := 8) hx hb dM_choice_3 (by decide) ?_
                refine lv_icmp_gt (tgt := 112) hx hb dM_choice_5 (by decide) (fun h => absurd h (by decide)) (fun _ => ?_)
                refine lv_aload_n hx hb dM_choice_8 rfl (lv_at hl 4 rfl) ?_
                refine va_get (D := D) (ci := 3) (v := .ref (ad 7)) (C := RM) (T := TM) (N := 33) hx hb hw inM hown hK hP 0 rfl rfl 7 (by decide) f28 (fun _ h9 => h9) rfl dM_choice_9 ?_
                refine lv_iload_n hx hb dM_choice_12 rfl (lv_at hl 5 rfl) ?_
                refine tkld_7 hx hb hK hP hi0 dM_choice_13 ?_
                refine lv_if_eq (tgt := 112) hx hb dM_choice_14 (by decide) (fun h => absurd h h1_) (fun _ => ?_)
                refine lv_aload_n hx hb dM_choice_17 rfl (lv_at hl 4 rfl) ?_
                refine va_get (D := D) (ci := 3) (v := .ref (ad 6)) (C := RM) (T := TM) (N := 33) hx hb hw inM hown hK hP 0 rfl rfl 6 (by decide) f25 (fun _ h9 => h9) rfl dM_choice_18 ?_
                refine lv_iload_n hx hb dM_choice_21 rfl (lv_at hl 5 rfl) ?_
                refine tkld_6 hx hb hK hP hi0 dM_choice_22 ?_
                refine lv_iload_n hx hb dM_choice_23 rfl (lv_at hl 0 rfl) ?_
                refine lv_iadd hx hb dM_choice_24 ?_
                refine lv_bipush (v := 8) hx hb dM_choice_25 (by decide) ?_
                refine lv_irem hx hb dM_choice_27 (by decide) ?_
                refine lv_istore_n hx hb dM_choice_28 rfl hl (by decide) rfl (fun ls hl => ?_)
                have hl : lv_has ls 6 [(3, .int (((g 6 x0.toNatClampNeg) + 4) - ((g 6 x0.toNatClampNeg) + 4) / 8 * 8)), (2, .int 4), (5, .int 0), (4, .int (tkM_holds_r g x0 (((g 6 x0.toNatClampNeg) + 3) - ((g 6 x0.toNatClampNeg) + 3) / 8 * 8))), (0, .ref hm), (1, .int x0)] := hl
                refine lv_aload_n hx hb dM_choice_29 rfl (lv_at hl 4 rfl) ?_
                refine lv_iload_n hx hb dM_choice_30 rfl (lv_at hl 5 rfl) ?_
                refine lv_iload_n hx hb dM_choice_31 rfl (lv_at hl 0 rfl) ?_
                refine tk_callA hD hS hA (va_runV (As := [.int x0, .int (((g 6 x0.toNatClampNeg) + 4) - ((g 6 x0.toNatClampNeg) + 4) / 8 * 8)]) (rest := []) ⟨hx, hb, hml, hown, hw⟩ (kM_holds l D hm ad cI cZ g x0 (((g 6 x0.toNatClampNeg) + 4) - ((g 6 x0.toNatClampNeg) + 4) / 8 * 8) hi0 H.size) (cwV 2 hw (tk_gV tkWM_good wM_M_111 wI_M_holds wS_M_holds wZ_M wC_M_holds) rfl rfl rfl (by decide +kernel) ⟨Nat.le_of_ble_eq_true rfl, Nat.le_of_ble_eq_true rfl⟩) (tk_preM hK hN hP hD) rfl rfl hl.1 rfl (lv_room (Nat.le_of_ble_eq_true rfl)) dM_choice_32 ⟨Nat.zero_le _, Nat.zero_le _⟩) (fun H locs hP hD hS => ?_)
                refine W.eq (g2 := F0 m 35 ls [.int (tkM_holds_r g x0 (((g 6 x0.toNatClampNeg) + 4) - ((g 6 x0.toNatClampNeg) + 4) / 8 * 8))]) rfl ?_
                refine lv_istore hx hb dM_choice_35 hl (by decide) rfl (fun ls hl => ?_)
                have hl : lv_has ls 6 [(4, .int (tkM_holds_r g x0 (((g 6 x0.toNatClampNeg) + 4) - ((g 6 x0.toNatClampNeg) + 4) / 8 * 8))), (3, .int (((g 6 x0.toNatClampNeg) + 4) - ((g 6 x0.toNatClampNeg) + 4) / 8 * 8)), (2, .int 4), (5, .int 0), (0, .ref hm), (1, .int x0)] := hl
                refine lv_aload_n hx hb dM_choice_37 rfl (lv_at hl 4 rfl) ?_
                refine lv_iload_n hx hb dM_choice_38 rfl (lv_at hl 5 rfl) ?_
                refine tk_callA hD hS hA (va_runV (As := [.int x0]) (rest := []) ⟨hx, hb, hml, hown, hw⟩ (kM_requests l D hm ad cI cZ g x0 hi0 H.size) (cwV 1 hw (tk_gV tkWM_good wM_M_115 wI_M_requests wS_M_requests wZ_M wC_M_requests) rfl rfl rfl (by decide +kernel) ⟨Nat.le_of_ble_eq_true rfl, Nat.le_of_ble_eq_true rfl⟩) (tk_preM hK hN hP hD) rfl rfl hl.1 rfl (lv_room (Nat.le_of_ble_eq_true rfl)) dM_choice_39 ⟨Nat.zero_le _, Nat.zero_le _⟩) (fun H locs hP hD hS => ?_)
                refine W.eq (g2 := F0 m 42 ls [.int (tkM_requests_r g x0)]) rfl ?_
                refine lv_aload_n hx hb dM_choice_42 rfl (lv_at hl 4 rfl) ?_
                refine va_get (D := D) (ci := 3) (v := .ref (ad 3)) (C := RM) (T := TM) (N := 33) hx hb hw inM hown hK hP 0 rfl rfl 3 (by decide) f16 (fun _ h9 => h9) rfl dM_choice_43 ?_
                refine lv_iload_n hx hb dM_choice_46 rfl (lv_at hl 5 rfl) ?_
                refine tkld_3 hx hb hK hP hi0 dM_choice_47 ?_
                refine lv_iconst (v := -1) hx hb dM_choice_48 (by decide) ?_
                refine lv_ixor hx hb dM_choice_49 ?_
                refine lv_iand hx hb dM_choice_50 ?_
                refine lv_iload_n hx hb dM_choice_51 rfl (lv_at hl 1 rfl) ?_
                refine lv_bipush (v := 8) hx hb dM_choice_52 (by decide) ?_
                refine lv_irem hx hb dM_choice_54 (by decide) ?_
                refine lv_ishr hx hb dM_choice_55 ?_
                refine lv_bipush (v := 31) hx hb dM_choice_56 (by decide) ?_
                refine lv_ishl hx hb dM_choice_58 ?_
                refine lv_if_eq (tgt := 66) hx hb dM_choice_59 (by decide) (fun (h8_ : (((tkM_requests_r g x0) &&& ((g 3 x0.toNatClampNeg) ^^^ (-1))) >>> (((((g 6 x0.toNatClampNeg) + 4) - ((g 6 x0.toNatClampNeg) + 4) / 8 * 8) - (((g 6 x0.toNatClampNeg) + 4) - ((g 6 x0.toNatClampNeg) + 4) / 8 * 8) / 8 * 8) &&& 31)) <<< ((31 : Int32) &&& 31) = 0) => ?_) (fun (h8_ : ¬ ((((tkM_requests_r g x0) &&& ((g 3 x0.toNatClampNeg) ^^^ (-1))) >>> (((((g 6 x0.toNatClampNeg) + 4) - ((g 6 x0.toNatClampNeg) + 4) / 8 * 8) - (((g 6 x0.toNatClampNeg) + 4) - ((g 6 x0.toNatClampNeg) + 4) / 8 * 8) / 8 * 8) &&& 31)) <<< ((31 : Int32) &&& 31) = 0)) => ?_)
                · refine lv_iconst (v := 0) hx hb dM_choice_66 (by decide) ?_
                  refine lv_istore hx hb dM_choice_67 hl (by decide) rfl (fun ls hl => ?_)
                  have hl : lv_has ls 6 [(5, .int 0), (4, .int (tkM_holds_r g x0 (((g 6 x0.toNatClampNeg) + 4) - ((g 6 x0.toNatClampNeg) + 4) / 8 * 8))), (3, .int (((g 6 x0.toNatClampNeg) + 4) - ((g 6 x0.toNatClampNeg) + 4) / 8 * 8)), (2, .int 4), (0, .ref hm), (1, .int x0)] := hl
                  refine lv_iload hx hb dM_choice_69 (lv_at hl 0 rfl) ?_
                  refine lv_if_eq (tgt := 99) hx hb dM_choice_71 (by decide) (fun _ => ?_) (fun h => absurd (by decide) h)
                  refine lv_iload hx hb dM_choice_99 (lv_at hl 1 rfl) ?_
                  refine lv_if_eq (tgt := 106) hx hb dM_choice_101 (by decide) (fun (h9_ : tkM_holds_r g x0 (((g 6 x0.toNatClampNeg) + 4) - ((g 6 x0.toNatClampNeg) + 4) / 8 * 8) = 0) => ?_) (fun (h9_ : ¬ (tkM_holds_r g x0 (((g 6 x0.toNatClampNeg) + 4) - ((g 6 x0.toNatClampNeg) + 4) / 8 * 8) = 0)) => ?_)
                  · refine lv_iinc (k := 3) (v := 5) hx hb dM_choice_106 hl rfl (by decide) (by decide) rfl (fun ls hl => ?_)
                    have hl : lv_has ls 6 [(2, .int 5), (5, .int 0), (4, .int (tkM_holds_r g x0 (((g 6 x0.toNatClampNeg) + 4) - ((g 6 x0.toNatClampNeg) + 4) / 8 * 8))), (3, .int (((g 6 x0.toNatClampNeg) + 4) - ((g 6 x0.toNatClampNeg) + 4) / 8 * 8)), (0, .ref hm), (1, .int x0)] := hl
                    refine lv_goto (tgt := 2) hx hb dM_choice_109 (by decide) ?_
                    refine lv_iload_n hx hb dM_choice_2 rfl (lv_at hl 0 rfl) ?_
                    refine lv_bipush (v := 8) hx hb dM_choice_3 (by decide) ?_
                    refine lv_icmp_gt (tgt := 112) hx hb dM_choice_5 (by decide) (fun h => absurd h (by decide)) (fun _ => ?_)
                    refine lv_aload_n hx hb dM_choice_8 rfl (lv_at hl 4 rfl) ?_
                    refine va_get (D := D) (ci := 3) (v := .ref (ad 7)) (C := RM) (T := TM) (N := 33) hx hb hw inM hown hK hP 0 rfl rfl 7 (by decide) f28 (fun _ h9 => h9) rfl dM_choice_9 ?_
                    refine lv_iload_n hx hb dM_choice_12 rfl (lv_at hl 5 rfl) ?_
                    refine tkld_7 hx hb hK hP hi0 dM_choice_13 ?_
                    refine lv_if_eq (tgt := 112) hx hb dM_choice_14 (by decide) (fun h => absurd h h1_) (fun _ => ?_)
                    refine lv_aload_n hx hb dM_choice_17 rfl (lv_at hl 4 rfl) ?_
                    refine va_get (D := D) (ci := 3) (v := .ref (ad 6)) (C := RM) (T := TM) (N := 33) hx hb hw inM hown hK hP 0 rfl rfl 6 (by decide) f25 (fun _ h9 => h9) rfl dM_choice_18 ?_
                    refine lv_iload_n hx hb dM_choice_21 rfl (lv_at hl 5 rfl) ?_
                    refine tkld_6 hx hb hK hP hi0 dM_choice_22 ?_
                    refine lv_iload_n hx hb dM_choice_23 rfl (lv_at hl 0 rfl) ?_
                    refine lv_iadd hx hb dM_choice_24 ?_
                    refine lv_bipush (v := 8) hx hb dM_choice_25 (by decide) ?_
                    refine lv_irem hx hb dM_choice_27 (by decide) ?_
                    refine lv_istore_n hx hb dM_choice_28 rfl hl (by decide) rfl (fun ls hl => ?_)
                    have hl : lv_has ls 6 [(3, .int (((g 6 x0.toNatClampNeg) + 5) - ((g 6 x0.toNatClampNeg) + 5) / 8 * 8)), (2, .int 5), (5, .int 0), (4, .int (tkM_holds_r g x0 (((g 6 x0.toNatClampNeg) + 4) - ((g 6 x0.toNatClampNeg) + 4) / 8 * 8))), (0, .ref hm), (1, .int x0)] := hl
                    refine lv_aload_n hx hb dM_choice_29 rfl (lv_at hl 4 rfl) ?_
                    refine lv_iload_n hx hb dM_choice_30 rfl (lv_at hl 5 rfl) ?_
                    refine lv_iload_n hx hb dM_choice_31 rfl (lv_at hl 0 rfl) ?_
                    refine tk_callA hD hS hA (va_runV (As := [.int x0, .int (((g 6 x0.toNatClampNeg) + 5) - ((g 6 x0.toNatClampNeg) + 5) / 8 * 8)]) (rest := []) ⟨hx, hb, hml, hown, hw⟩ (kM_holds l D hm ad cI cZ g x0 (((g 6 x0.toNatClampNeg) + 5) - ((g 6 x0.toNatClampNeg) + 5) / 8 * 8) hi0 H.size) (cwV 2 hw (tk_gV tkWM_good wM_M_111 wI_M_holds wS_M_holds wZ_M wC_M_holds) rfl rfl rfl (by decide +kernel) ⟨Nat.le_of_ble_eq_true rfl, Nat.le_of_ble_eq_true rfl⟩) (tk_preM hK hN hP hD) rfl rfl hl.1 rfl (lv_room (Nat.le_of_ble_eq_true rfl)) dM_choice_32 ⟨Nat.zero_le _, Nat.zero_le _⟩) (fun H locs hP hD hS => ?_)
                    refine W.eq (g2 := F0 m 35 ls [.int (tkM_holds_r g x0 (((g 6 x0.toNatClampNeg) + 5) - ((g 6 x0.toNatClampNeg) + 5) / 8 * 8))]) rfl ?_
                    refine lv_istore hx hb dM_choice_35 hl (by decide) rfl (fun ls hl => ?_)
                    have hl : lv_has ls 6 [(4, .int (tkM_holds_r g x0 (((g 6 x0.toNatClampNeg) + 5) - ((g 6 x0.toNatClampNeg) + 5) / 8 * 8))), (3, .int (((g 6 x0.toNatClampNeg) + 5) - ((g 6 x0.toNatClampNeg) + 5) / 8 * 8)), (2, .int 5), (5, .int 0), (0, .ref hm), (1, .int x0)] := hl
                    refine lv_aload_n hx hb dM_choice_37 rfl (lv_at hl 4 rfl) ?_
                    refine lv_iload_n hx hb dM_choice_38 rfl (lv_at hl 5 rfl) ?_
                    refine tk_callA hD hS hA (va_runV (As := [.int x0]) (rest := []) ⟨hx, hb, hml, hown, hw⟩ (kM_requests l D hm ad cI cZ g x0 hi0 H.size) (cwV 1 hw (tk_gV tkWM_good wM_M_115 wI_M_requests wS_M_requests wZ_M wC_M_requests) rfl rfl rfl (by decide +kernel) ⟨Nat.le_of_ble_eq_true rfl, Nat.le_of_ble_eq_true rfl⟩) (tk_preM hK hN hP hD) rfl rfl hl.1 rfl (lv_room (Nat.le_of_ble_eq_true rfl)) dM_choice_39 ⟨Nat.zero_le _, Nat.zero_le _⟩) (fun H locs hP hD hS => ?_)
                    refine W.eq (g2 := F0 m 42 ls [.int (tkM_requests_r g x0)]) rfl ?_
                    refine lv_aload_n hx hb dM_choice_42 rfl (lv_at hl 4 rfl) ?_
                    refine va_get (D := D) (ci := 3) (v := .ref (ad 3)) (C := RM) (T := TM) (N := 33) hx hb hw inM hown hK hP 0 rfl rfl 3 (by decide) f16 (fun _ h9 => h9) rfl dM_choice_43 ?_
                    refine lv_iload_n hx hb dM_choice_46 rfl (lv_at hl 5 rfl) ?_
                    refine tkld_3 hx hb hK hP hi0 dM_choice_47 ?_
                    refine lv_iconst (v := -1) hx hb dM_choice_48 (by decide) ?_
                    refine lv_ixor hx hb dM_choice_49 ?_
                    refine lv_iand hx hb dM_choice_50 ?_
                    refine lv_iload_n hx hb dM_choice_51 rfl (lv_at hl 1 rfl) ?_
                    refine lv_bipush (v := 8) hx hb dM_choice_52 (by decide) ?_
                    refine lv_irem hx hb dM_choice_54 (by decide) ?_
                    refine lv_ishr hx hb dM_choice_55 ?_
                    refine lv_bipush (v := 31) hx hb dM_choice_56 (by decide) ?_
                    refine lv_ishl hx hb dM_choice_58 ?_
                    refine lv_if_eq (tgt := 66) hx hb dM_choice_59 (by decide) (fun (h10_ : (((tkM_requests_r g x0) &&& ((g 3 x0.toNatClampNeg) ^^^ (-1))) >>> (((((g 6 x0.toNatClampNeg) + 5) - ((g 6 x0.toNatClampNeg) + 5) / 8 * 8) - (((g 6 x0.toNatClampNeg) + 5) - ((g 6 x0.toNatClampNeg) + 5) / 8 * 8) / 8 * 8) &&& 31)) <<< ((31 : Int32) &&& 31) = 0) => ?_) (fun (h10_ : ¬ ((((tkM_requests_r g x0) &&& ((g 3 x0.toNatClampNeg) ^^^ (-1))) >>> (((((g 6 x0.toNatClampNeg) + 5) - ((g 6 x0.toNatClampNeg) + 5) / 8 * 8) - (((g 6 x0.toNatClampNeg) + 5) - ((g 6 x0.toNatClampNeg) + 5) / 8 * 8) / 8 * 8) &&& 31)) <<< ((31 : Int32) &&& 31) = 0)) => ?_)
                    · refine lv_iconst (v := 0) hx hb dM_choice_66 (by decide) ?_
                      refine lv_istore hx hb dM_choice_67 hl (by decide) rfl (fun ls hl => ?_)
                      have hl : lv_has ls 6 [(5, .int 0), (4, .int (tkM_holds_r g x0 (((g 6 x0.toNatClampNeg) + 5) - ((g 6 x0.toNatClampNeg) + 5) / 8 * 8))), (3, .int (((g 6 x0.toNatClampNeg) + 5) - ((g 6 x0.toNatClampNeg) + 5) / 8 * 8)), (2, .int 5), (0, .ref hm), (1, .int x0)] := hl
                      refine lv_iload hx hb dM_choice_69 (lv_at hl 0 rfl) ?_
                      refine lv_if_eq (tgt := 99) hx hb dM_choice_71 (by decide) (fun _ => ?_) (fun h => absurd (by decide) h)
                      refine lv_iload hx hb dM_choice_99 (lv_at hl 1 rfl) ?_
                      refine lv_if_eq (tgt := 106) hx hb dM_choice_101 (by decide) (fun (h11_ : tkM_holds_r g x0 (((g 6 x0.toNatClampNeg) + 5) - ((g 6 x0.toNatClampNeg) + 5) / 8 * 8) = 0) => ?_) (fun (h11_ : ¬ (tkM_holds_r g x0 (((g 6 x0.toNatClampNeg) + 5) - ((g 6 x0.toNatClampNeg) + 5) / 8 * 8) = 0)) => ?_)
                      · refine lv_iinc (k := 3) (v := 6) hx hb dM_choice_106 hl rfl (by decide) (by decide) rfl (fun ls hl => ?_)
                        have hl : lv_has ls 6 [(2, .int 6), (5, .int 0), (4, .int (tkM_holds_r g x0 (((g 6 x0.toNatClampNeg) + 5) - ((g 6 x0.toNatClampNeg) + 5) / 8 * 8))), (3, .int (((g 6 x0.toNatClampNeg) + 5) - ((g 6 x0.toNatClampNeg) + 5) / 8 * 8)), (0, .ref hm), (1, .int x0)] := hl
                        refine lv_goto (tgt := 2) hx hb dM_choice_109 (by decide) ?_
                        refine lv_iload_n hx hb dM_choice_2 rfl (lv_at hl 0 rfl) ?_
                        refine lv_bipush (v := 8) hx hb dM_choice_3 (by decide) ?_
                        refine lv_icmp_gt (tgt := 112) hx hb dM_choice_5 (by decide) (fun h => absurd h (by decide)) (fun _ => ?_)
                        refine lv_aload_n hx hb dM_choice_8 rfl (lv_at hl 4 rfl) ?_
                        refine va_get (D := D) (ci := 3) (v := .ref (ad 7)) (C := RM) (T := TM) (N := 33) hx hb hw inM hown hK hP 0 rfl rfl 7 (by decide) f28 (fun _ h9 => h9) rfl dM_choice_9 ?_
                        refine lv_iload_n hx hb dM_choice_12 rfl (lv_at hl 5 rfl) ?_
                        refine tkld_7 hx hb hK hP hi0 dM_choice_13 ?_
                        refine lv_if_eq (tgt := 112) hx hb dM_choice_14 (by decide) (fun h => absurd h h1_) (fun _ => ?_)
                        refine lv_aload_n hx hb dM_choice_17 rfl (lv_at hl 4 rfl) ?_
                        refine va_get (D := D) (ci := 3) (v := .ref (ad 6)) (C := RM) (T := TM) (N := 33) hx hb hw inM hown hK hP 0 rfl rfl 6 (by decide) f25 (fun _ h9 => h9) rfl dM_choice_18 ?_
                        refine lv_iload_n hx hb dM_choice_21 rfl (lv_at hl 5 rfl) ?_
                        refine tkld_6 hx hb hK hP hi0 dM_choice_22 ?_
                        refine lv_iload_n hx hb dM_choice_23 rfl (lv_at hl 0 rfl) ?_
                        refine lv_iadd hx hb dM_choice_24 ?_
                        refine lv_bipush (v := 8) hx hb dM_choice_25 (by decide) ?_
                        refine lv_irem hx hb dM_choice_27 (by decide) ?_
                        refine lv_istore_n hx hb dM_choice_28 rfl hl (by decide) rfl (fun ls hl => ?_)
                        have hl : lv_has ls 6 [(3, .int (((g 6 x0.toNatClampNeg) + 6) - ((g 6 x0.toNatClampNeg) + 6) / 8 * 8)), (2, .int 6), (5, .int 0), (4, .int (tkM_holds_r g x0 (((g 6 x0.toNatClampNeg) + 5) - ((g 6 x0.toNatClampNeg) + 5) / 8 * 8))), (0, .ref hm), (1, .int x0)] := hl
                        refine lv_aload_n hx hb dM_choice_29 rfl (lv_at hl 4 rfl) ?_
                        refine lv_iload_n hx hb dM_choice_30 rfl (lv_at hl 5 rfl) ?_
                        refine lv_iload_n hx hb dM_choice_31 rfl (lv_at hl 0 rfl) ?_
                        refine tk_callA hD hS hA (va_runV (As := [.int x0, .int (((g 6 x0.toNatClampNeg) + 6) - ((g 6 x0.toNatClampNeg) + 6) / 8 * 8)]) (rest := []) ⟨hx, hb, hml, hown, hw⟩ (kM_holds l D hm ad cI cZ g x0 (((g 6 x0.toNatClampNeg) + 6) - ((g 6 x0.toNatClampNeg) + 6) / 8 * 8) hi0 H.size) (cwV 2 hw (tk_gV tkWM_good wM_M_111 wI_M_holds wS_M_holds wZ_M wC_M_holds) rfl rfl rfl (by decide +kernel) ⟨Nat.le_of_ble_eq_true rfl, Nat.le_of_ble_eq_true rfl⟩) (tk_preM hK hN hP hD) rfl rfl hl.1 rfl (lv_room (Nat.le_of_ble_eq_true rfl)) dM_choice_32 ⟨Nat.zero_le _, Nat.zero_le _⟩) (fun H locs hP hD hS => ?_)
                        refine W.eq (g2 := F0 m 35 ls [.int (tkM_holds_r g x0 (((g 6 x0.toNatClampNeg) + 6) - ((g 6 x0.toNatClampNeg) + 6) / 8 * 8))]) rfl ?_
                        refine lv_istore hx hb dM_choice_35 hl (by decide) rfl (fun ls hl => ?_)
                        have hl : lv_has ls 6 [(4, .int (tkM_holds_r g x0 (((g 6 x0.toNatClampNeg) + 6) - ((g 6 x0.toNatClampNeg) + 6) / 8 * 8))), (3, .int (((g 6 x0.toNatClampNeg) + 6) - ((g 6 x0.toNatClampNeg) + 6) / 8 * 8)), (2, .int 6), (5, .int 0), (0, .ref hm), (1, .int x0)] := hl
                        refine lv_aload_n hx hb dM_choice_37 rfl (lv_at hl 4 rfl) ?_
                        refine lv_iload_n hx hb dM_choice_38 rfl (lv_at hl 5 rfl) ?_
                        refine tk_callA hD hS hA (va_runV (As := [.int x0]) (rest := []) ⟨hx, hb, hml, hown, hw⟩ (kM_requests l D hm ad cI cZ g x0 hi0 H.size) (cwV 1 hw (tk_gV tkWM_good wM_M_115 wI_M_requests wS_M_requests wZ_M wC_M_requests) rfl rfl rfl (by decide +kernel) ⟨Nat.le_of_ble_eq_true rfl, Nat.le_of_ble_eq_true rfl⟩) (tk_preM hK hN hP hD) rfl rfl hl.1 rfl (lv_room (Nat.le_of_ble_eq_true rfl)) dM_choice_39 ⟨Nat.zero_le _, Nat.zero_le _⟩) (fun H locs hP hD hS => ?_)
                        refine W.eq (g2 := F0 m 42 ls [.int (tkM_requests_r g x0)]) rfl ?_
                        refine lv_aload_n hx hb dM_choice_42 rfl (lv_at hl 4 rfl) ?_
                        refine va_get (D := D) (ci := 3) (v := .ref (ad 3)) (C := RM) (T := TM) (N := 33) hx hb hw inM hown hK hP 0 rfl rfl 3 (by decide) f16 (fun _ h9 => h9) rfl dM_choice_43 ?_
                        refine lv_iload_n hx hb dM_choice_46 rfl (lv_at hl 5 rfl) ?_
                        refine tkld_3 hx hb hK hP hi0 dM_choice_47 ?_
                        refine lv_iconst (v := -1) hx hb dM_choice_48 (by decide) ?_
                        refine lv_ixor hx hb dM_choice_49 ?_
                        refine lv_iand hx hb dM_choice_50 ?_
                        refine lv_iload_n hx hb dM_choice_51 rfl (lv_at hl 1 rfl) ?_
                        refine lv_bipush (v := 8) hx hb dM_choice_52 (by decide) ?_
                        refine lv_irem hx hb dM_choice_54 (by decide) ?_
                        refine lv_ishr hx hb dM_choice_55 ?_
                        refine lv_bipush (v := 31) hx hb dM_choice_56 (by decide) ?_
                        refine lv_ishl hx hb dM_choice_58 ?_
                        refine lv_if_eq (tgt := 66) hx hb dM_choice_59 (by decide) (fun (h12_ : (((tkM_requests_r g x0) &&& ((g 3 x0.toNatClampNeg) ^^^ (-1))) >>> (((((g 6 x0.toNatClampNeg) + 6) - ((g 6 x0.toNatClampNeg) + 6) / 8 * 8) - (((g 6 x0.toNatClampNeg) + 6) - ((g 6 x0.toNatClampNeg) + 6) / 8 * 8) / 8 * 8) &&& 31)) <<< ((31 : Int32) &&& 31) = 0) => ?_) (fun (h12_ : ¬ ((((tkM_requests_r g x0) &&& ((g 3 x0.toNatClampNeg) ^^^ (-1))) >>> (((((g 6 x0.toNatClampNeg) + 6) - ((g 6 x0.toNatClampNeg) + 6) / 8 * 8) - (((g 6 x0.toNatClampNeg) + 6) - ((g 6 x0.toNatClampNeg) + 6) / 8 * 8) / 8 * 8) &&& 31)) <<< ((31 : Int32) &&& 31) = 0)) => ?_)
                        · refine lv_iconst (v := 0) hx hb dM_choice_66 (by decide) ?_
                          refine lv_istore hx hb dM_choice_67 hl (by decide) rfl (fun ls hl => ?_)
                          have hl : lv_has ls 6 [(5, .int 0), (4, .int (tkM_holds_r g x0 (((g 6 x0.toNatClampNeg) + 6) - ((g 6 x0.toNatClampNeg) + 6) / 8 * 8))), (3, .int (((g 6 x0.toNatClampNeg) + 6) - ((g 6 x0.toNatClampNeg) + 6) / 8 * 8)), (2, .int 6), (0, .ref hm), (1, .int x0)] := hl
                          refine lv_iload hx hb dM_choice_69 (lv_at hl 0 rfl) ?_
                          refine lv_if_eq (tgt := 99) hx hb dM_choice_71 (by decide) (fun _ => ?_) (fun h => absurd (by decide) h)
                          refine lv_iload hx hb dM_choice_99 (lv_at hl 1 rfl) ?_
                          refine lv_if_eq (tgt := 106) hx hb dM_choice_101 (by decide) (fun (h13_ : tkM_holds_r g x0 (((g 6 x0.toNatClampNeg) + 6) - ((g 6 x0.toNatClampNeg) + 6) / 8 * 8) = 0) => ?_) (fun (h13_ : ¬ (tkM_holds_r g x0 (((g 6 x0.toNatClampNeg) + 6) - ((g 6 x0.toNatClampNeg) + 6) / 8 * 8) = 0)) => ?_)
                          · refine lv_iinc (k := 3) (v := 7) hx hb dM_choice_106 hl rfl (by decide) (by decide) rfl (fun ls hl => ?_)
                            have hl : lv_has ls 6 [(2, .int 7), (5, .int 0), (4, .int (tkM_holds_r g x0 (((g 6 x0.toNatClampNeg) + 6) - ((g 6 x0.toNatClampNeg) + 6) / 8 * 8))), (3, .int (((g 6 x0.toNatClampNeg) + 6) - ((g 6 x0.toNatClampNeg) + 6) / 8 * 8)), (0, .ref hm), (1, .int x0)] := hl
                            refine lv_goto (tgt := 2) hx hb dM_choice_109 (by decide) ?_
                            refine lv_iload_n hx hb dM_choice_2 rfl (lv_at hl 0 rfl) ?_
                            refine lv_bipush (v := 8) hx hb dM_choice_3 (by decide) ?_
                            refine lv_icmp_gt (tgt := 112) hx hb dM_choice_5 (by decide) (fun h => absurd h (by decide)) (fun _ => ?_)
                            refine lv_aload_n hx hb dM_choice_8 rfl (lv_at hl 4 rfl) ?_
                            refine va_get (D := D) (ci := 3) (v := .ref (ad 7)) (C := RM) (T := TM) (N := 33) hx hb hw inM hown hK hP 0 rfl rfl 7 (by decide) f28 (fun _ h9 => h9) rfl dM_choice_9 ?_
                            refine lv_iload_n hx hb dM_choice_12 rfl (lv_at hl 5 rfl) ?_
                            refine tkld_7 hx hb hK hP hi0 dM_choice_13 ?_
                            refine lv_if_eq (tgt := 112) hx hb dM_choice_14 (by decide) (fun h => absurd h h1_) (fun _ => ?_)
                            refine lv_aload_n hx hb dM_choice_17 rfl (lv_at hl 4 rfl) ?_
                            refine va_get (D := D) (ci := 3) (v := .ref (ad 6)) (C := RM) (T := TM) (N := 33) hx hb hw inM hown hK hP 0 rfl rfl 6 (by decide) f25 (fun _ h9 => h9) rfl dM_choice_18 ?_
                            refine lv_iload_n hx hb dM_choice_21 rfl (lv_at hl 5 rfl) ?_
                            refine tkld_6 hx hb hK hP hi0 dM_choice_22 ?_
                            refine lv_iload_n hx hb dM_choice_23 rfl (lv_at hl 0 rfl) ?_
                            refine lv_iadd hx hb dM_choice_24 ?_
                            refine lv_bipush (v := 8) hx hb dM_choice_25 (by decide) ?_
                            refine lv_irem hx hb dM_choice_27 (by decide) ?_
                            refine lv_istore_n hx hb dM_choice_28 rfl hl (by decide) rfl (fun ls hl => ?_)
                            have hl : lv_has ls 6 [(3, .int (((g 6 x0.toNatClampNeg) + 7) - ((g 6 x0.toNatClampNeg) + 7) / 8 * 8)), (2, .int 7), (5, .int 0), (4, .int (tkM_holds_r g x0 (((g 6 x0.toNatClampNeg) + 6) - ((g 6 x0.toNatClampNeg) + 6) / 8 * 8))), (0, .ref hm), (1, .int x0)] := hl
                            refine lv_aload_n hx hb dM_choice_29 rfl (lv_at hl 4 rfl) ?_
                            refine lv_iload_n hx hb dM_choice_30 rfl (lv_at hl 5 rfl) ?_
                            refine lv_iload_n hx hb dM_choice_31 rfl (lv_at hl 0 rfl) ?_
                            refine tk_callA hD hS hA (va_runV (As := [.int x0, .int (((g 6 x0.toNatClampNeg) + 7) - ((g 6 x0.toNatClampNeg) + 7) / 8 * 8)]) (rest := []) ⟨hx, hb, hml, hown, hw⟩ (kM_holds l D hm ad cI cZ g x0 (((g 6 x0.toNatClampNeg) + 7) - ((g 6 x0.toNatClampNeg) + 7) / 8 * 8) hi0 H.size) (cwV 2 hw (tk_gV tkWM_good wM_M_111 wI_M_holds wS_M_holds wZ_M wC_M_holds) rfl rfl rfl (by decide +kernel) ⟨Nat.le_of_ble_eq_true rfl, Nat.le_of_ble_eq_true rfl⟩) (tk_preM hK hN hP hD) rfl rfl hl.1 rfl (lv_room (Nat.le_of_ble_eq_true rfl)) dM_choice_32 ⟨Nat.zero_le _, Nat.zero_le _⟩) (fun H locs hP hD hS => ?_)
                            refine W.eq (g2 := F0 m 35 ls [.int (tkM_holds_r g x0 (((g 6 x0.toNatClampNeg) + 7) - ((g 6 x0.toNatClampNeg) + 7) / 8 * 8))]) rfl ?_
                            refine lv_istore hx hb dM_choice_35 hl (by decide) rfl (fun ls hl => ?_)
                            have hl : lv_has ls 6 [(4, .int (tkM_holds_r g x0 (((g 6 x0.toNatClampNeg) + 7) - ((g 6 x0.toNatClampNeg) + 7) / 8 * 8))), (3, .int (((g 6 x0.toNatClampNeg) + 7) - ((g 6 x0.toNatClampNeg) + 7) / 8 * 8)), (2, .int 7), (5, .int 0), (0, .ref hm), (1, .int x0)] := hl
                            refine lv_aload_n hx hb dM_choice_37 rfl (lv_at hl 4 rfl) ?_
                            refine lv_iload_n hx hb dM_choice_38 rfl (lv_at hl 5 rfl) ?_
                            refine tk_callA hD hS hA (va_runV (As := [.int x0]) (rest := []) ⟨hx, hb, hml, hown, hw⟩ (kM_requests l D hm ad cI cZ g x0 hi0 H.size) (cwV 1 hw (tk_gV tkWM_good wM_M_115 wI_M_requests wS_M_requests wZ_M wC_M_requests) rfl rfl rfl (by decide +kernel) ⟨Nat.le_of_ble_eq_true rfl, Nat.le_of_ble_eq_true rfl⟩) (tk_preM hK hN hP hD) rfl rfl hl.1 rfl (lv_room (Nat.le_of_ble_eq_true rfl)) dM_choice_39 ⟨Nat.zero_le _, Nat.zero_le _⟩) (fun H locs hP hD hS => ?_)
                            refine W.eq (g2 := F0 m 42 ls [.int (tkM_requests_r g x0)]) rfl ?_
                            refine lv_aload_n hx hb dM_choice_42 rfl (lv_at hl 4 rfl) ?_
                            refine va_get (D := D) (ci := 3) (v := .ref (ad 3)) (C := RM) (T := TM) (N := 33) hx hb hw inM hown hK hP 0 rfl rfl 3 (by decide) f16 (fun _ h9 => h9) rfl dM_choice_43 ?_
                            refine lv_iload_n hx hb dM_choice_46 rfl (lv_at hl 5 rfl) ?_
                            refine tkld_3 hx hb hK hP hi0 dM_choice_47 ?_
                            refine lv_iconst (v := -1) hx hb dM_choice_48 (by decide) ?_
                            refine lv_ixor hx hb dM_choice_49 ?_
                            refine lv_iand hx hb dM_choice_50 ?_
                            refine lv_iload_n hx hb dM_choice_51 rfl (lv_at hl 1 rfl) ?_
                            refine lv_bipush (v := 8) hx hb dM_choice_52 (by decide) ?_
                            refine lv_irem hx hb dM_choice_54 (by decide) ?_
                            refine lv_ishr hx hb dM_choice_55 ?_
                            refine lv_bipush (v := 31) hx hb dM_choice_56 (by decide) ?_
                            refine lv_ishl hx hb dM_choice_58 ?_
                            refine lv_if_eq (tgt := 66) hx hb dM_choice_59 (by decide) (fun (h14_ : (((tkM_requests_r g x0) &&& ((g 3 x0.toNatClampNeg) ^^^ (-1))) >>> (((((g 6 x0.toNatClampNeg) + 7) - ((g 6 x0.toNatClampNeg) + 7) / 8 * 8) - (((g 6 x0.toNatClampNeg) + 7) - ((g 6 x0.toNatClampNeg) + 7) / 8 * 8) / 8 * 8) &&& 31)) <<< ((31 : Int32) &&& 31) = 0) => ?_) (fun (h14_ : ¬ ((((tkM_requests_r g x0) &&& ((g 3 x0.toNatClampNeg) ^^^ (-1))) >>> (((((g 6 x0.toNatClampNeg) + 7) - ((g 6 x0.toNatClampNeg) + 7) / 8 * 8) - (((g 6 x0.toNatClampNeg) + 7) - ((g 6 x0.toNatClampNeg) + 7) / 8 * 8) / 8 * 8) &&& 31)) <<< ((31 : Int32) &&& 31) = 0)) => ?_)
                            · refine lv_iconst (v := 0) hx hb dM_choice_66 (by decide) ?_
                              refine lv_istore hx hb dM_choice_67 hl (by decide) rfl (fun ls hl => ?_)
                              have hl : lv_has ls 6 [(5, .int 0), (4, .int (tkM_holds_r g x0 (((g 6 x0.toNatClampNeg) + 7) - ((g 6 x0.toNatClampNeg) + 7) / 8 * 8))), (3, .int (((g 6 x0.toNatClampNeg) + 7) - ((g 6 x0.toNatClampNeg) + 7) / 8 * 8)), (2, .int 7), (0, .ref hm), (1, .int x0)] := hl
                              refine lv_iload hx hb dM_choice_69 (lv_at hl 0 rfl) ?_
                              refine lv_if_eq (tgt := 99) hx hb dM_choice_71 (by decide) (fun _ => ?_) (fun h => absurd (by decide) h)
                              refine lv_iload hx hb dM_choice_99 (lv_at hl 1 rfl) ?_
                              refine lv_if_eq (tgt := 106) hx hb dM_choice_101 (by decide) (fun (h15_ : tkM_holds_r g x0 (((g 6 x0.toNatClampNeg) + 7) - ((g 6 x0.toNatClampNeg) + 7) / 8 * 8) = 0) => ?_) (fun (h15_ : ¬ (tkM_holds_r g x0 (((g 6 x0.toNatClampNeg) + 7) - ((g 6 x0.toNatClampNeg) + 7) / 8 * 8) = 0)) => ?_)
                              · refine lv_iinc (k := 3) (v := 8) hx hb dM_choice_106 hl rfl (by decide) (by decide) rfl (fun ls hl => ?_)
                                have hl : lv_has ls 6 [(2, .int 8), (5, .int 0), (4, .int (tkM_holds_r g x0 (((g 6 x0.toNatClampNeg) + 7) - ((g 6 x0.toNatClampNeg) + 7) / 8 * 8))), (3, .int (((g 6 x0.toNatClampNeg) + 7) - ((g 6 x0.toNatClampNeg) + 7) / 8 * 8)), (0, .ref hm), (1, .int x0)] := hl
                                refine lv_goto (tgt := 2) hx hb dM_choice_109 (by decide) ?_
                                refine lv_iload_n hx hb dM_choice_2 rfl (lv_at hl 0 rfl) ?_
                                refine lv_bipush (v := 8) hx hb dM_choice_3 (by decide) ?_
                                refine lv_icmp_gt (tgt := 112) hx hb dM_choice_5 (by decide) (fun h => absurd h (by decide)) (fun _ => ?_)
                                refine lv_aload_n hx hb dM_choice_8 rfl (lv_at hl 4 rfl) ?_
                                refine va_get (D := D) (ci := 3) (v := .ref (ad 7)) (C := RM) (T := TM) (N := 33) hx hb hw inM hown hK hP 0 rfl rfl 7 (by decide) f28 (fun _ h9 => h9) rfl dM_choice_9 ?_
                                refine lv_iload_n hx hb dM_choice_12 rfl (lv_at hl 5 rfl) ?_
                                refine tkld_7 hx hb hK hP hi0 dM_choice_13 ?_
                                refine lv_if_eq (tgt := 112) hx hb dM_choice_14 (by decide) (fun h => absurd h h1_) (fun _ => ?_)
                                refine lv_aload_n hx hb dM_choice_17 rfl (lv_at hl 4 rfl) ?_
                                refine va_get (D := D) (ci := 3) (v := .ref (ad 6)) (C := RM) (T := TM) (N := 33) hx hb hw inM hown hK hP 0 rfl rfl 6 (by decide) f25 (fun _ h9 => h9) rfl dM_choice_18 ?_
                                refine lv_iload_n hx hb dM_choice_21 rfl (lv_at hl 5 rfl) ?_
                                refine tkld_6 hx hb hK hP hi0 dM_choice_22 ?_
                                refine lv_iload_n hx hb dM_choice_23 rfl (lv_at hl 0 rfl) ?_
                                refine lv_iadd hx hb dM_choice_24 ?_
                                refine lv_bipush (v := 8) hx hb dM_choice_25 (by decide) ?_
                                refine lv_irem hx hb dM_choice_27 (by decide) ?_
                                refine lv_istore_n hx hb dM_choice_28 rfl hl (by decide) rfl (fun ls hl => ?_)
                                have hl : lv_has ls 6 [(3, .int (((g 6 x0.toNatClampNeg) + 8) - ((g 6 x0.toNatClampNeg) + 8) / 8 * 8)), (2, .int 8), (5, .int 0), (4, .int (tkM_holds_r g x0 (((g 6 x0.toNatClampNeg) + 7) - ((g 6 x0.toNatClampNeg) + 7) / 8 * 8))), (0, .ref hm), (1, .int x0)] := hl
                                refine lv_aload_n hx hb dM_choice_29 rfl (lv_at hl 4 rfl) ?_
                                refine lv_iload_n hx hb dM_choice_30 rfl (lv_at hl 5 rfl) ?_
                                refine lv_iload_n hx hb dM_choice_31 rfl (lv_at hl 0 rfl) ?_
                                refine tk_callA hD hS hA (va_runV (As := [.int x0, .int (((g 6 x0.toNatClampNeg) + 8) - ((g 6 x0.toNatClampNeg) + 8) / 8 * 8)]) (rest := []) ⟨hx, hb, hml, hown, hw⟩ (kM_holds l D hm ad cI cZ g x0 (((g 6 x0.toNatClampNeg) + 8) - ((g 6 x0.toNatClampNeg) + 8) / 8 * 8) hi0 H.size) (cwV 2 hw (tk_gV tkWM_good wM_M_111 wI_M_holds wS_M_holds wZ_M wC_M_holds) rfl rfl rfl (by decide +kernel) ⟨Nat.le_of_ble_eq_true rfl, Nat.le_of_ble_eq_true rfl⟩) (tk_preM hK hN hP hD) rfl rfl hl.1 rfl (lv_room (Nat.le_of_ble_eq_true rfl)) dM_choice_32 ⟨Nat.zero_le _, Nat.zero_le _⟩) (fun H locs hP hD hS => ?_)
                                refine W.eq (g2 := F0 m 35 ls [.int (tkM_holds_r g x0 (((g 6 x0.toNatClampNeg) + 8) - ((g 6 x0.toNatClampNeg) + 8) / 8 * 8))]) rfl ?_
                                refine lv_istore hx hb dM_choice_35 hl (by decide) rfl (fun ls hl => ?_)
                                have hl : lv_has ls 6 [(4, .int (tkM_holds_r g x0 (((g 6 x0.toNatClampNeg) + 8) - ((g 6 x0.toNatClampNeg) + 8) / 8 * 8))), (3, .int (((g 6 x0.toNatClampNeg) + 8) - ((g 6 x0.toNatClampNeg) + 8) / 8 * 8)), (2, .int 8), (5, .int 0), (0, .ref hm), (1, .int x0)] := hl
                                refine lv_aload_n hx hb dM_choice_37 rfl (lv_at hl 4 rfl) ?_
                                refine lv_iload_n hx hb dM_choice_38 rfl (lv_at hl 5 rfl) ?_
                                refine tk_callA hD hS hA (va_runV (As := [.int x0]) (rest := []) ⟨hx, hb, hml, hown, hw⟩ (kM_requests l D hm ad cI cZ g x0 hi0 H.size) (cwV 1 hw (tk_gV tkWM_good wM_M_115 wI_M_requests wS_M_requests wZ_M wC_M_requests) rfl rfl rfl (by decide +kernel) ⟨Nat.le_of_ble_eq_true rfl, Nat.le_of_ble_eq_true rfl⟩) (tk_preM hK hN hP hD) rfl rfl hl.1 rfl (lv_room (Nat.le_of_ble_eq_true rfl)) dM_choice_39 ⟨Nat.zero_le _, Nat.zero_le _⟩) (fun H locs hP hD hS => ?_)
                                refine W.eq (g2 := F0 m 42 ls [.int (tkM_requests_r g x0)]) rfl ?_
                                refine lv_aload_n hx hb dM_choice_42 rfl (lv_at hl 4 rfl) ?_
                                refine va_get (D := D) (ci := 3) (v := .ref (ad 3)) (C := RM) (T := TM) (N := 33) hx hb hw inM hown hK hP 0 rfl rfl 3 (by decide) f16 (fun _ h9 => h9) rfl dM_choice_43 ?_
                                refine lv_iload_n hx hb dM_choice_46 rfl (lv_at hl 5 rfl) ?_
                                refine tkld_3 hx hb hK hP hi0 dM_choice_47 ?_
                                refine lv_iconst (v := -1) hx hb dM_choice_48 (by decide) ?_
                                refine lv_ixor hx hb dM_choice_49 ?_
                                refine lv_iand hx hb dM_choice_50 ?_
                                refine lv_iload_n hx hb dM_choice_51 rfl (lv_at hl 1 rfl) ?_
                                refine lv_bipush (v := 8) hx hb dM_choice_52 (by decide) ?_
                                refine lv_irem hx hb dM_choice_54 (by decide) ?_
                                refine lv_ishr hx hb dM_choice_55 ?_
                                refine lv_bipush (v := 31) hx hb dM_choice_56 (by decide) ?_
                                refine lv_ishl hx hb dM_choice_58 ?_
                                refine lv_if_eq (tgt := 66) hx hb dM_choice_59 (by decide) (fun (h16_ : (((tkM_requests_r g x0) &&& ((g 3 x0.toNatClampNeg) ^^^ (-1))) >>> (((((g 6 x0.toNatClampNeg) + 8) - ((g 6 x0.toNatClampNeg) + 8) / 8 * 8) - (((g 6 x0.toNatClampNeg) + 8) - ((g 6 x0.toNatClampNeg) + 8) / 8 * 8) / 8 * 8) &&& 31)) <<< ((31 : Int32) &&& 31) = 0) => ?_) (fun (h16_ : ¬ ((((tkM_requests_r g x0) &&& ((g 3 x0.toNatClampNeg) ^^^ (-1))) >>> (((((g 6 x0.toNatClampNeg) + 8) - ((g 6 x0.toNatClampNeg) + 8) / 8 * 8) - (((g 6 x0.toNatClampNeg) + 8) - ((g 6 x0.toNatClampNeg) + 8) / 8 * 8) / 8 * 8) &&& 31)) <<< ((31 : Int32) &&& 31) = 0)) => ?_)
                                · refine lv_iconst (v := 0) hx hb dM_choice_66 (by decide) ?_
                                  refine lv_istore hx hb dM_choice_67 hl (by decide) rfl (fun ls hl => ?_)
                                  have hl : lv_has ls 6 [(5, .int 0), (4, .int (tkM_holds_r g x0 (((g 6 x0.toNatClampNeg) + 8) - ((g 6 x0.toNatClampNeg) + 8) / 8 * 8))), (3, .int (((g 6 x0.toNatClampNeg) + 8) - ((g 6 x0.toNatClampNeg) + 8) / 8 * 8)), (2, .int 8), (0, .ref hm), (1, .int x0)] := hl
                                  refine lv_iload hx hb dM_choice_69 (lv_at hl 0 rfl) ?_
                                  refine lv_if_eq (tgt := 99) hx hb dM_choice_71 (by decide) (fun _ => ?_) (fun h => absurd (by decide) h)
                                  refine lv_iload hx hb dM_choice_99 (lv_at hl 1 rfl) ?_
                                  refine lv_if_eq (tgt := 106) hx hb dM_choice_101 (by decide) (fun (h17_ : tkM_holds_r g x0 (((g 6 x0.toNatClampNeg) + 8) - ((g 6 x0.toNatClampNeg) + 8) / 8 * 8) = 0) => ?_) (fun (h17_ : ¬ (tkM_holds_r g x0 (((g 6 x0.toNatClampNeg) + 8) - ((g 6 x0.toNatClampNeg) + 8) / 8 * 8) = 0)) => ?_)
                                  · refine lv_iinc (k := 3) (v := 9) hx hb dM_choice_106 hl rfl (by decide) (by decide) rfl (fun ls hl => ?_)
                                    have hl : lv_has ls 6 [(2, .int 9), (5, .int 0), (4, .int (tkM_holds_r g x0 (((g 6 x0.toNatClampNeg) + 8) - ((g 6 x0.toNatClampNeg) + 8) / 8 * 8))), (3, .int (((g 6 x0.toNatClampNeg) + 8) - ((g 6 x0.toNatClampNeg) + 8) / 8 * 8)), (0, .ref hm), (1, .int x0)] := hl
                                    refine lv_goto (tgt := 2) hx hb dM_choice_109 (by decide) ?_
                                    refine lv_iload_n hx hb dM_choice_2 rfl (lv_at hl 0 rfl) ?_
                                    refine lv_bipush (v := 8) hx hb dM_choice_3 (by decide) ?_
                                    refine lv_icmp_gt (tgt := 112) hx hb dM_choice_5 (by decide) (fun _ => ?_) (fun h => absurd (by decide) h)
                                    refine lv_iconst (v := -1) hx hb dM_choice_112 (by decide) ?_
                                    exact tk_iret hx hb hr hlk hP hD hS dM_choice_113 (by unfold tkM_choice_r; rw [if_neg h1_, if_pos h2_, if_pos h3_, if_pos h4_, if_pos h5_, if_pos h6_, if_pos h7_, if_pos h8_, if_pos h9_, if_pos h10_, if_pos h11_, if_pos h12_, if_pos h13_, if_pos h14_, if_pos h15_, if_pos h16_]) rfl
                                  · refine lv_iconst (v := -1) hx hb dM_choice_104 (by decide) ?_
                                    exact tk_iret hx hb hr hlk hP hD hS dM_choice_105 (by unfold tkM_choice_r; rw [if_neg h1_, if_pos h2_, if_pos h3_, if_pos h4_, if_pos h5_, if_pos h6_, if_pos h7_, if_pos h8_, if_pos h9_, if_pos h10_, if_pos h11_, if_pos h12_, if_pos h13_, if_pos h14_, if_pos h15_, if_pos h16_]) rfl
                                · refine lv_iconst (v := 1) hx hb dM_choice_62 (by decide) ?_
                                  refine lv_goto (tgt := 67) hx hb dM_choice_63 (by decide) ?_
                                  refine lv_istore hx hb dM_choice_67 hl (by decide) rfl (fun ls hl => ?_)
                                  have hl : lv_has ls 6 [(5, .int 1), (4, .int (tkM_holds_r g x0 (((g 6 x0.toNatClampNeg) + 8) - ((g 6 x0.toNatClampNeg) + 8) / 8 * 8))), (3, .int (((g 6 x0.toNatClampNeg) + 8) - ((g 6 x0.toNatClampNeg) + 8) / 8 * 8)), (2, .int 8), (0, .ref hm), (1, .int x0)] := hl
                                  refine lv_iload hx hb dM_choice_69 (lv_at hl 0 rfl) ?_
                                  refine lv_if_eq (tgt := 99) hx hb dM_choice_71 (by decide) (fun h => absurd h (by decide)) (fun _ => ?_)
                                  refine lv_iload hx hb dM_choice_74 (lv_at hl 1 rfl) ?_
                                  refine lv_if_eq (tgt := 97) hx hb dM_choice_76 (by decide) (fun (h18_ : tkM_holds_r g x0 (((g 6 x0.toNatClampNeg) + 8) - ((g 6 x0.toNatClampNeg) + 8) / 8 * 8) = 0) => ?_) (fun (h18_ : ¬ (tkM_holds_r g x0 (((g 6 x0.toNatClampNeg) + 8) - ((g 6 x0.toNatClampNeg) + 8) / 8 * 8) = 0)) => ?_)
                                  · refine lv_iload_n hx hb dM_choice_97 rfl (lv_at hl 2 rfl) ?_
                                    exact tk_iret hx hb hr hlk hP hD hS dM_choice_98 (by unfold tkM_choice_r; rw [if_neg h1_, if_pos h2_, if_pos h3_, if_pos h4_, if_pos h5_, if_pos h6_, if_pos h7_, if_pos h8_, if_pos h9_, if_pos h10_, if_pos h11_, if_pos h12_, if_pos h13_, if_pos h14_, if_pos h15_, if_neg h16_, if_pos h18_]) rfl
                                  · refine lv_aload_n hx hb dM_choice_79 rfl (lv_at hl 4 rfl) ?_
                                    refine va_get (D := D) (ci := 3) (v := .ref (ad 12)) (C := RM) (T := TM) (N := 33) hx hb hw inM hown hK hP 0 rfl rfl 12 (by decide) f44 (fun _ h9 => h9) rfl dM_choice_80 ?_
                                    refine lv_iload_n hx hb dM_choice_83 rfl (lv_at hl 5 rfl) ?_
                                    refine tkld_12 hx hb hK hP hi0 dM_choice_84 ?_
                                    refine lv_if_eq (tgt := 99) hx hb dM_choice_85 (by decide) (fun (h19_ : g 12 x0.toNatClampNeg = 0) => ?_) (fun (h19_ : ¬ (g 12 x0.toNatClampNeg = 0)) => ?_)
                                    · refine lv_iload hx hb dM_choice_99 (lv_at hl 1 rfl) ?_
                                      refine lv_if_eq (tgt := 106) hx hb dM_choice_101 (by decide) (fun h => absurd h h18_) (fun _ => ?_)
                                      refine lv_iconst (v := -1) hx hb dM_choice_104 (by decide) ?_
                                      exact tk_iret hx hb hr hlk hP hD hS dM_choice_105 (by unfold tkM_choice_r; rw [if_neg h1_, if_pos h2_, if_pos h3_, if_pos h4_, if_pos h5_, if_pos h6_, if_pos h7_, if_pos h8_, if_pos h9_, if_pos h10_, if_pos h11_, if_pos h12_, if_pos h13_, if_pos h14_, if_pos h15_, if_neg h16_, if_neg h18_, if_pos h19_]) rfl
                                    · refine lv_iload_n hx hb dM_choice_88 rfl (lv_at hl 5 rfl) ?_
                                      refine lv_if_ne (tgt := 99) hx hb dM_choice_89 (by decide) (fun (h20_ : ¬ (x0 = 0)) => ?_) (fun (h20_ : x0 = 0) => ?_)
                                      · refine lv_iload hx hb dM_choice_99 (lv_at hl 1 rfl) ?_
                                        refine lv_if_eq (tgt := 106) hx hb dM_choice_101 (by decide) (fun h => absurd h h18_) (fun _ => ?_)
                                        refine lv_iconst (v := -1) hx hb dM_choice_104 (by decide) ?_
                                        exact tk_iret hx hb hr hlk hP hD hS dM_choice_105 (by unfold tkM_choice_r; rw [if_neg h1_, if_pos h2_, if_pos h3_, if_pos h4_, if_pos h5_, if_pos h6_, if_pos h7_, if_pos h8_, if_pos h9_, if_pos h10_, if_pos h11_, if_pos h12_, if_pos h13_, if_pos h14_, if_pos h15_, if_neg h16_, if_neg h18_, if_neg h19_, if_neg h20_]) rfl
                                      · refine lv_iload_n hx hb dM_choice_92 rfl (lv_at hl 2 rfl) ?_
                                        refine lv_iconst (v := 2) hx hb dM_choice_93 (by decide) ?_
                                        refine lv_icmp_ne (tgt := 99) hx hb dM_choice_94 (by decide) (fun (h21_ : ¬ (((g 6 x0.toNatClampNeg) + 8) - ((g 6 x0.toNatClampNeg) + 8) / 8 * 8 = 2)) => ?_) (fun (h21_ : ((g 6 x0.toNatClampNeg) + 8) - ((g 6 x0.toNatClampNeg) + 8) / 8 * 8 = 2) => ?_)
                                        · refine lv_iload hx hb dM_choice_99 (lv_at hl 1 rfl) ?_
                                          refine lv_if_eq (tgt := 106) hx hb dM_choice_101 (by decide) (fun h => absurd h h18_) (fun _ => ?_)
                                          refine lv_iconst (v := -1) hx hb dM_choice_104 (by decide) ?_
                                          exact tk_iret hx hb hr hlk hP hD hS dM_choice_105 (by unfold tkM_choice_r; rw [if_neg h1_, if_pos h2_, if_pos h3_, if_pos h4_, if_pos h5_, if_pos h6_, if_pos h7_, if_pos h8_, if_pos h9_, if_pos h10_, if_pos h11_, if_pos h12_, if_pos h13_, if_pos h14_, if_pos h15_, if_neg h16_, if_neg h18_, if_neg h19_, if_pos h20_, if_neg h21_]) rfl
                                        · refine lv_iload_n hx hb dM_choice_97 rfl (lv_at hl 2 rfl) ?_
                                          exact tk_iret hx hb hr hlk hP hD hS dM_choice_98 (by unfold tkM_choice_r; rw [if_neg h1_, if_pos h2_, if_pos h3_, if_pos h4_, if_pos h5_, if_pos h6_, if_pos h7_, if_pos h8_, if_pos h9_, if_pos h10_, if_pos h11_, if_pos h12_, if_pos h13_, if_pos h14_, if_pos h15_, if_neg h16_, if_neg h18_, if_neg h19_, if_pos h20_, if_pos h21_]) rfl
                              · refine lv_iconst (v := -1) hx hb dM_choice_104 (by decide) ?_
                                exact tk_iret hx hb hr hlk hP hD hS dM_choice_105 (by unfold tkM_choice_r; rw [if_neg h1_, if_pos h2_, if_pos h3_, if_pos h4_, if_pos h5_, if_pos h6_, if_pos h7_, if_pos h8_, if_pos h9_, if_pos h10_, if_pos h11_, if_pos h12_, if_pos h13_, if_pos h14_, if_neg h15_]) rfl
                            · refine lv_iconst (v := 1) hx hb dM_choice_62 (by decide) ?_
                              refine lv_goto (tgt := 67) hx hb dM_choice_63 (by decide) ?_
                              refine lv_istore hx hb dM_choice_67 hl (by decide) rfl (fun ls hl => ?_)
                              have hl : lv_has ls 6 [(5, .int 1), (4, .int (tkM_holds_r g x0 (((g 6 x0.toNatClampNeg) + 7) - ((g 6 x0.toNatClampNeg) + 7) / 8 * 8))), (3, .int (((g 6 x0.toNatClampNeg) + 7) - ((g 6 x0.toNatClampNeg) + 7) / 8 * 8)), (2, .int 7), (0, .ref hm), (1, .int x0)] := hl
                              refine lv_iload hx hb dM_choice_69 (lv_at hl 0 rfl) ?_
                              refine lv_if_eq (tgt := 99) hx hb dM_choice_71 (by decide) (fun h => absurd h (by decide)) (fun _ => ?_)
                              refine lv_iload hx hb dM_choice_74 (lv_at hl 1 rfl) ?_
                              refine lv_if_eq (tgt := 97) hx hb dM_choice_76 (by decide) (fun (h22_ : tkM_holds_r g x0 (((g 6 x0.toNatClampNeg) + 7) - ((g 6 x0.toNatClampNeg) + 7) / 8 * 8) = 0) => ?_) (fun (h22_ : ¬ (tkM_holds_r g x0 (((g 6 x0.toNatClampNeg) + 7) - ((g 6 x0.toNatClampNeg) + 7) / 8 * 8) = 0)) => ?_)
                              · refine lv_iload_n hx hb dM_choice_97 rfl (lv_at hl 2 rfl) ?_
                                exact tk_iret hx hb hr hlk hP hD hS dM_choice_98 (by unfold tkM_choice_r; rw [if_neg h1_, if_pos h2_, if_pos h3_, if_pos h4_, if_pos h5_, if_pos h6_, if_pos h7_, if_pos h8_, if_pos h9_, if_pos h10_, if_pos h11_, if_pos h12_, if_pos h13_, if_neg h14_, if_pos h22_]) rfl
                              · refine lv_aload_n hx hb dM_choice_79 rfl (lv_at hl 4 rfl) ?_
                                refine va_get (D := D) (ci := 3) (v := .ref (ad 12)) (C := RM) (T := TM) (N := 33) hx hb hw inM hown hK hP 0 rfl rfl 12 (by decide) f44 (fun _ h9 => h9) rfl dM_choice_80 ?_
                                refine lv_iload_n hx hb dM_choice_83 rfl (lv_at hl 5 rfl) ?_
                                refine tkld_12 hx hb hK hP hi0 dM_choice_84 ?_
                                refine lv_if_eq (tgt := 99) hx hb dM_choice_85 (by decide) (fun (h23_ : g 12 x0.toNatClampNeg = 0) => ?_) (fun (h23_ : ¬ (g 12 x0.toNatClampNeg = 0)) => ?_)
                                · refine lv_iload hx hb dM_choice_99 (lv_at hl 1 rfl) ?_
                                  refine lv_if_eq (tgt := 106) hx hb dM_choice_101 (by decide) (fun h => absurd h h22_) (fun _ => ?_)
                                  refine lv_iconst (v := -1) hx hb dM_choice_104 (by decide) ?_
                                  exact tk_iret hx hb hr hlk hP hD hS dM_choice_105 (by unfold tkM_choice_r; rw [if_neg h1_, if_pos h2_, if_pos h3_, if_pos h4_, if_pos h5_, if_pos h6_, if_pos h7_, if_pos h8_, if_pos h9_, if_pos h10_, if_pos h11_, if_pos h12_, if_pos h13_, if_neg h14_, if_neg h22_, if_pos h23_]) rfl
                                · refine lv_iload_n hx hb dM_choice_88 rfl (lv_at hl 5 rfl) ?_
                                  refine lv_if_ne (tgt := 99) hx hb dM_choice_89 (by decide) (fun (h24_ : ¬ (x0 = 0)) => ?_) (fun (h24_ : x0 = 0) => ?_)
                                  · refine lv_iload hx hb dM_choice_99 (lv_at hl 1 rfl) ?_
                                    refine lv_if_eq (tgt := 106) hx hb dM_choice_101 (by decide) (fun h => absurd h h22_) (fun _ => ?_)
                                    refine lv_iconst (v := -1) hx hb dM_choice_104 (by decide) ?_
                                    exact tk_iret hx hb hr hlk hP hD hS dM_choice_105 (by unfold tkM_choice_r; rw [if_neg h1_, if_pos h2_, if_pos h3_, if_pos h4_, if_pos h5_, if_pos h6_, if_pos h7_, if_pos h8_, if_pos h9_, if_pos h10_, if_pos h11_, if_pos h12_, if_pos h13_, if_neg h14_, if_neg h22_, if_neg h23_, if_neg h24_]) rfl
                                  · refine lv_iload_n hx hb dM_choice_92 rfl (lv_at hl 2 rfl) ?_
                                    refine lv_iconst (v := 2) hx hb dM_choice_93 (by decide) ?_
                                    refine lv_icmp_ne (tgt := 99) hx hb dM_choice_94 (by decide) (fun (h25_ : ¬ (((g 6 x0.toNatClampNeg) + 7) - ((g 6 x0.toNatClampNeg) + 7) / 8 * 8 = 2)) => ?_) (fun (h25_ : ((g 6 x0.toNatClampNeg) + 7) - ((g 6 x0.toNatClampNeg) + 7) / 8 * 8 = 2) => ?_)
                                    · refine lv_iload hx hb dM_choice_99 (lv_at hl 1 rfl) ?_
                                      refine lv_if_eq (tgt := 106) hx hb dM_choice_101 (by decide) (fun h => absurd h h22_) (fun _ => ?_)
                                      refine lv_iconst (v := -1) hx hb dM_choice_104 (by decide) ?_
                                      exact tk_iret hx hb hr hlk hP hD hS dM_choice_105 (by unfold tkM_choice_r; rw [if_neg h1_, if_pos h2_, if_pos h3_, if_pos h4_, if_pos h5_, if_pos h6_, if_pos h7_, if_pos h8_, if_pos h9_, if_pos h10_, if_pos h11_, if_pos h12_, if_pos h13_, if_neg h14_, if_neg h22_, if_neg h23_, if_pos h24_, if_neg h25_]) rfl
                                    · refine lv_iload_n hx hb dM_choice_97 rfl (lv_at hl 2 rfl) ?_
                                      exact tk_iret hx hb hr hlk hP hD hS dM_choice_98 (by unfold tkM_choice_r; rw [if_neg h1_, if_pos h2_, if_pos h3_, if_pos h4_, if_pos h5_, if_pos h6_, if_pos h7_, if_pos h8_, if_pos h9_, if_pos h10_, if_pos h11_, if_pos h12_, if_pos h13_, if_neg h14_, if_neg h22_, if_neg h23_, if_pos h24_, if_pos h25_]) rfl
                          · refine lv_iconst (v := -1) hx hb dM_choice_104 (by decide) ?_
                            exact tk_iret hx hb hr hlk hP hD hS dM_choice_105 (by unfold tkM_choice_r; rw [if_neg h1_, if_pos h2_, if_pos h3_, if_pos h4_, if_pos h5_, if_pos h6_, if_pos h7_, if_pos h8_, if_pos h9_, if_pos h10_, if_pos h11_, if_pos h12_, if_neg h13_]) rfl
                        · refine lv_iconst (v := 1) hx hb dM_choice_62 (by decide) ?_
                          refine lv_goto (tgt := 67) hx hb dM_choice_63 (by decide) ?_
                          refine lv_istore hx hb dM_choice_67 hl (by decide) rfl (fun ls hl => ?_)
                          have hl : lv_has ls 6 [(5, .int 1), (4, .int (tkM_holds_r g x0 (((g 6 x0.toNatClampNeg) + 6) - ((g 6 x0.toNatClampNeg) + 6) / 8 * 8))), (3, .int (((g 6 x0.toNatClampNeg) + 6) - ((g 6 x0.toNatClampNeg) + 6) / 8 * 8)), (2, .int 6), (0, .ref hm), (1, .int x0)] := hl
                          refine lv_iload hx hb dM_choice_69 (lv_at hl 0 rfl) ?_
                          refine lv_if_eq (tgt := 99) hx hb dM_choice_71 (by decide) (fun h => absurd h (by decide)) (fun _ => ?_)
                          refine lv_iload hx hb dM_choice_74 (lv_at hl 1 rfl) ?_
                          refine lv_if_eq (tgt := 97) hx hb dM_choice_76 (by decide) (fun (h26_ : tkM_holds_r g x0 (((g 6 x0.toNatClampNeg) + 6) - ((g 6 x0.toNatClampNeg) + 6) / 8 * 8) = 0) => ?_) (fun (h26_ : ¬ (tkM_holds_r g x0 (((g 6 x0.toNatClampNeg) + 6) - ((g 6 x0.toNatClampNeg) + 6) / 8 * 8) = 0)) => ?_)
                          · refine lv_iload_n hx hb dM_choice_97 rfl (lv_at hl 2 rfl) ?_
                            exact tk_iret hx hb hr hlk hP hD hS dM_choice_98 (by unfold tkM_choice_r; rw [if_neg h1_, if_pos h2_, if_pos h3_, if_pos h4_, if_pos h5_, if_pos h6_, if_pos h7_, if_pos h8_, if_pos h9_, if_pos h10_, if_pos h11_, if_neg h12_, if_pos h26_]) rfl
                          · refine lv_aload_n hx hb dM_choice_79 rfl (lv_at hl 4 rfl) ?_
                            refine va_get (D := D) (ci := 3) (v := .ref (ad 12)) (C := RM) (T := TM) (N := 33) hx hb hw inM hown hK hP 0 rfl rfl 12 (by decide) f44 (fun _ h9 => h9) rfl dM_choice_80 ?_
                            refine lv_iload_n hx hb dM_choice_83 rfl (lv_at hl 5 rfl) ?_
                            refine tkld_12 hx hb hK hP hi0 dM_choice_84 ?_
                            refine lv_if_eq (tgt := 99) hx hb dM_choice_85 (by decide) (fun (h27_ : g 12 x0.toNatClampNeg = 0) => ?_) (fun (h27_ : ¬ (g 12 x0.toNatClampNeg = 0)) => ?_)
                            · refine lv_iload hx hb dM_choice_99 (lv_at hl 1 rfl) ?_
                              refine lv_if_eq (tgt := 106) hx hb dM_choice_101 (by decide) (fun h => absurd h h26_) (fun _ => ?_)
                              refine lv_iconst (v := -1) hx hb dM_choice_104 (by decide) ?_
                              exact tk_iret hx hb hr hlk hP hD hS dM_choice_105 (by unfold tkM_choice_r; rw [if_neg h1_, if_pos h2_, if_pos h3_, if_pos h4_, if_pos h5_, if_pos h6_, if_pos h7_, if_pos h8_, if_pos h9_, if_pos h10_, if_pos h11_, if_neg h12_, if_neg h26_, if_pos h27_]) rfl
                            · refine lv_iload_n hx hb dM_choice_88 rfl (lv_at hl 5 rfl) ?_
                              refine lv_if_ne (tgt := 99) hx hb dM_choice_89 (by decide) (fun (h28_ : ¬ (x0 = 0)) => ?_) (fun (h28_ : x0 = 0) => ?_)
                              · refine lv_iload hx hb dM_choice_99 (lv_at hl 1 rfl) ?_
                                refine lv_if_eq (tgt := 106) hx hb dM_choice_101 (by decide) (fun h => absurd h h26_) (fun _ => ?_)
                                refine lv_iconst (v := -1) hx hb dM_choice_104 (by decide) ?_
                                exact tk_iret hx hb hr hlk hP hD hS dM_choice_105 (by unfold tkM_choice_r; rw [if_neg h1_, if_pos h2_, if_pos h3_, if_pos h4_, if_pos h5_, if_pos h6_, if_pos h7_, if_pos h8_, if_pos h9_, if_pos h10_, if_pos h11_, if_neg h12_, if_neg h26_, if_neg h27_, if_neg h28_]) rfl
                              · refine lv_iload_n hx hb dM_choice_92 rfl (lv_at hl 2 rfl) ?_
                                refine lv_iconst (v := 2) hx hb dM_choice_93 (by decide) ?_
                                refine lv_icmp_ne (tgt := 99) hx hb dM_choice_94 (by decide) (fun (h29_ : ¬ (((g 6 x0.toNatClampNeg) + 6) - ((g 6 x0.toNatClampNeg) + 6) / 8 * 8 = 2)) => ?_) (fun (h29_ : ((g 6 x0.toNatClampNeg) + 6) - ((g 6 x0.toNatClampNeg) + 6) / 8 * 8 = 2) => ?_)
                                · refine lv_iload hx hb dM_choice_99 (lv_at hl 1 rfl) ?_
                                  refine lv_if_eq (tgt := 106) hx hb dM_choice_101 (by decide) (fun h => absurd h h26_) (fun _ => ?_)
                                  refine lv_iconst (v := -1) hx hb dM_choice_104 (by decide) ?_
                                  exact tk_iret hx hb hr hlk hP hD hS dM_choice_105 (by unfold tkM_choice_r; rw [if_neg h1_, if_pos h2_, if_pos h3_, if_pos h4_, if_pos h5_, if_pos h6_, if_pos h7_, if_pos h8_, if_pos h9_, if_pos h10_, if_pos h11_, if_neg h12_, if_neg h26_, if_neg h27_, if_pos h28_, if_neg h29_]) rfl
                                · refine lv_iload_n hx hb dM_choice_97 rfl (lv_at hl 2 rfl) ?_
                                  exact tk_iret hx hb hr hlk hP hD hS dM_choice_98 (by unfold tkM_choice_r; rw [if_neg h1_, if_pos h2_, if_pos h3_, if_pos h4_, if_pos h5_, if_pos h6_, if_pos h7_, if_pos h8_, if_pos h9_, if_pos h10_, if_pos h11_, if_neg h12_, if_neg h26_, if_neg h27_, if_pos h28_, if_pos h29_]) rfl
                      · refine lv_iconst (v := -1) hx hb dM_choice_104 (by decide) ?_
                        exact tk_iret hx hb hr hlk hP hD hS dM_choice_105 (by unfold tkM_choice_r; rw [if_neg h1_, if_pos h2_, if_pos h3_, if_pos h4_, if_pos h5_, if_pos h6_, if_pos h7_, if_pos h8_, if_pos h9_, if_pos h10_, if_neg h11_]) rfl
                    · refine lv_iconst (v := 1) hx hb dM_choice_62 (by decide) ?_
                      refine lv_goto (tgt := 67) hx hb dM_choice_63 (by decide) ?_
                      refine lv_istore hx hb dM_choice_67 hl (by decide) rfl (fun ls hl => ?_)
                      have hl : lv_has ls 6 [(5, .int 1), (4, .int (tkM_holds_r g x0 (((g 6 x0.toNatClampNeg) + 5) - ((g 6 x0.toNatClampNeg) + 5) / 8 * 8))), (3, .int (((g 6 x0.toNatClampNeg) + 5) - ((g 6 x0.toNatClampNeg) + 5) / 8 * 8)), (2, .int 5), (0, .ref hm), (1, .int x0)] := hl
                      refine lv_iload hx hb dM_choice_69 (lv_at hl 0 rfl) ?_
                      refine lv_if_eq (tgt := 99) hx hb dM_choice_71 (by decide) (fun h => absurd h (by decide)) (fun _ => ?_)
                      refine lv_iload hx hb dM_choice_74 (lv_at hl 1 rfl) ?_
                      refine lv_if_eq (tgt := 97) hx hb dM_choice_76 (by decide) (fun (h30_ : tkM_holds_r g x0 (((g 6 x0.toNatClampNeg) + 5) - ((g 6 x0.toNatClampNeg) + 5) / 8 * 8) = 0) => ?_) (fun (h30_ : ¬ (tkM_holds_r g x0 (((g 6 x0.toNatClampNeg) + 5) - ((g 6 x0.toNatClampNeg) + 5) / 8 * 8) = 0)) => ?_)
                      · refine lv_iload_n hx hb dM_choice_97 rfl (lv_at hl 2 rfl) ?_
                        exact tk_iret hx hb hr hlk hP hD hS dM_choice_98 (by unfold tkM_choice_r; rw [if_neg h1_, if_pos h2_, if_pos h3_, if_pos h4_, if_pos h5_, if_pos h6_, if_pos h7_, if_pos h8_, if_pos h9_, if_neg h10_, if_pos h30_]) rfl
                      · refine lv_aload_n hx hb dM_choice_79 rfl (lv_at hl 4 rfl) ?_
                        refine va_get (D := D) (ci := 3) (v := .ref (ad 12)) (C := RM) (T := TM) (N := 33) hx hb hw inM hown hK hP 0 rfl rfl 12 (by decide) f44 (fun _ h9 => h9) rfl dM_choice_80 ?_
                        refine lv_iload_n hx hb dM_choice_83 rfl (lv_at hl 5 rfl) ?_
                        refine tkld_12 hx hb hK hP hi0 dM_choice_84 ?_
                        refine lv_if_eq (tgt := 99) hx hb dM_choice_85 (by decide) (fun (h31_ : g 12 x0.toNatClampNeg = 0) => ?_) (fun (h31_ : ¬ (g 12 x0.toNatClampNeg = 0)) => ?_)
                        · refine lv_iload hx hb dM_choice_99 (lv_at hl 1 rfl) ?_
                          refine lv_if_eq (tgt := 106) hx hb dM_choice_101 (by decide) (fun h => absurd h h30_) (fun _ => ?_)
                          refine lv_iconst (v := -1) hx hb dM_choice_104 (by decide) ?_
                          exact tk_iret hx hb hr hlk hP hD hS dM_choice_105 (by unfold tkM_choice_r; rw [if_neg h1_, if_pos h2_, if_pos h3_, if_pos h4_, if_pos h5_, if_pos h6_, if_pos h7_, if_pos h8_, if_pos h9_, if_neg h10_, if_neg h30_, if_pos h31_]) rfl
                        · refine lv_iload_n hx hb dM_choice_88 rfl (lv_at hl 5 rfl) ?_
                          refine lv_if_ne (tgt := 99) hx hb dM_choice_89 (by decide) (fun (h32_ : ¬ (x0 = 0)) => ?_) (fun (h32_ : x0 = 0) => ?_)
                          · refine lv_iload hx hb dM_choice_99 (lv_at hl 1 rfl) ?_
                            refine lv_if_eq (tgt := 106) hx hb dM_choice_101 (by decide) (fun h => absurd h h30_) (fun _ => ?_)
                            refine lv_iconst (v := -1) hx hb dM_choice_104 (by decide) ?_
                            exact tk_iret hx hb hr hlk hP hD hS dM_choice_105 (by unfold tkM_choice_r; rw [if_neg h1_, if_pos h2_, if_pos h3_, if_pos h4_, if_pos h5_, if_pos h6_, if_pos h7_, if_pos h8_, if_pos h9_, if_neg h10_, if_neg h30_, if_neg h31_, if_neg h32_]) rfl
                          · refine lv_iload_n hx hb dM_choice_92 rfl (lv_at hl 2 rfl) ?_
                            refine lv_iconst (v := 2) hx hb dM_choice_93 (by decide) ?_
                            refine lv_icmp_ne (tgt := 99) hx hb dM_choice_94 (by decide) (fun (h33_ : ¬ (((g 6 x0.toNatClampNeg) + 5) - ((g 6 x0.toNatClampNeg) + 5) / 8 * 8 = 2)) => ?_) (fun (h33_ : ((g 6 x0.toNatClampNeg) + 5) - ((g 6 x0.toNatClampNeg) + 5) / 8 * 8 = 2) => ?_)
                            · refine lv_iload hx hb dM_choice_99 (lv_at hl 1 rfl) ?_
                              refine lv_if_eq (tgt := 106) hx hb dM_choice_101 (by decide) (fun h => absurd h h30_) (fun _ => ?_)
                              refine lv_iconst (v := -1) hx hb dM_choice_104 (by decide) ?_
                              exact tk_iret hx hb hr hlk hP hD hS dM_choice_105 (by unfold tkM_choice_r; rw [if_neg h1_, if_pos h2_, if_pos h3_, if_pos h4_, if_pos h5_, if_pos h6_, if_pos h7_, if_pos h8_, if_pos h9_, if_neg h10_, if_neg h30_, if_neg h31_, if_pos h32_, if_neg h33_]) rfl
                            · refine lv_iload_n hx hb dM_choice_97 rfl (lv_at hl 2 rfl) ?_
                              exact tk_iret hx hb hr hlk hP hD hS dM_choice_98 (by unfold tkM_choice_r; rw [if_neg h1_, if_pos h2_, if_pos h3_, if_pos h4_, if_pos h5_, if_pos h6_, if_pos h7_, if_pos h8_, if_pos h9_, if_neg h10_, if_neg h30_, if_neg h31_, if_pos h32_, if_pos h33_]) rfl
                  · refine lv_iconst (v := -1) hx hb dM_choice_104 (by decide) ?_
                    exact tk_iret hx hb hr hlk hP hD hS dM_choice_105 (by unfold tkM_choice_r; rw [if_neg h1_, if_pos h2_, if_pos h3_, if_pos h4_, if_pos h5_, if_pos h6_, if_pos h7_, if_pos h8_, if_neg h9_]) rfl
                · refine lv_iconst (v := 1) hx hb dM_choice_62 (by decide) ?_
                  refine lv_goto (tgt := 67) hx hb dM_choice_63 (by decide) ?_
                  refine lv_istore hx hb dM_choice_67 hl (by decide) rfl (fun ls hl => ?_)
                  have hl : lv_has ls 6 [(5, .int 1), (4, .int (tkM_holds_r g x0 (((g 6 x0.toNatClampNeg) + 4) - ((g 6 x0.toNatClampNeg) + 4) / 8 * 8))), (3, .int (((g 6 x0.toNatClampNeg) + 4) - ((g 6 x0.toNatClampNeg) + 4) / 8 * 8)), (2, .int 4), (0, .ref hm), (1, .int x0)] := hl
                  refine lv_iload hx hb dM_choice_69 (lv_at hl 0 rfl) ?_
                  refine lv_if_eq (tgt := 99) hx hb dM_choice_71 (by decide) (fun h => absurd h (by decide)) (fun _ => ?_)
                  refine lv_iload hx hb dM_choice_74 (lv_at hl 1 rfl) ?_
                  refine lv_if_eq (tgt := 97) hx hb dM_choice_76 (by decide) (fun (h34_ : tkM_holds_r g x0 (((g 6 x0.toNatClampNeg) + 4) - ((g 6 x0.toNatClampNeg) + 4) / 8 * 8) = 0) => ?_) (fun (h34_ : ¬ (tkM_holds_r g x0 (((g 6 x0.toNatClampNeg) + 4) - ((g 6 x0.toNatClampNeg) + 4) / 8 * 8) = 0)) => ?_)
                  · refine lv_iload_n hx hb dM_choice_97 rfl (lv_at hl 2 rfl) ?_
                    exact tk_iret hx hb hr hlk hP hD hS dM_choice_98 (by unfold tkM_choice_r; rw [if_neg h1_, if_pos h2_, if_pos h3_, if_pos h4_, if_pos h5_, if_pos h6_, if_pos h7_, if_neg h8_, if_pos h34_]) rfl
                  · refine lv_aload_n hx hb dM_choice_79 rfl (lv_at hl 4 rfl) ?_
                    refine va_get (D := D) (ci := 3) (v := .ref (ad 12)) (C := RM) (T := TM) (N := 33) hx hb hw inM hown hK hP 0 rfl rfl 12 (by decide) f44 (fun _ h9 => h9) rfl dM_choice_80 ?_
                    refine lv_iload_n hx hb dM_choice_83 rfl (lv_at hl 5 rfl) ?_
                    refine tkld_12 hx hb hK hP hi0 dM_choice_84 ?_
                    refine lv_if_eq (tgt := 99) hx hb dM_choice_85 (by decide) (fun (h35_ : g 12 x0.toNatClampNeg = 0) => ?_) (fun (h35_ : ¬ (g 12 x0.toNatClampNeg = 0)) => ?_)
                    · refine lv_iload hx hb dM_choice_99 (lv_at hl 1 rfl) ?_
                      refine lv_if_eq (tgt := 106) hx hb dM_choice_101 (by decide) (fun h => absurd h h34_) (fun _ => ?_)
                      refine lv_iconst (v := -1) hx hb dM_choice_104 (by decide) ?_
                      exact tk_iret hx hb hr hlk hP hD hS dM_choice_105 (by unfold tkM_choice_r; rw [if_neg h1_, if_pos h2_, if_pos h3_, if_pos h4_, if_pos h5_, if_pos h6_, if_pos h7_, if_neg h8_, if_neg h34_, if_pos h35_]) rfl
                    · refine lv_iload_n hx hb dM_choice_88 rfl (lv_at hl 5 rfl) ?_
                      refine lv_if_ne (tgt := 99) hx hb dM_choice_89 (by decide) (fun (h36_ : ¬ (x0 = 0)) => ?_) (fun (h36_ : x0 = 0) => ?_)
                      · refine lv_iload hx hb dM_choice_99 (lv_at hl 1 rfl) ?_
                        refine lv_if_eq (tgt := 106) hx hb dM_choice_101 (by decide) (fun h => absurd h h34_) (fun _ => ?_)
                        refine lv_iconst (v := -1) hx hb dM_choice_104 (by decide) ?_
                        exact tk_iret hx hb hr hlk hP hD hS dM_choice_105 (by unfold tkM_choice_r; rw [if_neg h1_, if_pos h2_, if_pos h3_, if_pos h4_, if_pos h5_, if_pos h6_, if_pos h7_, if_neg h8_, if_neg h34_, if_neg h35_, if_neg h36_]) rfl
                      · refine lv_iload_n hx hb dM_choice_92 rfl (lv_at hl 2 rfl) ?_
                        refine lv_iconst (v := 2) hx hb dM_choice_93 (by decide) ?_
                        refine lv_icmp_ne (tgt := 99) hx hb dM_choice_94 (by decide) (fun (h37_ : ¬ (((g 6 x0.toNatClampNeg) + 4) - ((g 6 x0.toNatClampNeg) + 4) / 8 * 8 = 2)) => ?_) (fun (h37_ : ((g 6 x0.toNatClampNeg) + 4) - ((g 6 x0.toNatClampNeg) + 4) / 8 * 8 = 2) => ?_)
                        · refine lv_iload hx hb dM_choice_99 (lv_at hl 1 rfl) ?_
                          refine lv_if_eq (tgt := 106) hx hb dM_choice_101 (by decide) (fun h => absurd h h34_) (fun _ => ?_)
                          refine lv_iconst (v := -1) hx hb dM_choice_104 (by decide) ?_
                          exact tk_iret hx hb hr hlk hP hD hS dM_choice_105 (by unfold tkM_choice_r; rw [if_neg h1_, if_pos h2_, if_pos h3_, if_pos h4_, if_pos h5_, if_pos h6_, if_pos h7_, if_neg h8_, if_neg h34_, if_neg h35_, if_pos h36_, if_neg h37_]) rfl
                        · refine lv_iload_n hx hb dM_choice_97 rfl (lv_at hl 2 rfl) ?_
                          exact tk_iret hx hb hr hlk hP hD hS dM_choice_98 (by unfold tkM_choice_r; rw [if_neg h1_, if_pos h2_, if_pos h3_, if_pos h4_, if_pos h5_, if_pos h6_, if_pos h7_, if_neg h8_, if_neg h34_, if_neg h35_, if_pos h36_, if_pos h37_]) rfl
              · refine lv_iconst (v := -1) hx hb dM_choice_104 (by decide) ?_
                exact tk_iret hx hb hr hlk hP hD hS dM_choice_105 (by unfold tkM_choice_r; rw [if_neg h1_, if_pos h2_, if_pos h3_, if_pos h4_, if_pos h5_, if_pos h6_, if_neg h7_]) rfl
            · refine lv_iconst (v := 1) hx hb dM_choice_62 (by decide) ?_
              refine lv_goto (tgt := 67) hx hb dM_choice_63 (by decide) ?_
              refine lv_istore hx hb dM_choice_67 hl (by decide) rfl (fun ls hl => ?_)
              have hl : lv_has ls 6 [(5, .int 1), (4, .int (tkM_holds_r g x0 (((g 6 x0.toNatClampNeg) + 3) - ((g 6 x0.toNatClampNeg) + 3) / 8 * 8))), (3, .int (((g 6 x0.toNatClampNeg) + 3) - ((g 6 x0.toNatClampNeg) + 3) / 8 * 8)), (2, .int 3), (0, .ref hm), (1, .int x0)] := hl
              refine lv_iload hx hb dM_choice_69 (lv_at hl 0 rfl) ?_
              refine lv_if_eq (tgt := 99) hx hb dM_choice_71 (by decide) (fun h => absurd h (by decide)) (fun _ => ?_)
              refine lv_iload hx hb dM_choice_74 (lv_at hl 1 rfl) ?_
              refine lv_if_eq (tgt := 97) hx hb dM_choice_76 (by decide) (fun (h38_ : tkM_holds_r g x0 (((g 6 x0.toNatClampNeg) + 3) - ((g 6 x0.toNatClampNeg) + 3) / 8 * 8) = 0) => ?_) (fun (h38_ : ¬ (tkM_holds_r g x0 (((g 6 x0.toNatClampNeg) + 3) - ((g 6 x0.toNatClampNeg) + 3) / 8 * 8) = 0)) => ?_)
              · refine lv_iload_n hx hb dM_choice_97 rfl (lv_at hl 2 rfl) ?_
                exact tk_iret hx hb hr hlk hP hD hS dM_choice_98 (by unfold tkM_choice_r; rw [if_neg h1_, if_pos h2_, if_pos h3_, if_pos h4_, if_pos h5_, if_neg h6_, if_pos h38_]) rfl
              · refine lv_aload_n hx hb dM_choice_79 rfl (lv_at hl 4 rfl) ?_
                refine va_get (D := D) (ci := 3) (v := .ref (ad 12)) (C := RM) (T := TM) (N := 33) hx hb hw inM hown hK hP 0 rfl rfl 12 (by decide) f44 (fun _ h9 => h9) rfl dM_choice_80 ?_
                refine lv_iload_n hx hb dM_choice_83 rfl (lv_at hl 5 rfl) ?_
                refine tkld_12 hx hb hK hP hi0 dM_choice_84 ?_
                refine lv_if_eq (tgt := 99) hx hb dM_choice_85 (by decide) (fun (h39_ : g 12 x0.toNatClampNeg = 0) => ?_) (fun (h39_ : ¬ (g 12 x0.toNatClampNeg = 0)) => ?_)
                · refine lv_iload hx hb dM_choice_99 (lv_at hl 1 rfl) ?_
                  refine lv_if_eq (tgt := 106) hx hb dM_choice_101 (by decide) (fun h => absurd h h38_) (fun _ => ?_)
                  refine lv_iconst (v := -1) hx hb dM_choice_104 (by decide) ?_
                  exact tk_iret hx hb hr hlk hP hD hS dM_choice_105 (by unfold tkM_choice_r; rw [if_neg h1_, if_pos h2_, if_pos h3_, if_pos h4_, if_pos h5_, if_neg h6_, if_neg h38_, if_pos h39_]) rfl
                · refine lv_iload_n hx hb dM_choice_88 rfl (lv_at hl 5 rfl) ?_
                  refine lv_if_ne (tgt := 99) hx hb dM_choice_89 (by decide) (fun (h40_ : ¬ (x0 = 0)) => ?_) (fun (h40_ : x0 = 0) => ?_)
                  · refine lv_iload hx hb dM_choice_99 (lv_at hl 1 rfl) ?_
                    refine lv_if_eq (tgt := 106) hx hb dM_choice_101 (by decide) (fun h => absurd h h38_) (fun _ => ?_)
                    refine lv_iconst (v := -1) hx hb dM_choice_104 (by decide) ?_
                    exact tk_iret hx hb hr hlk hP hD hS dM_choice_105 (by unfold tkM_choice_r; rw [if_neg h1_, if_pos h2_, if_pos h3_, if_pos h4_, if_pos h5_, if_neg h6_, if_neg h38_, if_neg h39_, if_neg h40_]) rfl
                  · refine lv_iload_n hx hb dM_choice_92 rfl (lv_at hl 2 rfl) ?_
                    refine lv_iconst (v := 2) hx hb dM_choice_93 (by decide) ?_
                    refine lv_icmp_ne (tgt := 99) hx hb dM_choice_94 (by decide) (fun (h41_ : ¬ (((g 6 x0.toNatClampNeg) + 3) - ((g 6 x0.toNatClampNeg) + 3) / 8 * 8 = 2)) => ?_) (fun (h41_ : ((g 6 x0.toNatClampNeg) + 3) - ((g 6 x0.toNatClampNeg) + 3) / 8 * 8 = 2) => ?_)
                    · refine lv_iload hx hb dM_choice_99 (lv_at hl 1 rfl) ?_
                      refine lv_if_eq (tgt := 106) hx hb dM_choice_101 (by decide) (fun h => absurd h h38_) (fun _ => ?_)
                      refine lv_iconst (v := -1) hx hb dM_choice_104 (by decide) ?_
                      exact tk_iret hx hb hr hlk hP hD hS dM_choice_105 (by unfold tkM_choice_r; rw [if_neg h1_, if_pos h2_, if_pos h3_, if_pos h4_, if_pos h5_, if_neg h6_, if_neg h38_, if_neg h39_, if_pos h40_, if_neg h41_]) rfl
                    · refine lv_iload_n hx hb dM_choice_97 rfl (lv_at hl 2 rfl) ?_
                      exact tk_iret hx hb hr hlk hP hD hS dM_choice_98 (by unfold tkM_choice_r; rw [if_neg h1_, if_pos h2_, if_pos h3_, if_pos h4_, if_pos h5_, if_neg h6_, if_neg h38_, if_neg h39_, if_pos h40_, if_pos h41_]) rfl
          · refine lv_iconst (v := -1) hx hb dM_choice_104 (by decide) ?_
            exact tk_iret hx hb hr hlk hP hD hS dM_choice_105 (by unfold tkM_choice_r; rw [if_neg h1_, if_pos h2_, if_pos h3_, if_pos h4_, if_neg h5_]) rfl
        · refine lv_iconst (v := 1) hx hb dM_choice_62 (by decide) ?_
          refine lv_goto (tgt := 67) hx hb dM_choice_63 (by decide) ?_
          refine lv_istore hx hb dM_choice_67 hl (by decide) rfl (fun ls hl => ?_)
          have hl : lv_has ls 6 [(5, .int 1), (4, .int (tkM_holds_r g x0 (((g 6 x0.toNatClampNeg) + 2) - ((g 6 x0.toNatClampNeg) + 2) / 8 * 8))), (3, .int (((g 6 x0.toNatClampNeg) + 2) - ((g 6 x0.toNatClampNeg) + 2) / 8 * 8)), (2, .int 2), (0, .ref hm), (1, .int x0)] := hl
          refine lv_iload hx hb dM_choice_69 (lv_at hl 0 rfl) ?_
          refine lv_if_eq (tgt := 99) hx hb dM_choice_71 (by decide) (fun h => absurd h (by decide)) (fun _ => ?_)
          refine lv_iload hx hb dM_choice_74 (lv_at hl 1 rfl) ?_
          refine lv_if_eq (tgt := 97) hx hb dM_choice_76 (by decide) (fun (h42_ : tkM_holds_r g x0 (((g 6 x0.toNatClampNeg) + 2) - ((g 6 x0.toNatClampNeg) + 2) / 8 * 8) = 0) => ?_) (fun (h42_ : ¬ (tkM_holds_r g x0 (((g 6 x0.toNatClampNeg) + 2) - ((g 6 x0.toNatClampNeg) + 2) / 8 * 8) = 0)) => ?_)
          · refine lv_iload_n hx hb dM_choice_97 rfl (lv_at hl 2 rfl) ?_
            exact tk_iret hx hb hr hlk hP hD hS dM_choice_98 (by unfold tkM_choice_r; rw [if_neg h1_, if_pos h2_, if_pos h3_, if_neg h4_, if_pos h42_]) rfl
          · refine lv_aload_n hx hb dM_choice_79 rfl (lv_at hl 4 rfl) ?_
            refine va_get (D := D) (ci := 3) (v := .ref (ad 12)) (C := RM) (T := TM) (N := 33) hx hb hw inM hown hK hP 0 rfl rfl 12 (by decide) f44 (fun _ h9 => h9) rfl dM_choice_80 ?_
            refine lv_iload_n hx hb dM_choice_83 rfl (lv_at hl 5 rfl) ?_
            refine tkld_12 hx hb hK hP hi0 dM_choice_84 ?_
            refine lv_if_eq (tgt := 99) hx hb dM_choice_85 (by decide) (fun (h43_ : g 12 x0.toNatClampNeg = 0) => ?_) (fun (h43_ : ¬ (g 12 x0.toNatClampNeg = 0)) => ?_)
            · refine lv_iload hx hb dM_choice_99 (lv_at hl 1 rfl) ?_
              refine lv_if_eq (tgt := 106) hx hb dM_choice_101 (by decide) (fun h => absurd h h42_) (fun _ => ?_)
              refine lv_iconst (v := -1) hx hb dM_choice_104 (by decide) ?_
              exact tk_iret hx hb hr hlk hP hD hS dM_choice_105 (by unfold tkM_choice_r; rw [if_neg h1_, if_pos h2_, if_pos h3_, if_neg h4_, if_neg h42_, if_pos h43_]) rfl
            · refine lv_iload_n hx hb dM_choice_88 rfl (lv_at hl 5 rfl) ?_
              refine lv_if_ne (tgt := 99) hx hb dM_choice_89 (by decide) (fun (h44_ : ¬ (x0 = 0)) => ?_) (fun (h44_ : x0 = 0) => ?_)
              · refine lv_iload hx hb dM_choice_99 (lv_at hl 1 rfl) ?_
                refine lv_if_eq (tgt := 106) hx hb dM_choice_101 (by decide) (fun h => absurd h h42_) (fun _ => ?_)
                refine lv_iconst (v := -1) hx hb dM_choice_104 (by decide) ?_
                exact tk_iret hx hb hr hlk hP hD hS dM_choice_105 (by unfold tkM_choice_r; rw [if_neg h1_, if_pos h2_, if_pos h3_, if_neg h4_, if_neg h42_, if_neg h43_, if_neg h44_]) rfl
              · refine lv_iload_n hx hb dM_choice_92 rfl (lv_at hl 2 rfl) ?_
                refine lv_iconst (v := 2) hx hb dM_choice_93 (by decide) ?_
                refine lv_icmp_ne (tgt := 99) hx hb dM_choice_94 (by decide) (fun (h45_ : ¬ (((g 6 x0.toNatClampNeg) + 2) - ((g 6 x0.toNatClampNeg) + 2) / 8 * 8 = 2)) => ?_) (fun (h45_ : ((g 6 x0.toNatClampNeg) + 2) - ((g 6 x0.toNatClampNeg) + 2) / 8 * 8 = 2) => ?_)
                · refine lv_iload hx hb dM_choice_99 (lv_at hl 1 rfl) ?_
                  refine lv_if_eq (tgt := 106) hx hb dM_choice_101 (by decide) (fun h => absurd h h42_) (fun _ => ?_)
                  refine lv_iconst (v := -1) hx hb dM_choice_104 (by decide) ?_
                  exact tk_iret hx hb hr hlk hP hD hS dM_choice_105 (by unfold tkM_choice_r; rw [if_neg h1_, if_pos h2_, if_pos h3_, if_neg h4_, if_neg h42_, if_neg h43_, if_pos h44_, if_neg h45_]) rfl
                · refine lv_iload_n hx hb dM_choice_97 rfl (lv_at hl 2 rfl) ?_
                  exact tk_iret hx hb hr hlk hP hD hS dM_choice_98 (by unfold tkM_choice_r; rw [if_neg h1_, if_pos h2_, if_pos h3_, if_neg h4_, if_neg h42_, if_neg h43_, if_pos h44_, if_pos h45_]) rfl
      · refine lv_iconst (v := -1) hx hb dM_choice_104 (by decide) ?_
        exact tk_iret hx hb hr hlk hP hD hS dM_choice_105 (by unfold tkM_choice_r; rw [if_neg h1_, if_pos h2_, if_neg h3_]) rfl
    · refine lv_iconst (v := 1) hx hb dM_choice_62 (by decide) ?_
      refine lv_goto (tgt := 67) hx hb dM_choice_63 (by decide) ?_
      refine lv_istore hx hb dM_choice_67 hl (by decide) rfl (fun ls hl => ?_)
      have hl : lv_has ls 6 [(5, .int 1), (4, .int (tkM_holds_r g x0 (((g 6 x0.toNatClampNeg) + 1) - ((g 6 x0.toNatClampNeg) + 1) / 8 * 8))), (3, .int (((g 6 x0.toNatClampNeg) + 1) - ((g 6 x0.toNatClampNeg) + 1) / 8 * 8)), (2, .int 1), (0, .ref hm), (1, .int x0)] := hl
      refine lv_iload hx hb dM_choice_69 (lv_at hl 0 rfl) ?_
      refine lv_if_eq (tgt := 99) hx hb dM_choice_71 (by decide) (fun h => absurd h (by decide)) (fun _ => ?_)
      refine lv_iload hx hb dM_choice_74 (lv_at hl 1 rfl) ?_
      refine lv_if_eq (tgt := 97) hx hb dM_choice_76 (by decide) (fun (h46_ : tkM_holds_r g x0 (((g 6 x0.toNatClampNeg) + 1) - ((g 6 x0.toNatClampNeg) + 1) / 8 * 8) = 0) => ?_) (fun (h46_ : ¬ (tkM_holds_r g x0 (((g 6 x0.toNatClampNeg) + 1) - ((g 6 x0.toNatClampNeg) + 1) / 8 * 8) = 0)) => ?_)
      · refine lv_iload_n hx hb dM_choice_97 rfl (lv_at hl 2 rfl) ?_
        exact tk_iret hx hb hr hlk hP hD hS dM_choice_98 (by unfold tkM_choice_r; rw [if_neg h1_, if_neg h2_, if_pos h46_]) rfl
      · refine lv_aload_n hx hb dM_choice_79 rfl (lv_at hl 4 rfl) ?_
        refine va_get (D := D) (ci := 3) (v := .ref (ad 12)) (C := RM) (T := TM) (N := 33) hx hb hw inM hown hK hP 0 rfl rfl 12 (by decide) f44 (fun _ h9 => h9) rfl dM_choice_80 ?_
        refine lv_iload_n hx hb dM_choice_83 rfl (lv_at hl 5 rfl) ?_
        refine tkld_12 hx hb hK hP hi0 dM_choice_84 ?_
        refine lv_if_eq (tgt := 99) hx hb dM_choice_85 (by decide) (fun (h47_ : g 12 x0.toNatClampNeg = 0) => ?_) (fun (h47_ : ¬ (g 12 x0.toNatClampNeg = 0)) => ?_)
        · refine lv_iload hx hb dM_choice_99 (lv_at hl 1 rfl) ?_
          refine lv_if_eq (tgt := 106) hx hb dM_choice_101 (by decide) (fun h => absurd h h46_) (fun _ => ?_)
          refine lv_iconst (v := -1) hx hb dM_choice_104 (by decide) ?_
          exact tk_iret hx hb hr hlk hP hD hS dM_choice_105 (by unfold tkM_choice_r; rw [if_neg h1_, if_neg h2_, if_neg h46_, if_pos h47_]) rfl
        · refine lv_iload_n hx hb dM_choice_88 rfl (lv_at hl 5 rfl) ?_
          refine lv_if_ne (tgt := 99) hx hb dM_choice_89 (by decide) (fun (h48_ : ¬ (x0 = 0)) => ?_) (fun (h48_ : x0 = 0) => ?_)
          · refine lv_iload hx hb dM_choice_99 (lv_at hl 1 rfl) ?_
            refine lv_if_eq (tgt := 106) hx hb dM_choice_101 (by decide) (fun h => absurd h h46_) (fun _ => ?_)
            refine lv_iconst (v := -1) hx hb dM_choice_104 (by decide) ?_
            exact tk_iret hx hb hr hlk hP hD hS dM_choice_105 (by unfold tkM_choice_r; rw [if_neg h1_, if_neg h2_, if_neg h46_, if_neg h47_, if_neg h48_]) rfl
          · refine lv_iload_n hx hb dM_choice_92 rfl (lv_at hl 2 rfl) ?_
            refine lv_iconst (v := 2) hx hb dM_choice_93 (by decide) ?_
            refine lv_icmp_ne (tgt := 99) hx hb dM_choice_94 (by decide) (fun (h49_ : ¬ (((g 6 x0.toNatClampNeg) + 1) - ((g 6 x0.toNatClampNeg) + 1) / 8 * 8 = 2)) => ?_) (fun (h49_ : ((g 6 x0.toNatClampNeg) + 1) - ((g 6 x0.toNatClampNeg) + 1) / 8 * 8 = 2) => ?_)
            · refine lv_iload hx hb dM_choice_99 (lv_at hl 1 rfl) ?_
              refine lv_if_eq (tgt := 106) hx hb dM_choice_101 (by decide) (fun h => absurd h h46_) (fun _ => ?_)
              refine lv_iconst (v := -1) hx hb dM_choice_104 (by decide) ?_
              exact tk_iret hx hb hr hlk hP hD hS dM_choice_105 (by unfold tkM_choice_r; rw [if_neg h1_, if_neg h2_, if_neg h46_, if_neg h47_, if_pos h48_, if_neg h49_]) rfl
            · refine lv_iload_n hx hb dM_choice_97 rfl (lv_at hl 2 rfl) ?_
              exact tk_iret hx hb hr hlk hP hD hS dM_choice_98 (by unfold tkM_choice_r; rw [if_neg h1_, if_neg h2_, if_neg h46_, if_neg h47_, if_pos h48_, if_pos h49_]) rfl
def tkM_follow_s (g : Nat → Nat → Int32) : Nat → Nat → Int32 :=
  if tkM_choice_r (tkM_set_s g 0 0 (g 19 (0 : Int32).toNatClampNeg)) 1 < 0 then tkM_set_s (tkM_set_s g 0 0 (g 19 (0 : Int32).toNatClampNeg)) 0 2 0
  else tkM_set_s (tkM_set_s g 0 0 (g 19 (0 : Int32).toNatClampNeg)) 0 2 1
set_option maxHeartbeats 1000000 in
set_option maxRecDepth 100000 in
theorem kM_follow (l : Launch) (D : va_G) (hm : Nat) (ad : Nat → Nat) (cI cZ : ClassId) (g : Nat → Nat → Int32) : tk_M l yM_follow wsM_follow { frames := 2, cells := 0, slots := 0, locals := 47 } D [(cI, .int), (cZ, .boolean)] [.ref hm] (WM hm ad cI cZ g) (WM hm ad cI cZ (tkM_follow_s g)) none := by
  refine tk_M.of (cc := cM_follow) (maxL := 1) (ret := none) (by decide) rfl (Nat.le_of_ble_eq_true rfl) ?_
  intro p e s m below meth co A H locs ls hB hK hN hA hP hD hS hl
  obtain ⟨hx, hb, hr, hml, hown, hlk, hnm, hts⟩ := hB
  have hown : s.vm.findClass RM = some m.cls := hown
  have hl : lv_has ls 1 [(0, .ref hm)] := hl
  have hw : ∀ w ∈ tkWM, w.before _ s = true := fun w h => hts w (List.mem_cons_of_mem _ h)
  have f65 := hw _ wF_M_65
  refine lv_aload_n hx hb dM_follow_0 rfl (lv_at hl 0 rfl) ?_
  refine lv_iconst (v := 0) hx hb dM_follow_1 (by decide) ?_
  refine lv_iconst (v := 0) hx hb dM_follow_2 (by decide) ?_
  refine lv_aload_n hx hb dM_follow_3 rfl (lv_at hl 0 rfl) ?_
  refine va_get (D := D) (ci := 3) (v := .ref (ad 19)) (C := RM) (T := TM) (N := 33) hx hb hw inM hown hK hP 0 rfl rfl 19 (by decide) f65 (fun _ h9 => h9) rfl dM_follow_4 ?_
  refine lv_iconst (v := 0) hx hb dM_follow_7 (by decide) ?_
  refine tkld_19 hx hb hK hP (by unfold vp_in; decide) dM_follow_8 ?_
  refine tk_callA hD hS hA (va_runV (As := [.int 0, .int 0, .int (g 19 (0 : Int32).toNatClampNeg)]) (rest := []) ⟨hx, hb, hml, hown, hw⟩ (kM_set l D hm ad cI cZ g 0 0 (g 19 (0 : Int32).toNatClampNeg) (by unfold vp_in; decide) H.size) (cwV 3 hw (tk_gV tkWM_good wM_M_119 wI_M_set wS_M_set wZ_M wC_M_set) rfl rfl rfl (by decide +kernel) ⟨Nat.le_of_ble_eq_true rfl, Nat.le_of_ble_eq_true rfl⟩) (tk_preM hK hN hP hD) rfl rfl hl.1 rfl (lv_room (Nat.le_of_ble_eq_true rfl)) dM_follow_9 ⟨Nat.zero_le _, Nat.zero_le _⟩) (fun H locs hP hD hS => ?_)
  refine W.eq (g2 := F0 m 12 ls []) rfl ?_
  refine lv_aload_n hx hb dM_follow_12 rfl (lv_at hl 0 rfl) ?_
  refine lv_iconst (v := 0) hx hb dM_follow_13 (by decide) ?_
  refine lv_iconst (v := 2) hx hb dM_follow_14 (by decide) ?_
  refine lv_aload_n hx hb dM_follow_15 rfl (lv_at hl 0 rfl) ?_
  refine lv_iconst (v := 1) hx hb dM_follow_16 (by decide) ?_
  refine tk_callA hD hS hA (va_runV (As := [.int 1]) (rest := [.int 2, .int 0, .ref hm]) ⟨hx, hb, hml, hown, hw⟩ (kM_choice l D hm ad cI cZ (tkM_set_s g 0 0 (g 19 (0 : Int32).toNatClampNeg)) 1 (by unfold vp_in; decide) H.size) (cwV 1 hw (tk_gV tkWM_good wM_M_123 wI_M_choice wS_M_choice wZ_M wC_M_choice) rfl rfl rfl (by decide +kernel) ⟨Nat.le_of_ble_eq_true rfl, Nat.le_of_ble_eq_true rfl⟩) (tk_preM hK hN hP hD) rfl rfl hl.1 rfl (lv_room (Nat.le_of_ble_eq_true rfl)) dM_follow_17 ⟨Nat.zero_le _, Nat.zero_le _⟩) (fun H locs hP hD hS => ?_)
  refine W.eq (g2 := F0 m 20 ls [.int (tkM_choice_r (tkM_set_s g 0 0 (g 19 (0 : Int32).toNatClampNeg)) 1), .int 2, .int 0, .ref hm]) rfl ?_
  refine lv_if_lt (tgt := 27) hx hb dM_follow_20 (by decide) (fun (h1_ : tkM_choice_r (tkM_set_s g 0 0 (g 19 (0 : Int32).toNatClampNeg)) 1 < 0) => ?_) (fun (h1_ : ¬ (tkM_choice_r (tkM_set_s g 0 0 (g 19 (0 : Int32).toNatClampNeg)) 1 < 0)) => ?_)
  · refine lv_iconst (v := 0) hx hb dM_follow_27 (by decide) ?_
    refine tk_callA hD hS hA (va_runV (As := [.int 0, .int 2, .int 0]) (rest := []) ⟨hx, hb, hml, hown, hw⟩ (kM_set l D hm ad cI cZ (tkM_set_s g 0 0 (g 19 (0 : Int32).toNatClampNeg)) 0 2 0 (by unfold vp_in; decide) H.size) (cwV 3 hw (tk_gV tkWM_good wM_M_119 wI_M_set wS_M_set wZ_M wC_M_set) rfl rfl rfl (by decide +kernel) ⟨Nat.le_of_ble_eq_true rfl, Nat.le_of_ble_eq_true rfl⟩) (tk_preM hK hN hP hD) rfl rfl hl.1 rfl (lv_room (Nat.le_of_ble_eq_true rfl)) dM_follow_28 ⟨Nat.zero_le _, Nat.zero_le _⟩) (fun H locs hP hD hS => ?_)
    refine W.eq (g2 := F0 m 31 ls []) rfl ?_
    exact tk_vret hx hb hr hlk hP hD hS dM_follow_31 (congrArg (WM hm ad cI cZ) (by unfold tkM_follow_s; rw [if_pos h1_]))
  · refine lv_iconst (v := 1) hx hb dM_follow_23 (by decide) ?_
    refine lv_goto (tgt := 28) hx hb dM_follow_24 (by decide) ?_
    refine tk_callA hD hS hA (va_runV (As := [.int 0, .int 2, .int 1]) (rest := []) ⟨hx, hb, hml, hown, hw⟩ (kM_set l D hm ad cI cZ (tkM_set_s g 0 0 (g 19 (0 : Int32).toNatClampNeg)) 0 2 1 (by unfold vp_in; decide) H.size) (cwV 3 hw (tk_gV tkWM_good wM_M_119 wI_M_set wS_M_set wZ_M wC_M_set) rfl rfl rfl (by decide +kernel) ⟨Nat.le_of_ble_eq_true rfl, Nat.le_of_ble_eq_true rfl⟩) (tk_preM hK hN hP hD) rfl rfl hl.1 rfl (lv_room (Nat.le_of_ble_eq_true rfl)) dM_follow_28 ⟨Nat.zero_le _, Nat.zero_le _⟩) (fun H locs hP hD hS => ?_)
    refine W.eq (g2 := F0 m 31 ls []) rfl ?_
    exact tk_vret hx hb hr hlk hP hD hS dM_follow_31 (congrArg (WM hm ad cI cZ) (by unfold tkM_follow_s; rw [if_neg h1_]))
def tkM_firstHeld_r (g : Nat → Nat → Int32) (x0 : Int32) : Int32 :=
  if tkM_holds_r g x0 (((g 6 x0.toNatClampNeg) + 1) - ((g 6 x0.toNatClampNeg) + 1) / 8 * 8) = 0 then (if tkM_holds_r g x0 (((g 6 x0.toNatClampNeg) + 2) - ((g 6 x0.toNatClampNeg) + 2) / 8 * 8) = 0 then (if tkM_holds_r g x0 (((g 6 x0.toNatClampNeg) + 3) - ((g 6 x0.toNatClampNeg) + 3) / 8 * 8) = 0 then (if tkM_holds_r g x0 (((g 6 x0.toNatClampNeg) + 4) - ((g 6 x0.toNatClampNeg) + 4) / 8 * 8) = 0 then (if tkM_holds_r g x0 (((g 6 x0.toNatClampNeg) + 5) - ((g 6 x0.toNatClampNeg) + 5) / 8 * 8) = 0 then (if tkM_holds_r g x0 (((g 6 x0.toNatClampNeg) + 6) - ((g 6 x0.toNatClampNeg) + 6) / 8 * 8) = 0 then (if tkM_holds_r g x0 (((g 6 x0.toNatClampNeg) + 7) - ((g 6 x0.toNatClampNeg) + 7) / 8 * 8) = 0 then (if tkM_holds_r g x0 (((g 6 x0.toNatClampNeg) + 8) - ((g 6 x0.toNatClampNeg) + 8) / 8 * 8) = 0 then (-1)
                else ((g 6 x0.toNatClampNeg) + 8) - ((g 6 x0.toNatClampNeg) + 8) / 8 * 8)
              else ((g 6 x0.toNatClampNeg) + 7) - ((g 6 x0.toNatClampNeg) + 7) / 8 * 8)
            else ((g 6 x0.toNatClampNeg) + 6) - ((g 6 x0.toNatClampNeg) + 6) / 8 * 8)
          else ((g 6 x0.toNatClampNeg) + 5) - ((g 6 x0.toNatClampNeg) + 5) / 8 * 8)
        else ((g 6 x0.toNatClampNeg) + 4) - ((g 6 x0.toNatClampNeg) + 4) / 8 * 8)
      else ((g 6 x0.toNatClampNeg) + 3) - ((g 6 x0.toNatClampNeg) + 3) / 8 * 8)
    else ((g 6 x0.toNatClampNeg) + 2) - ((g 6 x0.toNatClampNeg) + 2) / 8 * 8)
  else ((g 6 x0.toNatClampNeg) + 1) - ((g 6 x0.toNatClampNeg) + 1) / 8 * 8
set_option maxHeartbeats 1000000 in
set_option maxRecDepth 100000 in
theorem kM_firstHeld (l : Launch) (D : va_G) (hm : Nat) (ad : Nat → Nat) (cI cZ : ClassId) (g : Nat → Nat → Int32) (x0 : Int32) (hi0 : vp_in x0 2) : tk_M l yM_firstHeld wsM_firstHeld { frames := 1, cells := 0, slots := 0, locals := 22 } D [(cI, .int), (cZ, .boolean)] [.ref hm, .int x0] (WM hm ad cI cZ g) (WM hm ad cI cZ g) (some (.int (tkM_firstHeld_r g x0))) := by
  refine tk_M.of (cc := cM_firstHeld) (maxL := 4) (ret := (some .int)) (by decide) rfl (Nat.le_of_ble_eq_true rfl) ?_
  intro p e s m below meth co A H locs ls hB hK hN hA hP hD hS hl
  obtain ⟨hx, hb, hr, hml, hown, hlk, hnm, hts⟩ := hB
  have hown : s.vm.findClass RM = some m.cls := hown
  have hl : lv_has ls 4 [(0, .ref hm), (1, .int x0)] := hl
  have hw : ∀ w ∈ tkWM, w.before _ s = true := fun w h => hts w (List.mem_cons_of_mem _ h)
  have f25 := hw _ wF_M_25
  refine lv_iconst (v := 1) hx hb dM_firstHeld_0 (by decide) ?_
  refine lv_istore_n hx hb dM_firstHeld_1 rfl hl (by decide) rfl (fun ls hl => ?_)
  have hl : lv_has ls 4 [(2, .int 1), (0, .ref hm), (1, .int x0)] := hl
  refine lv_iload_n hx hb dM_firstHeld_2 rfl (lv_at hl 0 rfl) ?_
  refine lv_bipush (v := 8) hx hb dM_firstHeld_3 (by decide) ?_
  refine lv_icmp_gt (tgt := 37) hx hb dM_firstHeld_5 (by decide) (fun h => absurd h (by decide)) (fun _ => ?_)
  refine lv_aload_n hx hb dM_firstHeld_8 rfl (lv_at hl 1 rfl) ?_
  refine va_get (D := D) (ci := 3) (v := .ref (ad 6)) (C := RM) (T := TM) (N := 33) hx hb hw inM hown hK hP 0 rfl rfl 6 (by decide) f25 (fun _ h9 => h9) rfl dM_firstHeld_9 ?_
  refine lv_iload_n hx hb dM_firstHeld_12 rfl (lv_at hl 2 rfl) ?_
  refine tkld_6 hx hb hK hP hi0 dM_firstHeld_13 ?_
  refine lv_iload_n hx hb dM_firstHeld_14 rfl (lv_at hl 0 rfl) ?_
  refine lv_iadd hx hb dM_firstHeld_15 ?_
  refine lv_bipush (v := 8) hx hb dM_firstHeld_16 (by decide) ?_
  refine lv_irem hx hb dM_firstHeld_18 (by decide) ?_
  refine lv_istore_n hx hb dM_firstHeld_19 rfl hl (by decide) rfl (fun ls hl => ?_)
  have hl : lv_has ls 4 [(3, .int (((g 6 x0.toNatClampNeg) + 1) - ((g 6 x0.toNatClampNeg) + 1) / 8 * 8)), (2, .int 1), (0, .ref hm), (1, .int x0)] := hl
  refine lv_aload_n hx hb dM_firstHeld_20 rfl (lv_at hl 2 rfl) ?_
  refine lv_iload_n hx hb dM_firstHeld_21 rfl (lv_at hl 3 rfl) ?_
  refine lv_iload_n hx hb dM_firstHeld_22 rfl (lv_at hl 0 rfl) ?_
  refine tk_callA hD hS hA (va_runV (As := [.int x0, .int (((g 6 x0.toNatClampNeg) + 1) - ((g 6 x0.toNatClampNeg) + 1) / 8 * 8)]) (rest := []) ⟨hx, hb, hml, hown, hw⟩ (kM_holds l D hm ad cI cZ g x0 (((g 6 x0.toNatClampNeg) + 1) - ((g 6 x0.toNatClampNeg) + 1) / 8 * 8) hi0 H.size) (cwV 2 hw (tk_gV tkWM_good wM_M_111 wI_M_holds wS_M_holds wZ_M wC_M_holds) rfl rfl rfl (by decide +kernel) ⟨Nat.le_of_ble_eq_true rfl, Nat.le_of_ble_eq_true rfl⟩) (tk_preM hK hN hP hD) rfl rfl hl.1 rfl (lv_room (Nat.le_of_ble_eq_true rfl)) dM_firstHeld_23 ⟨Nat.zero_le _, Nat.zero_le _⟩) (fun H locs hP hD hS => ?_)
  refine W.eq (g2 := F0 m 26 ls [.int (tkM_holds_r g x0 (((g 6 x0.toNatClampNeg) + 1) - ((g 6 x0.toNatClampNeg) + 1) / 8 * 8))]) rfl ?_
  refine lv_if_eq (tgt := 31) hx hb dM_firstHeld_26 (by decide) (fun (h1_ : tkM_holds_r g x0 (((g 6 x0.toNatClampNeg) + 1) - ((g 6 x0.toNatClampNeg) + 1) / 8 * 8) = 0) => ?_) (fun (h1_ : ¬ (tkM_holds_r g x0 (((g 6 x0.toNatClampNeg) + 1) - ((g 6 x0.toNatClampNeg) + 1) / 8 * 8) = 0)) => ?_)
  · refine lv_iinc (k := 1) (v := 2) hx hb dM_firstHeld_31 hl rfl (by decide) (by decide) rfl (fun ls hl => ?_)
    have hl : lv_has ls 4 [(2, .int 2), (3, .int (((g 6 x0.toNatClampNeg) + 1) - ((g 6 x0.toNatClampNeg) + 1) / 8 * 8)), (0, .ref hm), (1, .int x0)] := hl
    refine lv_goto (tgt := 2) hx hb dM_firstHeld_34 (by decide) ?_
    refine lv_iload_n hx hb dM_firstHeld_2 rfl (lv_at hl 0 rfl) ?_
    refine lv_bipush (v := 8) hx hb dM_firstHeld_3 (by decide) ?_
    refine lv_icmp_gt (tgt := 37) hx hb dM_firstHeld_5 (by decide) (fun h => absurd h (by decide)) (fun _ => ?_)
    refine lv_aload_n hx hb dM_firstHeld_8 rfl (lv_at hl 2 rfl) ?_
    refine va_get (D := D) (ci := 3) (v := .ref (ad 6)) (C := RM) (T := TM) (N := 33) hx hb hw inM hown hK hP 0 rfl rfl 6 (by decide) f25 (fun _ h9 => h9) rfl dM_firstHeld_9 ?_
    refine lv_iload_n hx hb dM_firstHeld_12 rfl (lv_at hl 3 rfl) ?_
    refine tkld_6 hx hb hK hP hi0 dM_firstHeld_13 ?_
    refine lv_iload_n hx hb dM_firstHeld_14 rfl (lv_at hl 0 rfl) ?_
    refine lv_iadd hx hb dM_firstHeld_15 ?_
    refine lv_bipush (v := 8) hx hb dM_firstHeld_16 (by decide) ?_
    refine lv_irem hx hb dM_firstHeld_18 (by decide) ?_
    refine lv_istore_n hx hb dM_firstHeld_19 rfl hl (by decide) rfl (fun ls hl => ?_)
    have hl : lv_has ls 4 [(3, .int (((g 6 x0.toNatClampNeg) + 2) - ((g 6 x0.toNatClampNeg) + 2) / 8 * 8)), (2, .int 2), (0, .ref hm), (1, .int x0)] := hl
    refine lv_aload_n hx hb dM_firstHeld_20 rfl (lv_at hl 2 rfl) ?_
    refine lv_iload_n hx hb dM_firstHeld_21 rfl (lv_at hl 3 rfl) ?_
    refine lv_iload_n hx hb dM_firstHeld_22 rfl (lv_at hl 0 rfl) ?_
    refine tk_callA hD hS hA (va_runV (As := [.int x0, .int (((g 6 x0.toNatClampNeg) + 2) - ((g 6 x0.toNatClampNeg) + 2) / 8 * 8)]) (rest := []) ⟨hx, hb, hml, hown, hw⟩ (kM_holds l D hm ad cI cZ g x0 (((g 6 x0.toNatClampNeg) + 2) - ((g 6 x0.toNatClampNeg) + 2) / 8 * 8) hi0 H.size) (cwV 2 hw (tk_gV tkWM_good wM_M_111 wI_M_holds wS_M_holds wZ_M wC_M_holds) rfl rfl rfl (by decide +kernel) ⟨Nat.le_of_ble_eq_true rfl, Nat.le_of_ble_eq_true rfl⟩) (tk_preM hK hN hP hD) rfl rfl hl.1 rfl (lv_room (Nat.le_of_ble_eq_true rfl)) dM_firstHeld_23 ⟨Nat.zero_le _, Nat.zero_le _⟩) (fun H locs hP hD hS => ?_)
    refine W.eq (g2 := F0 m 26 ls [.int (tkM_holds_r g x0 (((g 6 x0.toNatClampNeg) + 2) - ((g 6 x0.toNatClampNeg) + 2) / 8 * 8))]) rfl ?_
    refine lv_if_eq (tgt := 31) hx hb dM_firstHeld_26 (by decide) (fun (h2_ : tkM_holds_r g x0 (((g 6 x0.toNatClampNeg) + 2) - ((g 6 x0.toNatClampNeg) + 2) / 8 * 8) = 0) => ?_) (fun (h2_ : ¬ (tkM_holds_r g x0 (((g 6 x0.toNatClampNeg) + 2) - ((g 6 x0.toNatClampNeg) + 2) / 8 * 8) = 0)) => ?_)
    · refine lv_iinc (k := 1) (v := 3) hx hb dM_firstHeld_31 hl rfl (by decide) (by decide) rfl (fun ls hl => ?_)
      have hl : lv_has ls 4 [(2, .int 3), (3, .int (((g 6 x0.toNatClampNeg) + 2) - ((g 6 x0.toNatClampNeg) + 2) / 8 * 8)), (0, .ref hm), (1, .int x0)] := hl
      refine lv_goto (tgt := 2) hx hb dM_firstHeld_34 (by decide) ?_
      refine lv_iload_n hx hb dM_firstHeld_2 rfl (lv_at hl 0 rfl) ?_
      refine lv_bipush (v := 8) hx hb dM_firstHeld_3 (by decide) ?_
      refine lv_icmp_gt (tgt := 37) hx hb dM_firstHeld_5 (by decide) (fun h => absurd h (by decide)) (fun _ => ?_)
      refine lv_aload_n hx hb dM_firstHeld_8 rfl (lv_at hl 2 rfl) ?_
      refine va_get (D := D) (ci := 3) (v := .ref (ad 6)) (C := RM) (T := TM) (N := 33) hx hb hw inM hown hK hP 0 rfl rfl 6 (by decide) f25 (fun _ h9 => h9) rfl dM_firstHeld_9 ?_
      refine lv_iload_n hx hb dM_firstHeld_12 rfl (lv_at hl 3 rfl) ?_
      refine tkld_6 hx hb hK hP hi0 dM_firstHeld_13 ?_
      refine lv_iload_n hx hb dM_firstHeld_14 rfl (lv_at hl 0 rfl) ?_
      refine lv_iadd hx hb dM_firstHeld_15 ?_
      refine lv_bipush (v := 8) hx hb dM_firstHeld_16 (by decide) ?_
      refine lv_irem hx hb dM_firstHeld_18 (by decide) ?_
      refine lv_istore_n hx hb dM_firstHeld_19 rfl hl (by decide) rfl (fun ls hl => ?_)
      have hl : lv_has ls 4 [(3, .int (((g 6 x0.toNatClampNeg) + 3) - ((g 6 x0.toNatClampNeg) + 3) / 8 * 8)), (2, .int 3), (0, .ref hm), (1, .int x0)] := hl
      refine lv_aload_n hx hb dM_firstHeld_20 rfl (lv_at hl 2 rfl) ?_
      refine lv_iload_n hx hb dM_firstHeld_21 rfl (lv_at hl 3 rfl) ?_
      refine lv_iload_n hx hb dM_firstHeld_22 rfl (lv_at hl 0 rfl) ?_
      refine tk_callA hD hS hA (va_runV (As := [.int x0, .int (((g 6 x0.toNatClampNeg) + 3) - ((g 6 x0.toNatClampNeg) + 3) / 8 * 8)]) (rest := []) ⟨hx, hb, hml, hown, hw⟩ (kM_holds l D hm ad cI cZ g x0 (((g 6 x0.toNatClampNeg) + 3) - ((g 6 x0.toNatClampNeg) + 3) / 8 * 8) hi0 H.size) (cwV 2 hw (tk_gV tkWM_good wM_M_111 wI_M_holds wS_M_holds wZ_M wC_M_holds) rfl rfl rfl (by decide +kernel) ⟨Nat.le_of_ble_eq_true rfl, Nat.le_of_ble_eq_true rfl⟩) (tk_preM hK hN hP hD) rfl rfl hl.1 rfl (lv_room (Nat.le_of_ble_eq_true rfl)) dM_firstHeld_23 ⟨Nat.zero_le _, Nat.zero_le _⟩) (fun H locs hP hD hS => ?_)
      refine W.eq (g2 := F0 m 26 ls [.int (tkM_holds_r g x0 (((g 6 x0.toNatClampNeg) + 3) - ((g 6 x0.toNatClampNeg) + 3) / 8 * 8))]) rfl ?_
      refine lv_if_eq (tgt := 31) hx hb dM_firstHeld_26 (by decide) (fun (h3_ : tkM_holds_r g x0 (((g 6 x0.toNatClampNeg) + 3) - ((g 6 x0.toNatClampNeg) + 3) / 8 * 8) = 0) => ?_) (fun (h3_ : ¬ (tkM_holds_r g x0 (((g 6 x0.toNatClampNeg) + 3) - ((g 6 x0.toNatClampNeg) + 3) / 8 * 8) = 0)) => ?_)
      · refine lv_iinc (k := 1) (v := 4) hx hb dM_firstHeld_31 hl rfl (by decide) (by decide) rfl (fun ls hl => ?_)
        have hl : lv_has ls 4 [(2, .int 4), (3, .int (((g 6 x0.toNatClampNeg) + 3) - ((g 6 x0.toNatClampNeg) + 3) / 8 * 8)), (0, .ref hm), (1, .int x0)] := hl
        refine lv_goto (tgt := 2) hx hb dM_firstHeld_34 (by decide) ?_
        refine lv_iload_n hx hb dM_firstHeld_2 rfl (lv_at hl 0 rfl) ?_
        refine lv_bipush (v := 8) hx hb dM_firstHeld_3 (by decide) ?_
        refine lv_icmp_gt (tgt := 37) hx hb dM_firstHeld_5 (by decide) (fun h => absurd h (by decide)) (fun _ => ?_)
        refine lv_aload_n hx hb dM_firstHeld_8 rfl (lv_at hl 2 rfl) ?_
        refine va_get (D := D) (ci := 3) (v := .ref (ad 6)) (C := RM) (T := TM) (N := 33) hx hb hw inM hown hK hP 0 rfl rfl 6 (by decide) f25 (fun _ h9 => h9) rfl dM_firstHeld_9 ?_
        refine lv_iload_n hx hb dM_firstHeld_12 rfl (lv_at hl 3 rfl) ?_
        refine tkld_6 hx hb hK hP hi0 dM_firstHeld_13 ?_
        refine lv_iload_n hx hb dM_firstHeld_14 rfl (lv_at hl 0 rfl) ?_
        refine lv_iadd hx hb dM_firstHeld_15 ?_
        refine lv_bipush (v := 8) hx hb dM_firstHeld_16 (by decide) ?_
        refine lv_irem hx hb dM_firstHeld_18 (by decide) ?_
        refine lv_istore_n hx hb dM_firstHeld_19 rfl hl (by decide) rfl (fun ls hl => ?_)
        have hl : lv_has ls 4 [(3, .int (((g 6 x0.toNatClampNeg) + 4) - ((g 6 x0.toNatClampNeg) + 4) / 8 * 8)), (2, .int 4), (0, .ref hm), (1, .int x0)] := hl
        refine lv_aload_n hx hb dM_firstHeld_20 rfl (lv_at hl 2 rfl) ?_
        refine lv_iload_n hx hb dM_firstHeld_21 rfl (lv_at hl 3 rfl) ?_
        refine lv_iload_n hx hb dM_firstHeld_22 rfl (lv_at hl 0 rfl) ?_
        refine tk_callA hD hS hA (va_runV (As := [.int x0, .int (((g 6 x0.toNatClampNeg) + 4) - ((g 6 x0.toNatClampNeg) + 4) / 8 * 8)]) (rest := []) ⟨hx, hb, hml, hown, hw⟩ (kM_holds l D hm ad cI cZ g x0 (((g 6 x0.toNatClampNeg) + 4) - ((g 6 x0.toNatClampNeg) + 4) / 8 * 8) hi0 H.size) (cwV 2 hw (tk_gV tkWM_good wM_M_111 wI_M_holds wS_M_holds wZ_M wC_M_holds) rfl rfl rfl (by decide +kernel) ⟨Nat.le_of_ble_eq_true rfl, Nat.le_of_ble_eq_true rfl⟩) (tk_preM hK hN hP hD) rfl rfl hl.1 rfl (lv_room (Nat.le_of_ble_eq_true rfl)) dM_firstHeld_23 ⟨Nat.zero_le _, Nat.zero_le _⟩) (fun H locs hP hD hS => ?_)
        refine W.eq (g2 := F0 m 26 ls [.int (tkM_holds_r g x0 (((g 6 x0.toNatClampNeg) + 4) - ((g 6 x0.toNatClampNeg) + 4) / 8 * 8))]) rfl ?_
        refine lv_if_eq (tgt := 31) hx hb dM_firstHeld_26 (by decide) (fun (h4_ : tkM_holds_r g x0 (((g 6 x0.toNatClampNeg) + 4) - ((g 6 x0.toNatClampNeg) + 4) / 8 * 8) = 0) => ?_) (fun (h4_ : ¬ (tkM_holds_r g x0 (((g 6 x0.toNatClampNeg) + 4) - ((g 6 x0.toNatClampNeg) + 4) / 8 * 8) = 0)) => ?_)
        · refine lv_iinc (k := 1) (v := 5) hx hb dM_firstHeld_31 hl rfl (by decide) (by decide) rfl (fun ls hl => ?_)
          have hl : lv_has ls 4 [(2, .int 5), (3, .int (((g 6 x0.toNatClampNeg) + 4) - ((g 6 x0.toNatClampNeg) + 4) / 8 * 8)), (0, .ref hm), (1, .int x0)] := hl
          refine lv_goto (tgt := 2) hx hb dM_firstHeld_34 (by decide) ?_
          refine lv_iload_n hx hb dM_firstHeld_2 rfl (lv_at hl 0 rfl) ?_
          refine lv_bipush (v := 8) hx hb dM_firstHeld_3 (by decide) ?_
          refine lv_icmp_gt (tgt := 37) hx hb dM_firstHeld_5 (by decide) (fun h => absurd h (by decide)) (fun _ => ?_)
          refine lv_aload_n hx hb dM_firstHeld_8 rfl (lv_at hl 2 rfl) ?_
          refine va_get (D := D) (ci := 3) (v := .ref (ad 6)) (C := RM) (T := TM) (N := 33) hx hb hw inM hown hK hP 0 rfl rfl 6 (by decide) f25 (fun _ h9 => h9) rfl dM_firstHeld_9 ?_
          refine lv_iload_n hx hb dM_firstHeld_12 rfl (lv_at hl 3 rfl) ?_
          refine tkld_6 hx hb hK hP hi0 dM_firstHeld_13 ?_
          refine lv_iload_n hx hb dM_firstHeld_14 rfl (lv_at hl 0 rfl) ?_
          refine lv_iadd hx hb dM_firstHeld_15 ?_
          refine lv_bipush (v := 8) hx hb dM_firstHeld_16 (by decide) ?_
          refine lv_irem hx hb dM_firstHeld_18 (by decide) ?_
          refine lv_istore_n hx hb dM_firstHeld_19 rfl hl (by decide) rfl (fun ls hl => ?_)
          have hl : lv_has ls 4 [(3, .int (((g 6 x0.toNatClampNeg) + 5) - ((g 6 x0.toNatClampNeg) + 5) / 8 * 8)), (2, .int 5), (0, .ref hm), (1, .int x0)] := hl
          refine lv_aload_n hx hb dM_firstHeld_20 rfl (lv_at hl 2 rfl) ?_
          refine lv_iload_n hx hb dM_firstHeld_21 rfl (lv_at hl 3 rfl) ?_
          refine lv_iload_n hx hb dM_firstHeld_22 rfl (lv_at hl 0 rfl) ?_
          refine tk_callA hD hS hA (va_runV (As := [.int x0, .int (((g 6 x0.toNatClampNeg) + 5) - ((g 6 x0.toNatClampNeg) + 5) / 8 * 8)]) (rest := []) ⟨hx, hb, hml, hown, hw⟩ (kM_holds l D hm ad cI cZ g x0 (((g 6 x0.toNatClampNeg) + 5) - ((g 6 x0.toNatClampNeg) + 5) / 8 * 8) hi0 H.size) (cwV 2 hw (tk_gV tkWM_good wM_M_111 wI_M_holds wS_M_holds wZ_M wC_M_holds) rfl rfl rfl (by decide +kernel) ⟨Nat.le_of_ble_eq_true rfl, Nat.le_of_ble_eq_true rfl⟩) (tk_preM hK hN hP hD) rfl rfl hl.1 rfl (lv_room (Nat.le_of_ble_eq_true rfl)) dM_firstHeld_23 ⟨Nat.zero_le _, Nat.zero_le _⟩) (fun H locs hP hD hS => ?_)
          refine W.eq (g2 := F0 m 26 ls [.int (tkM_holds_r g x0 (((g 6 x0.toNatClampNeg) + 5) - ((g 6 x0.toNatClampNeg) + 5) / 8 * 8))]) rfl ?_
          refine lv_if_eq (tgt := 31) hx hb dM_firstHeld_26 (by decide) (fun (h5_ : tkM_holds_r g x0 (((g 6 x0.toNatClampNeg) + 5) - ((g 6 x0.toNatClampNeg) + 5) / 8 * 8) = 0) => ?_) (fun (h5_ : ¬ (tkM_holds_r g x0 (((g 6 x0.toNatClampNeg) + 5) - ((g 6 x0.toNatClampNeg) + 5) / 8 * 8) = 0)) => ?_)
          · refine lv_iinc (k := 1) (v := 6) hx hb dM_firstHeld_31 hl rfl (by decide) (by decide) rfl (fun ls hl => ?_)
            have hl : lv_has ls 4 [(2, .int 6), (3, .int (((g 6 x0.toNatClampNeg) + 5) - ((g 6 x0.toNatClampNeg) + 5) / 8 * 8)), (0, .ref hm), (1, .int x0)] := hl
            refine lv_goto (tgt := 2) hx hb dM_firstHeld_34 (by decide) ?_
            refine lv_iload_n hx hb dM_firstHeld_2 rfl (lv_at hl 0 rfl) ?_
            refine lv_bipush (v := 8) hx hb dM_firstHeld_3 (by decide) ?_
            refine lv_icmp_gt (tgt := 37) hx hb dM_firstHeld_5 (by decide) (fun h => absurd h (by decide)) (fun _ => ?_)
            refine lv_aload_n hx hb dM_firstHeld_8 rfl (lv_at hl 2 rfl) ?_
            refine va_get (D := D) (ci := 3) (v := .ref (ad 6)) (C := RM) (T := TM) (N := 33) hx hb hw inM hown hK hP 0 rfl rfl 6 (by decide) f25 (fun _ h9 => h9) rfl dM_firstHeld_9 ?_
            refine lv_iload_n hx hb dM_firstHeld_12 rfl (lv_at hl 3 rfl) ?_
            refine tkld_6 hx hb hK hP hi0 dM_firstHeld_13 ?_
            refine lv_iload_n hx hb dM_firstHeld_14 rfl (lv_at hl 0 rfl) ?_
            refine lv_iadd hx hb dM_firstHeld_15 ?_
            refine lv_bipush (v := 8) hx hb dM_firstHeld_16 (by decide) ?_
            refine lv_irem hx hb dM_firstHeld_18 (by decide) ?_
            refine lv_istore_n hx hb dM_firstHeld_19 rfl hl (by decide) rfl (fun ls hl => ?_)
            have hl : lv_has ls 4 [(3, .int (((g 6 x0.toNatClampNeg) + 6) - ((g 6 x0.toNatClampNeg) + 6) / 8 * 8)), (2, .int 6), (0, .ref hm), (1, .int x0)] := hl
            refine lv_aload_n hx hb dM_firstHeld_20 rfl (lv_at hl 2 rfl) ?_
            refine lv_iload_n hx hb dM_firstHeld_21 rfl (lv_at hl 3 rfl) ?_
            refine lv_iload_n hx hb dM_firstHeld_22 rfl (lv_at hl 0 rfl) ?_
            refine tk_callA hD hS hA (va_runV (As := [.int x0, .int (((g 6 x0.toNatClampNeg) + 6) - ((g 6 x0.toNatClampNeg) + 6) / 8 * 8)]) (rest := []) ⟨hx, hb, hml, hown, hw⟩ (kM_holds l D hm ad cI cZ g x0 (((g 6 x0.toNatClampNeg) + 6) - ((g 6 x0.toNatClampNeg) + 6) / 8 * 8) hi0 H.size) (cwV 2 hw (tk_gV tkWM_good wM_M_111 wI_M_holds wS_M_holds wZ_M wC_M_holds) rfl rfl rfl (by decide +kernel) ⟨Nat.le_of_ble_eq_true rfl, Nat.le_of_ble_eq_true rfl⟩) (tk_preM hK hN hP hD) rfl rfl hl.1 rfl (lv_room (Nat.le_of_ble_eq_true rfl)) dM_firstHeld_23 ⟨Nat.zero_le _, Nat.zero_le _⟩) (fun H locs hP hD hS => ?_)
            refine W.eq (g2 := F0 m 26 ls [.int (tkM_holds_r g x0 (((g 6 x0.toNatClampNeg) + 6) - ((g 6 x0.toNatClampNeg) + 6) / 8 * 8))]) rfl ?_
            refine lv_if_eq (tgt := 31) hx hb dM_firstHeld_26 (by decide) (fun (h6_ : tkM_holds_r g x0 (((g 6 x0.toNatClampNeg) + 6) - ((g 6 x0.toNatClampNeg) + 6) / 8 * 8) = 0) => ?_) (fun (h6_ : ¬ (tkM_holds_r g x0 (((g 6 x0.toNatClampNeg) + 6) - ((g 6 x0.toNatClampNeg) + 6) / 8 * 8) = 0)) => ?_)
            · refine lv_iinc (k := 1) (v := 7) hx hb dM_firstHeld_31 hl rfl (by decide) (by decide) rfl (fun ls hl => ?_)
              have hl : lv_has ls 4 [(2, .int 7), (3, .int (((g 6 x0.toNatClampNeg) + 6) - ((g 6 x0.toNatClampNeg) + 6) / 8 * 8)), (0, .ref hm), (1, .int x0)] := hl
              refine lv_goto (tgt := 2) hx hb dM_firstHeld_34 (by decide) ?_
              refine lv_iload_n hx hb dM_firstHeld_2 rfl (lv_at hl 0 rfl) ?_
              refine lv_bipush (v := 8) hx hb dM_firstHeld_3 (by decide) ?_
              refine lv_icmp_gt (tgt := 37) hx hb dM_firstHeld_5 (by decide) (fun h => absurd h (by decide)) (fun _ => ?_)
              refine lv_aload_n hx hb dM_firstHeld_8 rfl (lv_at hl 2 rfl) ?_
              refine va_get (D := D) (ci := 3) (v := .ref (ad 6)) (C := RM) (T := TM) (N := 33) hx hb hw inM hown hK hP 0 rfl rfl 6 (by decide) f25 (fun _ h9 => h9) rfl dM_firstHeld_9 ?_
              refine lv_iload_n hx hb dM_firstHeld_12 rfl (lv_at hl 3 rfl) ?_
              refine tkld_6 hx hb hK hP hi0 dM_firstHeld_13 ?_
              refine lv_iload_n hx hb dM_firstHeld_14 rfl (lv_at hl 0 rfl) ?_
              refine lv_iadd hx hb dM_firstHeld_15 ?_
              refine lv_bipush (v := 8) hx hb dM_firstHeld_16 (by decide) ?_
              refine lv_irem hx hb dM_firstHeld_18 (by decide) ?_
              refine lv_istore_n hx hb dM_firstHeld_19 rfl hl (by decide) rfl (fun ls hl => ?_)
              have hl : lv_has ls 4 [(3, .int (((g 6 x0.toNatClampNeg) + 7) - ((g 6 x0.toNatClampNeg) + 7) / 8 * 8)), (2, .int 7), (0, .ref hm), (1, .int x0)] := hl
              refine lv_aload_n hx hb dM_firstHeld_20 rfl (lv_at hl 2 rfl) ?_
              refine lv_iload_n hx hb dM_firstHeld_21 rfl (lv_at hl 3 rfl) ?_
              refine lv_iload_n hx hb dM_firstHeld_22 rfl (lv_at hl 0 rfl) ?_
              refine tk_callA hD hS hA (va_runV (As := [.int x0, .int (((g 6 x0.toNatClampNeg) + 7) - ((g 6 x0.toNatClampNeg) + 7) / 8 * 8)]) (rest := []) ⟨hx, hb, hml, hown, hw⟩ (kM_holds l D hm ad cI cZ g x0 (((g 6 x0.toNatClampNeg) + 7) - ((g 6 x0.toNatClampNeg) + 7) / 8 * 8) hi0 H.size) (cwV 2 hw (tk_gV tkWM_good wM_M_111 wI_M_holds wS_M_holds wZ_M wC_M_holds) rfl rfl rfl (by decide +kernel) ⟨Nat.le_of_ble_eq_true rfl, Nat.le_of_ble_eq_true rfl⟩) (tk_preM hK hN hP hD) rfl rfl hl.1 rfl (lv_room (Nat.le_of_ble_eq_true rfl)) dM_firstHeld_23 ⟨Nat.zero_le _, Nat.zero_le _⟩) (fun H locs hP hD hS => ?_)
              refine W.eq (g2 := F0 m 26 ls [.int (tkM_holds_r g x0 (((g 6 x0.toNatClampNeg) + 7) - ((g 6 x0.toNatClampNeg) + 7) / 8 * 8))]) rfl ?_
              refine lv_if_eq (tgt := 31) hx hb dM_firstHeld_26 (by decide) (fun (h7_ : tkM_holds_r g x0 (((g 6 x0.toNatClampNeg) + 7) - ((g 6 x0.toNatClampNeg) + 7) / 8 * 8) = 0) => ?_) (fun (h7_ : ¬ (tkM_holds_r g x0 (((g 6 x0.toNatClampNeg) + 7) - ((g 6 x0.toNatClampNeg) + 7) / 8 * 8) = 0)) => ?_)
              · refine lv_iinc (k := 1) (v := 8) hx hb dM_firstHeld_31 hl rfl (by decide) (by decide) rfl (fun ls hl => ?_)
                have hl : lv_has ls 4 [(2, .int 8), (3, .int (((g 6 x0.toNatClampNeg) + 7) - ((g 6 x0.toNatClampNeg) + 7) / 8 * 8)), (0, .ref hm), (1, .int x0)] := hl
                refine lv_goto (tgt := 2) hx hb dM_firstHeld_34 (by decide) ?_
                refine lv_iload_n hx hb dM_firstHeld_2 rfl (lv_at hl 0 rfl) ?_
                refine lv_bipush (v := 8) hx hb dM_firstHeld_3 (by decide) ?_
                refine lv_icmp_gt (tgt := 37) hx hb dM_firstHeld_5 (by decide) (fun h => absurd h (by decide)) (fun _ => ?_)
                refine lv_aload_n hx hb dM_firstHeld_8 rfl (lv_at hl 2 rfl) ?_
                refine va_get (D := D) (ci := 3) (v := .ref (ad 6)) (C := RM) (T := TM) (N := 33) hx hb hw inM hown hK hP 0 rfl rfl 6 (by decide) f25 (fun _ h9 => h9) rfl dM_firstHeld_9 ?_
                refine lv_iload_n hx hb dM_firstHeld_12 rfl (lv_at hl 3 rfl) ?_
                refine tkld_6 hx hb hK hP hi0 dM_firstHeld_13 ?_
                refine lv_iload_n hx hb dM_firstHeld_14 rfl (lv_at hl 0 rfl) ?_
                refine lv_iadd hx hb dM_firstHeld_15 ?_
                refine lv_bipush (v := 8) hx hb dM_firstHeld_16 (by decide) ?_
                refine lv_irem hx hb dM_firstHeld_18 (by decide) ?_
                refine lv_istore_n hx hb dM_firstHeld_19 rfl hl (by decide) rfl (fun ls hl => ?_)
                have hl : lv_has ls 4 [(3, .int (((g 6 x0.toNatClampNeg) + 8) - ((g 6 x0.toNatClampNeg) + 8) / 8 * 8)), (2, .int 8), (0, .ref hm), (1, .int x0)] := hl
                refine lv_aload_n hx hb dM_firstHeld_20 rfl (lv_at hl 2 rfl) ?_
                refine lv_iload_n hx hb dM_firstHeld_21 rfl (lv_at hl 3 rfl) ?_
                refine lv_iload_n hx hb dM_firstHeld_22 rfl (lv_at hl 0 rfl) ?_
                refine tk_callA hD hS hA (va_runV (As := [.int x0, .int (((g 6 x0.toNatClampNeg) + 8) - ((g 6 x0.toNatClampNeg) + 8) / 8 * 8)]) (rest := []) ⟨hx, hb, hml, hown, hw⟩ (kM_holds l D hm ad cI cZ g x0 (((g 6 x0.toNatClampNeg) + 8) - ((g 6 x0.toNatClampNeg) + 8) / 8 * 8) hi0 H.size) (cwV 2 hw (tk_gV tkWM_good wM_M_111 wI_M_holds wS_M_holds wZ_M wC_M_holds) rfl rfl rfl (by decide +kernel) ⟨Nat.le_of_ble_eq_true rfl, Nat.le_of_ble_eq_true rfl⟩) (tk_preM hK hN hP hD) rfl rfl hl.1 rfl (lv_room (Nat.le_of_ble_eq_true rfl)) dM_firstHeld_23 ⟨Nat.zero_le _, Nat.zero_le _⟩) (fun H locs hP hD hS => ?_)
                refine W.eq (g2 := F0 m 26 ls [.int (tkM_holds_r g x0 (((g 6 x0.toNatClampNeg) + 8) - ((g 6 x0.toNatClampNeg) + 8) / 8 * 8))]) rfl ?_
                refine lv_if_eq (tgt := 31) hx hb dM_firstHeld_26 (by decide) (fun (h8_ : tkM_holds_r g x0 (((g 6 x0.toNatClampNeg) + 8) - ((g 6 x0.toNatClampNeg) + 8) / 8 * 8) = 0) => ?_) (fun (h8_ : ¬ (tkM_holds_r g x0 (((g 6 x0.toNatClampNeg) + 8) - ((g 6 x0.toNatClampNeg) + 8) / 8 * 8) = 0)) => ?_)
                · refine lv_iinc (k := 1) (v := 9) hx hb dM_firstHeld_31 hl rfl (by decide) (by decide) rfl (fun ls hl => ?_)
                  have hl : lv_has ls 4 [(2, .int 9), (3, .int (((g 6 x0.toNatClampNeg) + 8) - ((g 6 x0.toNatClampNeg) + 8) / 8 * 8)), (0, .ref hm), (1, .int x0)] := hl
                  refine lv_goto (tgt := 2) hx hb dM_firstHeld_34 (by decide) ?_
                  refine lv_iload_n hx hb dM_firstHeld_2 rfl (lv_at hl 0 rfl) ?_
                  refine lv_bipush (v := 8) hx hb dM_firstHeld_3 (by decide) ?_
                  refine lv_icmp_gt (tgt := 37) hx hb dM_firstHeld_5 (by decide) (fun _ => ?_) (fun h => absurd (by decide) h)
                  refine lv_iconst (v := -1) hx hb dM_firstHeld_37 (by decide) ?_
                  exact tk_iret hx hb hr hlk hP hD hS dM_firstHeld_38 (by unfold tkM_firstHeld_r; rw [if_pos h1_, if_pos h2_, if_pos h3_, if_pos h4_, if_pos h5_, if_pos h6_, if_pos h7_, if_pos h8_]) rfl
                · refine lv_iload_n hx hb dM_firstHeld_29 rfl (lv_at hl 0 rfl) ?_
                  exact tk_iret hx hb hr hlk hP hD hS dM_firstHeld_30 (by unfold tkM_firstHeld_r; rw [if_pos h1_, if_pos h2_, if_pos h3_, if_pos h4_, if_pos h5_, if_pos h6_, if_pos h7_, if_neg h8_]) rfl
              · refine lv_iload_n hx hb dM_firstHeld_29 rfl (lv_at hl 0 rfl) ?_
                exact tk_iret hx hb hr hlk hP hD hS dM_firstHeld_30 (by unfold tkM_firstHeld_r; rw [if_pos h1_, if_pos h2_, if_pos h3_, if_pos h4_, if_pos h5_, if_pos h6_, if_neg h7_]) rfl
            · refine lv_iload_n hx hb dM_firstHeld_29 rfl (lv_at hl 0 rfl) ?_
              exact tk_iret hx hb hr hlk hP hD hS dM_firstHeld_30 (by unfold tkM_firstHeld_r; rw [if_pos h1_, if_pos h2_, if_pos h3_, if_pos h4_, if_pos h5_, if_neg h6_]) rfl
          · refine lv_iload_n hx hb dM_firstHeld_29 rfl (lv_at hl 0 rfl) ?_
            exact tk_iret hx hb hr hlk hP hD hS dM_firstHeld_30 (by unfold tkM_firstHeld_r; rw [if_pos h1_, if_pos h2_, if_pos h3_, if_pos h4_, if_neg h5_]) rfl
        · refine lv_iload_n hx hb dM_firstHeld_29 rfl (lv_at hl 0 rfl) ?_
          exact tk_iret hx hb hr hlk hP hD hS dM_firstHeld_30 (by unfold tkM_firstHeld_r; rw [if_pos h1_, if_pos h2_, if_pos h3_, if_neg h4_]) rfl
      · refine lv_iload_n hx hb dM_firstHeld_29 rfl (lv_at hl 0 rfl) ?_
        exact tk_iret hx hb hr hlk hP hD hS dM_firstHeld_30 (by unfold tkM_firstHeld_r; rw [if_pos h1_, if_pos h2_, if_neg h3_]) rfl
    · refine lv_iload_n hx hb dM_firstHeld_29 rfl (lv_at hl 0 rfl) ?_
      exact tk_iret hx hb hr hlk hP hD hS dM_firstHeld_30 (by unfold tkM_firstHeld_r; rw [if_pos h1_, if_neg h2_]) rfl
  · refine lv_iload_n hx hb dM_firstHeld_29 rfl (lv_at hl 0 rfl) ?_
    exact tk_iret hx hb hr hlk hP hD hS dM_firstHeld_30 (by unfold tkM_firstHeld_r; rw [if_neg h1_]) rfl
def tkM_begin_s (g : Nat → Nat → Int32) (x0 x1 : Int32) : Nat → Nat → Int32 :=
  if x1 &&& 8 = 0 then (if x1 &&& 2 = 0 then (if x1 &&& 1 = 0 then tk_up (tk_up (tk_up (tk_up (tk_up (tk_up (tk_up (tk_up (tk_up (tk_up (tk_up (tk_up (tk_up (tk_up (tk_up g 7 (upd (g 7) x0.toNatClampNeg 0)) 2 (upd (g 2) x0.toNatClampNeg 0)) 3 (upd (g 3) x0.toNatClampNeg 0)) 4 (upd (g 4) x0.toNatClampNeg 0)) 6 (upd (g 6) x0.toNatClampNeg 7)) 11 (upd (g 11) x0.toNatClampNeg 0)) 12 (upd (g 12) x0.toNatClampNeg 0)) 13 (upd (g 13) x0.toNatClampNeg 0)) 14 (upd (g 14) x0.toNatClampNeg 0)) 15 (upd (g 15) x0.toNatClampNeg 0)) 16 (upd (g 16) x0.toNatClampNeg 0)) 8 (upd (g 8) x0.toNatClampNeg 0)) 9 (upd (g 9) x0.toNatClampNeg 0)) 10 (upd (g 10) x0.toNatClampNeg 0)) 17 (upd (g 17) x0.toNatClampNeg 2)
      else tk_up (tk_up (tk_up (tk_up (tk_up (tk_up (tk_up (tk_up (tk_up (tk_up (tk_up (tk_up (tk_up (tk_up (tk_up g 7 (upd (g 7) x0.toNatClampNeg 0)) 2 (upd (g 2) x0.toNatClampNeg 0)) 3 (upd (g 3) x0.toNatClampNeg 0)) 4 (upd (g 4) x0.toNatClampNeg 0)) 6 (upd (g 6) x0.toNatClampNeg 7)) 11 (upd (g 11) x0.toNatClampNeg 0)) 12 (upd (g 12) x0.toNatClampNeg 0)) 13 (upd (g 13) x0.toNatClampNeg 0)) 14 (upd (g 14) x0.toNatClampNeg 0)) 15 (upd (g 15) x0.toNatClampNeg 0)) 16 (upd (g 16) x0.toNatClampNeg 0)) 8 (upd (g 8) x0.toNatClampNeg 0)) 9 (upd (g 9) x0.toNatClampNeg 0)) 10 (upd (g 10) x0.toNatClampNeg 1)) 17 (upd (g 17) x0.toNatClampNeg 2))
    else if x1 &&& 1 = 0 then tk_up (tk_up (tk_up (tk_up (tk_up (tk_up (tk_up (tk_up (tk_up (tk_up (tk_up (tk_up (tk_up (tk_up (tk_up g 7 (upd (g 7) x0.toNatClampNeg 0)) 2 (upd (g 2) x0.toNatClampNeg 0)) 3 (upd (g 3) x0.toNatClampNeg 0)) 4 (upd (g 4) x0.toNatClampNeg 0)) 6 (upd (g 6) x0.toNatClampNeg 7)) 11 (upd (g 11) x0.toNatClampNeg 0)) 12 (upd (g 12) x0.toNatClampNeg 0)) 13 (upd (g 13) x0.toNatClampNeg 0)) 14 (upd (g 14) x0.toNatClampNeg 0)) 15 (upd (g 15) x0.toNatClampNeg 0)) 16 (upd (g 16) x0.toNatClampNeg 0)) 8 (upd (g 8) x0.toNatClampNeg 0)) 9 (upd (g 9) x0.toNatClampNeg 1)) 10 (upd (g 10) x0.toNatClampNeg 0)) 17 (upd (g 17) x0.toNatClampNeg 2)
      else tk_up (tk_up (tk_up (tk_up (tk_up (tk_up (tk_up (tk_up (tk_up (tk_up (tk_up (tk_up (tk_up (tk_up (tk_up g 7 (upd (g 7) x0.toNatClampNeg 0)) 2 (upd (g 2) x0.toNatClampNeg 0)) 3 (upd (g 3) x0.toNatClampNeg 0)) 4 (upd (g 4) x0.toNatClampNeg 0)) 6 (upd (g 6) x0.toNatClampNeg 7)) 11 (upd (g 11) x0.toNatClampNeg 0)) 12 (upd (g 12) x0.toNatClampNeg 0)) 13 (upd (g 13) x0.toNatClampNeg 0)) 14 (upd (g 14) x0.toNatClampNeg 0)) 15 (upd (g 15) x0.toNatClampNeg 0)) 16 (upd (g 16) x0.toNatClampNeg 0)) 8 (upd (g 8) x0.toNatClampNeg 0)) 9 (upd (g 9) x0.toNatClampNeg 1)) 10 (upd (g 10) x0.toNatClampNeg 1)) 17 (upd (g 17) x0.toNatClampNeg 2))
  else if x1 &&& 2 = 0 then (if x1 &&& 1 = 0 then tk_up (tk_up (tk_up (tk_up (tk_up (tk_up (tk_up (tk_up (tk_up (tk_up (tk_up (tk_up (tk_up (tk_up (tk_up g 7 (upd (g 7) x0.toNatClampNeg 0)) 2 (upd (g 2) x0.toNatClampNeg 0)) 3 (upd (g 3) x0.toNatClampNeg 0)) 4 (upd (g 4) x0.toNatClampNeg 0)) 6 (upd (g 6) x0.toNatClampNeg 7)) 11 (upd (g 11) x0.toNatClampNeg 0)) 12 (upd (g 12) x0.toNatClampNeg 0)) 13 (upd (g 13) x0.toNatClampNeg 0)) 14 (upd (g 14) x0.toNatClampNeg 0)) 15 (upd (g 15) x0.toNatClampNeg 0)) 16 (upd (g 16) x0.toNatClampNeg 0)) 8 (upd (g 8) x0.toNatClampNeg 1)) 9 (upd (g 9) x0.toNatClampNeg 0)) 10 (upd (g 10) x0.toNatClampNeg 0)) 17 (upd (g 17) x0.toNatClampNeg 2)
      else tk_up (tk_up (tk_up (tk_up (tk_up (tk_up (tk_up (tk_up (tk_up (tk_up (tk_up (tk_up (tk_up (tk_up (tk_up g 7 (upd (g 7) x0.toNatClampNeg 0)) 2 (upd (g 2) x0.toNatClampNeg 0)) 3 (upd (g 3) x0.toNatClampNeg 0)) 4 (upd (g 4) x0.toNatClampNeg 0)) 6 (upd (g 6) x0.toNatClampNeg 7)) 11 (upd (g 11) x0.toNatClampNeg 0)) 12 (upd (g 12) x0.toNatClampNeg 0)) 13 (upd (g 13) x0.toNatClampNeg 0)) 14 (upd (g 14) x0.toNatClampNeg 0)) 15 (upd (g 15) x0.toNatClampNeg 0)) 16 (upd (g 16) x0.toNatClampNeg 0)) 8 (upd (g 8) x0.toNatClampNeg 1)) 9 (upd (g 9) x0.toNatClampNeg 0)) 10 (upd (g 10) x0.toNatClampNeg 1)) 17 (upd (g 17) x0.toNatClampNeg 2))
    else if x1 &&& 1 = 0 then tk_up (tk_up (tk_up (tk_up (tk_up (tk_up (tk_up (tk_up (tk_up (tk_up (tk_up (tk_up (tk_up (tk_up (tk_up g 7 (upd (g 7) x0.toNatClampNeg 0)) 2 (upd (g 2) x0.toNatClampNeg 0)) 3 (upd (g 3) x0.toNatClampNeg 0)) 4 (upd (g 4) x0.toNatClampNeg 0)) 6 (upd (g 6) x0.toNatClampNeg 7)) 11 (upd (g 11) x0.toNatClampNeg 0)) 12 (upd (g 12) x0.toNatClampNeg 0)) 13 (upd (g 13) x0.toNatClampNeg 0)) 14 (upd (g 14) x0.toNatClampNeg 0)) 15 (upd (g 15) x0.toNatClampNeg 0)) 16 (upd (g 16) x0.toNatClampNeg 0)) 8 (upd (g 8) x0.toNatClampNeg 1)) 9 (upd (g 9) x0.toNatClampNeg 1)) 10 (upd (g 10) x0.toNatClampNeg 0)) 17 (upd (g 17) x0.toNatClampNeg 2)
      else tk_up (tk_up (tk_up (tk_up (tk_up (tk_up (tk_up (tk_up (tk_up (tk_up (tk_up (tk_up (tk_up (tk_up (tk_up g 7 (upd (g 7) x0.toNatClampNeg 0)) 2 (upd (g 2) x0.toNatClampNeg 0)) 3 (upd (g 3) x0.toNatClampNeg 0)) 4 (upd (g 4) x0.toNatClampNeg 0)) 6 (upd (g 6) x0.toNatClampNeg 7)) 11 (upd (g 11) x0.toNatClampNeg 0)) 12 (upd (g 12) x0.toNatClampNeg 0)) 13 (upd (g 13) x0.toNatClampNeg 0)) 14 (upd (g 14) x0.toNatClampNeg 0)) 15 (upd (g 15) x0.toNatClampNeg 0)) 16 (upd (g 16) x0.toNatClampNeg 0)) 8 (upd (g 8) x0.toNatClampNeg 1)) 9 (upd (g 9) x0.toNatClampNeg 1)) 10 (upd (g 10) x0.toNatClampNeg 1)) 17 (upd (g 17) x0.toNatClampNeg 2)
set_option maxHeartbeats 1000000 in
set_option maxRecDepth 100000 in
theorem kM_begin (l : Launch) (D : va_G) (hm : Nat) (ad : Nat → Nat) (cI cZ : ClassId) (g : Nat → Nat → Int32) (x0 x1 : Int32) (hi0 : vp_in x0 2) : tk_M l yM_begin wsM_begin { frames := 0, cells := 0, slots := 0, locals := 0 } D [(cI, .int), (cZ, .boolean)] [.ref hm, .int x0, .int x1] (WM hm ad cI cZ g) (WM hm ad cI cZ (tkM_begin_s g x0 x1)) none := by
  refine tk_M.of (cc := cM_begin) (maxL := 3) (ret := none) (by decide) rfl (Nat.le_of_ble_eq_true rfl) ?_
  intro p e s m below meth co A H locs ls hB hK hN hA hP hD hS hl
  obtain ⟨hx, hb, hr, hml, hown, hlk, hnm, hts⟩ := hB
  have hown : s.vm.findClass RM = some m.cls := hown
  have hl : lv_has ls 3 [(0, .ref hm), (1, .int x0), (2, .int x1)] := hl
  have hw : ∀ w ∈ tkWM, w.before _ s = true := fun w h => hts w (List.mem_cons_of_mem _ h)
  have f28 := hw _ wF_M_28
  have f13 := hw _ wF_M_13
  have f16 := hw _ wF_M_16
  have f19 := hw _ wF_M_19
  have f25 := hw _ wF_M_25
  have f41 := hw _ wF_M_41
  have f44 := hw _ wF_M_44
  have f47 := hw _ wF_M_47
  have f50 := hw _ wF_M_50
  have f53 := hw _ wF_M_53
  have f56 := hw _ wF_M_56
  have f32 := hw _ wF_M_32
  have f35 := hw _ wF_M_35
  have f38 := hw _ wF_M_38
  have f59 := hw _ wF_M_59
  refine lv_aload_n hx hb dM_begin_0 rfl (lv_at hl 0 rfl) ?_
  refine va_get (D := D) (ci := 3) (v := .ref (ad 7)) (C := RM) (T := TM) (N := 33) hx hb hw inM hown hK hP 0 rfl rfl 7 (by decide) f28 (fun _ h9 => h9) rfl dM_begin_1 ?_
  refine lv_iload_n hx hb dM_begin_4 rfl (lv_at hl 1 rfl) ?_
  refine lv_iconst (v := 0) hx hb dM_begin_5 (by decide) ?_
  refine tkst_7 hx hb hK hP hD hS hi0 (x' := 0) rfl dM_begin_6 (fun H locs hP hD hS => ?_)
  have hP : va_P D vwCl (WM hm ad cI cZ (tk_up g 7 (upd (g 7) x0.toNatClampNeg 0))) H := hP
  have hD : va_D A (WM hm ad cI cZ (tk_up g 7 (upd (g 7) x0.toNatClampNeg 0))) := hD
  refine lv_aload_n hx hb dM_begin_7 rfl (lv_at hl 0 rfl) ?_
  refine va_get (D := D) (ci := 3) (v := .ref (ad 2)) (C := RM) (T := TM) (N := 33) hx hb hw inM hown hK hP 0 rfl rfl 2 (by decide) f13 (fun _ h9 => h9) rfl dM_begin_8 ?_
  refine lv_iload_n hx hb dM_begin_11 rfl (lv_at hl 1 rfl) ?_
  refine lv_iconst (v := 0) hx hb dM_begin_12 (by decide) ?_
  refine tkst_2 hx hb hK hP hD hS hi0 dM_begin_13 (fun H locs hP hD hS => ?_)
  have hP : va_P D vwCl (WM hm ad cI cZ (tk_up (tk_up g 7 (upd (g 7) x0.toNatClampNeg 0)) 2 (upd (g 2) x0.toNatClampNeg 0))) H := hP
  have hD : va_D A (WM hm ad cI cZ (tk_up (tk_up g 7 (upd (g 7) x0.toNatClampNeg 0)) 2 (upd (g 2) x0.toNatClampNeg 0))) := hD
  refine lv_aload_n hx hb dM_begin_14 rfl (lv_at hl 0 rfl) ?_
  refine va_get (D := D) (ci := 3) (v := .ref (ad 3)) (C := RM) (T := TM) (N := 33) hx hb hw inM hown hK hP 0 rfl rfl 3 (by decide) f16 (fun _ h9 => h9) rfl dM_begin_15 ?_
  refine lv_iload_n hx hb dM_begin_18 rfl (lv_at hl 1 rfl) ?_
  refine lv_iconst (v := 0) hx hb dM_begin_19 (by decide) ?_
  refine tkst_3 hx hb hK hP hD hS hi0 dM_begin_20 (fun H locs hP hD hS => ?_)
  have hP : va_P D vwCl (WM hm ad cI cZ (tk_up (tk_up (tk_up g 7 (upd (g 7) x0.toNatClampNeg 0)) 2 (upd (g 2) x0.toNatClampNeg 0)) 3 (upd (g 3) x0.toNatClampNeg 0))) H := hP
  have hD : va_D A (WM hm ad cI cZ (tk_up (tk_up (tk_up g 7 (upd (g 7) x0.toNatClampNeg 0)) 2 (upd (g 2) x0.toNatClampNeg 0)) 3 (upd (g 3) x0.toNatClampNeg 0))) := hD
  refine lv_aload_n hx hb dM_begin_21 rfl (lv_at hl 0 rfl) ?_
  refine va_get (D := D) (ci := 3) (v := .ref (ad 4)) (C := RM) (T := TM) (N := 33) hx hb hw inM hown hK hP 0 rfl rfl 4 (by decide) f19 (fun _ h9 => h9) rfl dM_begin_22 ?_
  refine lv_iload_n hx hb dM_begin_25 rfl (lv_at hl 1 rfl) ?_
  refine lv_iconst (v := 0) hx hb dM_begin_26 (by decide) ?_
  refine tkst_4 hx hb hK hP hD hS hi0 dM_begin_27 (fun H locs hP hD hS => ?_)
  have hP : va_P D vwCl (WM hm ad cI cZ (tk_up (tk_up (tk_up (tk_up g 7 (upd (g 7) x0.toNatClampNeg 0)) 2 (upd (g 2) x0.toNatClampNeg 0)) 3 (upd (g 3) x0.toNatClampNeg 0)) 4 (upd (g 4) x0.toNatClampNeg 0))) H := hP
  have hD : va_D A (WM hm ad cI cZ (tk_up (tk_up (tk_up (tk_up g 7 (upd (g 7) x0.toNatClampNeg 0)) 2 (upd (g 2) x0.toNatClampNeg 0)) 3 (upd (g 3) x0.toNatClampNeg 0)) 4 (upd (g 4) x0.toNatClampNeg 0))) := hD
  refine lv_aload_n hx hb dM_begin_28 rfl (lv_at hl 0 rfl) ?_
  refine va_get (D := D) (ci := 3) (v := .ref (ad 6)) (C := RM) (T := TM) (N := 33) hx hb hw inM hown hK hP 0 rfl rfl 6 (by decide) f25 (fun _ h9 => h9) rfl dM_begin_29 ?_
  refine lv_iload_n hx hb dM_begin_32 rfl (lv_at hl 1 rfl) ?_
  refine lv_bipush (v := 7) hx hb dM_begin_33 (by decide) ?_
  refine tkst_6 hx hb hK hP hD hS hi0 dM_begin_35 (fun H locs hP hD hS => ?_)
  have hP : va_P D vwCl (WM hm ad cI cZ (tk_up (tk_up (tk_up (tk_up (tk_up g 7 (upd (g 7) x0.toNatClampNeg 0)) 2 (upd (g 2) x0.toNatClampNeg 0)) 3 (upd (g 3) x0.toNatClampNeg 0)) 4 (upd (g 4) x0.toNatClampNeg 0)) 6 (upd (g 6) x0.toNatClampNeg 7))) H := hP
  have hD : va_D A (WM hm ad cI cZ (tk_up (tk_up (tk_up (tk_up (tk_up g 7 (upd (g 7) x0.toNatClampNeg 0)) 2 (upd (g 2) x0.toNatClampNeg 0)) 3 (upd (g 3) x0.toNatClampNeg 0)) 4 (upd (g 4) x0.toNatClampNeg 0)) 6 (upd (g 6) x0.toNatClampNeg 7))) := hD
  refine lv_aload_n hx hb dM_begin_36 rfl (lv_at hl 0 rfl) ?_
  refine va_get (D := D) (ci := 3) (v := .ref (ad 11)) (C := RM) (T := TM) (N := 33) hx hb hw inM hown hK hP 0 rfl rfl 11 (by decide) f41 (fun _ h9 => h9) rfl dM_begin_37 ?_
  refine lv_iload_n hx hb dM_begin_40 rfl (lv_at hl 1 rfl) ?_
  refine lv_iconst (v := 0) hx hb dM_begin_41 (by decide) ?_
  refine tkst_11 hx hb hK hP hD hS hi0 (x' := 0) rfl dM_begin_42 (fun H locs hP hD hS => ?_)
  have hP : va_P D vwCl (WM hm ad cI cZ (tk_up (tk_up (tk_up (tk_up (tk_up (tk_up g 7 (upd (g 7) x0.toNatClampNeg 0)) 2 (upd (g 2) x0.toNatClampNeg 0)) 3 (upd (g 3) x0.toNatClampNeg 0)) 4 (upd (g 4) x0.toNatClampNeg 0)) 6 (upd (g 6) x0.toNatClampNeg 7)) 11 (upd (g 11) x0.toNatClampNeg 0))) H := hP
  have hD : va_D A (WM hm ad cI cZ (tk_up (tk_up (tk_up (tk_up (tk_up (tk_up g 7 (upd (g 7) x0.toNatClampNeg 0)) 2 (upd (g 2) x0.toNatClampNeg 0)) 3 (upd (g 3) x0.toNatClampNeg 0)) 4 (upd (g 4) x0.toNatClampNeg 0)) 6 (upd (g 6) x0.toNatClampNeg 7)) 11 (upd (g 11) x0.toNatClampNeg 0))) := hD
  refine lv_aload_n hx hb dM_begin_43 rfl (lv_at hl 0 rfl) ?_
  refine va_get (D := D) (ci := 3) (v := .ref (ad 12)) (C := RM) (T := TM) (N := 33) hx hb hw inM hown hK hP 0 rfl rfl 12 (by decide) f44 (fun _ h9 => h9) rfl dM_begin_44 ?_
  refine lv_iload_n hx hb dM_begin_47 rfl (lv_at hl 1 rfl) ?_
  refine lv_iconst (v := 0) hx hb dM_begin_48 (by decide) ?_
  refine tkst_12 hx hb hK hP hD hS hi0 (x' := 0) rfl dM_begin_49 (fun H locs hP hD hS => ?_)
  have hP : va_P D vwCl (WM hm ad cI cZ (tk_up (tk_up (tk_up (tk_up (tk_up (tk_up (tk_up g 7 (upd (g 7) x0.toNatClampNeg 0)) 2 (upd (g 2) x0.toNatClampNeg 0)) 3 (upd (g 3) x0.toNatClampNeg 0)) 4 (upd (g 4) x0.toNatClampNeg 0)) 6 (upd (g 6) x0.toNatClampNeg 7)) 11 (upd (g 11) x0.toNatClampNeg 0)) 12 (upd (g 12) x0.toNatClampNeg 0))) H := hP
  have hD : va_D A (WM hm ad cI cZ (tk_up (tk_up (tk_up (tk_up (tk_up (tk_up (tk_up g 7 (upd (g 7) x0.toNatClampNeg 0)) 2 (upd (g 2) x0.toNatClampNeg 0)) 3 (upd (g 3) x0.toNatClampNeg 0)) 4 (upd (g 4) x0.toNatClampNeg 0)) 6 (upd (g 6) x0.toNatClampNeg 7)) 11 (upd (g 11) x0.toNatClampNeg 0)) 12 (upd (g 12) x0.toNatClampNeg 0))) := hD
  refine lv_aload_n hx hb dM_begin_50 rfl (lv_at hl 0 rfl) ?_
  refine va_get (D := D) (ci := 3) (v := .ref (ad 13)) (C := RM) (T := TM) (N := 33) hx hb hw inM hown hK hP 0 rfl rfl 13 (by decide) f47 (fun _ h9 => h9) rfl dM_begin_51 ?_
  refine lv_iload_n hx hb dM_begin_54 rfl (lv_at hl 1 rfl) ?_
  refine lv_iconst (v := 0) hx hb dM_begin_55 (by decide) ?_
  refine tkst_13 hx hb hK hP hD hS hi0 (x' := 0) rfl dM_begin_56 (fun H locs hP hD hS => ?_)
  have hP : va_P D vwCl (WM hm ad cI cZ (tk_up (tk_up (tk_up (tk_up (tk_up (tk_up (tk_up (tk_up g 7 (upd (g 7) x0.toNatClampNeg 0)) 2 (upd (g 2) x0.toNatClampNeg 0)) 3 (upd (g 3) x0.toNatClampNeg 0)) 4 (upd (g 4) x0.toNatClampNeg 0)) 6 (upd (g 6) x0.toNatClampNeg 7)) 11 (upd (g 11) x0.toNatClampNeg 0)) 12 (upd (g 12) x0.toNatClampNeg 0)) 13 (upd (g 13) x0.toNatClampNeg 0))) H := hP
  have hD : va_D A (WM hm ad cI cZ (tk_up (tk_up (tk_up (tk_up (tk_up (tk_up (tk_up (tk_up g 7 (upd (g 7) x0.toNatClampNeg 0)) 2 (upd (g 2) x0.toNatClampNeg 0)) 3 (upd (g 3) x0.toNatClampNeg 0)) 4 (upd (g 4) x0.toNatClampNeg 0)) 6 (upd (g 6) x0.toNatClampNeg 7)) 11 (upd (g 11) x0.toNatClampNeg 0)) 12 (upd (g 12) x0.toNatClampNeg 0)) 13 (upd (g 13) x0.toNatClampNeg 0))) := hD
  refine lv_aload_n hx hb dM_begin_57 rfl (lv_at hl 0 rfl) ?_
  refine va_get (D := D) (ci := 3) (v := .ref (ad 14)) (C := RM) (T := TM) (N := 33) hx hb hw inM hown hK hP 0 rfl rfl 14 (by decide) f50 (fun _ h9 => h9) rfl dM_begin_58 ?_
  refine lv_iload_n hx hb dM_begin_61 rfl (lv_at hl 1 rfl) ?_
  refine lv_iconst (v := 0) hx hb dM_begin_62 (by decide) ?_
  refine tkst_14 hx hb hK hP hD hS hi0 (x' := 0) rfl dM_begin_63 (fun H locs hP hD hS => ?_)
  have hP : va_P D vwCl (WM hm ad cI cZ (tk_up (tk_up (tk_up (tk_up (tk_up (tk_up (tk_up (tk_up (tk_up g 7 (upd (g 7) x0.toNatClampNeg 0)) 2 (upd (g 2) x0.toNatClampNeg 0)) 3 (upd (g 3) x0.toNatClampNeg 0)) 4 (upd (g 4) x0.toNatClampNeg 0)) 6 (upd (g 6) x0.toNatClampNeg 7)) 11 (upd (g 11) x0.toNatClampNeg 0)) 12 (upd (g 12) x0.toNatClampNeg 0)) 13 (upd (g 13) x0.toNatClampNeg 0)) 14 (upd (g 14) x0.toNatClampNeg 0))) H := hP
  have hD : va_D A (WM hm ad cI cZ (tk_up (tk_up (tk_up (tk_up (tk_up (tk_up (tk_up (tk_up (tk_up g 7 (upd (g 7) x0.toNatClampNeg 0)) 2 (upd (g 2) x0.toNatClampNeg 0)) 3 (upd (g 3) x0.toNatClampNeg 0)) 4 (upd (g 4) x0.toNatClampNeg 0)) 6 (upd (g 6) x0.toNatClampNeg 7)) 11 (upd (g 11) x0.toNatClampNeg 0)) 12 (upd (g 12) x0.toNatClampNeg 0)) 13 (upd (g 13) x0.toNatClampNeg 0)) 14 (upd (g 14) x0.toNatClampNeg 0))) := hD
  refine lv_aload_n hx hb dM_begin_64 rfl (lv_at hl 0 rfl) ?_
  refine va_get (D := D) (ci := 3) (v := .ref (ad 15)) (C := RM) (T := TM) (N := 33) hx hb hw inM hown hK hP 0 rfl rfl 15 (by decide) f53 (fun _ h9 => h9) rfl dM_begin_65 ?_
  refine lv_iload_n hx hb dM_begin_68 rfl (lv_at hl 1 rfl) ?_
  refine lv_iconst (v := 0) hx hb dM_begin_69 (by decide) ?_
  refine tkst_15 hx hb hK hP hD hS hi0 (x' := 0) rfl dM_begin_70 (fun H locs hP hD hS => ?_)
  have hP : va_P D vwCl (WM hm ad cI cZ (tk_up (tk_up (tk_up (tk_up (tk_up (tk_up (tk_up (tk_up (tk_up (tk_up g 7 (upd (g 7) x0.toNatClampNeg 0)) 2 (upd (g 2) x0.toNatClampNeg 0)) 3 (upd (g 3) x0.toNatClampNeg 0)) 4 (upd (g 4) x0.toNatClampNeg 0)) 6 (upd (g 6) x0.toNatClampNeg 7)) 11 (upd (g 11) x0.toNatClampNeg 0)) 12 (upd (g 12) x0.toNatClampNeg 0)) 13 (upd (g 13) x0.toNatClampNeg 0)) 14 (upd (g 14) x0.toNatClampNeg 0)) 15 (upd (g 15) x0.toNatClampNeg 0))) H := hP
  have hD : va_D A (WM hm ad cI cZ (tk_up (tk_up (tk_up (tk_up (tk_up (tk_up (tk_up (tk_up (tk_up (tk_up g 7 (upd (g 7) x0.toNatClampNeg 0)) 2 (upd (g 2) x0.toNatClampNeg 0)) 3 (upd (g 3) x0.toNatClampNeg 0)) 4 (upd (g 4) x0.toNatClampNeg 0)) 6 (upd (g 6) x0.toNatClampNeg 7)) 11 (upd (g 11) x0.toNatClampNeg 0)) 12 (upd (g 12) x0.toNatClampNeg 0)) 13 (upd (g 13) x0.toNatClampNeg 0)) 14 (upd (g 14) x0.toNatClampNeg 0)) 15 (upd (g 15) x0.toNatClampNeg 0))) := hD
  refine lv_aload_n hx hb dM_begin_71 rfl (lv_at hl 0 rfl) ?_
  refine va_get (D := D) (ci := 3) (v := .ref (ad 16)) (C := RM) (T := TM) (N := 33) hx hb hw inM hown hK hP 0 rfl rfl 16 (by decide) f56 (fun _ h9 => h9) rfl dM_begin_72 ?_
  refine lv_iload_n hx hb dM_begin_75 rfl (lv_at hl 1 rfl) ?_
  refine lv_iconst (v := 0) hx hb dM_begin_76 (by decide) ?_
  refine tkst_16 hx hb hK hP hD hS hi0 (x' := 0) rfl dM_begin_77 (fun H locs hP hD hS => ?_)
  have hP : va_P D vwCl (WM hm ad cI cZ (tk_up (tk_up (tk_up (tk_up (tk_up (tk_up (tk_up (tk_up (tk_up (tk_up (tk_up g 7 (upd (g 7) x0.toNatClampNeg 0)) 2 (upd (g 2) x0.toNatClampNeg 0)) 3 (upd (g 3) x0.toNatClampNeg 0)) 4 (upd (g 4) x0.toNatClampNeg 0)) 6 (upd (g 6) x0.toNatClampNeg 7)) 11 (upd (g 11) x0.toNatClampNeg 0)) 12 (upd (g 12) x0.toNatClampNeg 0)) 13 (upd (g 13) x0.toNatClampNeg 0)) 14 (upd (g 14) x0.toNatClampNeg 0)) 15 (upd (g 15) x0.toNatClampNeg 0)) 16 (upd (g 16) x0.toNatClampNeg 0))) H := hP
  have hD : va_D A (WM hm ad cI cZ (tk_up (tk_up (tk_up (tk_up (tk_up (tk_up (tk_up (tk_up (tk_up (tk_up (tk_up g 7 (upd (g 7) x0.toNatClampNeg 0)) 2 (upd (g 2) x0.toNatClampNeg 0)) 3 (upd (g 3) x0.toNatClampNeg 0)) 4 (upd (g 4) x0.toNatClampNeg 0)) 6 (upd (g 6) x0.toNatClampNeg 7)) 11 (upd (g 11) x0.toNatClampNeg 0)) 12 (upd (g 12) x0.toNatClampNeg 0)) 13 (upd (g 13) x0.toNatClampNeg 0)) 14 (upd (g 14) x0.toNatClampNeg 0)) 15 (upd (g 15) x0.toNatClampNeg 0)) 16 (upd (g 16) x0.toNatClampNeg 0))) := hD
  refine lv_aload_n hx hb dM_begin_78 rfl (lv_at hl 0 rfl) ?_
  refine va_get (D := D) (ci := 3) (v := .ref (ad 8)) (C := RM) (T := TM) (N := 33) hx hb hw inM hown hK hP 0 rfl rfl 8 (by decide) f32 (fun _ h9 => h9) rfl dM_begin_79 ?_
  refine lv_iload_n hx hb dM_begin_82 rfl (lv_at hl 1 rfl) ?_
  refine lv_iload_n hx hb dM_begin_83 rfl (lv_at hl 2 rfl) ?_
  refine lv_bipush (v := 8) hx hb dM_begin_84 (by decide) ?_
  refine lv_iand hx hb dM_begin_86 ?_
  refine lv_if_eq (tgt := 94) hx hb dM_begin_87 (by decide) (fun (h1_ : x1 &&& 8 = 0) => ?_) (fun (h1_ : ¬ (x1 &&& 8 = 0)) => ?_)
  · refine lv_iconst (v := 0) hx hb dM_begin_94 (by decide) ?_
    refine tkst_8 hx hb hK hP hD hS hi0 (x' := 0) rfl dM_begin_95 (fun H locs hP hD hS => ?_)
    have hP : va_P D vwCl (WM hm ad cI cZ (tk_up (tk_up (tk_up (tk_up (tk_up (tk_up (tk_up (tk_up (tk_up (tk_up (tk_up (tk_up g 7 (upd (g 7) x0.toNatClampNeg 0)) 2 (upd (g 2) x0.toNatClampNeg 0)) 3 (upd (g 3) x0.toNatClampNeg 0)) 4 (upd (g 4) x0.toNatClampNeg 0)) 6 (upd (g 6) x0.toNatClampNeg 7)) 11 (upd (g 11) x0.toNatClampNeg 0)) 12 (upd (g 12) x0.toNatClampNeg 0)) 13 (upd (g 13) x0.toNatClampNeg 0)) 14 (upd (g 14) x0.toNatClampNeg 0)) 15 (upd (g 15) x0.toNatClampNeg 0)) 16 (upd (g 16) x0.toNatClampNeg 0)) 8 (upd (g 8) x0.toNatClampNeg 0))) H := hP
    have hD : va_D A (WM hm ad cI cZ (tk_up (tk_up (tk_up (tk_up (tk_up (tk_up (tk_up (tk_up (tk_up (tk_up (tk_up (tk_up g 7 (upd (g 7) x0.toNatClampNeg 0)) 2 (upd (g 2) x0.toNatClampNeg 0)) 3 (upd (g 3) x0.toNatClampNeg 0)) 4 (upd (g 4) x0.toNatClampNeg 0)) 6 (upd (g 6) x0.toNatClampNeg 7)) 11 (upd (g 11) x0.toNatClampNeg 0)) 12 (upd (g 12) x0.toNatClampNeg 0)) 13 (upd (g 13) x0.toNatClampNeg 0)) 14 (upd (g 14) x0.toNatClampNeg 0)) 15 (upd (g 15) x0.toNatClampNeg 0)) 16 (upd (g 16) x0.toNatClampNeg 0)) 8 (upd (g 8) x0.toNatClampNeg 0))) := hD
    refine lv_aload_n hx hb dM_begin_96 rfl (lv_at hl 0 rfl) ?_
    refine va_get (D := D) (ci := 3) (v := .ref (ad 9)) (C := RM) (T := TM) (N := 33) hx hb hw inM hown hK hP 0 rfl rfl 9 (by decide) f35 (fun _ h9 => h9) rfl dM_begin_97 ?_
    refine lv_iload_n hx hb dM_begin_100 rfl (lv_at hl 1 rfl) ?_
    refine lv_iload_n hx hb dM_begin_101 rfl (lv_at hl 2 rfl) ?_
    refine lv_iconst (v := 2) hx hb dM_begin_102 (by decide) ?_
    refine lv_iand hx hb dM_begin_103 ?_
    refine lv_if_eq (tgt := 111) hx hb dM_begin_104 (by decide) (fun (h2_ : x1 &&& 2 = 0) => ?_) (fun (h2_ : ¬ (x1 &&& 2 = 0)) => ?_)
    · refine lv_iconst (v := 0) hx hb dM_begin_111 (by decide) ?_
      refine tkst_9 hx hb hK hP hD hS hi0 (x' := 0) rfl dM_begin_112 (fun H locs hP hD hS => ?_)
      have hP : va_P D vwCl (WM hm ad cI cZ (tk_up (tk_up (tk_up (tk_up (tk_up (tk_up (tk_up (tk_up (tk_up (tk_up (tk_up (tk_up (tk_up g 7 (upd (g 7) x0.toNatClampNeg 0)) 2 (upd (g 2) x0.toNatClampNeg 0)) 3 (upd (g 3) x0.toNatClampNeg 0)) 4 (upd (g 4) x0.toNatClampNeg 0)) 6 (upd (g 6) x0.toNatClampNeg 7)) 11 (upd (g 11) x0.toNatClampNeg 0)) 12 (upd (g 12) x0.toNatClampNeg 0)) 13 (upd (g 13) x0.toNatClampNeg 0)) 14 (upd (g 14) x0.toNatClampNeg 0)) 15 (upd (g 15) x0.toNatClampNeg 0)) 16 (upd (g 16) x0.toNatClampNeg 0)) 8 (upd (g 8) x0.toNatClampNeg 0)) 9 (upd (g 9) x0.toNatClampNeg 0))) H := hP
      have hD : va_D A (WM hm ad cI cZ (tk_up (tk_up (tk_up (tk_up (tk_up (tk_up (tk_up (tk_up (tk_up (tk_up (tk_up (tk_up (tk_up g 7 (upd (g 7) x0.toNatClampNeg 0)) 2 (upd (g 2) x0.toNatClampNeg 0)) 3 (upd (g 3) x0.toNatClampNeg 0)) 4 (upd (g 4) x0.toNatClampNeg 0)) 6 (upd (g 6) x0.toNatClampNeg 7)) 11 (upd (g 11) x0.toNatClampNeg 0)) 12 (upd (g 12) x0.toNatClampNeg 0)) 13 (upd (g 13) x0.toNatClampNeg 0)) 14 (upd (g 14) x0.toNatClampNeg 0)) 15 (upd (g 15) x0.toNatClampNeg 0)) 16 (upd (g 16) x0.toNatClampNeg 0)) 8 (upd (g 8) x0.toNatClampNeg 0)) 9 (upd (g 9) x0.toNatClampNeg 0))) := hD
      refine lv_aload_n hx hb dM_begin_113 rfl (lv_at hl 0 rfl) ?_
      refine va_get (D := D) (ci := 3) (v := .ref (ad 10)) (C := RM) (T := TM) (N := 33) hx hb hw inM hown hK hP 0 rfl rfl 10 (by decide) f38 (fun _ h9 => h9) rfl dM_begin_114 ?_
      refine lv_iload_n hx hb dM_begin_117 rfl (lv_at hl 1 rfl) ?_
      refine lv_iload_n hx hb dM_begin_118 rfl (lv_at hl 2 rfl) ?_
      refine lv_iconst (v := 1) hx hb dM_begin_119 (by decide) ?_
      refine lv_iand hx hb dM_begin_120 ?_
      refine lv_if_eq (tgt := 128) hx hb dM_begin_121 (by decide) (fun (h3_ : x1 &&& 1 = 0) => ?_) (fun (h3_ : ¬ (x1 &&& 1 = 0)) => ?_)
      · refine lv_iconst (v := 0) hx hb dM_begin_128 (by decide) ?_
        refine tkst_10 hx hb hK hP hD hS hi0 (x' := 0) rfl dM_begin_129 (fun H locs hP hD hS => ?_)
        have hP : va_P D vwCl (WM hm ad cI cZ (tk_up (tk_up (tk_up (tk_up (tk_up (tk_up (tk_up (tk_up (tk_up (tk_up (tk_up (tk_up (tk_up (tk_up g 7 (upd (g 7) x0.toNatClampNeg 0)) 2 (upd (g 2) x0.toNatClampNeg 0)) 3 (upd (g 3) x0.toNatClampNeg 0)) 4 (upd (g 4) x0.toNatClampNeg 0)) 6 (upd (g 6) x0.toNatClampNeg 7)) 11 (upd (g 11) x0.toNatClampNeg 0)) 12 (upd (g 12) x0.toNatClampNeg 0)) 13 (upd (g 13) x0.toNatClampNeg 0)) 14 (upd (g 14) x0.toNatClampNeg 0)) 15 (upd (g 15) x0.toNatClampNeg 0)) 16 (upd (g 16) x0.toNatClampNeg 0)) 8 (upd (g 8) x0.toNatClampNeg 0)) 9 (upd (g 9) x0.toNatClampNeg 0)) 10 (upd (g 10) x0.toNatClampNeg 0))) H := hP
        have hD : va_D A (WM hm ad cI cZ (tk_up (tk_up (tk_up (tk_up (tk_up (tk_up (tk_up (tk_up (tk_up (tk_up (tk_up (tk_up (tk_up (tk_up g 7 (upd (g 7) x0.toNatClampNeg 0)) 2 (upd (g 2) x0.toNatClampNeg 0)) 3 (upd (g 3) x0.toNatClampNeg 0)) 4 (upd (g 4) x0.toNatClampNeg 0)) 6 (upd (g 6) x0.toNatClampNeg 7)) 11 (upd (g 11) x0.toNatClampNeg 0)) 12 (upd (g 12) x0.toNatClampNeg 0)) 13 (upd (g 13) x0.toNatClampNeg 0)) 14 (upd (g 14) x0.toNatClampNeg 0)) 15 (upd (g 15) x0.toNatClampNeg 0)) 16 (upd (g 16) x0.toNatClampNeg 0)) 8 (upd (g 8) x0.toNatClampNeg 0)) 9 (upd (g 9) x0.toNatClampNeg 0)) 10 (upd (g 10) x0.toNatClampNeg 0))) := hD
        refine lv_aload_n hx hb dM_begin_130 rfl (lv_at hl 0 rfl) ?_
        refine va_get (D := D) (ci := 3) (v := .ref (ad 17)) (C := RM) (T := TM) (N := 33) hx hb hw inM hown hK hP 0 rfl rfl 17 (by decide) f59 (fun _ h9 => h9) rfl dM_begin_131 ?_
        refine lv_iload_n hx hb dM_begin_134 rfl (lv_at hl 1 rfl) ?_
        refine lv_iconst (v := 2) hx hb dM_begin_135 (by decide) ?_
        refine tkst_17 hx hb hK hP hD hS hi0 dM_begin_136 (fun H locs hP hD hS => ?_)
        have hP : va_P D vwCl (WM hm ad cI cZ (tk_up (tk_up (tk_up (tk_up (tk_up (tk_up (tk_up (tk_up (tk_up (tk_up (tk_up (tk_up (tk_up (tk_up (tk_up g 7 (upd (g 7) x0.toNatClampNeg 0)) 2 (upd (g 2) x0.toNatClampNeg 0)) 3 (upd (g 3) x0.toNatClampNeg 0)) 4 (upd (g 4) x0.toNatClampNeg 0)) 6 (upd (g 6) x0.toNatClampNeg 7)) 11 (upd (g 11) x0.toNatClampNeg 0)) 12 (upd (g 12) x0.toNatClampNeg 0)) 13 (upd (g 13) x0.toNatClampNeg 0)) 14 (upd (g 14) x0.toNatClampNeg 0)) 15 (upd (g 15) x0.toNatClampNeg 0)) 16 (upd (g 16) x0.toNatClampNeg 0)) 8 (upd (g 8) x0.toNatClampNeg 0)) 9 (upd (g 9) x0.toNatClampNeg 0)) 10 (upd (g 10) x0.toNatClampNeg 0)) 17 (upd (g 17) x0.toNatClampNeg 2))) H := hP
        have hD : va_D A (WM hm ad cI cZ (tk_up (tk_up (tk_up (tk_up (tk_up (tk_up (tk_up (tk_up (tk_up (tk_up (tk_up (tk_up (tk_up (tk_up (tk_up g 7 (upd (g 7) x0.toNatClampNeg 0)) 2 (upd (g 2) x0.toNatClampNeg 0)) 3 (upd (g 3) x0.toNatClampNeg 0)) 4 (upd (g 4) x0.toNatClampNeg 0)) 6 (upd (g 6) x0.toNatClampNeg 7)) 11 (upd (g 11) x0.toNatClampNeg 0)) 12 (upd (g 12) x0.toNatClampNeg 0)) 13 (upd (g 13) x0.toNatClampNeg 0)) 14 (upd (g 14) x0.toNatClampNeg 0)) 15 (upd (g 15) x0.toNatClampNeg 0)) 16 (upd (g 16) x0.toNatClampNeg 0)) 8 (upd (g 8) x0.toNatClampNeg 0)) 9 (upd (g 9) x0.toNatClampNeg 0)) 10 (upd (g 10) x0.toNatClampNeg 0)) 17 (upd (g 17) x0.toNatClampNeg 2))) := hD
        exact tk_vret hx hb hr hlk hP hD hS dM_begin_137 (congrArg (WM hm ad cI cZ) (by unfold tkM_begin_s; rw [if_pos h1_, if_pos h2_, if_pos h3_]))
      · refine lv_iconst (v := 1) hx hb dM_begin_124 (by decide) ?_
        refine lv_goto (tgt := 129) hx hb dM_begin_125 (by decide) ?_
        refine tkst_10 hx hb hK hP hD hS hi0 (x' := 1) rfl dM_begin_129 (fun H locs hP hD hS => ?_)
        have hP : va_P D vwCl (WM hm ad cI cZ (tk_up (tk_up (tk_up (tk_up (tk_up (tk_up (tk_up (tk_up (tk_up (tk_up (tk_up (tk_up (tk_up (tk_up g 7 (upd (g 7) x0.toNatClampNeg 0)) 2 (upd (g 2) x0.toNatClampNeg 0)) 3 (upd (g 3) x0.toNatClampNeg 0)) 4 (upd (g 4) x0.toNatClampNeg 0)) 6 (upd (g 6) x0.toNatClampNeg 7)) 11 (upd (g 11) x0.toNatClampNeg 0)) 12 (upd (g 12) x0.toNatClampNeg 0)) 13 (upd (g 13) x0.toNatClampNeg 0)) 14 (upd (g 14) x0.toNatClampNeg 0)) 15 (upd (g 15) x0.toNatClampNeg 0)) 16 (upd (g 16) x0.toNatClampNeg 0)) 8 (upd (g 8) x0.toNatClampNeg 0)) 9 (upd (g 9) x0.toNatClampNeg 0)) 10 (upd (g 10) x0.toNatClampNeg 1))) H := hP
        have hD : va_D A (WM hm ad cI cZ (tk_up (tk_up (tk_up (tk_up (tk_up (tk_up (tk_up (tk_up (tk_up (tk_up (tk_up (tk_up (tk_up (tk_up g 7 (upd (g 7) x0.toNatClampNeg 0)) 2 (upd (g 2) x0.toNatClampNeg 0)) 3 (upd (g 3) x0.toNatClampNeg 0)) 4 (upd (g 4) x0.toNatClampNeg 0)) 6 (upd (g 6) x0.toNatClampNeg 7)) 11 (upd (g 11) x0.toNatClampNeg 0)) 12 (upd (g 12) x0.toNatClampNeg 0)) 13 (upd (g 13) x0.toNatClampNeg 0)) 14 (upd (g 14) x0.toNatClampNeg 0)) 15 (upd (g 15) x0.toNatClampNeg 0)) 16 (upd (g 16) x0.toNatClampNeg 0)) 8 (upd (g 8) x0.toNatClampNeg 0)) 9 (upd (g 9) x0.toNatClampNeg 0)) 10 (upd (g 10) x0.toNatClampNeg 1))) := hD
        refine lv_aload_n hx hb dM_begin_130 rfl (lv_at hl 0 rfl) ?_
        refine va_get (D := D) (ci := 3) (v := .ref (ad 17)) (C := RM) (T := TM) (N := 33) hx hb hw inM hown hK hP 0 rfl rfl 17 (by decide) f59 (fun _ h9 => h9) rfl dM_begin_131 ?_
        refine lv_iload_n hx hb dM_begin_134 rfl (lv_at hl 1 rfl) ?_
        refine lv_iconst (v := 2) hx hb dM_begin_135 (by decide) ?_
        refine tkst_17 hx hb hK hP hD hS hi0 dM_begin_136 (fun H locs hP hD hS => ?_)
        have hP : va_P D vwCl (WM hm ad cI cZ (tk_up (tk_up (tk_up (tk_up (tk_up (tk_up (tk_up (tk_up (tk_up (tk_up (tk_up (tk_up (tk_up (tk_up (tk_up g 7 (upd (g 7) x0.toNatClampNeg 0)) 2 (upd (g 2) x0.toNatClampNeg 0)) 3 (upd (g 3) x0.toNatClampNeg 0)) 4 (upd (g 4) x0.toNatClampNeg 0)) 6 (upd (g 6) x0.toNatClampNeg 7)) 11 (upd (g 11) x0.toNatClampNeg 0)) 12 (upd (g 12) x0.toNatClampNeg 0)) 13 (upd (g 13) x0.toNatClampNeg 0)) 14 (upd (g 14) x0.toNatClampNeg 0)) 15 (upd (g 15) x0.toNatClampNeg 0)) 16 (upd (g 16) x0.toNatClampNeg 0)) 8 (upd (g 8) x0.toNatClampNeg 0)) 9 (upd (g 9) x0.toNatClampNeg 0)) 10 (upd (g 10) x0.toNatClampNeg 1)) 17 (upd (g 17) x0.toNatClampNeg 2))) H := hP
        have hD : va_D A (WM hm ad cI cZ (tk_up (tk_up (tk_up (tk_up (tk_up (tk_up (tk_up (tk_up (tk_up (tk_up (tk_up (tk_up (tk_up (tk_up (tk_up g 7 (upd (g 7) x0.toNatClampNeg 0)) 2 (upd (g 2) x0.toNatClampNeg 0)) 3 (upd (g 3) x0.toNatClampNeg 0)) 4 (upd (g 4) x0.toNatClampNeg 0)) 6 (upd (g 6) x0.toNatClampNeg 7)) 11 (upd (g 11) x0.toNatClampNeg 0)) 12 (upd (g 12) x0.toNatClampNeg 0)) 13 (upd (g 13) x0.toNatClampNeg 0)) 14 (upd (g 14) x0.toNatClampNeg 0)) 15 (upd (g 15) x0.toNatClampNeg 0)) 16 (upd (g 16) x0.toNatClampNeg 0)) 8 (upd (g 8) x0.toNatClampNeg 0)) 9 (upd (g 9) x0.toNatClampNeg 0)) 10 (upd (g 10) x0.toNatClampNeg 1)) 17 (upd (g 17) x0.toNatClampNeg 2))) := hD
        exact tk_vret hx hb hr hlk hP hD hS dM_begin_137 (congrArg (WM hm ad cI cZ) (by unfold tkM_begin_s; rw [if_pos h1_, if_pos h2_, if_neg h3_]))
    · refine lv_iconst (v := 1) hx hb dM_begin_107 (by decide) ?_
      refine lv_goto (tgt := 112) hx hb dM_begin_108 (by decide) ?_
      refine tkst_9 hx hb hK hP hD hS hi0 (x' := 1) rfl dM_begin_112 (fun H locs hP hD hS => ?_)
      have hP : va_P D vwCl (WM hm ad cI cZ (tk_up (tk_up (tk_up (tk_up (tk_up (tk_up (tk_up (tk_up (tk_up (tk_up (tk_up (tk_up (tk_up g 7 (upd (g 7) x0.toNatClampNeg 0)) 2 (upd (g 2) x0.toNatClampNeg 0)) 3 (upd (g 3) x0.toNatClampNeg 0)) 4 (upd (g 4) x0.toNatClampNeg 0)) 6 (upd (g 6) x0.toNatClampNeg 7)) 11 (upd (g 11) x0.toNatClampNeg 0)) 12 (upd (g 12) x0.toNatClampNeg 0)) 13 (upd (g 13) x0.toNatClampNeg 0)) 14 (upd (g 14) x0.toNatClampNeg 0)) 15 (upd (g 15) x0.toNatClampNeg 0)) 16 (upd (g 16) x0.toNatClampNeg 0)) 8 (upd (g 8) x0.toNatClampNeg 0)) 9 (upd (g 9) x0.toNatClampNeg 1))) H := hP
      have hD : va_D A (WM hm ad cI cZ (tk_up (tk_up (tk_up (tk_up (tk_up (tk_up (tk_up (tk_up (tk_up (tk_up (tk_up (tk_up (tk_up g 7 (upd (g 7) x0.toNatClampNeg 0)) 2 (upd (g 2) x0.toNatClampNeg 0)) 3 (upd (g 3) x0.toNatClampNeg 0)) 4 (upd (g 4) x0.toNatClampNeg 0)) 6 (upd (g 6) x0.toNatClampNeg 7)) 11 (upd (g 11) x0.toNatClampNeg 0)) 12 (upd (g 12) x0.toNatClampNeg 0)) 13 (upd (g 13) x0.toNatClampNeg 0)) 14 (upd (g 14) x0.toNatClampNeg 0)) 15 (upd (g 15) x0.toNatClampNeg 0)) 16 (upd (g 16) x0.toNatClampNeg 0)) 8 (upd (g 8) x0.toNatClampNeg 0)) 9 (upd (g 9) x0.toNatClampNeg 1))) := hD
      refine lv_aload_n hx hb dM_begin_113 rfl (lv_at hl 0 rfl) ?_
      refine va_get (D := D) (ci := 3) (v := .ref (ad 10)) (C := RM) (T := TM) (N := 33) hx hb hw inM hown hK hP 0 rfl rfl 10 (by decide) f38 (fun _ h9 => h9) rfl dM_begin_114 ?_
      refine lv_iload_n hx hb dM_begin_117 rfl (lv_at hl 1 rfl) ?_
      refine lv_iload_n hx hb dM_begin_118 rfl (lv_at hl 2 rfl) ?_
      refine lv_iconst (v := 1) hx hb dM_begin_119 (by decide) ?_
      refine lv_iand hx hb dM_begin_120 ?_
      refine lv_if_eq (tgt := 128) hx hb dM_begin_121 (by decide) (fun (h4_ : x1 &&& 1 = 0) => ?_) (fun (h4_ : ¬ (x1 &&& 1 = 0)) => ?_)
      · refine lv_iconst (v := 0) hx hb dM_begin_128 (by decide) ?_
        refine tkst_10 hx hb hK hP hD hS hi0 (x' := 0) rfl dM_begin_129 (fun H locs hP hD hS => ?_)
        have hP : va_P D vwCl (WM hm ad cI cZ (tk_up (tk_up (tk_up (tk_up (tk_up (tk_up (tk_up (tk_up (tk_up (tk_up (tk_up (tk_up (tk_up (tk_up g 7 (upd (g 7) x0.toNatClampNeg 0)) 2 (upd (g 2) x0.toNatClampNeg 0)) 3 (upd (g 3) x0.toNatClampNeg 0)) 4 (upd (g 4) x0.toNatClampNeg 0)) 6 (upd (g 6) x0.toNatClampNeg 7)) 11 (upd (g 11) x0.toNatClampNeg 0)) 12 (upd (g 12) x0.toNatClampNeg 0)) 13 (upd (g 13) x0.toNatClampNeg 0)) 14 (upd (g 14) x0.toNatClampNeg 0)) 15 (upd (g 15) x0.toNatClampNeg 0)) 16 (upd (g 16) x0.toNatClampNeg 0)) 8 (upd (g 8) x0.toNatClampNeg 0)) 9 (upd (g 9) x0.toNatClampNeg 1)) 10 (upd (g 10) x0.toNatClampNeg 0))) H := hP
        have hD : va_D A (WM hm ad cI cZ (tk_up (tk_up (tk_up (tk_up (tk_up (tk_up (tk_up (tk_up (tk_up (tk_up (tk_up (tk_up (tk_up (tk_up g 7 (upd (g 7) x0.toNatClampNeg 0)) 2 (upd (g 2) x0.toNatClampNeg 0)) 3 (upd (g 3) x0.toNatClampNeg 0)) 4 (upd (g 4) x0.toNatClampNeg 0)) 6 (upd (g 6) x0.toNatClampNeg 7)) 11 (upd (g 11) x0.toNatClampNeg 0)) 12 (upd (g 12) x0.toNatClampNeg 0)) 13 (upd (g 13) x0.toNatClampNeg 0)) 14 (upd (g 14) x0.toNatClampNeg 0)) 15 (upd (g 15) x0.toNatClampNeg 0)) 16 (upd (g 16) x0.toNatClampNeg 0)) 8 (upd (g 8) x0.toNatClampNeg 0)) 9 (upd (g 9) x0.toNatClampNeg 1)) 10 (upd (g 10) x0.toNatClampNeg 0))) := hD
        refine lv_aload_n hx hb dM_begin_130 rfl (lv_at hl 0 rfl) ?_
        refine va_get (D := D) (ci := 3) (v := .ref (ad 17)) (C := RM) (T := TM) (N := 33) hx hb hw inM hown hK hP 0 rfl rfl 17 (by decide) f59 (fun _ h9 => h9) rfl dM_begin_131 ?_
        refine lv_iload_n hx hb dM_begin_134 rfl (lv_at hl 1 rfl) ?_
        refine lv_iconst (v := 2) hx hb dM_begin_135 (by decide) ?_
        refine tkst_17 hx hb hK hP hD hS hi0 dM_begin_136 (fun H locs hP hD hS => ?_)
        have hP : va_P D vwCl (WM hm ad cI cZ (tk_up (tk_up (tk_up (tk_up (tk_up (tk_up (tk_up (tk_up (tk_up (tk_up (tk_up (tk_up (tk_up (tk_up (tk_up g 7 (upd (g 7) x0.toNatClampNeg 0)) 2 (upd (g 2) x0.toNatClampNeg 0)) 3 (upd (g 3) x0.toNatClampNeg 0)) 4 (upd (g 4) x0.toNatClampNeg 0)) 6 (upd (g 6) x0.toNatClampNeg 7)) 11 (upd (g 11) x0.toNatClampNeg 0)) 12 (upd (g 12) x0.toNatClampNeg 0)) 13 (upd (g 13) x0.toNatClampNeg 0)) 14 (upd (g 14) x0.toNatClampNeg 0)) 15 (upd (g 15) x0.toNatClampNeg 0)) 16 (upd (g 16) x0.toNatClampNeg 0)) 8 (upd (g 8) x0.toNatClampNeg 0)) 9 (upd (g 9) x0.toNatClampNeg 1)) 10 (upd (g 10) x0.toNatClampNeg 0)) 17 (upd (g 17) x0.toNatClampNeg 2))) H := hP
        have hD : va_D A (WM hm ad cI cZ (tk_up (tk_up (tk_up (tk_up (tk_up (tk_up (tk_up (tk_up (tk_up (tk_up (tk_up (tk_up (tk_up (tk_up (tk_up g 7 (upd (g 7) x0.toNatClampNeg 0)) 2 (upd (g 2) x0.toNatClampNeg 0)) 3 (upd (g 3) x0.toNatClampNeg 0)) 4 (upd (g 4) x0.toNatClampNeg 0)) 6 (upd (g 6) x0.toNatClampNeg 7)) 11 (upd (g 11) x0.toNatClampNeg 0)) 12 (upd (g 12) x0.toNatClampNeg 0)) 13 (upd (g 13) x0.toNatClampNeg 0)) 14 (upd (g 14) x0.toNatClampNeg 0)) 15 (upd (g 15) x0.toNatClampNeg 0)) 16 (upd (g 16) x0.toNatClampNeg 0)) 8 (upd (g 8) x0.toNatClampNeg 0)) 9 (upd (g 9) x0.toNatClampNeg 1)) 10 (upd (g 10) x0.toNatClampNeg 0)) 17 (upd (g 17) x0.toNatClampNeg 2))) := hD
        exact tk_vret hx hb hr hlk hP hD hS dM_begin_137 (congrArg (WM hm ad cI cZ) (by unfold tkM_begin_s; rw [if_pos h1_, if_neg h2_, if_pos h4_]))
      · refine lv_iconst (v := 1) hx hb dM_begin_124 (by decide) ?_
        refine lv_goto (tgt := 129) hx hb dM_begin_125 (by decide) ?_
        refine tkst_10 hx hb hK hP hD hS hi0 (x' := 1) rfl dM_begin_129 (fun H locs hP hD hS => ?_)
        have hP : va_P D vwCl (WM hm ad cI cZ (tk_up (tk_up (tk_up (tk_up (tk_up (tk_up (tk_up (tk_up (tk_up (tk_up (tk_up (tk_up (tk_up (tk_up g 7 (upd (g 7) x0.toNatClampNeg 0)) 2 (upd (g 2) x0.toNatClampNeg 0)) 3 (upd (g 3) x0.toNatClampNeg 0)) 4 (upd (g 4) x0.toNatClampNeg 0)) 6 (upd (g 6) x0.toNatClampNeg 7)) 11 (upd (g 11) x0.toNatClampNeg 0)) 12 (upd (g 12) x0.toNatClampNeg 0)) 13 (upd (g 13) x0.toNatClampNeg 0)) 14 (upd (g 14) x0.toNatClampNeg 0)) 15 (upd (g 15) x0.toNatClampNeg 0)) 16 (upd (g 16) x0.toNatClampNeg 0)) 8 (upd (g 8) x0.toNatClampNeg 0)) 9 (upd (g 9) x0.toNatClampNeg 1)) 10 (upd (g 10) x0.toNatClampNeg 1))) H := hP
        have hD : va_D A (WM hm ad cI cZ (tk_up (tk_up (tk_up (tk_up (tk_up (tk_up (tk_up (tk_up (tk_up (tk_up (tk_up (tk_up (tk_up (tk_up g 7 (upd (g 7) x0.toNatClampNeg 0)) 2 (upd (g 2) x0.toNatClampNeg 0)) 3 (upd (g 3) x0.toNatClampNeg 0)) 4 (upd (g 4) x0.toNatClampNeg 0)) 6 (upd (g 6) x0.toNatClampNeg 7)) 11 (upd (g 11) x0.toNatClampNeg 0)) 12 (upd (g 12) x0.toNatClampNeg 0)) 13 (upd (g 13) x0.toNatClampNeg 0)) 14 (upd (g 14) x0.toNatClampNeg 0)) 15 (upd (g 15) x0.toNatClampNeg 0)) 16 (upd (g 16) x0.toNatClampNeg 0)) 8 (upd (g 8) x0.toNatClampNeg 0)) 9 (upd (g 9) x0.toNatClampNeg 1)) 10 (upd (g 10) x0.toNatClampNeg 1))) := hD
        refine lv_aload_n hx hb dM_begin_130 rfl (lv_at hl 0 rfl) ?_
        refine va_get (D := D) (ci := 3) (v := .ref (ad 17)) (C := RM) (T := TM) (N := 33) hx hb hw inM hown hK hP 0 rfl rfl 17 (by decide) f59 (fun _ h9 => h9) rfl dM_begin_131 ?_
        refine lv_iload_n hx hb dM_begin_134 rfl (lv_at hl 1 rfl) ?_
        refine lv_iconst (v := 2) hx hb dM_begin_135 (by decide) ?_
        refine tkst_17 hx hb hK hP hD hS hi0 dM_begin_136 (fun H locs hP hD hS => ?_)
        have hP : va_P D vwCl (WM hm ad cI cZ (tk_up (tk_up (tk_up (tk_up (tk_up (tk_up (tk_up (tk_up (tk_up (tk_up (tk_up (tk_up (tk_up (tk_up (tk_up g 7 (upd (g 7) x0.toNatClampNeg 0)) 2 (upd (g 2) x0.toNatClampNeg 0)) 3 (upd (g 3) x0.toNatClampNeg 0)) 4 (upd (g 4) x0.toNatClampNeg 0)) 6 (upd (g 6) x0.toNatClampNeg 7)) 11 (upd (g 11) x0.toNatClampNeg 0)) 12 (upd (g 12) x0.toNatClampNeg 0)) 13 (upd (g 13) x0.toNatClampNeg 0)) 14 (upd (g 14) x0.toNatClampNeg 0)) 15 (upd (g 15) x0.toNatClampNeg 0)) 16 (upd (g 16) x0.toNatClampNeg 0)) 8 (upd (g 8) x0.toNatClampNeg 0)) 9 (upd (g 9) x0.toNatClampNeg 1)) 10 (upd (g 10) x0.toNatClampNeg 1)) 17 (upd (g 17) x0.toNatClampNeg 2))) H := hP
        have hD : va_D A (WM hm ad cI cZ (tk_up (tk_up (tk_up (tk_up (tk_up (tk_up (tk_up (tk_up (tk_up (tk_up (tk_up (tk_up (tk_up (tk_up (tk_up g 7 (upd (g 7) x0.toNatClampNeg 0)) 2 (upd (g 2) x0.toNatClampNeg 0)) 3 (upd (g 3) x0.toNatClampNeg 0)) 4 (upd (g 4) x0.toNatClampNeg 0)) 6 (upd (g 6) x0.toNatClampNeg 7)) 11 (upd (g 11) x0.toNatClampNeg 0)) 12 (upd (g 12) x0.toNatClampNeg 0)) 13 (upd (g 13) x0.toNatClampNeg 0)) 14 (upd (g 14) x0.toNatClampNeg 0)) 15 (upd (g 15) x0.toNatClampNeg 0)) 16 (upd (g 16) x0.toNatClampNeg 0)) 8 (upd (g 8) x0.toNatClampNeg 0)) 9 (upd (g 9) x0.toNatClampNeg 1)) 10 (upd (g 10) x0.toNatClampNeg 1)) 17 (upd (g 17) x0.toNatClampNeg 2))) := hD
        exact tk_vret hx hb hr hlk hP hD hS dM_begin_137 (congrArg (WM hm ad cI cZ) (by unfold tkM_begin_s; rw [if_pos h1_, if_neg h2_, if_neg h4_]))
  · refine lv_iconst (v := 1) hx hb dM_begin_90 (by decide) ?_
    refine lv_goto (tgt := 95) hx hb dM_begin_91 (by decide) ?_
    refine tkst_8 hx hb hK hP hD hS hi0 (x' := 1) rfl dM_begin_95 (fun H locs hP hD hS => ?_)
    have hP : va_P D vwCl (WM hm ad cI cZ (tk_up (tk_up (tk_up (tk_up (tk_up (tk_up (tk_up (tk_up (tk_up (tk_up (tk_up (tk_up g 7 (upd (g 7) x0.toNatClampNeg 0)) 2 (upd (g 2) x0.toNatClampNeg 0)) 3 (upd (g 3) x0.toNatClampNeg 0)) 4 (upd (g 4) x0.toNatClampNeg 0)) 6 (upd (g 6) x0.toNatClampNeg 7)) 11 (upd (g 11) x0.toNatClampNeg 0)) 12 (upd (g 12) x0.toNatClampNeg 0)) 13 (upd (g 13) x0.toNatClampNeg 0)) 14 (upd (g 14) x0.toNatClampNeg 0)) 15 (upd (g 15) x0.toNatClampNeg 0)) 16 (upd (g 16) x0.toNatClampNeg 0)) 8 (upd (g 8) x0.toNatClampNeg 1))) H := hP
    have hD : va_D A (WM hm ad cI cZ (tk_up (tk_up (tk_up (tk_up (tk_up (tk_up (tk_up (tk_up (tk_up (tk_up (tk_up (tk_up g 7 (upd (g 7) x0.toNatClampNeg 0)) 2 (upd (g 2) x0.toNatClampNeg 0)) 3 (upd (g 3) x0.toNatClampNeg 0)) 4 (upd (g 4) x0.toNatClampNeg 0)) 6 (upd (g 6) x0.toNatClampNeg 7)) 11 (upd (g 11) x0.toNatClampNeg 0)) 12 (upd (g 12) x0.toNatClampNeg 0)) 13 (upd (g 13) x0.toNatClampNeg 0)) 14 (upd (g 14) x0.toNatClampNeg 0)) 15 (upd (g 15) x0.toNatClampNeg 0)) 16 (upd (g 16) x0.toNatClampNeg 0)) 8 (upd (g 8) x0.toNatClampNeg 1))) := hD
    refine lv_aload_n hx hb dM_begin_96 rfl (lv_at hl 0 rfl) ?_
    refine va_get (D := D) (ci := 3) (v := .ref (ad 9)) (C := RM) (T := TM) (N := 33) hx hb hw inM hown hK hP 0 rfl rfl 9 (by decide) f35 (fun _ h9 => h9) rfl dM_begin_97 ?_
    refine lv_iload_n hx hb dM_begin_100 rfl (lv_at hl 1 rfl) ?_
    refine lv_iload_n hx hb dM_begin_101 rfl (lv_at hl 2 rfl) ?_
    refine lv_iconst (v := 2) hx hb dM_begin_102 (by decide) ?_
    refine lv_iand hx hb dM_begin_103 ?_
    refine lv_if_eq (tgt := 111) hx hb dM_begin_104 (by decide) (fun (h5_ : x1 &&& 2 = 0) => ?_) (fun (h5_ : ¬ (x1 &&& 2 = 0)) => ?_)
    · refine lv_iconst (v := 0) hx hb dM_begin_111 (by decide) ?_
      refine tkst_9 hx hb hK hP hD hS hi0 (x' := 0) rfl dM_begin_112 (fun H locs hP hD hS => ?_)
      have hP : va_P D vwCl (WM hm ad cI cZ (tk_up (tk_up (tk_up (tk_up (tk_up (tk_up (tk_up (tk_up (tk_up (tk_up (tk_up (tk_up (tk_up g 7 (upd (g 7) x0.toNatClampNeg 0)) 2 (upd (g 2) x0.toNatClampNeg 0)) 3 (upd (g 3) x0.toNatClampNeg 0)) 4 (upd (g 4) x0.toNatClampNeg 0)) 6 (upd (g 6) x0.toNatClampNeg 7)) 11 (upd (g 11) x0.toNatClampNeg 0)) 12 (upd (g 12) x0.toNatClampNeg 0)) 13 (upd (g 13) x0.toNatClampNeg 0)) 14 (upd (g 14) x0.toNatClampNeg 0)) 15 (upd (g 15) x0.toNatClampNeg 0)) 16 (upd (g 16) x0.toNatClampNeg 0)) 8 (upd (g 8) x0.toNatClampNeg 1)) 9 (upd (g 9) x0.toNatClampNeg 0))) H := hP
      have hD : va_D A (WM hm ad cI cZ (tk_up (tk_up (tk_up (tk_up (tk_up (tk_up (tk_up (tk_up (tk_up (tk_up (tk_up (tk_up (tk_up g 7 (upd (g 7) x0.toNatClampNeg 0)) 2 (upd (g 2) x0.toNatClampNeg 0)) 3 (upd (g 3) x0.toNatClampNeg 0)) 4 (upd (g 4) x0.toNatClampNeg 0)) 6 (upd (g 6) x0.toNatClampNeg 7)) 11 (upd (g 11) x0.toNatClampNeg 0)) 12 (upd (g 12) x0.toNatClampNeg 0)) 13 (upd (g 13) x0.toNatClampNeg 0)) 14 (upd (g 14) x0.toNatClampNeg 0)) 15 (upd (g 15) x0.toNatClampNeg 0)) 16 (upd (g 16) x0.toNatClampNeg 0)) 8 (upd (g 8) x0.toNatClampNeg 1)) 9 (upd (g 9) x0.toNatClampNeg 0))) := hD
      refine lv_aload_n hx hb dM_begin_113 rfl (lv_at hl 0 rfl) ?_
      refine va_get (D := D) (ci := 3) (v := .ref (ad 10)) (C := RM) (T := TM) (N := 33) hx hb hw inM hown hK hP 0 rfl rfl 10 (by decide) f38 (fun _ h9 => h9) rfl dM_begin_114 ?_
      refine lv_iload_n hx hb dM_begin_117 rfl (lv_at hl 1 rfl) ?_
      refine lv_iload_n hx hb dM_begin_118 rfl (lv_at hl 2 rfl) ?_
      refine lv_iconst (v := 1) hx hb dM_begin_119 (by decide) ?_
      refine lv_iand hx hb dM_begin_120 ?_
      refine lv_if_eq (tgt := 128) hx hb dM_begin_121 (by decide) (fun (h6_ : x1 &&& 1 = 0) => ?_) (fun (h6_ : ¬ (x1 &&& 1 = 0)) => ?_)
      · refine lv_iconst (v := 0) hx hb dM_begin_128 (by decide) ?_
        refine tkst_10 hx hb hK hP hD hS hi0 (x' := 0) rfl dM_begin_129 (fun H locs hP hD hS => ?_)
        have hP : va_P D vwCl (WM hm ad cI cZ (tk_up (tk_up (tk_up (tk_up (tk_up (tk_up (tk_up (tk_up (tk_up (tk_up (tk_up (tk_up (tk_up (tk_up g 7 (upd (g 7) x0.toNatClampNeg 0)) 2 (upd (g 2) x0.toNatClampNeg 0)) 3 (upd (g 3) x0.toNatClampNeg 0)) 4 (upd (g 4) x0.toNatClampNeg 0)) 6 (upd (g 6) x0.toNatClampNeg 7)) 11 (upd (g 11) x0.toNatClampNeg 0)) 12 (upd (g 12) x0.toNatClampNeg 0)) 13 (upd (g 13) x0.toNatClampNeg 0)) 14 (upd (g 14) x0.toNatClampNeg 0)) 15 (upd (g 15) x0.toNatClampNeg 0)) 16 (upd (g 16) x0.toNatClampNeg 0)) 8 (upd (g 8) x0.toNatClampNeg 1)) 9 (upd (g 9) x0.toNatClampNeg 0)) 10 (upd (g 10) x0.toNatClampNeg 0))) H := hP
        have hD : va_D A (WM hm ad cI cZ (tk_up (tk_up (tk_up (tk_up (tk_up (tk_up (tk_up (tk_up (tk_up (tk_up (tk_up (tk_up (tk_up (tk_up g 7 (upd (g 7) x0.toNatClampNeg 0)) 2 (upd (g 2) x0.toNatClampNeg 0)) 3 (upd (g 3) x0.toNatClampNeg 0)) 4 (upd (g 4) x0.toNatClampNeg 0)) 6 (upd (g 6) x0.toNatClampNeg 7)) 11 (upd (g 11) x0.toNatClampNeg 0)) 12 (upd (g 12) x0.toNatClampNeg 0)) 13 (upd (g 13) x0.toNatClampNeg 0)) 14 (upd (g 14) x0.toNatClampNeg 0)) 15 (upd (g 15) x0.toNatClampNeg 0)) 16 (upd (g 16) x0.toNatClampNeg 0)) 8 (upd (g 8) x0.toNatClampNeg 1)) 9 (upd (g 9) x0.toNatClampNeg 0)) 10 (upd (g 10) x0.toNatClampNeg 0))) := hD
        refine lv_aload_n hx hb dM_begin_130 rfl (lv_at hl 0 rfl) ?_
        refine va_get (D := D) (ci := 3) (v := .ref (ad 17)) (C := RM) (T := TM) (N := 33) hx hb hw inM hown hK hP 0 rfl rfl 17 (by decide) f59 (fun _ h9 => h9) rfl dM_begin_131 ?_
        refine lv_iload_n hx hb dM_begin_134 rfl (lv_at hl 1 rfl) ?_
        refine lv_iconst (v := 2) hx hb dM_begin_135 (by decide) ?_
        refine tkst_17 hx hb hK hP hD hS hi0 dM_begin_136 (fun H locs hP hD hS => ?_)
        have hP : va_P D vwCl (WM hm ad cI cZ (tk_up (tk_up (tk_up (tk_up (tk_up (tk_up (tk_up (tk_up (tk_up (tk_up (tk_up (tk_up (tk_up (tk_up (tk_up g 7 (upd (g 7) x0.toNatClampNeg 0)) 2 (upd (g 2) x0.toNatClampNeg 0)) 3 (upd (g 3) x0.toNatClampNeg 0)) 4 (upd (g 4) x0.toNatClampNeg 0)) 6 (upd (g 6) x0.toNatClampNeg 7)) 11 (upd (g 11) x0.toNatClampNeg 0)) 12 (upd (g 12) x0.toNatClampNeg 0)) 13 (upd (g 13) x0.toNatClampNeg 0)) 14 (upd (g 14) x0.toNatClampNeg 0)) 15 (upd (g 15) x0.toNatClampNeg 0)) 16 (upd (g 16) x0.toNatClampNeg 0)) 8 (upd (g 8) x0.toNatClampNeg 1)) 9 (upd (g 9) x0.toNatClampNeg 0)) 10 (upd (g 10) x0.toNatClampNeg 0)) 17 (upd (g 17) x0.toNatClampNeg 2))) H := hP
        have hD : va_D A (WM hm ad cI cZ (tk_up (tk_up (tk_up (tk_up (tk_up (tk_up (tk_up (tk_up (tk_up (tk_up (tk_up (tk_up (tk_up (tk_up (tk_up g 7 (upd (g 7) x0.toNatClampNeg 0)) 2 (upd (g 2) x0.toNatClampNeg 0)) 3 (upd (g 3) x0.toNatClampNeg 0)) 4 (upd (g 4) x0.toNatClampNeg 0)) 6 (upd (g 6) x0.toNatClampNeg 7)) 11 (upd (g 11) x0.toNatClampNeg 0)) 12 (upd (g 12) x0.toNatClampNeg 0)) 13 (upd (g 13) x0.toNatClampNeg 0)) 14 (upd (g 14) x0.toNatClampNeg 0)) 15 (upd (g 15) x0.toNatClampNeg 0)) 16 (upd (g 16) x0.toNatClampNeg 0)) 8 (upd (g 8) x0.toNatClampNeg 1)) 9 (upd (g 9) x0.toNatClampNeg 0)) 10 (upd (g 10) x0.toNatClampNeg 0)) 17 (upd (g 17) x0.toNatClampNeg 2))) := hD
        exact tk_vret hx hb hr hlk hP hD hS dM_begin_137 (congrArg (WM hm ad cI cZ) (by unfold tkM_begin_s; rw [if_neg h1_, if_pos h5_, if_pos h6_]))
      · refine lv_iconst (v := 1) hx hb dM_begin_124 (by decide) ?_
        refine lv_goto (tgt := 129) hx hb dM_begin_125 (by decide) ?_
        refine tkst_10 hx hb hK hP hD hS hi0 (x' := 1) rfl dM_begin_129 (fun H locs hP hD hS => ?_)
        have hP : va_P D vwCl (WM hm ad cI cZ (tk_up (tk_up (tk_up (tk_up (tk_up (tk_up (tk_up (tk_up (tk_up (tk_up (tk_up (tk_up (tk_up (tk_up g 7 (upd (g 7) x0.toNatClampNeg 0)) 2 (upd (g 2) x0.toNatClampNeg 0)) 3 (upd (g 3) x0.toNatClampNeg 0)) 4 (upd (g 4) x0.toNatClampNeg 0)) 6 (upd (g 6) x0.toNatClampNeg 7)) 11 (upd (g 11) x0.toNatClampNeg 0)) 12 (upd (g 12) x0.toNatClampNeg 0)) 13 (upd (g 13) x0.toNatClampNeg 0)) 14 (upd (g 14) x0.toNatClampNeg 0)) 15 (upd (g 15) x0.toNatClampNeg 0)) 16 (upd (g 16) x0.toNatClampNeg 0)) 8 (upd (g 8) x0.toNatClampNeg 1)) 9 (upd (g 9) x0.toNatClampNeg 0)) 10 (upd (g 10) x0.toNatClampNeg 1))) H := hP
        have hD : va_D A (WM hm ad cI cZ (tk_up (tk_up (tk_up (tk_up (tk_up (tk_up (tk_up (tk_up (tk_up (tk_up (tk_up (tk_up (tk_up (tk_up g 7 (upd (g 7) x0.toNatClampNeg 0)) 2 (upd (g 2) x0.toNatClampNeg 0)) 3 (upd (g 3) x0.toNatClampNeg 0)) 4 (upd (g 4) x0.toNatClampNeg 0)) 6 (upd (g 6) x0.toNatClampNeg 7)) 11 (upd (g 11) x0.toNatClampNeg 0)) 12 (upd (g 12) x0.toNatClampNeg 0)) 13 (upd (g 13) x0.toNatClampNeg 0)) 14 (upd (g 14) x0.toNatClampNeg 0)) 15 (upd (g 15) x0.toNatClampNeg 0)) 16 (upd (g 16) x0.toNatClampNeg 0)) 8 (upd (g 8) x0.toNatClampNeg 1)) 9 (upd (g 9) x0.toNatClampNeg 0)) 10 (upd (g 10) x0.toNatClampNeg 1))) := hD
        refine lv_aload_n hx hb dM_begin_130 rfl (lv_at hl 0 rfl) ?_
        refine va_get (D := D) (ci := 3) (v := .ref (ad 17)) (C := RM) (T := TM) (N := 33) hx hb hw inM hown hK hP 0 rfl rfl 17 (by decide) f59 (fun _ h9 => h9) rfl dM_begin_131 ?_
        refine lv_iload_n hx hb dM_begin_134 rfl (lv_at hl 1 rfl) ?_
        refine lv_iconst (v := 2) hx hb dM_begin_135 (by decide) ?_
        refine tkst_17 hx hb hK hP hD hS hi0 dM_begin_136 (fun H locs hP hD hS => ?_)
        have hP : va_P D vwCl (WM hm ad cI cZ (tk_up (tk_up (tk_up (tk_up (tk_up (tk_up (tk_up (tk_up (tk_up (tk_up (tk_up (tk_up (tk_up (tk_up (tk_up g 7 (upd (g 7) x0.toNatClampNeg 0)) 2 (upd (g 2) x0.toNatClampNeg 0)) 3 (upd (g 3) x0.toNatClampNeg 0)) 4 (upd (g 4) x0.toNatClampNeg 0)) 6 (upd (g 6) x0.toNatClampNeg 7)) 11 (upd (g 11) x0.toNatClampNeg 0)) 12 (upd (g 12) x0.toNatClampNeg 0)) 13 (upd (g 13) x0.toNatClampNeg 0)) 14 (upd (g 14) x0.toNatClampNeg 0)) 15 (upd (g 15) x0.toNatClampNeg 0)) 16 (upd (g 16) x0.toNatClampNeg 0)) 8 (upd (g 8) x0.toNatClampNeg 1)) 9 (upd (g 9) x0.toNatClampNeg 0)) 10 (upd (g 10) x0.toNatClampNeg 1)) 17 (upd (g 17) x0.toNatClampNeg 2))) H := hP
        have hD : va_D A (WM hm ad cI cZ (tk_up (tk_up (tk_up (tk_up (tk_up (tk_up (tk_up (tk_up (tk_up (tk_up (tk_up (tk_up (tk_up (tk_up (tk_up g 7 (upd (g 7) x0.toNatClampNeg 0)) 2 (upd (g 2) x0.toNatClampNeg 0)) 3 (upd (g 3) x0.toNatClampNeg 0)) 4 (upd (g 4) x0.toNatClampNeg 0)) 6 (upd (g 6) x0.toNatClampNeg 7)) 11 (upd (g 11) x0.toNatClampNeg 0)) 12 (upd (g 12) x0.toNatClampNeg 0)) 13 (upd (g 13) x0.toNatClampNeg 0)) 14 (upd (g 14) x0.toNatClampNeg 0)) 15 (upd (g 15) x0.toNatClampNeg 0)) 16 (upd (g 16) x0.toNatClampNeg 0)) 8 (upd (g 8) x0.toNatClampNeg 1)) 9 (upd (g 9) x0.toNatClampNeg 0)) 10 (upd (g 10) x0.toNatClampNeg 1)) 17 (upd (g 17) x0.toNatClampNeg 2))) := hD
        exact tk_vret hx hb hr hlk hP hD hS dM_begin_137 (congrArg (WM hm ad cI cZ) (by unfold tkM_begin_s; rw [if_neg h1_, if_pos h5_, if_neg h6_]))
    · refine lv_iconst (v := 1) hx hb dM_begin_107 (by decide) ?_
      refine lv_goto (tgt := 112) hx hb dM_begin_108 (by decide) ?_
      refine tkst_9 hx hb hK hP hD hS hi0 (x' := 1) rfl dM_begin_112 (fun H locs hP hD hS => ?_)
      have hP : va_P D vwCl (WM hm ad cI cZ (tk_up (tk_up (tk_up (tk_up (tk_up (tk_up (tk_up (tk_up (tk_up (tk_up (tk_up (tk_up (tk_up g 7 (upd (g 7) x0.toNatClampNeg 0)) 2 (upd (g 2) x0.toNatClampNeg 0)) 3 (upd (g 3) x0.toNatClampNeg 0)) 4 (upd (g 4) x0.toNatClampNeg 0)) 6 (upd (g 6) x0.toNatClampNeg 7)) 11 (upd (g 11) x0.toNatClampNeg 0)) 12 (upd (g 12) x0.toNatClampNeg 0)) 13 (upd (g 13) x0.toNatClampNeg 0)) 14 (upd (g 14) x0.toNatClampNeg 0)) 15 (upd (g 15) x0.toNatClampNeg 0)) 16 (upd (g 16) x0.toNatClampNeg 0)) 8 (upd (g 8) x0.toNatClampNeg 1)) 9 (upd (g 9) x0.toNatClampNeg 1))) H := hP
      have hD : va_D A (WM hm ad cI cZ (tk_up (tk_up (tk_up (tk_up (tk_up (tk_up (tk_up (tk_up (tk_up (tk_up (tk_up (tk_up (tk_up g 7 (upd (g 7) x0.toNatClampNeg 0)) 2 (upd (g 2) x0.toNatClampNeg 0)) 3 (upd (g 3) x0.toNatClampNeg 0)) 4 (upd (g 4) x0.toNatClampNeg 0)) 6 (upd (g 6) x0.toNatClampNeg 7)) 11 (upd (g 11) x0.toNatClampNeg 0)) 12 (upd (g 12) x0.toNatClampNeg 0)) 13 (upd (g 13) x0.toNatClampNeg 0)) 14 (upd (g 14) x0.toNatClampNeg 0)) 15 (upd (g 15) x0.toNatClampNeg 0)) 16 (upd (g 16) x0.toNatClampNeg 0)) 8 (upd (g 8) x0.toNatClampNeg 1)) 9 (upd (g 9) x0.toNatClampNeg 1))) := hD
      refine lv_aload_n hx hb dM_begin_113 rfl (lv_at hl 0 rfl) ?_
      refine va_get (D := D) (ci := 3) (v := .ref (ad 10)) (C := RM) (T := TM) (N := 33) hx hb hw inM hown hK hP 0 rfl rfl 10 (by decide) f38 (fun _ h9 => h9) rfl dM_begin_114 ?_
      refine lv_iload_n hx hb dM_begin_117 rfl (lv_at hl 1 rfl) ?_
      refine lv_iload_n hx hb dM_begin_118 rfl (lv_at hl 2 rfl) ?_
      refine lv_iconst (v := 1) hx hb dM_begin_119 (by decide) ?_
      refine lv_iand hx hb dM_begin_120 ?_
      refine lv_if_eq (tgt := 128) hx hb dM_begin_121 (by decide) (fun (h7_ : x1 &&& 1 = 0) => ?_) (fun (h7_ : ¬ (x1 &&& 1 = 0)) => ?_)
      · refine lv_iconst (v := 0) hx hb dM_begin_128 (by decide) ?_
        refine tkst_10 hx hb hK hP hD hS hi0 (x' := 0) rfl dM_begin_129 (fun H locs hP hD hS => ?_)
        have hP : va_P D vwCl (WM hm ad cI cZ (tk_up (tk_up (tk_up (tk_up (tk_up (tk_up (tk_up (tk_up (tk_up (tk_up (tk_up (tk_up (tk_up (tk_up g 7 (upd (g 7) x0.toNatClampNeg 0)) 2 (upd (g 2) x0.toNatClampNeg 0)) 3 (upd (g 3) x0.toNatClampNeg 0)) 4 (upd (g 4) x0.toNatClampNeg 0)) 6 (upd (g 6) x0.toNatClampNeg 7)) 11 (upd (g 11) x0.toNatClampNeg 0)) 12 (upd (g 12) x0.toNatClampNeg 0)) 13 (upd (g 13) x0.toNatClampNeg 0)) 14 (upd (g 14) x0.toNatClampNeg 0)) 15 (upd (g 15) x0.toNatClampNeg 0)) 16 (upd (g 16) x0.toNatClampNeg 0)) 8 (upd (g 8) x0.toNatClampNeg 1)) 9 (upd (g 9) x0.toNatClampNeg 1)) 10 (upd (g 10) x0.toNatClampNeg 0))) H := hP
        have hD : va_D A (WM hm ad cI cZ (tk_up (tk_up (tk_up (tk_up (tk_up (tk_up (tk_up (tk_up (tk_up (tk_up (tk_up (tk_up (tk_up (tk_up g 7 (upd (g 7) x0.toNatClampNeg 0)) 2 (upd (g 2) x0.toNatClampNeg 0)) 3 (upd (g 3) x0.toNatClampNeg 0)) 4 (upd (g 4) x0.toNatClampNeg 0)) 6 (upd (g 6) x0.toNatClampNeg 7)) 11 (upd (g 11) x0.toNatClampNeg 0)) 12 (upd (g 12) x0.toNatClampNeg 0)) 13 (upd (g 13) x0.toNatClampNeg 0)) 14 (upd (g 14) x0.toNatClampNeg 0)) 15 (upd (g 15) x0.toNatClampNeg 0)) 16 (upd (g 16) x0.toNatClampNeg 0)) 8 (upd (g 8) x0.toNatClampNeg 1)) 9 (upd (g 9) x0.toNatClampNeg 1)) 10 (upd (g 10) x0.toNatClampNeg 0))) := hD
        refine lv_aload_n hx hb dM_begin_130 rfl (lv_at hl 0 rfl) ?_
        refine va_get (D := D) (ci := 3) (v := .ref (ad 17)) (C := RM) (T := TM) (N := 33) hx hb hw inM hown hK hP 0 rfl rfl 17 (by decide) f59 (fun _ h9 => h9) rfl dM_begin_131 ?_
        refine lv_iload_n hx hb dM_begin_134 rfl (lv_at hl 1 rfl) ?_
        refine lv_iconst (v := 2) hx hb dM_begin_135 (by decide) ?_
        refine tkst_17 hx hb hK hP hD hS hi0 dM_begin_136 (fun H locs hP hD hS => ?_)
        have hP : va_P D vwCl (WM hm ad cI cZ (tk_up (tk_up (tk_up (tk_up (tk_up (tk_up (tk_up (tk_up (tk_up (tk_up (tk_up (tk_up (tk_up (tk_up (tk_up g 7 (upd (g 7) x0.toNatClampNeg 0)) 2 (upd (g 2) x0.toNatClampNeg 0)) 3 (upd (g 3) x0.toNatClampNeg 0)) 4 (upd (g 4) x0.toNatClampNeg 0)) 6 (upd (g 6) x0.toNatClampNeg 7)) 11 (upd (g 11) x0.toNatClampNeg 0)) 12 (upd (g 12) x0.toNatClampNeg 0)) 13 (upd (g 13) x0.toNatClampNeg 0)) 14 (upd (g 14) x0.toNatClampNeg 0)) 15 (upd (g 15) x0.toNatClampNeg 0)) 16 (upd (g 16) x0.toNatClampNeg 0)) 8 (upd (g 8) x0.toNatClampNeg 1)) 9 (upd (g 9) x0.toNatClampNeg 1)) 10 (upd (g 10) x0.toNatClampNeg 0)) 17 (upd (g 17) x0.toNatClampNeg 2))) H := hP
        have hD : va_D A (WM hm ad cI cZ (tk_up (tk_up (tk_up (tk_up (tk_up (tk_up (tk_up (tk_up (tk_up (tk_up (tk_up (tk_up (tk_up (tk_up (tk_up g 7 (upd (g 7) x0.toNatClampNeg 0)) 2 (upd (g 2) x0.toNatClampNeg 0)) 3 (upd (g 3) x0.toNatClampNeg 0)) 4 (upd (g 4) x0.toNatClampNeg 0)) 6 (upd (g 6) x0.toNatClampNeg 7)) 11 (upd (g 11) x0.toNatClampNeg 0)) 12 (upd (g 12) x0.toNatClampNeg 0)) 13 (upd (g 13) x0.toNatClampNeg 0)) 14 (upd (g 14) x0.toNatClampNeg 0)) 15 (upd (g 15) x0.toNatClampNeg 0)) 16 (upd (g 16) x0.toNatClampNeg 0)) 8 (upd (g 8) x0.toNatClampNeg 1)) 9 (upd (g 9) x0.toNatClampNeg 1)) 10 (upd (g 10) x0.toNatClampNeg 0)) 17 (upd (g 17) x0.toNatClampNeg 2))) := hD
        exact tk_vret hx hb hr hlk hP hD hS dM_begin_137 (congrArg (WM hm ad cI cZ) (by unfold tkM_begin_s; rw [if_neg h1_, if_neg h5_, if_pos h7_]))
      · refine lv_iconst (v := 1) hx hb dM_begin_124 (by decide) ?_
        refine lv_goto (tgt := 129) hx hb dM_begin_125 (by decide) ?_
        refine tkst_10 hx hb hK hP hD hS hi0 (x' := 1) rfl dM_begin_129 (fun H locs hP hD hS => ?_)
        have hP : va_P D vwCl (WM hm ad cI cZ (tk_up (tk_up (tk_up (tk_up (tk_up (tk_up (tk_up (tk_up (tk_up (tk_up (tk_up (tk_up (tk_up (tk_up g 7 (upd (g 7) x0.toNatClampNeg 0)) 2 (upd (g 2) x0.toNatClampNeg 0)) 3 (upd (g 3) x0.toNatClampNeg 0)) 4 (upd (g 4) x0.toNatClampNeg 0)) 6 (upd (g 6) x0.toNatClampNeg 7)) 11 (upd (g 11) x0.toNatClampNeg 0)) 12 (upd (g 12) x0.toNatClampNeg 0)) 13 (upd (g 13) x0.toNatClampNeg 0)) 14 (upd (g 14) x0.toNatClampNeg 0)) 15 (upd (g 15) x0.toNatClampNeg 0)) 16 (upd (g 16) x0.toNatClampNeg 0)) 8 (upd (g 8) x0.toNatClampNeg 1)) 9 (upd (g 9) x0.toNatClampNeg 1)) 10 (upd (g 10) x0.toNatClampNeg 1))) H := hP
        have hD : va_D A (WM hm ad cI cZ (tk_up (tk_up (tk_up (tk_up (tk_up (tk_up (tk_up (tk_up (tk_up (tk_up (tk_up (tk_up (tk_up (tk_up g 7 (upd (g 7) x0.toNatClampNeg 0)) 2 (upd (g 2) x0.toNatClampNeg 0)) 3 (upd (g 3) x0.toNatClampNeg 0)) 4 (upd (g 4) x0.toNatClampNeg 0)) 6 (upd (g 6) x0.toNatClampNeg 7)) 11 (upd (g 11) x0.toNatClampNeg 0)) 12 (upd (g 12) x0.toNatClampNeg 0)) 13 (upd (g 13) x0.toNatClampNeg 0)) 14 (upd (g 14) x0.toNatClampNeg 0)) 15 (upd (g 15) x0.toNatClampNeg 0)) 16 (upd (g 16) x0.toNatClampNeg 0)) 8 (upd (g 8) x0.toNatClampNeg 1)) 9 (upd (g 9) x0.toNatClampNeg 1)) 10 (upd (g 10) x0.toNatClampNeg 1))) := hD
        refine lv_aload_n hx hb dM_begin_130 rfl (lv_at hl 0 rfl) ?_
        refine va_get (D := D) (ci := 3) (v := .ref (ad 17)) (C := RM) (T := TM) (N := 33) hx hb hw inM hown hK hP 0 rfl rfl 17 (by decide) f59 (fun _ h9 => h9) rfl dM_begin_131 ?_
        refine lv_iload_n hx hb dM_begin_134 rfl (lv_at hl 1 rfl) ?_
        refine lv_iconst (v := 2) hx hb dM_begin_135 (by decide) ?_
        refine tkst_17 hx hb hK hP hD hS hi0 dM_begin_136 (fun H locs hP hD hS => ?_)
        have hP : va_P D vwCl (WM hm ad cI cZ (tk_up (tk_up (tk_up (tk_up (tk_up (tk_up (tk_up (tk_up (tk_up (tk_up (tk_up (tk_up (tk_up (tk_up (tk_up g 7 (upd (g 7) x0.toNatClampNeg 0)) 2 (upd (g 2) x0.toNatClampNeg 0)) 3 (upd (g 3) x0.toNatClampNeg 0)) 4 (upd (g 4) x0.toNatClampNeg 0)) 6 (upd (g 6) x0.toNatClampNeg 7)) 11 (upd (g 11) x0.toNatClampNeg 0)) 12 (upd (g 12) x0.toNatClampNeg 0)) 13 (upd (g 13) x0.toNatClampNeg 0)) 14 (upd (g 14) x0.toNatClampNeg 0)) 15 (upd (g 15) x0.toNatClampNeg 0)) 16 (upd (g 16) x0.toNatClampNeg 0)) 8 (upd (g 8) x0.toNatClampNeg 1)) 9 (upd (g 9) x0.toNatClampNeg 1)) 10 (upd (g 10) x0.toNatClampNeg 1)) 17 (upd (g 17) x0.toNatClampNeg 2))) H := hP
        have hD : va_D A (WM hm ad cI cZ (tk_up (tk_up (tk_up (tk_up (tk_up (tk_up (tk_up (tk_up (tk_up (tk_up (tk_up (tk_up (tk_up (tk_up (tk_up g 7 (upd (g 7) x0.toNatClampNeg 0)) 2 (upd (g 2) x0.toNatClampNeg 0)) 3 (upd (g 3) x0.toNatClampNeg 0)) 4 (upd (g 4) x0.toNatClampNeg 0)) 6 (upd (g 6) x0.toNatClampNeg 7)) 11 (upd (g 11) x0.toNatClampNeg 0)) 12 (upd (g 12) x0.toNatClampNeg 0)) 13 (upd (g 13) x0.toNatClampNeg 0)) 14 (upd (g 14) x0.toNatClampNeg 0)) 15 (upd (g 15) x0.toNatClampNeg 0)) 16 (upd (g 16) x0.toNatClampNeg 0)) 8 (upd (g 8) x0.toNatClampNeg 1)) 9 (upd (g 9) x0.toNatClampNeg 1)) 10 (upd (g 10) x0.toNatClampNeg 1)) 17 (upd (g 17) x0.toNatClampNeg 2))) := hD
        exact tk_vret hx hb hr hlk hP hD hS dM_begin_137 (congrArg (WM hm ad cI cZ) (by unfold tkM_begin_s; rw [if_neg h1_, if_neg h5_, if_neg h7_]))
def tkM_rule_s (g : Nat → Nat → Int32) (x0 x1 : Int32) : Nat → Nat → Int32 :=
  if x1 >>> ((5 : Int32) &&& 31) = 1 then (if tkM_firstHeld_r g x0 < 0 then g
    else tk_up (tk_up g 4 (upd (g 4) x0.toNatClampNeg ((g 4 x0.toNatClampNeg) &&& (((1 : Int32) <<< ((tkM_firstHeld_r g x0) &&& 31)) ^^^ (-1))))) 6 (upd (g 6) x0.toNatClampNeg (g 6 x0.toNatClampNeg)))
  else if x1 >>> ((5 : Int32) &&& 31) = 5 then (if tkM_firstHeld_r g x0 < 0 then g
      else tk_up (tk_up g 4 (upd (g 4) x0.toNatClampNeg ((g 4 x0.toNatClampNeg) &&& (((1 : Int32) <<< ((tkM_firstHeld_r g x0) &&& 31)) ^^^ (-1))))) 6 (upd (g 6) x0.toNatClampNeg (tkM_firstHeld_r g x0)))
    else if x1 >>> ((5 : Int32) &&& 31) = 3 then tk_up (tk_up g 4 (upd (g 4) x0.toNatClampNeg ((g 4 x0.toNatClampNeg) &&& (((1 : Int32) <<< ((x1 &&& 7) &&& 31)) ^^^ (-1))))) 6 (upd (g 6) x0.toNatClampNeg (g 6 x0.toNatClampNeg))
      else if x1 >>> ((5 : Int32) &&& 31) = 7 then tk_up (tk_up g 4 (upd (g 4) x0.toNatClampNeg ((g 4 x0.toNatClampNeg) &&& (((1 : Int32) <<< ((x1 &&& 7) &&& 31)) ^^^ (-1))))) 6 (upd (g 6) x0.toNatClampNeg (x1 &&& 7))
        else if x1 >>> ((5 : Int32) &&& 31) = 6 then tk_up g 6 (upd (g 6) x0.toNatClampNeg (x1 &&& 7))
          else if x1 >>> ((5 : Int32) &&& 31) = 2 then g
            else if x1 >>> ((5 : Int32) &&& 31) = 4 then tk_up g 14 (upd (g 14) x0.toNatClampNeg 1)
              else tk_up g 14 (upd (g 14) x0.toNatClampNeg 0)
set_option maxHeartbeats 1000000 in
set_option maxRecDepth 100000 in
theorem kM_rule (l : Launch) (D : va_G) (hm : Nat) (ad : Nat → Nat) (cI cZ : ClassId) (g : Nat → Nat → Int32) (x0 x1 : Int32) (hi0 : vp_in x0 2) : tk_M l yM_rule wsM_rule { frames := 2, cells := 0, slots := 0, locals := 45 } D [(cI, .int), (cZ, .boolean)] [.ref hm, .int x0, .int x1] (WM hm ad cI cZ g) (WM hm ad cI cZ (tkM_rule_s g x0 x1)) none := by
  refine tk_M.of (cc := cM_rule) (maxL := 6) (ret := none) (by decide) rfl (Nat.le_of_ble_eq_true rfl) ?_
  intro p e s m below meth co A H locs ls hB hK hN hA hP hD hS hl
  obtain ⟨hx, hb, hr, hml, hown, hlk, hnm, hts⟩ := hB
  have hown : s.vm.findClass RM = some m.cls := hown
  have hl : lv_has ls 6 [(0, .ref hm), (1, .int x0), (2, .int x1)] := hl
  have hw : ∀ w ∈ tkWM, w.before _ s = true := fun w h => hts w (List.mem_cons_of_mem _ h)
  have f19 := hw _ wF_M_19
  have f25 := hw _ wF_M_25
  have f50 := hw _ wF_M_50
  refine lv_iload_n hx hb dM_rule_0 rfl (lv_at hl 2 rfl) ?_
  refine lv_iconst (v := 5) hx hb dM_rule_1 (by decide) ?_
  refine lv_ishr hx hb dM_rule_2 ?_
  refine lv_istore_n hx hb dM_rule_3 rfl hl (by decide) rfl (fun ls hl => ?_)
  have hl : lv_has ls 6 [(3, .int (x1 >>> ((5 : Int32) &&& 31))), (0, .ref hm), (1, .int x0), (2, .int x1)] := hl
  refine lv_iload_n hx hb dM_rule_4 rfl (lv_at hl 3 rfl) ?_
  refine lv_bipush (v := 7) hx hb dM_rule_5 (by decide) ?_
  refine lv_iand hx hb dM_rule_7 ?_
  refine lv_istore hx hb dM_rule_8 hl (by decide) rfl (fun ls hl => ?_)
  have hl : lv_has ls 6 [(4, .int (x1 &&& 7)), (3, .int (x1 >>> ((5 : Int32) &&& 31))), (0, .ref hm), (1, .int x0), (2, .int x1)] := hl
  refine lv_iload_n hx hb dM_rule_10 rfl (lv_at hl 1 rfl) ?_
  refine lv_iconst (v := 1) hx hb dM_rule_11 (by decide) ?_
  refine lv_icmp_eq (tgt := 20) hx hb dM_rule_12 (by decide) (fun (h1_ : x1 >>> ((5 : Int32) &&& 31) = 1) => ?_) (fun (h1_ : ¬ (x1 >>> ((5 : Int32) &&& 31) = 1)) => ?_)
  · refine lv_aload_n hx hb dM_rule_20 rfl (lv_at hl 2 rfl) ?_
    refine lv_iload_n hx hb dM_rule_21 rfl (lv_at hl 3 rfl) ?_
    refine tk_callA hD hS hA (va_runV (As := [.int x0]) (rest := []) ⟨hx, hb, hml, hown, hw⟩ (kM_firstHeld l D hm ad cI cZ g x0 hi0 H.size) (cwV 1 hw (tk_gV tkWM_good wM_M_126 wI_M_firstHeld wS_M_firstHeld wZ_M wC_M_firstHeld) rfl rfl rfl (by decide +kernel) ⟨Nat.le_of_ble_eq_true rfl, Nat.le_of_ble_eq_true rfl⟩) (tk_preM hK hN hP hD) rfl rfl hl.1 rfl (lv_room (Nat.le_of_ble_eq_true rfl)) dM_rule_22 ⟨Nat.zero_le _, Nat.zero_le _⟩) (fun H locs hP hD hS => ?_)
    refine W.eq (g2 := F0 m 25 ls [.int (tkM_firstHeld_r g x0)]) rfl ?_
    refine lv_istore hx hb dM_rule_25 hl (by decide) rfl (fun ls hl => ?_)
    have hl : lv_has ls 6 [(5, .int (tkM_firstHeld_r g x0)), (4, .int (x1 &&& 7)), (3, .int (x1 >>> ((5 : Int32) &&& 31))), (0, .ref hm), (1, .int x0), (2, .int x1)] := hl
    refine lv_iload hx hb dM_rule_27 (lv_at hl 0 rfl) ?_
    refine lv_if_lt (tgt := 73) hx hb dM_rule_29 (by decide) (fun (h2_ : tkM_firstHeld_r g x0 < 0) => ?_) (fun (h2_ : ¬ (tkM_firstHeld_r g x0 < 0)) => ?_)
    · refine lv_goto (tgt := 170) hx hb dM_rule_73 (by decide) ?_
      exact tk_vret hx hb hr hlk hP hD hS dM_rule_170 (congrArg (WM hm ad cI cZ) (by unfold tkM_rule_s; rw [if_pos h1_, if_pos h2_]))
    · refine lv_aload_n hx hb dM_rule_32 rfl (lv_at hl 3 rfl) ?_
      refine va_get (D := D) (ci := 3) (v := .ref (ad 4)) (C := RM) (T := TM) (N := 33) hx hb hw inM hown hK hP 0 rfl rfl 4 (by decide) f19 (fun _ h9 => h9) rfl dM_rule_33 ?_
      refine lv_iload_n hx hb dM_rule_36 rfl (lv_at hl 4 rfl) ?_
      refine lv_aload_n hx hb dM_rule_37 rfl (lv_at hl 3 rfl) ?_
      refine va_get (D := D) (ci := 3) (v := .ref (ad 4)) (C := RM) (T := TM) (N := 33) hx hb hw inM hown hK hP 0 rfl rfl 4 (by decide) f19 (fun _ h9 => h9) rfl dM_rule_38 ?_
      refine lv_iload_n hx hb dM_rule_41 rfl (lv_at hl 4 rfl) ?_
      refine tkld_4 hx hb hK hP hi0 dM_rule_42 ?_
      refine lv_iconst (v := 1) hx hb dM_rule_43 (by decide) ?_
      refine lv_iload hx hb dM_rule_44 (lv_at hl 0 rfl) ?_
      refine lv_ishl hx hb dM_rule_46 ?_
      refine lv_iconst (v := -1) hx hb dM_rule_47 (by decide) ?_
      refine lv_ixor hx hb dM_rule_48 ?_
      refine lv_iand hx hb dM_rule_49 ?_
      refine tkst_4 hx hb hK hP hD hS hi0 dM_rule_50 (fun H locs hP hD hS => ?_)
      have hP : va_P D vwCl (WM hm ad cI cZ (tk_up g 4 (upd (g 4) x0.toNatClampNeg ((g 4 x0.toNatClampNeg) &&& (((1 : Int32) <<< ((tkM_firstHeld_r g x0) &&& 31)) ^^^ (-1)))))) H := hP
      have hD : va_D A (WM hm ad cI cZ (tk_up g 4 (upd (g 4) x0.toNatClampNeg ((g 4 x0.toNatClampNeg) &&& (((1 : Int32) <<< ((tkM_firstHeld_r g x0) &&& 31)) ^^^ (-1)))))) := hD
      refine lv_aload_n hx hb dM_rule_51 rfl (lv_at hl 3 rfl) ?_
      refine va_get (D := D) (ci := 3) (v := .ref (ad 6)) (C := RM) (T := TM) (N := 33) hx hb hw inM hown hK hP 0 rfl rfl 6 (by decide) f25 (fun _ h9 => h9) rfl dM_rule_52 ?_
      refine lv_iload_n hx hb dM_rule_55 rfl (lv_at hl 4 rfl) ?_
      refine lv_iload_n hx hb dM_rule_56 rfl (lv_at hl 2 rfl) ?_
      refine lv_iconst (v := 5) hx hb dM_rule_57 (by decide) ?_
      refine lv_icmp_ne (tgt := 66) hx hb dM_rule_58 (by decide) (fun _ => ?_) (fun h => absurd (h.symm.trans h1_) (by decide))
      refine lv_aload_n hx hb dM_rule_66 rfl (lv_at hl 3 rfl) ?_
      refine va_get (D := D) (ci := 3) (v := .ref (ad 6)) (C := RM) (T := TM) (N := 33) hx hb hw inM hown hK hP 0 rfl rfl 6 (by decide) f25 (fun _ h9 => h9) rfl dM_rule_67 ?_
      refine lv_iload_n hx hb dM_rule_70 rfl (lv_at hl 4 rfl) ?_
      refine tkld_6 hx hb hK hP hi0 dM_rule_71 ?_
      refine tkst_6 hx hb hK hP hD hS hi0 dM_rule_72 (fun H locs hP hD hS => ?_)
      have hP : va_P D vwCl (WM hm ad cI cZ (tk_up (tk_up g 4 (upd (g 4) x0.toNatClampNeg ((g 4 x0.toNatClampNeg) &&& (((1 : Int32) <<< ((tkM_firstHeld_r g x0) &&& 31)) ^^^ (-1))))) 6 (upd (g 6) x0.toNatClampNeg (g 6 x0.toNatClampNeg)))) H := hP
      have hD : va_D A (WM hm ad cI cZ (tk_up (tk_up g 4 (upd (g 4) x0.toNatClampNeg ((g 4 x0.toNatClampNeg) &&& (((1 : Int32) <<< ((tkM_firstHeld_r g x0) &&& 31)) ^^^ (-1))))) 6 (upd (g 6) x0.toNatClampNeg (g 6 x0.toNatClampNeg)))) := hD
      refine lv_goto (tgt := 170) hx hb dM_rule_73 (by decide) ?_
      exact tk_vret hx hb hr hlk hP hD hS dM_rule_170 (congrArg (WM hm ad cI cZ) (by unfold tkM_rule_s; rw [if_pos h1_, if_neg h2_]))
  · refine lv_iload_n hx hb dM_rule_15 rfl (lv_at hl 1 rfl) ?_
    refine lv_iconst (v := 5) hx hb dM_rule_16 (by decide) ?_
    refine lv_icmp_ne (tgt := 76) hx hb dM_rule_17 (by decide) (fun (h3_ : ¬ (x1 >>> ((5 : Int32) &&& 31) = 5)) => ?_) (fun (h3_ : x1 >>> ((5 : Int32) &&& 31) = 5) => ?_)
    · refine lv_iload_n hx hb dM_rule_76 rfl (lv_at hl 1 rfl) ?_
      refine lv_iconst (v := 3) hx hb dM_rule_77 (by decide) ?_
      refine lv_icmp_eq (tgt := 87) hx hb dM_rule_78 (by decide) (fun (h4_ : x1 >>> ((5 : Int32) &&& 31) = 3) => ?_) (fun (h4_ : ¬ (x1 >>> ((5 : Int32) &&& 31) = 3)) => ?_)
      · refine lv_aload_n hx hb dM_rule_87 rfl (lv_at hl 2 rfl) ?_
        refine va_get (D := D) (ci := 3) (v := .ref (ad 4)) (C := RM) (T := TM) (N := 33) hx hb hw inM hown hK hP 0 rfl rfl 4 (by decide) f19 (fun _ h9 => h9) rfl dM_rule_88 ?_
        refine lv_iload_n hx hb dM_rule_91 rfl (lv_at hl 3 rfl) ?_
        refine lv_aload_n hx hb dM_rule_92 rfl (lv_at hl 2 rfl) ?_
        refine va_get (D := D) (ci := 3) (v := .ref (ad 4)) (C := RM) (T := TM) (N := 33) hx hb hw inM hown hK hP 0 rfl rfl 4 (by decide) f19 (fun _ h9 => h9) rfl dM_rule_93 ?_
        refine lv_iload_n hx hb dM_rule_96 rfl (lv_at hl 3 rfl) ?_
        refine tkld_4 hx hb hK hP hi0 dM_rule_97 ?_
        refine lv_iconst (v := 1) hx hb dM_rule_98 (by decide) ?_
        refine lv_iload hx hb dM_rule_99 (lv_at hl 0 rfl) ?_
        refine lv_ishl hx hb dM_rule_101 ?_
        refine lv_iconst (v := -1) hx hb dM_rule_102 (by decide) ?_
        refine lv_ixor hx hb dM_rule_103 ?_
        refine lv_iand hx hb dM_rule_104 ?_
        refine tkst_4 hx hb hK hP hD hS hi0 dM_rule_105 (fun H locs hP hD hS => ?_)
        have hP : va_P D vwCl (WM hm ad cI cZ (tk_up g 4 (upd (g 4) x0.toNatClampNeg ((g 4 x0.toNatClampNeg) &&& (((1 : Int32) <<< ((x1 &&& 7) &&& 31)) ^^^ (-1)))))) H := hP
        have hD : va_D A (WM hm ad cI cZ (tk_up g 4 (upd (g 4) x0.toNatClampNeg ((g 4 x0.toNatClampNeg) &&& (((1 : Int32) <<< ((x1 &&& 7) &&& 31)) ^^^ (-1)))))) := hD
        refine lv_aload_n hx hb dM_rule_106 rfl (lv_at hl 2 rfl) ?_
        refine va_get (D := D) (ci := 3) (v := .ref (ad 6)) (C := RM) (T := TM) (N := 33) hx hb hw inM hown hK hP 0 rfl rfl 6 (by decide) f25 (fun _ h9 => h9) rfl dM_rule_107 ?_
        refine lv_iload_n hx hb dM_rule_110 rfl (lv_at hl 3 rfl) ?_
        refine lv_iload_n hx hb dM_rule_111 rfl (lv_at hl 1 rfl) ?_
        refine lv_bipush (v := 7) hx hb dM_rule_112 (by decide) ?_
        refine lv_icmp_ne (tgt := 122) hx hb dM_rule_114 (by decide) (fun _ => ?_) (fun h => absurd (h.symm.trans h4_) (by decide))
        refine lv_aload_n hx hb dM_rule_122 rfl (lv_at hl 2 rfl) ?_
        refine va_get (D := D) (ci := 3) (v := .ref (ad 6)) (C := RM) (T := TM) (N := 33) hx hb hw inM hown hK hP 0 rfl rfl 6 (by decide) f25 (fun _ h9 => h9) rfl dM_rule_123 ?_
        refine lv_iload_n hx hb dM_rule_126 rfl (lv_at hl 3 rfl) ?_
        refine tkld_6 hx hb hK hP hi0 dM_rule_127 ?_
        refine tkst_6 hx hb hK hP hD hS hi0 dM_rule_128 (fun H locs hP hD hS => ?_)
        have hP : va_P D vwCl (WM hm ad cI cZ (tk_up (tk_up g 4 (upd (g 4) x0.toNatClampNeg ((g 4 x0.toNatClampNeg) &&& (((1 : Int32) <<< ((x1 &&& 7) &&& 31)) ^^^ (-1))))) 6 (upd (g 6) x0.toNatClampNeg (g 6 x0.toNatClampNeg)))) H := hP
        have hD : va_D A (WM hm ad cI cZ (tk_up (tk_up g 4 (upd (g 4) x0.toNatClampNeg ((g 4 x0.toNatClampNeg) &&& (((1 : Int32) <<< ((x1 &&& 7) &&& 31)) ^^^ (-1))))) 6 (upd (g 6) x0.toNatClampNeg (g 6 x0.toNatClampNeg)))) := hD
        refine lv_goto (tgt := 170) hx hb dM_rule_129 (by decide) ?_
        exact tk_vret hx hb hr hlk hP hD hS dM_rule_170 (congrArg (WM hm ad cI cZ) (by unfold tkM_rule_s; rw [if_neg h1_, if_neg h3_, if_pos h4_]))
      · refine lv_iload_n hx hb dM_rule_81 rfl (lv_at hl 1 rfl) ?_
        refine lv_bipush (v := 7) hx hb dM_rule_82 (by decide) ?_
        refine lv_icmp_ne (tgt := 132) hx hb dM_rule_84 (by decide) (fun (h5_ : ¬ (x1 >>> ((5 : Int32) &&& 31) = 7)) => ?_) (fun (h5_ : x1 >>> ((5 : Int32) &&& 31) = 7) => ?_)
        · refine lv_iload_n hx hb dM_rule_132 rfl (lv_at hl 1 rfl) ?_
          refine lv_bipush (v := 6) hx hb dM_rule_133 (by decide) ?_
          refine lv_icmp_ne (tgt := 149) hx hb dM_rule_135 (by decide) (fun (h6_ : ¬ (x1 >>> ((5 : Int32) &&& 31) = 6)) => ?_) (fun (h6_ : x1 >>> ((5 : Int32) &&& 31) = 6) => ?_)
          · refine lv_iload_n hx hb dM_rule_149 rfl (lv_at hl 1 rfl) ?_
            refine lv_iconst (v := 2) hx hb dM_rule_150 (by decide) ?_
            refine lv_icmp_eq (tgt := 170) hx hb dM_rule_151 (by decide) (fun (h7_ : x1 >>> ((5 : Int32) &&& 31) = 2) => ?_) (fun (h7_ : ¬ (x1 >>> ((5 : Int32) &&& 31) = 2)) => ?_)
            · exact tk_vret hx hb hr hlk hP hD hS dM_rule_170 (congrArg (WM hm ad cI cZ) (by unfold tkM_rule_s; rw [if_neg h1_, if_neg h3_, if_neg h4_, if_neg h5_, if_neg h6_, if_pos h7_]))
            · refine lv_aload_n hx hb dM_rule_154 rfl (lv_at hl 2 rfl) ?_
              refine va_get (D := D) (ci := 3) (v := .ref (ad 14)) (C := RM) (T := TM) (N := 33) hx hb hw inM hown hK hP 0 rfl rfl 14 (by decide) f50 (fun _ h9 => h9) rfl dM_rule_155 ?_
              refine lv_iload_n hx hb dM_rule_158 rfl (lv_at hl 3 rfl) ?_
              refine lv_iload_n hx hb dM_rule_159 rfl (lv_at hl 1 rfl) ?_
              refine lv_iconst (v := 4) hx hb dM_rule_160 (by decide) ?_
              refine lv_icmp_ne (tgt := 168) hx hb dM_rule_161 (by decide) (fun (h8_ : ¬ (x1 >>> ((5 : Int32) &&& 31) = 4)) => ?_) (fun (h8_ : x1 >>> ((5 : Int32) &&& 31) = 4) => ?_)
              · refine lv_iconst (v := 0) hx hb dM_rule_168 (by decide) ?_
                refine tkst_14 hx hb hK hP hD hS hi0 (x' := 0) rfl dM_rule_169 (fun H locs hP hD hS => ?_)
                have hP : va_P D vwCl (WM hm ad cI cZ (tk_up g 14 (upd (g 14) x0.toNatClampNeg 0))) H := hP
                have hD : va_D A (WM hm ad cI cZ (tk_up g 14 (upd (g 14) x0.toNatClampNeg 0))) := hD
                exact tk_vret hx hb hr hlk hP hD hS dM_rule_170 (congrArg (WM hm ad cI cZ) (by unfold tkM_rule_s; rw [if_neg h1_, if_neg h3_, if_neg h4_, if_neg h5_, if_neg h6_, if_neg h7_, if_neg h8_]))
              · refine lv_iconst (v := 1) hx hb dM_rule_164 (by decide) ?_
                refine lv_goto (tgt := 169) hx hb dM_rule_165 (by decide) ?_
                refine tkst_14 hx hb hK hP hD hS hi0 (x' := 1) rfl dM_rule_169 (fun H locs hP hD hS => ?_)
                have hP : va_P D vwCl (WM hm ad cI cZ (tk_up g 14 (upd (g 14) x0.toNatClampNeg 1))) H := hP
                have hD : va_D A (WM hm ad cI cZ (tk_up g 14 (upd (g 14) x0.toNatClampNeg 1))) := hD
                exact tk_vret hx hb hr hlk hP hD hS dM_rule_170 (congrArg (WM hm ad cI cZ) (by unfold tkM_rule_s; rw [if_neg h1_, if_neg h3_, if_neg h4_, if_neg h5_, if_neg h6_, if_neg h7_, if_pos h8_]))
          · refine lv_aload_n hx hb dM_rule_138 rfl (lv_at hl 2 rfl) ?_
            refine va_get (D := D) (ci := 3) (v := .ref (ad 6)) (C := RM) (T := TM) (N := 33) hx hb hw inM hown hK hP 0 rfl rfl 6 (by decide) f25 (fun _ h9 => h9) rfl dM_rule_139 ?_
            refine lv_iload_n hx hb dM_rule_142 rfl (lv_at hl 3 rfl) ?_
            refine lv_iload hx hb dM_rule_143 (lv_at hl 0 rfl) ?_
            refine tkst_6 hx hb hK hP hD hS hi0 dM_rule_145 (fun H locs hP hD hS => ?_)
            have hP : va_P D vwCl (WM hm ad cI cZ (tk_up g 6 (upd (g 6) x0.toNatClampNeg (x1 &&& 7)))) H := hP
            have hD : va_D A (WM hm ad cI cZ (tk_up g 6 (upd (g 6) x0.toNatClampNeg (x1 &&& 7)))) := hD
            refine lv_goto (tgt := 170) hx hb dM_rule_146 (by decide) ?_
            exact tk_vret hx hb hr hlk hP hD hS dM_rule_170 (congrArg (WM hm ad cI cZ) (by unfold tkM_rule_s; rw [if_neg h1_, if_neg h3_, if_neg h4_, if_neg h5_, if_pos h6_]))
        · refine lv_aload_n hx hb dM_rule_87 rfl (lv_at hl 2 rfl) ?_
          refine va_get (D := D) (ci := 3) (v := .ref (ad 4)) (C := RM) (T := TM) (N := 33) hx hb hw inM hown hK hP 0 rfl rfl 4 (by decide) f19 (fun _ h9 => h9) rfl dM_rule_88 ?_
          refine lv_iload_n hx hb dM_rule_91 rfl (lv_at hl 3 rfl) ?_
          refine lv_aload_n hx hb dM_rule_92 rfl (lv_at hl 2 rfl) ?_
          refine va_get (D := D) (ci := 3) (v := .ref (ad 4)) (C := RM) (T := TM) (N := 33) hx hb hw inM hown hK hP 0 rfl rfl 4 (by decide) f19 (fun _ h9 => h9) rfl dM_rule_93 ?_
          refine lv_iload_n hx hb dM_rule_96 rfl (lv_at hl 3 rfl) ?_
          refine tkld_4 hx hb hK hP hi0 dM_rule_97 ?_
          refine lv_iconst (v := 1) hx hb dM_rule_98 (by decide) ?_
          refine lv_iload hx hb dM_rule_99 (lv_at hl 0 rfl) ?_
          refine lv_ishl hx hb dM_rule_101 ?_
          refine lv_iconst (v := -1) hx hb dM_rule_102 (by decide) ?_
          refine lv_ixor hx hb dM_rule_103 ?_
          refine lv_iand hx hb dM_rule_104 ?_
          refine tkst_4 hx hb hK hP hD hS hi0 dM_rule_105 (fun H locs hP hD hS => ?_)
          have hP : va_P D vwCl (WM hm ad cI cZ (tk_up g 4 (upd (g 4) x0.toNatClampNeg ((g 4 x0.toNatClampNeg) &&& (((1 : Int32) <<< ((x1 &&& 7) &&& 31)) ^^^ (-1)))))) H := hP
          have hD : va_D A (WM hm ad cI cZ (tk_up g 4 (upd (g 4) x0.toNatClampNeg ((g 4 x0.toNatClampNeg) &&& (((1 : Int32) <<< ((x1 &&& 7) &&& 31)) ^^^ (-1)))))) := hD
          refine lv_aload_n hx hb dM_rule_106 rfl (lv_at hl 2 rfl) ?_
          refine va_get (D := D) (ci := 3) (v := .ref (ad 6)) (C := RM) (T := TM) (N := 33) hx hb hw inM hown hK hP 0 rfl rfl 6 (by decide) f25 (fun _ h9 => h9) rfl dM_rule_107 ?_
          refine lv_iload_n hx hb dM_rule_110 rfl (lv_at hl 3 rfl) ?_
          refine lv_iload_n hx hb dM_rule_111 rfl (lv_at hl 1 rfl) ?_
          refine lv_bipush (v := 7) hx hb dM_rule_112 (by decide) ?_
          refine lv_icmp_ne (tgt := 122) hx hb dM_rule_114 (by decide) (fun h => absurd h5_ h) (fun _ => ?_)
          refine lv_iload hx hb dM_rule_117 (lv_at hl 0 rfl) ?_
          refine lv_goto (tgt := 128) hx hb dM_rule_119 (by decide) ?_
          refine tkst_6 hx hb hK hP hD hS hi0 dM_rule_128 (fun H locs hP hD hS => ?_)
          have hP : va_P D vwCl (WM hm ad cI cZ (tk_up (tk_up g 4 (upd (g 4) x0.toNatClampNeg ((g 4 x0.toNatClampNeg) &&& (((1 : Int32) <<< ((x1 &&& 7) &&& 31)) ^^^ (-1))))) 6 (upd (g 6) x0.toNatClampNeg (x1 &&& 7)))) H := hP
          have hD : va_D A (WM hm ad cI cZ (tk_up (tk_up g 4 (upd (g 4) x0.toNatClampNeg ((g 4 x0.toNatClampNeg) &&& (((1 : Int32) <<< ((x1 &&& 7) &&& 31)) ^^^ (-1))))) 6 (upd (g 6) x0.toNatClampNeg (x1 &&& 7)))) := hD
          refine lv_goto (tgt := 170) hx hb dM_rule_129 (by decide) ?_
          exact tk_vret hx hb hr hlk hP hD hS dM_rule_170 (congrArg (WM hm ad cI cZ) (by unfold tkM_rule_s; rw [if_neg h1_, if_neg h3_, if_neg h4_, if_pos h5_]))
    · refine lv_aload_n hx hb dM_rule_20 rfl (lv_at hl 2 rfl) ?_
      refine lv_iload_n hx hb dM_rule_21 rfl (lv_at hl 3 rfl) ?_
      refine tk_callA hD hS hA (va_runV (As := [.int x0]) (rest := []) ⟨hx, hb, hml, hown, hw⟩ (kM_firstHeld l D hm ad cI cZ g x0 hi0 H.size) (cwV 1 hw (tk_gV tkWM_good wM_M_126 wI_M_firstHeld wS_M_firstHeld wZ_M wC_M_firstHeld) rfl rfl rfl (by decide +kernel) ⟨Nat.le_of_ble_eq_true rfl, Nat.le_of_ble_eq_true rfl⟩) (tk_preM hK hN hP hD) rfl rfl hl.1 rfl (lv_room (Nat.le_of_ble_eq_true rfl)) dM_rule_22 ⟨Nat.zero_le _, Nat.zero_le _⟩) (fun H locs hP hD hS => ?_)
      refine W.eq (g2 := F0 m 25 ls [.int (tkM_firstHeld_r g x0)]) rfl ?_
      refine lv_istore hx hb dM_rule_25 hl (by decide) rfl (fun ls hl => ?_)
      have hl : lv_has ls 6 [(5, .int (tkM_firstHeld_r g x0)), (4, .int (x1 &&& 7)), (3, .int (x1 >>> ((5 : Int32) &&& 31))), (0, .ref hm), (1, .int x0), (2, .int x1)] := hl
      refine lv_iload hx hb dM_rule_27 (lv_at hl 0 rfl) ?_
      refine lv_if_lt (tgt := 73) hx hb dM_rule_29 (by decide) (fun (h9_ : tkM_firstHeld_r g x0 < 0) => ?_) (fun (h9_ : ¬ (tkM_firstHeld_r g x0 < 0)) => ?_)
      · refine lv_goto (tgt := 170) hx hb dM_rule_73 (by decide) ?_
        exact tk_vret hx hb hr hlk hP hD hS dM_rule_170 (congrArg (WM hm ad cI cZ) (by unfold tkM_rule_s; rw [if_neg h1_, if_pos h3_, if_pos h9_]))
      · refine lv_aload_n hx hb dM_rule_32 rfl (lv_at hl 3 rfl) ?_
        refine va_get (D := D) (ci := 3) (v := .ref (ad 4)) (C := RM) (T := TM) (N := 33) hx hb hw inM hown hK hP 0 rfl rfl 4 (by decide) f19 (fun _ h9 => h9) rfl dM_rule_33 ?_
        refine lv_iload_n hx hb dM_rule_36 rfl (lv_at hl 4 rfl) ?_
        refine lv_aload_n hx hb dM_rule_37 rfl (lv_at hl 3 rfl) ?_
        refine va_get (D := D) (ci := 3) (v := .ref (ad 4)) (C := RM) (T := TM) (N := 33) hx hb hw inM hown hK hP 0 rfl rfl 4 (by decide) f19 (fun _ h9 => h9) rfl dM_rule_38 ?_
        refine lv_iload_n hx hb dM_rule_41 rfl (lv_at hl 4 rfl) ?_
        refine tkld_4 hx hb hK hP hi0 dM_rule_42 ?_
        refine lv_iconst (v := 1) hx hb dM_rule_43 (by decide) ?_
        refine lv_iload hx hb dM_rule_44 (lv_at hl 0 rfl) ?_
        refine lv_ishl hx hb dM_rule_46 ?_
        refine lv_iconst (v := -1) hx hb dM_rule_47 (by decide) ?_
        refine lv_ixor hx hb dM_rule_48 ?_
        refine lv_iand hx hb dM_rule_49 ?_
        refine tkst_4 hx hb hK hP hD hS hi0 dM_rule_50 (fun H locs hP hD hS => ?_)
        have hP : va_P D vwCl (WM hm ad cI cZ (tk_up g 4 (upd (g 4) x0.toNatClampNeg ((g 4 x0.toNatClampNeg) &&& (((1 : Int32) <<< ((tkM_firstHeld_r g x0) &&& 31)) ^^^ (-1)))))) H := hP
        have hD : va_D A (WM hm ad cI cZ (tk_up g 4 (upd (g 4) x0.toNatClampNeg ((g 4 x0.toNatClampNeg) &&& (((1 : Int32) <<< ((tkM_firstHeld_r g x0) &&& 31)) ^^^ (-1)))))) := hD
        refine lv_aload_n hx hb dM_rule_51 rfl (lv_at hl 3 rfl) ?_
        refine va_get (D := D) (ci := 3) (v := .ref (ad 6)) (C := RM) (T := TM) (N := 33) hx hb hw inM hown hK hP 0 rfl rfl 6 (by decide) f25 (fun _ h9 => h9) rfl dM_rule_52 ?_
        refine lv_iload_n hx hb dM_rule_55 rfl (lv_at hl 4 rfl) ?_
        refine lv_iload_n hx hb dM_rule_56 rfl (lv_at hl 2 rfl) ?_
        refine lv_iconst (v := 5) hx hb dM_rule_57 (by decide) ?_
        refine lv_icmp_ne (tgt := 66) hx hb dM_rule_58 (by decide) (fun h => absurd h3_ h) (fun _ => ?_)
        refine lv_iload hx hb dM_rule_61 (lv_at hl 0 rfl) ?_
        refine lv_goto (tgt := 72) hx hb dM_rule_63 (by decide) ?_
        refine tkst_6 hx hb hK hP hD hS hi0 dM_rule_72 (fun H locs hP hD hS => ?_)
        have hP : va_P D vwCl (WM hm ad cI cZ (tk_up (tk_up g 4 (upd (g 4) x0.toNatClampNeg ((g 4 x0.toNatClampNeg) &&& (((1 : Int32) <<< ((tkM_firstHeld_r g x0) &&& 31)) ^^^ (-1))))) 6 (upd (g 6) x0.toNatClampNeg (tkM_firstHeld_r g x0)))) H := hP
        have hD : va_D A (WM hm ad cI cZ (tk_up (tk_up g 4 (upd (g 4) x0.toNatClampNeg ((g 4 x0.toNatClampNeg) &&& (((1 : Int32) <<< ((tkM_firstHeld_r g x0) &&& 31)) ^^^ (-1))))) 6 (upd (g 6) x0.toNatClampNeg (tkM_firstHeld_r g x0)))) := hD
        refine lv_goto (tgt := 170) hx hb dM_rule_73 (by decide) ?_
        exact tk_vret hx hb hr hlk hP hD hS dM_rule_170 (congrArg (WM hm ad cI cZ) (by unfold tkM_rule_s; rw [if_neg h1_, if_pos h3_, if_neg h9_]))
def tkM_writeFirst_s (g : Nat → Nat → Int32) (x0 x1 : Int32) : Nat → Nat → Int32 :=
  if x1 &&& 16 = 0 then (if g 7 x0.toNatClampNeg = 0 then g
    else if x1 &&& 8 = 0 then tkM_rule_s g x0 x1
      else if x1 &&& 64 = 0 then (if x1 &&& 4 = 0 then (if x1 &&& 2 = 0 then tk_up g 13 (upd (g 13) x0.toNatClampNeg (vp_nar .boolean (g 13 x0.toNatClampNeg)))
            else if x1 &&& 1 = 0 then tk_up (tk_up g 13 (upd (g 13) x0.toNatClampNeg (vp_nar .boolean (g 13 x0.toNatClampNeg)))) 16 (upd (g 16) x0.toNatClampNeg 0)
              else tk_up (tk_up g 13 (upd (g 13) x0.toNatClampNeg (vp_nar .boolean (g 13 x0.toNatClampNeg)))) 16 (upd (g 16) x0.toNatClampNeg 1))
          else tk_up (tk_up g 13 (upd (g 13) x0.toNatClampNeg (vp_nar .boolean (g 13 x0.toNatClampNeg)))) 15 (upd (g 15) x0.toNatClampNeg 1))
        else if x1 &&& 32 = 0 then (if x1 &&& 4 = 0 then (if x1 &&& 2 = 0 then tk_up g 13 (upd (g 13) x0.toNatClampNeg 0)
              else if x1 &&& 1 = 0 then tk_up (tk_up g 13 (upd (g 13) x0.toNatClampNeg 0)) 16 (upd (g 16) x0.toNatClampNeg 0)
                else tk_up (tk_up g 13 (upd (g 13) x0.toNatClampNeg 0)) 16 (upd (g 16) x0.toNatClampNeg 1))
            else tk_up (tk_up g 13 (upd (g 13) x0.toNatClampNeg 0)) 15 (upd (g 15) x0.toNatClampNeg 1))
          else if x1 &&& 4 = 0 then (if x1 &&& 2 = 0 then tk_up g 13 (upd (g 13) x0.toNatClampNeg 1)
              else if x1 &&& 1 = 0 then tk_up (tk_up g 13 (upd (g 13) x0.toNatClampNeg 1)) 16 (upd (g 16) x0.toNatClampNeg 0)
                else tk_up (tk_up g 13 (upd (g 13) x0.toNatClampNeg 1)) 16 (upd (g 16) x0.toNatClampNeg 1))
            else tk_up (tk_up g 13 (upd (g 13) x0.toNatClampNeg 1)) 15 (upd (g 15) x0.toNatClampNeg 1))
  else tkM_begin_s g x0 x1
set_option maxHeartbeats 1000000 in
set_option maxRecDepth 100000 in
theorem kM_writeFirst (l : Launch) (D : va_G) (hm : Nat) (ad : Nat → Nat) (cI cZ : ClassId) (g : Nat → Nat → Int32) (x0 x1 : Int32) (hi0 : vp_in x0 2) : tk_M l yM_writeFirst wsM_writeFirst { frames := 3, cells := 0, slots := 0, locals := 70 } D [(cI, .int), (cZ, .boolean)] [.ref hm, .int x0, .int x1] (WM hm ad cI cZ g) (WM hm ad cI cZ (tkM_writeFirst_s g x0 x1)) none := by
  refine tk_M.of (cc := cM_writeFirst) (maxL := 3) (ret := none) (by decide) rfl (Nat.le_of_ble_eq_true rfl) ?_
  intro p e s m below meth co A H locs ls hB hK hN hA hP hD hS hl
  obtain ⟨hx, hb, hr, hml, hown, hlk, hnm, hts⟩ := hB
  have hown : s.vm.findClass RM = some m.cls := hown
  have hl : lv_has ls 3 [(0, .ref hm), (1, .int x0), (2, .int x1)] := hl
  have hw : ∀ w ∈ tkWM, w.before _ s = true := fun w h => hts w (List.mem_cons_of_mem _ h)
  have f28 := hw _ wF_M_28
  have f47 := hw _ wF_M_47
  have f56 := hw _ wF_M_56
  have f53 := hw _ wF_M_53
  refine lv_iload_n hx hb dM_writeFirst_0 rfl (lv_at hl 2 rfl) ?_
  refine lv_bipush (v := 16) hx hb dM_writeFirst_1 (by decide) ?_
  refine lv_iand hx hb dM_writeFirst_3 ?_
  refine lv_if_eq (tgt := 16) hx hb dM_writeFirst_4 (by decide) (fun (h1_ : x1 &&& 16 = 0) => ?_) (fun (h1_ : ¬ (x1 &&& 16 = 0)) => ?_)
  · refine lv_aload_n hx hb dM_writeFirst_16 rfl (lv_at hl 0 rfl) ?_
    refine va_get (D := D) (ci := 3) (v := .ref (ad 7)) (C := RM) (T := TM) (N := 33) hx hb hw inM hown hK hP 0 rfl rfl 7 (by decide) f28 (fun _ h9 => h9) rfl dM_writeFirst_17 ?_
    refine lv_iload_n hx hb dM_writeFirst_20 rfl (lv_at hl 1 rfl) ?_
    refine tkld_7 hx hb hK hP hi0 dM_writeFirst_21 ?_
    refine lv_if_eq (tgt := 41) hx hb dM_writeFirst_22 (by decide) (fun (h2_ : g 7 x0.toNatClampNeg = 0) => ?_) (fun (h2_ : ¬ (g 7 x0.toNatClampNeg = 0)) => ?_)
    · refine lv_aload_n hx hb dM_writeFirst_41 rfl (lv_at hl 0 rfl) ?_
      refine va_get (D := D) (ci := 3) (v := .ref (ad 7)) (C := RM) (T := TM) (N := 33) hx hb hw inM hown hK hP 0 rfl rfl 7 (by decide) f28 (fun _ h9 => h9) rfl dM_writeFirst_42 ?_
      refine lv_iload_n hx hb dM_writeFirst_45 rfl (lv_at hl 1 rfl) ?_
      refine tkld_7 hx hb hK hP hi0 dM_writeFirst_46 ?_
      refine lv_if_eq (tgt := 123) hx hb dM_writeFirst_47 (by decide) (fun _ => ?_) (fun h => absurd h2_ h)
      exact tk_vret hx hb hr hlk hP hD hS dM_writeFirst_123 (congrArg (WM hm ad cI cZ) (by unfold tkM_writeFirst_s; rw [if_pos h1_, if_pos h2_]))
    · refine lv_iload_n hx hb dM_writeFirst_25 rfl (lv_at hl 2 rfl) ?_
      refine lv_bipush (v := 8) hx hb dM_writeFirst_26 (by decide) ?_
      refine lv_iand hx hb dM_writeFirst_28 ?_
      refine lv_if_ne (tgt := 41) hx hb dM_writeFirst_29 (by decide) (fun (h3_ : ¬ (x1 &&& 8 = 0)) => ?_) (fun (h3_ : x1 &&& 8 = 0) => ?_)
      · refine lv_aload_n hx hb dM_writeFirst_41 rfl (lv_at hl 0 rfl) ?_
        refine va_get (D := D) (ci := 3) (v := .ref (ad 7)) (C := RM) (T := TM) (N := 33) hx hb hw inM hown hK hP 0 rfl rfl 7 (by decide) f28 (fun _ h9 => h9) rfl dM_writeFirst_42 ?_
        refine lv_iload_n hx hb dM_writeFirst_45 rfl (lv_at hl 1 rfl) ?_
        refine tkld_7 hx hb hK hP hi0 dM_writeFirst_46 ?_
        refine lv_if_eq (tgt := 123) hx hb dM_writeFirst_47 (by decide) (fun h => absurd h h2_) (fun _ => ?_)
        refine lv_aload_n hx hb dM_writeFirst_50 rfl (lv_at hl 0 rfl) ?_
        refine va_get (D := D) (ci := 3) (v := .ref (ad 13)) (C := RM) (T := TM) (N := 33) hx hb hw inM hown hK hP 0 rfl rfl 13 (by decide) f47 (fun _ h9 => h9) rfl dM_writeFirst_51 ?_
        refine lv_iload_n hx hb dM_writeFirst_54 rfl (lv_at hl 1 rfl) ?_
        refine lv_iload_n hx hb dM_writeFirst_55 rfl (lv_at hl 2 rfl) ?_
        refine lv_bipush (v := 64) hx hb dM_writeFirst_56 (by decide) ?_
        refine lv_iand hx hb dM_writeFirst_58 ?_
        refine lv_if_eq (tgt := 77) hx hb dM_writeFirst_59 (by decide) (fun (h4_ : x1 &&& 64 = 0) => ?_) (fun (h4_ : ¬ (x1 &&& 64 = 0)) => ?_)
        · refine lv_aload_n hx hb dM_writeFirst_77 rfl (lv_at hl 0 rfl) ?_
          refine va_get (D := D) (ci := 3) (v := .ref (ad 13)) (C := RM) (T := TM) (N := 33) hx hb hw inM hown hK hP 0 rfl rfl 13 (by decide) f47 (fun _ h9 => h9) rfl dM_writeFirst_78 ?_
          refine lv_iload_n hx hb dM_writeFirst_81 rfl (lv_at hl 1 rfl) ?_
          refine tkld_13 hx hb hK hP hi0 dM_writeFirst_82 ?_
          refine tkst_13 hx hb hK hP hD hS hi0 rfl dM_writeFirst_83 (fun H locs hP hD hS => ?_)
          have hP : va_P D vwCl (WM hm ad cI cZ (tk_up g 13 (upd (g 13) x0.toNatClampNeg (vp_nar .boolean (g 13 x0.toNatClampNeg))))) H := hP
          have hD : va_D A (WM hm ad cI cZ (tk_up g 13 (upd (g 13) x0.toNatClampNeg (vp_nar .boolean (g 13 x0.toNatClampNeg))))) := hD
          refine lv_iload_n hx hb dM_writeFirst_84 rfl (lv_at hl 2 rfl) ?_
          refine lv_iconst (v := 4) hx hb dM_writeFirst_85 (by decide) ?_
          refine lv_iand hx hb dM_writeFirst_86 ?_
          refine lv_if_eq (tgt := 100) hx hb dM_writeFirst_87 (by decide) (fun (h5_ : x1 &&& 4 = 0) => ?_) (fun (h5_ : ¬ (x1 &&& 4 = 0)) => ?_)
          · refine lv_iload_n hx hb dM_writeFirst_100 rfl (lv_at hl 2 rfl) ?_
            refine lv_iconst (v := 2) hx hb dM_writeFirst_101 (by decide) ?_
            refine lv_iand hx hb dM_writeFirst_102 ?_
            refine lv_if_eq (tgt := 123) hx hb dM_writeFirst_103 (by decide) (fun (h6_ : x1 &&& 2 = 0) => ?_) (fun (h6_ : ¬ (x1 &&& 2 = 0)) => ?_)
            · exact tk_vret hx hb hr hlk hP hD hS dM_writeFirst_123 (congrArg (WM hm ad cI cZ) (by unfold tkM_writeFirst_s; rw [if_pos h1_, if_neg h2_, if_neg h3_, if_pos h4_, if_pos h5_, if_pos h6_]))
            · refine lv_aload_n hx hb dM_writeFirst_106 rfl (lv_at hl 0 rfl) ?_
              refine va_get (D := D) (ci := 3) (v := .ref (ad 16)) (C := RM) (T := TM) (N := 33) hx hb hw inM hown hK hP 0 rfl rfl 16 (by decide) f56 (fun _ h9 => h9) rfl dM_writeFirst_107 ?_
              refine lv_iload_n hx hb dM_writeFirst_110 rfl (lv_at hl 1 rfl) ?_
              refine lv_iload_n hx hb dM_writeFirst_111 rfl (lv_at hl 2 rfl) ?_
              refine lv_iconst (v := 1) hx hb dM_writeFirst_112 (by decide) ?_
              refine lv_iand hx hb dM_writeFirst_113 ?_
              refine lv_if_eq (tgt := 121) hx hb dM_writeFirst_114 (by decide) (fun (h7_ : x1 &&& 1 = 0) => ?_) (fun (h7_ : ¬ (x1 &&& 1 = 0)) => ?_)
              · refine lv_iconst (v := 0) hx hb dM_writeFirst_121 (by decide) ?_
                refine tkst_16 hx hb hK hP hD hS hi0 (x' := 0) rfl dM_writeFirst_122 (fun H locs hP hD hS => ?_)
                have hP : va_P D vwCl (WM hm ad cI cZ (tk_up (tk_up g 13 (upd (g 13) x0.toNatClampNeg (vp_nar .boolean (g 13 x0.toNatClampNeg)))) 16 (upd (g 16) x0.toNatClampNeg 0))) H := hP
                have hD : va_D A (WM hm ad cI cZ (tk_up (tk_up g 13 (upd (g 13) x0.toNatClampNeg (vp_nar .boolean (g 13 x0.toNatClampNeg)))) 16 (upd (g 16) x0.toNatClampNeg 0))) := hD
                exact tk_vret hx hb hr hlk hP hD hS dM_writeFirst_123 (congrArg (WM hm ad cI cZ) (by unfold tkM_writeFirst_s; rw [if_pos h1_, if_neg h2_, if_neg h3_, if_pos h4_, if_pos h5_, if_neg h6_, if_pos h7_]))
              · refine lv_iconst (v := 1) hx hb dM_writeFirst_117 (by decide) ?_
                refine lv_goto (tgt := 122) hx hb dM_writeFirst_118 (by decide) ?_
                refine tkst_16 hx hb hK hP hD hS hi0 (x' := 1) rfl dM_writeFirst_122 (fun H locs hP hD hS => ?_)
                have hP : va_P D vwCl (WM hm ad cI cZ (tk_up (tk_up g 13 (upd (g 13) x0.toNatClampNeg (vp_nar .boolean (g 13 x0.toNatClampNeg)))) 16 (upd (g 16) x0.toNatClampNeg 1))) H := hP
                have hD : va_D A (WM hm ad cI cZ (tk_up (tk_up g 13 (upd (g 13) x0.toNatClampNeg (vp_nar .boolean (g 13 x0.toNatClampNeg)))) 16 (upd (g 16) x0.toNatClampNeg 1))) := hD
                exact tk_vret hx hb hr hlk hP hD hS dM_writeFirst_123 (congrArg (WM hm ad cI cZ) (by unfold tkM_writeFirst_s; rw [if_pos h1_, if_neg h2_, if_neg h3_, if_pos h4_, if_pos h5_, if_neg h6_, if_neg h7_]))
          · refine lv_aload_n hx hb dM_writeFirst_90 rfl (lv_at hl 0 rfl) ?_
            refine va_get (D := D) (ci := 3) (v := .ref (ad 15)) (C := RM) (T := TM) (N := 33) hx hb hw inM hown hK hP 0 rfl rfl 15 (by decide) f53 (fun _ h9 => h9) rfl dM_writeFirst_91 ?_
            refine lv_iload_n hx hb dM_writeFirst_94 rfl (lv_at hl 1 rfl) ?_
            refine lv_iconst (v := 1) hx hb dM_writeFirst_95 (by decide) ?_
            refine tkst_15 hx hb hK hP hD hS hi0 (x' := 1) rfl dM_writeFirst_96 (fun H locs hP hD hS => ?_)
            have hP : va_P D vwCl (WM hm ad cI cZ (tk_up (tk_up g 13 (upd (g 13) x0.toNatClampNeg (vp_nar .boolean (g 13 x0.toNatClampNeg)))) 15 (upd (g 15) x0.toNatClampNeg 1))) H := hP
            have hD : va_D A (WM hm ad cI cZ (tk_up (tk_up g 13 (upd (g 13) x0.toNatClampNeg (vp_nar .boolean (g 13 x0.toNatClampNeg)))) 15 (upd (g 15) x0.toNatClampNeg 1))) := hD
            refine lv_goto (tgt := 123) hx hb dM_writeFirst_97 (by decide) ?_
            exact tk_vret hx hb hr hlk hP hD hS dM_writeFirst_123 (congrArg (WM hm ad cI cZ) (by unfold tkM_writeFirst_s; rw [if_pos h1_, if_neg h2_, if_neg h3_, if_pos h4_, if_neg h5_]))
        · refine lv_iload_n hx hb dM_writeFirst_62 rfl (lv_at hl 2 rfl) ?_
          refine lv_bipush (v := 32) hx hb dM_writeFirst_63 (by decide) ?_
          refine lv_iand hx hb dM_writeFirst_65 ?_
          refine lv_if_eq (tgt := 73) hx hb dM_writeFirst_66 (by decide) (fun (h8_ : x1 &&& 32 = 0) => ?_) (fun (h8_ : ¬ (x1 &&& 32 = 0)) => ?_)
          · refine lv_iconst (v := 0) hx hb dM_writeFirst_73 (by decide) ?_
            refine lv_goto (tgt := 83) hx hb dM_writeFirst_74 (by decide) ?_
            refine tkst_13 hx hb hK hP hD hS hi0 (x' := 0) rfl dM_writeFirst_83 (fun H locs hP hD hS => ?_)
            have hP : va_P D vwCl (WM hm ad cI cZ (tk_up g 13 (upd (g 13) x0.toNatClampNeg 0))) H := hP
            have hD : va_D A (WM hm ad cI cZ (tk_up g 13 (upd (g 13) x0.toNatClampNeg 0))) := hD
            refine lv_iload_n hx hb dM_writeFirst_84 rfl (lv_at hl 2 rfl) ?_
            refine lv_iconst (v := 4) hx hb dM_writeFirst_85 (by decide) ?_
            refine lv_iand hx hb dM_writeFirst_86 ?_
            refine lv_if_eq (tgt := 100) hx hb dM_writeFirst_87 (by decide) (fun (h9_ : x1 &&& 4 = 0) => ?_) (fun (h9_ : ¬ (x1 &&& 4 = 0)) => ?_)
            · refine lv_iload_n hx hb dM_writeFirst_100 rfl (lv_at hl 2 rfl) ?_
              refine lv_iconst (v := 2) hx hb dM_writeFirst_101 (by decide) ?_
              refine lv_iand hx hb dM_writeFirst_102 ?_
              refine lv_if_eq (tgt := 123) hx hb dM_writeFirst_103 (by decide) (fun (h10_ : x1 &&& 2 = 0) => ?_) (fun (h10_ : ¬ (x1 &&& 2 = 0)) => ?_)
              · exact tk_vret hx hb hr hlk hP hD hS dM_writeFirst_123 (congrArg (WM hm ad cI cZ) (by unfold tkM_writeFirst_s; rw [if_pos h1_, if_neg h2_, if_neg h3_, if_neg h4_, if_pos h8_, if_pos h9_, if_pos h10_]))
              · refine lv_aload_n hx hb dM_writeFirst_106 rfl (lv_at hl 0 rfl) ?_
                refine va_get (D := D) (ci := 3) (v := .ref (ad 16)) (C := RM) (T := TM) (N := 33) hx hb hw inM hown hK hP 0 rfl rfl 16 (by decide) f56 (fun _ h9 => h9) rfl dM_writeFirst_107 ?_
                refine lv_iload_n hx hb dM_writeFirst_110 rfl (lv_at hl 1 rfl) ?_
                refine lv_iload_n hx hb dM_writeFirst_111 rfl (lv_at hl 2 rfl) ?_
                refine lv_iconst (v := 1) hx hb dM_writeFirst_112 (by decide) ?_
                refine lv_iand hx hb dM_writeFirst_113 ?_
                refine lv_if_eq (tgt := 121) hx hb dM_writeFirst_114 (by decide) (fun (h11_ : x1 &&& 1 = 0) => ?_) (fun (h11_ : ¬ (x1 &&& 1 = 0)) => ?_)
                · refine lv_iconst (v := 0) hx hb dM_writeFirst_121 (by decide) ?_
                  refine tkst_16 hx hb hK hP hD hS hi0 (x' := 0) rfl dM_writeFirst_122 (fun H locs hP hD hS => ?_)
                  have hP : va_P D vwCl (WM hm ad cI cZ (tk_up (tk_up g 13 (upd (g 13) x0.toNatClampNeg 0)) 16 (upd (g 16) x0.toNatClampNeg 0))) H := hP
                  have hD : va_D A (WM hm ad cI cZ (tk_up (tk_up g 13 (upd (g 13) x0.toNatClampNeg 0)) 16 (upd (g 16) x0.toNatClampNeg 0))) := hD
                  exact tk_vret hx hb hr hlk hP hD hS dM_writeFirst_123 (congrArg (WM hm ad cI cZ) (by unfold tkM_writeFirst_s; rw [if_pos h1_, if_neg h2_, if_neg h3_, if_neg h4_, if_pos h8_, if_pos h9_, if_neg h10_, if_pos h11_]))
                · refine lv_iconst (v := 1) hx hb dM_writeFirst_117 (by decide) ?_
                  refine lv_goto (tgt := 122) hx hb dM_writeFirst_118 (by decide) ?_
                  refine tkst_16 hx hb hK hP hD hS hi0 (x' := 1) rfl dM_writeFirst_122 (fun H locs hP hD hS => ?_)
                  have hP : va_P D vwCl (WM hm ad cI cZ (tk_up (tk_up g 13 (upd (g 13) x0.toNatClampNeg 0)) 16 (upd (g 16) x0.toNatClampNeg 1))) H := hP
                  have hD : va_D A (WM hm ad cI cZ (tk_up (tk_up g 13 (upd (g 13) x0.toNatClampNeg 0)) 16 (upd (g 16) x0.toNatClampNeg 1))) := hD
                  exact tk_vret hx hb hr hlk hP hD hS dM_writeFirst_123 (congrArg (WM hm ad cI cZ) (by unfold tkM_writeFirst_s; rw [if_pos h1_, if_neg h2_, if_neg h3_, if_neg h4_, if_pos h8_, if_pos h9_, if_neg h10_, if_neg h11_]))
            · refine lv_aload_n hx hb dM_writeFirst_90 rfl (lv_at hl 0 rfl) ?_
              refine va_get (D := D) (ci := 3) (v := .ref (ad 15)) (C := RM) (T := TM) (N := 33) hx hb hw inM hown hK hP 0 rfl rfl 15 (by decide) f53 (fun _ h9 => h9) rfl dM_writeFirst_91 ?_
              refine lv_iload_n hx hb dM_writeFirst_94 rfl (lv_at hl 1 rfl) ?_
              refine lv_iconst (v := 1) hx hb dM_writeFirst_95 (by decide) ?_
              refine tkst_15 hx hb hK hP hD hS hi0 (x' := 1) rfl dM_writeFirst_96 (fun H locs hP hD hS => ?_)
              have hP : va_P D vwCl (WM hm ad cI cZ (tk_up (tk_up g 13 (upd (g 13) x0.toNatClampNeg 0)) 15 (upd (g 15) x0.toNatClampNeg 1))) H := hP
              have hD : va_D A (WM hm ad cI cZ (tk_up (tk_up g 13 (upd (g 13) x0.toNatClampNeg 0)) 15 (upd (g 15) x0.toNatClampNeg 1))) := hD
              refine lv_goto (tgt := 123) hx hb dM_writeFirst_97 (by decide) ?_
              exact tk_vret hx hb hr hlk hP hD hS dM_writeFirst_123 (congrArg (WM hm ad cI cZ) (by unfold tkM_writeFirst_s; rw [if_pos h1_, if_neg h2_, if_neg h3_, if_neg h4_, if_pos h8_, if_neg h9_]))
          · refine lv_iconst (v := 1) hx hb dM_writeFirst_69 (by decide) ?_
            refine lv_goto (tgt := 83) hx hb dM_writeFirst_70 (by decide) ?_
            refine tkst_13 hx hb hK hP hD hS hi0 (x' := 1) rfl dM_writeFirst_83 (fun H locs hP hD hS => ?_)
            have hP : va_P D vwCl (WM hm ad cI cZ (tk_up g 13 (upd (g 13) x0.toNatClampNeg 1))) H := hP
            have hD : va_D A (WM hm ad cI cZ (tk_up g 13 (upd (g 13) x0.toNatClampNeg 1))) := hD
            refine lv_iload_n hx hb dM_writeFirst_84 rfl (lv_at hl 2 rfl) ?_
            refine lv_iconst (v := 4) hx hb dM_writeFirst_85 (by decide) ?_
            refine lv_iand hx hb dM_writeFirst_86 ?_
            refine lv_if_eq (tgt := 100) hx hb dM_writeFirst_87 (by decide) (fun (h12_ : x1 &&& 4 = 0) => ?_) (fun (h12_ : ¬ (x1 &&& 4 = 0)) => ?_)
            · refine lv_iload_n hx hb dM_writeFirst_100 rfl (lv_at hl 2 rfl) ?_
              refine lv_iconst (v := 2) hx hb dM_writeFirst_101 (by decide) ?_
              refine lv_iand hx hb dM_writeFirst_102 ?_
              refine lv_if_eq (tgt := 123) hx hb dM_writeFirst_103 (by decide) (fun (h13_ : x1 &&& 2 = 0) => ?_) (fun (h13_ : ¬ (x1 &&& 2 = 0)) => ?_)
              · exact tk_vret hx hb hr hlk hP hD hS dM_writeFirst_123 (congrArg (WM hm ad cI cZ) (by unfold tkM_writeFirst_s; rw [if_pos h1_, if_neg h2_, if_neg h3_, if_neg h4_, if_neg h8_, if_pos h12_, if_pos h13_]))
              · refine lv_aload_n hx hb dM_writeFirst_106 rfl (lv_at hl 0 rfl) ?_
                refine va_get (D := D) (ci := 3) (v := .ref (ad 16)) (C := RM) (T := TM) (N := 33) hx hb hw inM hown hK hP 0 rfl rfl 16 (by decide) f56 (fun _ h9 => h9) rfl dM_writeFirst_107 ?_
                refine lv_iload_n hx hb dM_writeFirst_110 rfl (lv_at hl 1 rfl) ?_
                refine lv_iload_n hx hb dM_writeFirst_111 rfl (lv_at hl 2 rfl) ?_
                refine lv_iconst (v := 1) hx hb dM_writeFirst_112 (by decide) ?_
                refine lv_iand hx hb dM_writeFirst_113 ?_
                refine lv_if_eq (tgt := 121) hx hb dM_writeFirst_114 (by decide) (fun (h14_ : x1 &&& 1 = 0) => ?_) (fun (h14_ : ¬ (x1 &&& 1 = 0)) => ?_)
                · refine lv_iconst (v := 0) hx hb dM_writeFirst_121 (by decide) ?_
                  refine tkst_16 hx hb hK hP hD hS hi0 (x' := 0) rfl dM_writeFirst_122 (fun H locs hP hD hS => ?_)
                  have hP : va_P D vwCl (WM hm ad cI cZ (tk_up (tk_up g 13 (upd (g 13) x0.toNatClampNeg 1)) 16 (upd (g 16) x0.toNatClampNeg 0))) H := hP
                  have hD : va_D A (WM hm ad cI cZ (tk_up (tk_up g 13 (upd (g 13) x0.toNatClampNeg 1)) 16 (upd (g 16) x0.toNatClampNeg 0))) := hD
                  exact tk_vret hx hb hr hlk hP hD hS dM_writeFirst_123 (congrArg (WM hm ad cI cZ) (by unfold tkM_writeFirst_s; rw [if_pos h1_, if_neg h2_, if_neg h3_, if_neg h4_, if_neg h8_, if_pos h12_, if_neg h13_, if_pos h14_]))
                · refine lv_iconst (v := 1) hx hb dM_writeFirst_117 (by decide) ?_
                  refine lv_goto (tgt := 122) hx hb dM_writeFirst_118 (by decide) ?_
                  refine tkst_16 hx hb hK hP hD hS hi0 (x' := 1) rfl dM_writeFirst_122 (fun H locs hP hD hS => ?_)
                  have hP : va_P D vwCl (WM hm ad cI cZ (tk_up (tk_up g 13 (upd (g 13) x0.toNatClampNeg 1)) 16 (upd (g 16) x0.toNatClampNeg 1))) H := hP
                  have hD : va_D A (WM hm ad cI cZ (tk_up (tk_up g 13 (upd (g 13) x0.toNatClampNeg 1)) 16 (upd (g 16) x0.toNatClampNeg 1))) := hD
                  exact tk_vret hx hb hr hlk hP hD hS dM_writeFirst_123 (congrArg (WM hm ad cI cZ) (by unfold tkM_writeFirst_s; rw [if_pos h1_, if_neg h2_, if_neg h3_, if_neg h4_, if_neg h8_, if_pos h12_, if_neg h13_, if_neg h14_]))
            · refine lv_aload_n hx hb dM_writeFirst_90 rfl (lv_at hl 0 rfl) ?_
              refine va_get (D := D) (ci := 3) (v := .ref (ad 15)) (C := RM) (T := TM) (N := 33) hx hb hw inM hown hK hP 0 rfl rfl 15 (by decide) f53 (fun _ h9 => h9) rfl dM_writeFirst_91 ?_
              refine lv_iload_n hx hb dM_writeFirst_94 rfl (lv_at hl 1 rfl) ?_
              refine lv_iconst (v := 1) hx hb dM_writeFirst_95 (by decide) ?_
              refine tkst_15 hx hb hK hP hD hS hi0 (x' := 1) rfl dM_writeFirst_96 (fun H locs hP hD hS => ?_)
              have hP : va_P D vwCl (WM hm ad cI cZ (tk_up (tk_up g 13 (upd (g 13) x0.toNatClampNeg 1)) 15 (upd (g 15) x0.toNatClampNeg 1))) H := hP
              have hD : va_D A (WM hm ad cI cZ (tk_up (tk_up g 13 (upd (g 13) x0.toNatClampNeg 1)) 15 (upd (g 15) x0.toNatClampNeg 1))) := hD
              refine lv_goto (tgt := 123) hx hb dM_writeFirst_97 (by decide) ?_
              exact tk_vret hx hb hr hlk hP hD hS dM_writeFirst_123 (congrArg (WM hm ad cI cZ) (by unfold tkM_writeFirst_s; rw [if_pos h1_, if_neg h2_, if_neg h3_, if_neg h4_, if_neg h8_, if_neg h12_]))
      · refine lv_aload_n hx hb dM_writeFirst_32 rfl (lv_at hl 0 rfl) ?_
        refine lv_iload_n hx hb dM_writeFirst_33 rfl (lv_at hl 1 rfl) ?_
        refine lv_iload_n hx hb dM_writeFirst_34 rfl (lv_at hl 2 rfl) ?_
        refine tk_callA hD hS hA (va_runV (As := [.int x0, .int x1]) (rest := []) ⟨hx, hb, hml, hown, hw⟩ (kM_rule l D hm ad cI cZ g x0 x1 hi0 H.size) (cwV 2 hw (tk_gV tkWM_good wM_M_133 wI_M_rule wS_M_rule wZ_M wC_M_rule) rfl rfl rfl (by decide +kernel) ⟨Nat.le_of_ble_eq_true rfl, Nat.le_of_ble_eq_true rfl⟩) (tk_preM hK hN hP hD) rfl rfl hl.1 rfl (lv_room (Nat.le_of_ble_eq_true rfl)) dM_writeFirst_35 ⟨Nat.zero_le _, Nat.zero_le _⟩) (fun H locs hP hD hS => ?_)
        refine W.eq (g2 := F0 m 38 ls []) rfl ?_
        refine lv_goto (tgt := 123) hx hb dM_writeFirst_38 (by decide) ?_
        exact tk_vret hx hb hr hlk hP hD hS dM_writeFirst_123 (congrArg (WM hm ad cI cZ) (by unfold tkM_writeFirst_s; rw [if_pos h1_, if_neg h2_, if_pos h3_]))
  · refine lv_aload_n hx hb dM_writeFirst_7 rfl (lv_at hl 0 rfl) ?_
    refine lv_iload_n hx hb dM_writeFirst_8 rfl (lv_at hl 1 rfl) ?_
    refine lv_iload_n hx hb dM_writeFirst_9 rfl (lv_at hl 2 rfl) ?_
    refine tk_callA hD hS hA (va_runV (As := [.int x0, .int x1]) (rest := []) ⟨hx, hb, hml, hown, hw⟩ (kM_begin l D hm ad cI cZ g x0 x1 hi0 H.size) (cwV 2 hw (tk_gV tkWM_good wM_M_129 wI_M_begin wS_M_begin wZ_M wC_M_begin) rfl rfl rfl (by decide +kernel) ⟨Nat.le_of_ble_eq_true rfl, Nat.le_of_ble_eq_true rfl⟩) (tk_preM hK hN hP hD) rfl rfl hl.1 rfl (lv_room (Nat.le_of_ble_eq_true rfl)) dM_writeFirst_10 ⟨Nat.zero_le _, Nat.zero_le _⟩) (fun H locs hP hD hS => ?_)
    refine W.eq (g2 := F0 m 13 ls []) rfl ?_
    refine lv_goto (tgt := 123) hx hb dM_writeFirst_13 (by decide) ?_
    exact tk_vret hx hb hr hlk hP hD hS dM_writeFirst_123 (congrArg (WM hm ad cI cZ) (by unfold tkM_writeFirst_s; rw [if_neg h1_]))
def tkM_writeSecond_s (g : Nat → Nat → Int32) (x0 x1 : Int32) : Nat → Nat → Int32 :=
  if g 7 x0.toNatClampNeg = 0 then (if g 17 x0.toNatClampNeg = 0 then g
    else if g 17 x0.toNatClampNeg = 2 then (if g 9 x0.toNatClampNeg = 0 then tk_up (tk_up (tk_up g 5 (upd (g 5) x0.toNatClampNeg (x1 &&& 248))) 17 (upd (g 17) x0.toNatClampNeg 3)) 7 (upd (g 7) x0.toNatClampNeg 0)
        else if 4 ≤ g 17 x0.toNatClampNeg then tk_up (tk_up (tk_up g 5 (upd (g 5) x0.toNatClampNeg (x1 &&& 248))) 17 (upd (g 17) x0.toNatClampNeg 0)) 7 (upd (g 7) x0.toNatClampNeg 1)
          else if g 10 x0.toNatClampNeg = 0 then tk_up (tk_up (tk_up g 5 (upd (g 5) x0.toNatClampNeg (x1 &&& 248))) 17 (upd (g 17) x0.toNatClampNeg 0)) 7 (upd (g 7) x0.toNatClampNeg 1)
            else tk_up (tk_up (tk_up g 5 (upd (g 5) x0.toNatClampNeg (x1 &&& 248))) 17 (upd (g 17) x0.toNatClampNeg 4)) 7 (upd (g 7) x0.toNatClampNeg 0))
      else if g 17 x0.toNatClampNeg = 4 then (if x1 &&& 2 = 0 then (if x1 &&& 16 = 0 then (if 4 ≤ g 17 x0.toNatClampNeg then tk_up (tk_up (tk_up (tk_up g 11 (upd (g 11) x0.toNatClampNeg 0)) 12 (upd (g 12) x0.toNatClampNeg 0)) 17 (upd (g 17) x0.toNatClampNeg 0)) 7 (upd (g 7) x0.toNatClampNeg 1)
              else if g 10 x0.toNatClampNeg = 0 then tk_up (tk_up (tk_up (tk_up g 11 (upd (g 11) x0.toNatClampNeg 0)) 12 (upd (g 12) x0.toNatClampNeg 0)) 17 (upd (g 17) x0.toNatClampNeg 0)) 7 (upd (g 7) x0.toNatClampNeg 1)
                else tk_up (tk_up (tk_up (tk_up g 11 (upd (g 11) x0.toNatClampNeg 0)) 12 (upd (g 12) x0.toNatClampNeg 0)) 17 (upd (g 17) x0.toNatClampNeg 4)) 7 (upd (g 7) x0.toNatClampNeg 0))
            else if 4 ≤ g 17 x0.toNatClampNeg then tk_up (tk_up (tk_up (tk_up g 11 (upd (g 11) x0.toNatClampNeg 0)) 12 (upd (g 12) x0.toNatClampNeg 1)) 17 (upd (g 17) x0.toNatClampNeg 0)) 7 (upd (g 7) x0.toNatClampNeg 1)
              else if g 10 x0.toNatClampNeg = 0 then tk_up (tk_up (tk_up (tk_up g 11 (upd (g 11) x0.toNatClampNeg 0)) 12 (upd (g 12) x0.toNatClampNeg 1)) 17 (upd (g 17) x0.toNatClampNeg 0)) 7 (upd (g 7) x0.toNatClampNeg 1)
                else tk_up (tk_up (tk_up (tk_up g 11 (upd (g 11) x0.toNatClampNeg 0)) 12 (upd (g 12) x0.toNatClampNeg 1)) 17 (upd (g 17) x0.toNatClampNeg 4)) 7 (upd (g 7) x0.toNatClampNeg 0))
          else if x1 &&& 16 = 0 then (if 4 ≤ g 17 x0.toNatClampNeg then tk_up (tk_up (tk_up (tk_up g 11 (upd (g 11) x0.toNatClampNeg 1)) 12 (upd (g 12) x0.toNatClampNeg 0)) 17 (upd (g 17) x0.toNatClampNeg 0)) 7 (upd (g 7) x0.toNatClampNeg 1)
              else if g 10 x0.toNatClampNeg = 0 then tk_up (tk_up (tk_up (tk_up g 11 (upd (g 11) x0.toNatClampNeg 1)) 12 (upd (g 12) x0.toNatClampNeg 0)) 17 (upd (g 17) x0.toNatClampNeg 0)) 7 (upd (g 7) x0.toNatClampNeg 1)
                else tk_up (tk_up (tk_up (tk_up g 11 (upd (g 11) x0.toNatClampNeg 1)) 12 (upd (g 12) x0.toNatClampNeg 0)) 17 (upd (g 17) x0.toNatClampNeg 4)) 7 (upd (g 7) x0.toNatClampNeg 0))
            else if 4 ≤ g 17 x0.toNatClampNeg then tk_up (tk_up (tk_up (tk_up g 11 (upd (g 11) x0.toNatClampNeg 1)) 12 (upd (g 12) x0.toNatClampNeg 1)) 17 (upd (g 17) x0.toNatClampNeg 0)) 7 (upd (g 7) x0.toNatClampNeg 1)
              else if g 10 x0.toNatClampNeg = 0 then tk_up (tk_up (tk_up (tk_up g 11 (upd (g 11) x0.toNatClampNeg 1)) 12 (upd (g 12) x0.toNatClampNeg 1)) 17 (upd (g 17) x0.toNatClampNeg 0)) 7 (upd (g 7) x0.toNatClampNeg 1)
                else tk_up (tk_up (tk_up (tk_up g 11 (upd (g 11) x0.toNatClampNeg 1)) 12 (upd (g 12) x0.toNatClampNeg 1)) 17 (upd (g 17) x0.toNatClampNeg 4)) 7 (upd (g 7) x0.toNatClampNeg 0))
        else if 4 ≤ g 17 x0.toNatClampNeg then tk_up (tk_up g 17 (upd (g 17) x0.toNatClampNeg 0)) 7 (upd (g 7) x0.toNatClampNeg 1)
          else if g 10 x0.toNatClampNeg = 0 then tk_up (tk_up g 17 (upd (g 17) x0.toNatClampNeg 0)) 7 (upd (g 7) x0.toNatClampNeg 1)
            else tk_up (tk_up g 17 (upd (g 17) x0.toNatClampNeg 4)) 7 (upd (g 7) x0.toNatClampNeg 0))
  else tk_up g 3 (upd (g 3) x0.toNatClampNeg x1)
set_option maxHeartbeats 1000000 in
set_option maxRecDepth 100000 in
theorem kM_writeSecond (l : Launch) (D : va_G) (hm : Nat) (ad : Nat → Nat) (cI cZ : ClassId) (g : Nat → Nat → Int32) (x0 x1 : Int32) (hi0 : vp_in x0 2) : tk_M l yM_writeSecond wsM_writeSecond { frames := 0, cells := 0, slots := 0, locals := 0 } D [(cI, .int), (cZ, .boolean)] [.ref hm, .int x0, .int x1] (WM hm ad cI cZ g) (WM hm ad cI cZ (tkM_writeSecond_s g x0 x1)) none := by
  refine tk_M.of (cc := cM_writeSecond) (maxL := 4) (ret := none) (by decide) rfl (Nat.le_of_ble_eq_true rfl) ?_
  intro p e s m below meth co A H locs ls hB hK hN hA hP hD hS hl
  obtain ⟨hx, hb, hr, hml, hown, hlk, hnm, hts⟩ := hB
  have hown : s.vm.findClass RM = some m.cls := hown
  have hl : lv_has ls 4 [(0, .ref hm), (1, .int x0), (2, .int x1)] := hl
  have hw : ∀ w ∈ tkWM, w.before _ s = true := fun w h => hts w (List.mem_cons_of_mem _ h)
  have f28 := hw _ wF_M_28
  have f59 := hw _ wF_M_59
  have f38 := hw _ wF_M_38
  have f41 := hw _ wF_M_41
  have f44 := hw _ wF_M_44
  have f22 := hw _ wF_M_22
  have f35 := hw _ wF_M_35
  have f16 := hw _ wF_M_16
  refine lv_aload_n hx hb dM_writeSecond_0 rfl (lv_at hl 0 rfl) ?_
  refine va_get (D := D) (ci := 3) (v := .ref (ad 7)) (C := RM) (T := TM) (N := 33) hx hb hw inM hown hK hP 0 rfl rfl 7 (by decide) f28 (fun _ h9 => h9) rfl dM_writeSecond_1 ?_
  refine lv_iload_n hx hb dM_writeSecond_4 rfl (lv_at hl 1 rfl) ?_
  refine tkld_7 hx hb hK hP hi0 dM_writeSecond_5 ?_
  refine lv_if_eq (tgt := 17) hx hb dM_writeSecond_6 (by decide) (fun (h1_ : g 7 x0.toNatClampNeg = 0) => ?_) (fun (h1_ : ¬ (g 7 x0.toNatClampNeg = 0)) => ?_)
  · refine lv_aload_n hx hb dM_writeSecond_17 rfl (lv_at hl 0 rfl) ?_
    refine va_get (D := D) (ci := 3) (v := .ref (ad 17)) (C := RM) (T := TM) (N := 33) hx hb hw inM hown hK hP 0 rfl rfl 17 (by decide) f59 (fun _ h9 => h9) rfl dM_writeSecond_18 ?_
    refine lv_iload_n hx hb dM_writeSecond_21 rfl (lv_at hl 1 rfl) ?_
    refine tkld_17 hx hb hK hP hi0 dM_writeSecond_22 ?_
    refine lv_istore_n hx hb dM_writeSecond_23 rfl hl (by decide) rfl (fun ls hl => ?_)
    have hl : lv_has ls 4 [(3, .int (g 17 x0.toNatClampNeg)), (0, .ref hm), (1, .int x0), (2, .int x1)] := hl
    refine lv_iload_n hx hb dM_writeSecond_24 rfl (lv_at hl 0 rfl) ?_
    refine lv_if_ne (tgt := 29) hx hb dM_writeSecond_25 (by decide) (fun (h2_ : ¬ (g 17 x0.toNatClampNeg = 0)) => ?_) (fun (h2_ : g 17 x0.toNatClampNeg = 0) => ?_)
    · refine lv_iload_n hx hb dM_writeSecond_29 rfl (lv_at hl 0 rfl) ?_
      refine lv_iconst (v := 2) hx hb dM_writeSecond_30 (by decide) ?_
      refine lv_icmp_ne (tgt := 48) hx hb dM_writeSecond_31 (by decide) (fun (h3_ : ¬ (g 17 x0.toNatClampNeg = 2)) => ?_) (fun (h3_ : g 17 x0.toNatClampNeg = 2) => ?_)
      · refine lv_iload_n hx hb dM_writeSecond_48 rfl (lv_at hl 0 rfl) ?_
        refine lv_iconst (v := 4) hx hb dM_writeSecond_49 (by decide) ?_
        refine lv_icmp_ne (tgt := 88) hx hb dM_writeSecond_50 (by decide) (fun (h4_ : ¬ (g 17 x0.toNatClampNeg = 4)) => ?_) (fun (h4_ : g 17 x0.toNatClampNeg = 4) => ?_)
        · refine lv_aload_n hx hb dM_writeSecond_88 rfl (lv_at hl 1 rfl) ?_
          refine va_get (D := D) (ci := 3) (v := .ref (ad 17)) (C := RM) (T := TM) (N := 33) hx hb hw inM hown hK hP 0 rfl rfl 17 (by decide) f59 (fun _ h9 => h9) rfl dM_writeSecond_89 ?_
          refine lv_iload_n hx hb dM_writeSecond_92 rfl (lv_at hl 2 rfl) ?_
          refine lv_iload_n hx hb dM_writeSecond_93 rfl (lv_at hl 0 rfl) ?_
          refine lv_iconst (v := 2) hx hb dM_writeSecond_94 (by decide) ?_
          refine lv_icmp_ne (tgt := 111) hx hb dM_writeSecond_95 (by decide) (fun _ => ?_) (fun h => absurd h h3_)
          refine lv_iload_n hx hb dM_writeSecond_111 rfl (lv_at hl 0 rfl) ?_
          refine lv_iconst (v := 4) hx hb dM_writeSecond_112 (by decide) ?_
          refine lv_icmp_ge (tgt := 129) hx hb dM_writeSecond_113 (by decide) (fun (h5_ : 4 ≤ g 17 x0.toNatClampNeg) => ?_) (fun (h5_ : ¬ (4 ≤ g 17 x0.toNatClampNeg)) => ?_)
          · refine lv_iconst (v := 0) hx hb dM_writeSecond_129 (by decide) ?_
            refine tkst_17 hx hb hK hP hD hS hi0 dM_writeSecond_130 (fun H locs hP hD hS => ?_)
            have hP : va_P D vwCl (WM hm ad cI cZ (tk_up g 17 (upd (g 17) x0.toNatClampNeg 0))) H := hP
            have hD : va_D A (WM hm ad cI cZ (tk_up g 17 (upd (g 17) x0.toNatClampNeg 0))) := hD
            refine lv_aload_n hx hb dM_writeSecond_131 rfl (lv_at hl 1 rfl) ?_
            refine va_get (D := D) (ci := 3) (v := .ref (ad 7)) (C := RM) (T := TM) (N := 33) hx hb hw inM hown hK hP 0 rfl rfl 7 (by decide) f28 (fun _ h9 => h9) rfl dM_writeSecond_132 ?_
            refine lv_iload_n hx hb dM_writeSecond_135 rfl (lv_at hl 2 rfl) ?_
            refine lv_aload_n hx hb dM_writeSecond_136 rfl (lv_at hl 1 rfl) ?_
            refine va_get (D := D) (ci := 3) (v := .ref (ad 17)) (C := RM) (T := TM) (N := 33) hx hb hw inM hown hK hP 0 rfl rfl 17 (by decide) f59 (fun _ h9 => h9) rfl dM_writeSecond_137 ?_
            refine lv_iload_n hx hb dM_writeSecond_140 rfl (lv_at hl 2 rfl) ?_
            refine tkld_17 hx hb hK hP hi0 dM_writeSecond_141 ?_
            refine tk_top (tk_us (g 17) x0.toNatClampNeg 0) ?_
            refine lv_if_ne (tgt := 149) hx hb dM_writeSecond_142 (by decide) (fun h => absurd (by decide) h) (fun _ => ?_)
            refine lv_iconst (v := 1) hx hb dM_writeSecond_145 (by decide) ?_
            refine lv_goto (tgt := 150) hx hb dM_writeSecond_146 (by decide) ?_
            refine tkst_7 hx hb hK hP hD hS hi0 (x' := 1) rfl dM_writeSecond_150 (fun H locs hP hD hS => ?_)
            have hP : va_P D vwCl (WM hm ad cI cZ (tk_up (tk_up g 17 (upd (g 17) x0.toNatClampNeg 0)) 7 (upd (g 7) x0.toNatClampNeg 1))) H := hP
            have hD : va_D A (WM hm ad cI cZ (tk_up (tk_up g 17 (upd (g 17) x0.toNatClampNeg 0)) 7 (upd (g 7) x0.toNatClampNeg 1))) := hD
            exact tk_vret hx hb hr hlk hP hD hS dM_writeSecond_151 (congrArg (WM hm ad cI cZ) (by unfold tkM_writeSecond_s; rw [if_pos h1_, if_neg h2_, if_neg h3_, if_neg h4_, if_pos h5_]))
          · refine lv_aload_n hx hb dM_writeSecond_116 rfl (lv_at hl 1 rfl) ?_
            refine va_get (D := D) (ci := 3) (v := .ref (ad 10)) (C := RM) (T := TM) (N := 33) hx hb hw inM hown hK hP 0 rfl rfl 10 (by decide) f38 (fun _ h9 => h9) rfl dM_writeSecond_117 ?_
            refine lv_iload_n hx hb dM_writeSecond_120 rfl (lv_at hl 2 rfl) ?_
            refine tkld_10 hx hb hK hP hi0 dM_writeSecond_121 ?_
            refine lv_if_eq (tgt := 129) hx hb dM_writeSecond_122 (by decide) (fun (h6_ : g 10 x0.toNatClampNeg = 0) => ?_) (fun (h6_ : ¬ (g 10 x0.toNatClampNeg = 0)) => ?_)
            · refine lv_iconst (v := 0) hx hb dM_writeSecond_129 (by decide) ?_
              refine tkst_17 hx hb hK hP hD hS hi0 dM_writeSecond_130 (fun H locs hP hD hS => ?_)
              have hP : va_P D vwCl (WM hm ad cI cZ (tk_up g 17 (upd (g 17) x0.toNatClampNeg 0))) H := hP
              have hD : va_D A (WM hm ad cI cZ (tk_up g 17 (upd (g 17) x0.toNatClampNeg 0))) := hD
              refine lv_aload_n hx hb dM_writeSecond_131 rfl (lv_at hl 1 rfl) ?_
              refine va_get (D := D) (ci := 3) (v := .ref (ad 7)) (C := RM) (T := TM) (N := 33) hx hb hw inM hown hK hP 0 rfl rfl 7 (by decide) f28 (fun _ h9 => h9) rfl dM_writeSecond_132 ?_
              refine lv_iload_n hx hb dM_writeSecond_135 rfl (lv_at hl 2 rfl) ?_
              refine lv_aload_n hx hb dM_writeSecond_136 rfl (lv_at hl 1 rfl) ?_
              refine va_get (D := D) (ci := 3) (v := .ref (ad 17)) (C := RM) (T := TM) (N := 33) hx hb hw inM hown hK hP 0 rfl rfl 17 (by decide) f59 (fun _ h9 => h9) rfl dM_writeSecond_137 ?_
              refine lv_iload_n hx hb dM_writeSecond_140 rfl (lv_at hl 2 rfl) ?_
              refine tkld_17 hx hb hK hP hi0 dM_writeSecond_141 ?_
              refine tk_top (tk_us (g 17) x0.toNatClampNeg 0) ?_
              refine lv_if_ne (tgt := 149) hx hb dM_writeSecond_142 (by decide) (fun h => absurd (by decide) h) (fun _ => ?_)
              refine lv_iconst (v := 1) hx hb dM_writeSecond_145 (by decide) ?_
              refine lv_goto (tgt := 150) hx hb dM_writeSecond_146 (by decide) ?_
              refine tkst_7 hx hb hK hP hD hS hi0 (x' := 1) rfl dM_writeSecond_150 (fun H locs hP hD hS => ?_)
              have hP : va_P D vwCl (WM hm ad cI cZ (tk_up (tk_up g 17 (upd (g 17) x0.toNatClampNeg 0)) 7 (upd (g 7) x0.toNatClampNeg 1))) H := hP
              have hD : va_D A (WM hm ad cI cZ (tk_up (tk_up g 17 (upd (g 17) x0.toNatClampNeg 0)) 7 (upd (g 7) x0.toNatClampNeg 1))) := hD
              exact tk_vret hx hb hr hlk hP hD hS dM_writeSecond_151 (congrArg (WM hm ad cI cZ) (by unfold tkM_writeSecond_s; rw [if_pos h1_, if_neg h2_, if_neg h3_, if_neg h4_, if_neg h5_, if_pos h6_]))
            · refine lv_iconst (v := 4) hx hb dM_writeSecond_125 (by decide) ?_
              refine lv_goto (tgt := 130) hx hb dM_writeSecond_126 (by decide) ?_
              refine tkst_17 hx hb hK hP hD hS hi0 dM_writeSecond_130 (fun H locs hP hD hS => ?_)
              have hP : va_P D vwCl (WM hm ad cI cZ (tk_up g 17 (upd (g 17) x0.toNatClampNeg 4))) H := hP
              have hD : va_D A (WM hm ad cI cZ (tk_up g 17 (upd (g 17) x0.toNatClampNeg 4))) := hD
              refine lv_aload_n hx hb dM_writeSecond_131 rfl (lv_at hl 1 rfl) ?_
              refine va_get (D := D) (ci := 3) (v := .ref (ad 7)) (C := RM) (T := TM) (N := 33) hx hb hw inM hown hK hP 0 rfl rfl 7 (by decide) f28 (fun _ h9 => h9) rfl dM_writeSecond_132 ?_
              refine lv_iload_n hx hb dM_writeSecond_135 rfl (lv_at hl 2 rfl) ?_
              refine lv_aload_n hx hb dM_writeSecond_136 rfl (lv_at hl 1 rfl) ?_
              refine va_get (D := D) (ci := 3) (v := .ref (ad 17)) (C := RM) (T := TM) (N := 33) hx hb hw inM hown hK hP 0 rfl rfl 17 (by decide) f59 (fun _ h9 => h9) rfl dM_writeSecond_137 ?_
              refine lv_iload_n hx hb dM_writeSecond_140 rfl (lv_at hl 2 rfl) ?_
              refine tkld_17 hx hb hK hP hi0 dM_writeSecond_141 ?_
              refine tk_top (tk_us (g 17) x0.toNatClampNeg 4) ?_
              refine lv_if_ne (tgt := 149) hx hb dM_writeSecond_142 (by decide) (fun _ => ?_) (fun h => absurd h (by decide))
              refine lv_iconst (v := 0) hx hb dM_writeSecond_149 (by decide) ?_
              refine tkst_7 hx hb hK hP hD hS hi0 (x' := 0) rfl dM_writeSecond_150 (fun H locs hP hD hS => ?_)
              have hP : va_P D vwCl (WM hm ad cI cZ (tk_up (tk_up g 17 (upd (g 17) x0.toNatClampNeg 4)) 7 (upd (g 7) x0.toNatClampNeg 0))) H := hP
              have hD : va_D A (WM hm ad cI cZ (tk_up (tk_up g 17 (upd (g 17) x0.toNatClampNeg 4)) 7 (upd (g 7) x0.toNatClampNeg 0))) := hD
              exact tk_vret hx hb hr hlk hP hD hS dM_writeSecond_151 (congrArg (WM hm ad cI cZ) (by unfold tkM_writeSecond_s; rw [if_pos h1_, if_neg h2_, if_neg h3_, if_neg h4_, if_neg h5_, if_neg h6_]))
        · refine lv_aload_n hx hb dM_writeSecond_53 rfl (lv_at hl 1 rfl) ?_
          refine va_get (D := D) (ci := 3) (v := .ref (ad 11)) (C := RM) (T := TM) (N := 33) hx hb hw inM hown hK hP 0 rfl rfl 11 (by decide) f41 (fun _ h9 => h9) rfl dM_writeSecond_54 ?_
          refine lv_iload_n hx hb dM_writeSecond_57 rfl (lv_at hl 2 rfl) ?_
          refine lv_iload_n hx hb dM_writeSecond_58 rfl (lv_at hl 3 rfl) ?_
          refine lv_iconst (v := 2) hx hb dM_writeSecond_59 (by decide) ?_
          refine lv_iand hx hb dM_writeSecond_60 ?_
          refine lv_if_eq (tgt := 68) hx hb dM_writeSecond_61 (by decide) (fun (h7_ : x1 &&& 2 = 0) => ?_) (fun (h7_ : ¬ (x1 &&& 2 = 0)) => ?_)
          · refine lv_iconst (v := 0) hx hb dM_writeSecond_68 (by decide) ?_
            refine tkst_11 hx hb hK hP hD hS hi0 (x' := 0) rfl dM_writeSecond_69 (fun H locs hP hD hS => ?_)
            have hP : va_P D vwCl (WM hm ad cI cZ (tk_up g 11 (upd (g 11) x0.toNatClampNeg 0))) H := hP
            have hD : va_D A (WM hm ad cI cZ (tk_up g 11 (upd (g 11) x0.toNatClampNeg 0))) := hD
            refine lv_aload_n hx hb dM_writeSecond_70 rfl (lv_at hl 1 rfl) ?_
            refine va_get (D := D) (ci := 3) (v := .ref (ad 12)) (C := RM) (T := TM) (N := 33) hx hb hw inM hown hK hP 0 rfl rfl 12 (by decide) f44 (fun _ h9 => h9) rfl dM_writeSecond_71 ?_
            refine lv_iload_n hx hb dM_writeSecond_74 rfl (lv_at hl 2 rfl) ?_
            refine lv_iload_n hx hb dM_writeSecond_75 rfl (lv_at hl 3 rfl) ?_
            refine lv_bipush (v := 16) hx hb dM_writeSecond_76 (by decide) ?_
            refine lv_iand hx hb dM_writeSecond_78 ?_
            refine lv_if_eq (tgt := 86) hx hb dM_writeSecond_79 (by decide) (fun (h8_ : x1 &&& 16 = 0) => ?_) (fun (h8_ : ¬ (x1 &&& 16 = 0)) => ?_)
            · refine lv_iconst (v := 0) hx hb dM_writeSecond_86 (by decide) ?_
              refine tkst_12 hx hb hK hP hD hS hi0 (x' := 0) rfl dM_writeSecond_87 (fun H locs hP hD hS => ?_)
              have hP : va_P D vwCl (WM hm ad cI cZ (tk_up (tk_up g 11 (upd (g 11) x0.toNatClampNeg 0)) 12 (upd (g 12) x0.toNatClampNeg 0))) H := hP
              have hD : va_D A (WM hm ad cI cZ (tk_up (tk_up g 11 (upd (g 11) x0.toNatClampNeg 0)) 12 (upd (g 12) x0.toNatClampNeg 0))) := hD
              refine lv_aload_n hx hb dM_writeSecond_88 rfl (lv_at hl 1 rfl) ?_
              refine va_get (D := D) (ci := 3) (v := .ref (ad 17)) (C := RM) (T := TM) (N := 33) hx hb hw inM hown hK hP 0 rfl rfl 17 (by decide) f59 (fun _ h9 => h9) rfl dM_writeSecond_89 ?_
              refine lv_iload_n hx hb dM_writeSecond_92 rfl (lv_at hl 2 rfl) ?_
              refine lv_iload_n hx hb dM_writeSecond_93 rfl (lv_at hl 0 rfl) ?_
              refine lv_iconst (v := 2) hx hb dM_writeSecond_94 (by decide) ?_
              refine lv_icmp_ne (tgt := 111) hx hb dM_writeSecond_95 (by decide) (fun _ => ?_) (fun h => absurd h h3_)
              refine lv_iload_n hx hb dM_writeSecond_111 rfl (lv_at hl 0 rfl) ?_
              refine lv_iconst (v := 4) hx hb dM_writeSecond_112 (by decide) ?_
              refine lv_icmp_ge (tgt := 129) hx hb dM_writeSecond_113 (by decide) (fun (h9_ : 4 ≤ g 17 x0.toNatClampNeg) => ?_) (fun (h9_ : ¬ (4 ≤ g 17 x0.toNatClampNeg)) => ?_)
              · refine lv_iconst (v := 0) hx hb dM_writeSecond_129 (by decide) ?_
                refine tkst_17 hx hb hK hP hD hS hi0 dM_writeSecond_130 (fun H locs hP hD hS => ?_)
                have hP : va_P D vwCl (WM hm ad cI cZ (tk_up (tk_up (tk_up g 11 (upd (g 11) x0.toNatClampNeg 0)) 12 (upd (g 12) x0.toNatClampNeg 0)) 17 (upd (g 17) x0.toNatClampNeg 0))) H := hP
                have hD : va_D A (WM hm ad cI cZ (tk_up (tk_up (tk_up g 11 (upd (g 11) x0.toNatClampNeg 0)) 12 (upd (g 12) x0.toNatClampNeg 0)) 17 (upd (g 17) x0.toNatClampNeg 0))) := hD
                refine lv_aload_n hx hb dM_writeSecond_131 rfl (lv_at hl 1 rfl) ?_
                refine va_get (D := D) (ci := 3) (v := .ref (ad 7)) (C := RM) (T := TM) (N := 33) hx hb hw inM hown hK hP 0 rfl rfl 7 (by decide) f28 (fun _ h9 => h9) rfl dM_writeSecond_132 ?_
                refine lv_iload_n hx hb dM_writeSecond_135 rfl (lv_at hl 2 rfl) ?_
                refine lv_aload_n hx hb dM_writeSecond_136 rfl (lv_at hl 1 rfl) ?_
                refine va_get (D := D) (ci := 3) (v := .ref (ad 17)) (C := RM) (T := TM) (N := 33) hx hb hw inM hown hK hP 0 rfl rfl 17 (by decide) f59 (fun _ h9 => h9) rfl dM_writeSecond_137 ?_
                refine lv_iload_n hx hb dM_writeSecond_140 rfl (lv_at hl 2 rfl) ?_
                refine tkld_17 hx hb hK hP hi0 dM_writeSecond_141 ?_
                refine tk_top (tk_us (g 17) x0.toNatClampNeg 0) ?_
                refine lv_if_ne (tgt := 149) hx hb dM_writeSecond_142 (by decide) (fun h => absurd (by decide) h) (fun _ => ?_)
                refine lv_iconst (v := 1) hx hb dM_writeSecond_145 (by decide) ?_
                refine lv_goto (tgt := 150) hx hb dM_writeSecond_146 (by decide) ?_
                refine tkst_7 hx hb hK hP hD hS hi0 (x' := 1) rfl dM_writeSecond_150 (fun H locs hP hD hS => ?_)
                have hP : va_P D vwCl (WM hm ad cI cZ (tk_up (tk_up (tk_up (tk_up g 11 (upd (g 11) x0.toNatClampNeg 0)) 12 (upd (g 12) x0.toNatClampNeg 0)) 17 (upd (g 17) x0.toNatClampNeg 0)) 7 (upd (g 7) x0.toNatClampNeg 1))) H := hP
                have hD : va_D A (WM hm ad cI cZ (tk_up (tk_up (tk_up (tk_up g 11 (upd (g 11) x0.toNatClampNeg 0)) 12 (upd (g 12) x0.toNatClampNeg 0)) 17 (upd (g 17) x0.toNatClampNeg 0)) 7 (upd (g 7) x0.toNatClampNeg 1))) := hD
                exact tk_vret hx hb hr hlk hP hD hS dM_writeSecond_151 (congrArg (WM hm ad cI cZ) (by unfold tkM_writeSecond_s; rw [if_pos h1_, if_neg h2_, if_neg h3_, if_pos h4_, if_pos h7_, if_pos h8_, if_pos h9_]))
              · refine lv_aload_n hx hb dM_writeSecond_116 rfl (lv_at hl 1 rfl) ?_
                refine va_get (D := D) (ci := 3) (v := .ref (ad 10)) (C := RM) (T := TM) (N := 33) hx hb hw inM hown hK hP 0 rfl rfl 10 (by decide) f38 (fun _ h9 => h9) rfl dM_writeSecond_117 ?_
                refine lv_iload_n hx hb dM_writeSecond_120 rfl (lv_at hl 2 rfl) ?_
                refine tkld_10 hx hb hK hP hi0 dM_writeSecond_121 ?_
                refine lv_if_eq (tgt := 129) hx hb dM_writeSecond_122 (by decide) (fun (h10_ : g 10 x0.toNatClampNeg = 0) => ?_) (fun (h10_ : ¬ (g 10 x0.toNatClampNeg = 0)) => ?_)
                · refine lv_iconst (v := 0) hx hb dM_writeSecond_129 (by decide) ?_
                  refine tkst_17 hx hb hK hP hD hS hi0 dM_writeSecond_130 (fun H locs hP hD hS => ?_)
                  have hP : va_P D vwCl (WM hm ad cI cZ (tk_up (tk_up (tk_up g 11 (upd (g 11) x0.toNatClampNeg 0)) 12 (upd (g 12) x0.toNatClampNeg 0)) 17 (upd (g 17) x0.toNatClampNeg 0))) H := hP
                  have hD : va_D A (WM hm ad cI cZ (tk_up (tk_up (tk_up g 11 (upd (g 11) x0.toNatClampNeg 0)) 12 (upd (g 12) x0.toNatClampNeg 0)) 17 (upd (g 17) x0.toNatClampNeg 0))) := hD
                  refine lv_aload_n hx hb dM_writeSecond_131 rfl (lv_at hl 1 rfl) ?_
                  refine va_get (D := D) (ci := 3) (v := .ref (ad 7)) (C := RM) (T := TM) (N := 33) hx hb hw inM hown hK hP 0 rfl rfl 7 (by decide) f28 (fun _ h9 => h9) rfl dM_writeSecond_132 ?_
                  refine lv_iload_n hx hb dM_writeSecond_135 rfl (lv_at hl 2 rfl) ?_
                  refine lv_aload_n hx hb dM_writeSecond_136 rfl (lv_at hl 1 rfl) ?_
                  refine va_get (D := D) (ci := 3) (v := .ref (ad 17)) (C := RM) (T := TM) (N := 33) hx hb hw inM hown hK hP 0 rfl rfl 17 (by decide) f59 (fun _ h9 => h9) rfl dM_writeSecond_137 ?_
                  refine lv_iload_n hx hb dM_writeSecond_140 rfl (lv_at hl 2 rfl) ?_
                  refine tkld_17 hx hb hK hP hi0 dM_writeSecond_141 ?_
                  refine tk_top (tk_us (g 17) x0.toNatClampNeg 0) ?_
                  refine lv_if_ne (tgt := 149) hx hb dM_writeSecond_142 (by decide) (fun h => absurd (by decide) h) (fun _ => ?_)
                  refine lv_iconst (v := 1) hx hb dM_writeSecond_145 (by decide) ?_
                  refine lv_goto (tgt := 150) hx hb dM_writeSecond_146 (by decide) ?_
                  refine tkst_7 hx hb hK hP hD hS hi0 (x' := 1) rfl dM_writeSecond_150 (fun H locs hP hD hS => ?_)
                  have hP : va_P D vwCl (WM hm ad cI cZ (tk_up (tk_up (tk_up (tk_up g 11 (upd (g 11) x0.toNatClampNeg 0)) 12 (upd (g 12) x0.toNatClampNeg 0)) 17 (upd (g 17) x0.toNatClampNeg 0)) 7 (upd (g 7) x0.toNatClampNeg 1))) H := hP
                  have hD : va_D A (WM hm ad cI cZ (tk_up (tk_up (tk_up (tk_up g 11 (upd (g 11) x0.toNatClampNeg 0)) 12 (upd (g 12) x0.toNatClampNeg 0)) 17 (upd (g 17) x0.toNatClampNeg 0)) 7 (upd (g 7) x0.toNatClampNeg 1))) := hD
                  exact tk_vret hx hb hr hlk hP hD hS dM_writeSecond_151 (congrArg (WM hm ad cI cZ) (by unfold tkM_writeSecond_s; rw [if_pos h1_, if_neg h2_, if_neg h3_, if_pos h4_, if_pos h7_, if_pos h8_, if_neg h9_, if_pos h10_]))
                · refine lv_iconst (v := 4) hx hb dM_writeSecond_125 (by decide) ?_
                  refine lv_goto (tgt := 130) hx hb dM_writeSecond_126 (by decide) ?_
                  refine tkst_17 hx hb hK hP hD hS hi0 dM_writeSecond_130 (fun H locs hP hD hS => ?_)
                  have hP : va_P D vwCl (WM hm ad cI cZ (tk_up (tk_up (tk_up g 11 (upd (g 11) x0.toNatClampNeg 0)) 12 (upd (g 12) x0.toNatClampNeg 0)) 17 (upd (g 17) x0.toNatClampNeg 4))) H := hP
                  have hD : va_D A (WM hm ad cI cZ (tk_up (tk_up (tk_up g 11 (upd (g 11) x0.toNatClampNeg 0)) 12 (upd (g 12) x0.toNatClampNeg 0)) 17 (upd (g 17) x0.toNatClampNeg 4))) := hD
                  refine lv_aload_n hx hb dM_writeSecond_131 rfl (lv_at hl 1 rfl) ?_
                  refine va_get (D := D) (ci := 3) (v := .ref (ad 7)) (C := RM) (T := TM) (N := 33) hx hb hw inM hown hK hP 0 rfl rfl 7 (by decide) f28 (fun _ h9 => h9) rfl dM_writeSecond_132 ?_
                  refine lv_iload_n hx hb dM_writeSecond_135 rfl (lv_at hl 2 rfl) ?_
                  refine lv_aload_n hx hb dM_writeSecond_136 rfl (lv_at hl 1 rfl) ?_
                  refine va_get (D := D) (ci := 3) (v := .ref (ad 17)) (C := RM) (T := TM) (N := 33) hx hb hw inM hown hK hP 0 rfl rfl 17 (by decide) f59 (fun _ h9 => h9) rfl dM_writeSecond_137 ?_
                  refine lv_iload_n hx hb dM_writeSecond_140 rfl (lv_at hl 2 rfl) ?_
                  refine tkld_17 hx hb hK hP hi0 dM_writeSecond_141 ?_
                  refine tk_top (tk_us (g 17) x0.toNatClampNeg 4) ?_
                  refine lv_if_ne (tgt := 149) hx hb dM_writeSecond_142 (by decide) (fun _ => ?_) (fun h => absurd h (by decide))
                  refine lv_iconst (v := 0) hx hb dM_writeSecond_149 (by decide) ?_
                  refine tkst_7 hx hb hK hP hD hS hi0 (x' := 0) rfl dM_writeSecond_150 (fun H locs hP hD hS => ?_)
                  have hP : va_P D vwCl (WM hm ad cI cZ (tk_up (tk_up (tk_up (tk_up g 11 (upd (g 11) x0.toNatClampNeg 0)) 12 (upd (g 12) x0.toNatClampNeg 0)) 17 (upd (g 17) x0.toNatClampNeg 4)) 7 (upd (g 7) x0.toNatClampNeg 0))) H := hP
                  have hD : va_D A (WM hm ad cI cZ (tk_up (tk_up (tk_up (tk_up g 11 (upd (g 11) x0.toNatClampNeg 0)) 12 (upd (g 12) x0.toNatClampNeg 0)) 17 (upd (g 17) x0.toNatClampNeg 4)) 7 (upd (g 7) x0.toNatClampNeg 0))) := hD
                  exact tk_vret hx hb hr hlk hP hD hS dM_writeSecond_151 (congrArg (WM hm ad cI cZ) (by unfold tkM_writeSecond_s; rw [if_pos h1_, if_neg h2_, if_neg h3_, if_pos h4_, if_pos h7_, if_pos h8_, if_neg h9_, if_neg h10_]))
            · refine lv_iconst (v := 1) hx hb dM_writeSecond_82 (by decide) ?_
              refine lv_goto (tgt := 87) hx hb dM_writeSecond_83 (by decide) ?_
              refine tkst_12 hx hb hK hP hD hS hi0 (x' := 1) rfl dM_writeSecond_87 (fun H locs hP hD hS => ?_)
              have hP : va_P D vwCl (WM hm ad cI cZ (tk_up (tk_up g 11 (upd (g 11) x0.toNatClampNeg 0)) 12 (upd (g 12) x0.toNatClampNeg 1))) H := hP
              have hD : va_D A (WM hm ad cI cZ (tk_up (tk_up g 11 (upd (g 11) x0.toNatClampNeg 0)) 12 (upd (g 12) x0.toNatClampNeg 1))) := hD
              refine lv_aload_n hx hb dM_writeSecond_88 rfl (lv_at hl 1 rfl) ?_
              refine va_get (D := D) (ci := 3) (v := .ref (ad 17)) (C := RM) (T := TM) (N := 33) hx hb hw inM hown hK hP 0 rfl rfl 17 (by decide) f59 (fun _ h9 => h9) rfl dM_writeSecond_89 ?_
              refine lv_iload_n hx hb dM_writeSecond_92 rfl (lv_at hl 2 rfl) ?_
              refine lv_iload_n hx hb dM_writeSecond_93 rfl (lv_at hl 0 rfl) ?_
              refine lv_iconst (v := 2) hx hb dM_writeSecond_94 (by decide) ?_
              refine lv_icmp_ne (tgt := 111) hx hb dM_writeSecond_95 (by decide) (fun _ => ?_) (fun h => absurd h h3_)
              refine lv_iload_n hx hb dM_writeSecond_111 rfl (lv_at hl 0 rfl) ?_
              refine lv_iconst (v := 4) hx hb dM_writeSecond_112 (by decide) ?_
              refine lv_icmp_ge (tgt := 129) hx hb dM_writeSecond_113 (by decide) (fun (h11_ : 4 ≤ g 17 x0.toNatClampNeg) => ?_) (fun (h11_ : ¬ (4 ≤ g 17 x0.toNatClampNeg)) => ?_)
              · refine lv_iconst (v := 0) hx hb dM_writeSecond_129 (by decide) ?_
                refine tkst_17 hx hb hK hP hD hS hi0 dM_writeSecond_130 (fun H locs hP hD hS => ?_)
                have hP : va_P D vwCl (WM hm ad cI cZ (tk_up (tk_up (tk_up g 11 (upd (g 11) x0.toNatClampNeg 0)) 12 (upd (g 12) x0.toNatClampNeg 1)) 17 (upd (g 17) x0.toNatClampNeg 0))) H := hP
                have hD : va_D A (WM hm ad cI cZ (tk_up (tk_up (tk_up g 11 (upd (g 11) x0.toNatClampNeg 0)) 12 (upd (g 12) x0.toNatClampNeg 1)) 17 (upd (g 17) x0.toNatClampNeg 0))) := hD
                refine lv_aload_n hx hb dM_writeSecond_131 rfl (lv_at hl 1 rfl) ?_
                refine va_get (D := D) (ci := 3) (v := .ref (ad 7)) (C := RM) (T := TM) (N := 33) hx hb hw inM hown hK hP 0 rfl rfl 7 (by decide) f28 (fun _ h9 => h9) rfl dM_writeSecond_132 ?_
                refine lv_iload_n hx hb dM_writeSecond_135 rfl (lv_at hl 2 rfl) ?_
                refine lv_aload_n hx hb dM_writeSecond_136 rfl (lv_at hl 1 rfl) ?_
                refine va_get (D := D) (ci := 3) (v := .ref (ad 17)) (C := RM) (T := TM) (N := 33) hx hb hw inM hown hK hP 0 rfl rfl 17 (by decide) f59 (fun _ h9 => h9) rfl dM_writeSecond_137 ?_
                refine lv_iload_n hx hb dM_writeSecond_140 rfl (lv_at hl 2 rfl) ?_
                refine tkld_17 hx hb hK hP hi0 dM_writeSecond_141 ?_
                refine tk_top (tk_us (g 17) x0.toNatClampNeg 0) ?_
                refine lv_if_ne (tgt := 149) hx hb dM_writeSecond_142 (by decide) (fun h => absurd (by decide) h) (fun _ => ?_)
                refine lv_iconst (v := 1) hx hb dM_writeSecond_145 (by decide) ?_
                refine lv_goto (tgt := 150) hx hb dM_writeSecond_146 (by decide) ?_
                refine tkst_7 hx hb hK hP hD hS hi0 (x' := 1) rfl dM_writeSecond_150 (fun H locs hP hD hS => ?_)
                have hP : va_P D vwCl (WM hm ad cI cZ (tk_up (tk_up (tk_up (tk_up g 11 (upd (g 11) x0.toNatClampNeg 0)) 12 (upd (g 12) x0.toNatClampNeg 1)) 17 (upd (g 17) x0.toNatClampNeg 0)) 7 (upd (g 7) x0.toNatClampNeg 1))) H := hP
                have hD : va_D A (WM hm ad cI cZ (tk_up (tk_up (tk_up (tk_up g 11 (upd (g 11) x0.toNatClampNeg 0)) 12 (upd (g 12) x0.toNatClampNeg 1)) 17 (upd (g 17) x0.toNatClampNeg 0)) 7 (upd (g 7) x0.toNatClampNeg 1))) := hD
                exact tk_vret hx hb hr hlk hP hD hS dM_writeSecond_151 (congrArg (WM hm ad cI cZ) (by unfold tkM_writeSecond_s; rw [if_pos h1_, if_neg h2_, if_neg h3_, if_pos h4_, if_pos h7_, if_neg h8_, if_pos h11_]))
              · refine lv_aload_n hx hb dM_writeSecond_116 rfl (lv_at hl 1 rfl) ?_
                refine va_get (D := D) (ci := 3) (v := .ref (ad 10)) (C := RM) (T := TM) (N := 33) hx hb hw inM hown hK hP 0 rfl rfl 10 (by decide) f38 (fun _ h9 => h9) rfl dM_writeSecond_117 ?_
                refine lv_iload_n hx hb dM_writeSecond_120 rfl (lv_at hl 2 rfl) ?_
                refine tkld_10 hx hb hK hP hi0 dM_writeSecond_121 ?_
                refine lv_if_eq (tgt := 129) hx hb dM_writeSecond_122 (by decide) (fun (h12_ : g 10 x0.toNatClampNeg = 0) => ?_) (fun (h12_ : ¬ (g 10 x0.toNatClampNeg = 0)) => ?_)
                · refine lv_iconst (v := 0) hx hb dM_writeSecond_129 (by decide) ?_
                  refine tkst_17 hx hb hK hP hD hS hi0 dM_writeSecond_130 (fun H locs hP hD hS => ?_)
                  have hP : va_P D vwCl (WM hm ad cI cZ (tk_up (tk_up (tk_up g 11 (upd (g 11) x0.toNatClampNeg 0)) 12 (upd (g 12) x0.toNatClampNeg 1)) 17 (upd (g 17) x0.toNatClampNeg 0))) H := hP
                  have hD : va_D A (WM hm ad cI cZ (tk_up (tk_up (tk_up g 11 (upd (g 11) x0.toNatClampNeg 0)) 12 (upd (g 12) x0.toNatClampNeg 1)) 17 (upd (g 17) x0.toNatClampNeg 0))) := hD
                  refine lv_aload_n hx hb dM_writeSecond_131 rfl (lv_at hl 1 rfl) ?_
                  refine va_get (D := D) (ci := 3) (v := .ref (ad 7)) (C := RM) (T := TM) (N := 33) hx hb hw inM hown hK hP 0 rfl rfl 7 (by decide) f28 (fun _ h9 => h9) rfl dM_writeSecond_132 ?_
                  refine lv_iload_n hx hb dM_writeSecond_135 rfl (lv_at hl 2 rfl) ?_
                  refine lv_aload_n hx hb dM_writeSecond_136 rfl (lv_at hl 1 rfl) ?_
                  refine va_get (D := D) (ci := 3) (v := .ref (ad 17)) (C := RM) (T := TM) (N := 33) hx hb hw inM hown hK hP 0 rfl rfl 17 (by decide) f59 (fun _ h9 => h9) rfl dM_writeSecond_137 ?_
                  refine lv_iload_n hx hb dM_writeSecond_140 rfl (lv_at hl 2 rfl) ?_
                  refine tkld_17 hx hb hK hP hi0 dM_writeSecond_141 ?_
                  refine tk_top (tk_us (g 17) x0.toNatClampNeg 0) ?_
                  refine lv_if_ne (tgt := 149) hx hb dM_writeSecond_142 (by decide) (fun h => absurd (by decide) h) (fun _ => ?_)
                  refine lv_iconst (v := 1) hx hb dM_writeSecond_145 (by decide) ?_
                  refine lv_goto (tgt := 150) hx hb dM_writeSecond_146 (by decide) ?_
                  refine tkst_7 hx hb hK hP hD hS hi0 (x' := 1) rfl dM_writeSecond_150 (fun H locs hP hD hS => ?_)
                  have hP : va_P D vwCl (WM hm ad cI cZ (tk_up (tk_up (tk_up (tk_up g 11 (upd (g 11) x0.toNatClampNeg 0)) 12 (upd (g 12) x0.toNatClampNeg 1)) 17 (upd (g 17) x0.toNatClampNeg 0)) 7 (upd (g 7) x0.toNatClampNeg 1))) H := hP
                  have hD : va_D A (WM hm ad cI cZ (tk_up (tk_up (tk_up (tk_up g 11 (upd (g 11) x0.toNatClampNeg 0)) 12 (upd (g 12) x0.toNatClampNeg 1)) 17 (upd (g 17) x0.toNatClampNeg 0)) 7 (upd (g 7) x0.toNatClampNeg 1))) := hD
                  exact tk_vret hx hb hr hlk hP hD hS dM_writeSecond_151 (congrArg (WM hm ad cI cZ) (by unfold tkM_writeSecond_s; rw [if_pos h1_, if_neg h2_, if_neg h3_, if_pos h4_, if_pos h7_, if_neg h8_, if_neg h11_, if_pos h12_]))
                · refine lv_iconst (v := 4) hx hb dM_writeSecond_125 (by decide) ?_
                  refine lv_goto (tgt := 130) hx hb dM_writeSecond_126 (by decide) ?_
                  refine tkst_17 hx hb hK hP hD hS hi0 dM_writeSecond_130 (fun H locs hP hD hS => ?_)
                  have hP : va_P D vwCl (WM hm ad cI cZ (tk_up (tk_up (tk_up g 11 (upd (g 11) x0.toNatClampNeg 0)) 12 (upd (g 12) x0.toNatClampNeg 1)) 17 (upd (g 17) x0.toNatClampNeg 4))) H := hP
                  have hD : va_D A (WM hm ad cI cZ (tk_up (tk_up (tk_up g 11 (upd (g 11) x0.toNatClampNeg 0)) 12 (upd (g 12) x0.toNatClampNeg 1)) 17 (upd (g 17) x0.toNatClampNeg 4))) := hD
                  refine lv_aload_n hx hb dM_writeSecond_131 rfl (lv_at hl 1 rfl) ?_
                  refine va_get (D := D) (ci := 3) (v := .ref (ad 7)) (C := RM) (T := TM) (N := 33) hx hb hw inM hown hK hP 0 rfl rfl 7 (by decide) f28 (fun _ h9 => h9) rfl dM_writeSecond_132 ?_
                  refine lv_iload_n hx hb dM_writeSecond_135 rfl (lv_at hl 2 rfl) ?_
                  refine lv_aload_n hx hb dM_writeSecond_136 rfl (lv_at hl 1 rfl) ?_
                  refine va_get (D := D) (ci := 3) (v := .ref (ad 17)) (C := RM) (T := TM) (N := 33) hx hb hw inM hown hK hP 0 rfl rfl 17 (by decide) f59 (fun _ h9 => h9) rfl dM_writeSecond_137 ?_
                  refine lv_iload_n hx hb dM_writeSecond_140 rfl (lv_at hl 2 rfl) ?_
                  refine tkld_17 hx hb hK hP hi0 dM_writeSecond_141 ?_
                  refine tk_top (tk_us (g 17) x0.toNatClampNeg 4) ?_
                  refine lv_if_ne (tgt := 149) hx hb dM_writeSecond_142 (by decide) (fun _ => ?_) (fun h => absurd h (by decide))
                  refine lv_iconst (v := 0) hx hb dM_writeSecond_149 (by decide) ?_
                  refine tkst_7 hx hb hK hP hD hS hi0 (x' := 0) rfl dM_writeSecond_150 (fun H locs hP hD hS => ?_)
                  have hP : va_P D vwCl (WM hm ad cI cZ (tk_up (tk_up (tk_up (tk_up g 11 (upd (g 11) x0.toNatClampNeg 0)) 12 (upd (g 12) x0.toNatClampNeg 1)) 17 (upd (g 17) x0.toNatClampNeg 4)) 7 (upd (g 7) x0.toNatClampNeg 0))) H := hP
                  have hD : va_D A (WM hm ad cI cZ (tk_up (tk_up (tk_up (tk_up g 11 (upd (g 11) x0.toNatClampNeg 0)) 12 (upd (g 12) x0.toNatClampNeg 1)) 17 (upd (g 17) x0.toNatClampNeg 4)) 7 (upd (g 7) x0.toNatClampNeg 0))) := hD
                  exact tk_vret hx hb hr hlk hP hD hS dM_writeSecond_151 (congrArg (WM hm ad cI cZ) (by unfold tkM_writeSecond_s; rw [if_pos h1_, if_neg h2_, if_neg h3_, if_pos h4_, if_pos h7_, if_neg h8_, if_neg h11_, if_neg h12_]))
          · refine lv_iconst (v := 1) hx hb dM_writeSecond_64 (by decide) ?_
            refine lv_goto (tgt := 69) hx hb dM_writeSecond_65 (by decide) ?_
            refine tkst_11 hx hb hK hP hD hS hi0 (x' := 1) rfl dM_writeSecond_69 (fun H locs hP hD hS => ?_)
            have hP : va_P D vwCl (WM hm ad cI cZ (tk_up g 11 (upd (g 11) x0.toNatClampNeg 1))) H := hP
            have hD : va_D A (WM hm ad cI cZ (tk_up g 11 (upd (g 11) x0.toNatClampNeg 1))) := hD
            refine lv_aload_n hx hb dM_writeSecond_70 rfl (lv_at hl 1 rfl) ?_
            refine va_get (D := D) (ci := 3) (v := .ref (ad 12)) (C := RM) (T := TM) (N := 33) hx hb hw inM hown hK hP 0 rfl rfl 12 (by decide) f44 (fun _ h9 => h9) rfl dM_writeSecond_71 ?_
            refine lv_iload_n hx hb dM_writeSecond_74 rfl (lv_at hl 2 rfl) ?_
            refine lv_iload_n hx hb dM_writeSecond_75 rfl (lv_at hl 3 rfl) ?_
            refine lv_bipush (v := 16) hx hb dM_writeSecond_76 (by decide) ?_
            refine lv_iand hx hb dM_writeSecond_78 ?_
            refine lv_if_eq (tgt := 86) hx hb dM_writeSecond_79 (by decide) (fun (h13_ : x1 &&& 16 = 0) => ?_) (fun (h13_ : ¬ (x1 &&& 16 = 0)) => ?_)
            · refine lv_iconst (v := 0) hx hb dM_writeSecond_86 (by decide) ?_
              refine tkst_12 hx hb hK hP hD hS hi0 (x' := 0) rfl dM_writeSecond_87 (fun H locs hP hD hS => ?_)
              have hP : va_P D vwCl (WM hm ad cI cZ (tk_up (tk_up g 11 (upd (g 11) x0.toNatClampNeg 1)) 12 (upd (g 12) x0.toNatClampNeg 0))) H := hP
              have hD : va_D A (WM hm ad cI cZ (tk_up (tk_up g 11 (upd (g 11) x0.toNatClampNeg 1)) 12 (upd (g 12) x0.toNatClampNeg 0))) := hD
              refine lv_aload_n hx hb dM_writeSecond_88 rfl (lv_at hl 1 rfl) ?_
              refine va_get (D := D) (ci := 3) (v := .ref (ad 17)) (C := RM) (T := TM) (N := 33) hx hb hw inM hown hK hP 0 rfl rfl 17 (by decide) f59 (fun _ h9 => h9) rfl dM_writeSecond_89 ?_
              refine lv_iload_n hx hb dM_writeSecond_92 rfl (lv_at hl 2 rfl) ?_
              refine lv_iload_n hx hb dM_writeSecond_93 rfl (lv_at hl 0 rfl) ?_
              refine lv_iconst (v := 2) hx hb dM_writeSecond_94 (by decide) ?_
              refine lv_icmp_ne (tgt := 111) hx hb dM_writeSecond_95 (by decide) (fun _ => ?_) (fun h => absurd h h3_)
              refine lv_iload_n hx hb dM_writeSecond_111 rfl (lv_at hl 0 rfl) ?_
              refine lv_iconst (v := 4) hx hb dM_writeSecond_112 (by decide) ?_
              refine lv_icmp_ge (tgt := 129) hx hb dM_writeSecond_113 (by decide) (fun (h14_ : 4 ≤ g 17 x0.toNatClampNeg) => ?_) (fun (h14_ : ¬ (4 ≤ g 17 x0.toNatClampNeg)) => ?_)
              · refine lv_iconst (v := 0) hx hb dM_writeSecond_129 (by decide) ?_
                refine tkst_17 hx hb hK hP hD hS hi0 dM_writeSecond_130 (fun H locs hP hD hS => ?_)
                have hP : va_P D vwCl (WM hm ad cI cZ (tk_up (tk_up (tk_up g 11 (upd (g 11) x0.toNatClampNeg 1)) 12 (upd (g 12) x0.toNatClampNeg 0)) 17 (upd (g 17) x0.toNatClampNeg 0))) H := hP
                have hD : va_D A (WM hm ad cI cZ (tk_up (tk_up (tk_up g 11 (upd (g 11) x0.toNatClampNeg 1)) 12 (upd (g 12) x0.toNatClampNeg 0)) 17 (upd (g 17) x0.toNatClampNeg 0))) := hD
                refine lv_aload_n hx hb dM_writeSecond_131 rfl (lv_at hl 1 rfl) ?_
                refine va_get (D := D) (ci := 3) (v := .ref (ad 7)) (C := RM) (T := TM) (N := 33) hx hb hw inM hown hK hP 0 rfl rfl 7 (by decide) f28 (fun _ h9 => h9) rfl dM_writeSecond_132 ?_
                refine lv_iload_n hx hb dM_writeSecond_135 rfl (lv_at hl 2 rfl) ?_
                refine lv_aload_n hx hb dM_writeSecond_136 rfl (lv_at hl 1 rfl) ?_
                refine va_get (D := D) (ci := 3) (v := .ref (ad 17)) (C := RM) (T := TM) (N := 33) hx hb hw inM hown hK hP 0 rfl rfl 17 (by decide) f59 (fun _ h9 => h9) rfl dM_writeSecond_137 ?_
                refine lv_iload_n hx hb dM_writeSecond_140 rfl (lv_at hl 2 rfl) ?_
                refine tkld_17 hx hb hK hP hi0 dM_writeSecond_141 ?_
                refine tk_top (tk_us (g 17) x0.toNatClampNeg 0) ?_
                refine lv_if_ne (tgt := 149) hx hb dM_writeSecond_142 (by decide) (fun h => absurd (by decide) h) (fun _ => ?_)
                refine lv_iconst (v := 1) hx hb dM_writeSecond_145 (by decide) ?_
                refine lv_goto (tgt := 150) hx hb dM_writeSecond_146 (by decide) ?_
                refine tkst_7 hx hb hK hP hD hS hi0 (x' := 1) rfl dM_writeSecond_150 (fun H locs hP hD hS => ?_)
                have hP : va_P D vwCl (WM hm ad cI cZ (tk_up (tk_up (tk_up (tk_up g 11 (upd (g 11) x0.toNatClampNeg 1)) 12 (upd (g 12) x0.toNatClampNeg 0)) 17 (upd (g 17) x0.toNatClampNeg 0)) 7 (upd (g 7) x0.toNatClampNeg 1))) H := hP
                have hD : va_D A (WM hm ad cI cZ (tk_up (tk_up (tk_up (tk_up g 11 (upd (g 11) x0.toNatClampNeg 1)) 12 (upd (g 12) x0.toNatClampNeg 0)) 17 (upd (g 17) x0.toNatClampNeg 0)) 7 (upd (g 7) x0.toNatClampNeg 1))) := hD
                exact tk_vret hx hb hr hlk hP hD hS dM_writeSecond_151 (congrArg (WM hm ad cI cZ) (by unfold tkM_writeSecond_s; rw [if_pos h1_, if_neg h2_, if_neg h3_, if_pos h4_, if_neg h7_, if_pos h13_, if_pos h14_]))
              · refine lv_aload_n hx hb dM_writeSecond_116 rfl (lv_at hl 1 rfl) ?_
                refine va_get (D := D) (ci := 3) (v := .ref (ad 10)) (C := RM) (T := TM) (N := 33) hx hb hw inM hown hK hP 0 rfl rfl 10 (by decide) f38 (fun _ h9 => h9) rfl dM_writeSecond_117 ?_
                refine lv_iload_n hx hb dM_writeSecond_120 rfl (lv_at hl 2 rfl) ?_
                refine tkld_10 hx hb hK hP hi0 dM_writeSecond_121 ?_
                refine lv_if_eq (tgt := 129) hx hb dM_writeSecond_122 (by decide) (fun (h15_ : g 10 x0.toNatClampNeg = 0) => ?_) (fun (h15_ : ¬ (g 10 x0.toNatClampNeg = 0)) => ?_)
                · refine lv_iconst (v := 0) hx hb dM_writeSecond_129 (by decide) ?_
                  refine tkst_17 hx hb hK hP hD hS hi0 dM_writeSecond_130 (fun H locs hP hD hS => ?_)
                  have hP : va_P D vwCl (WM hm ad cI cZ (tk_up (tk_up (tk_up g 11 (upd (g 11) x0.toNatClampNeg 1)) 12 (upd (g 12) x0.toNatClampNeg 0)) 17 (upd (g 17) x0.toNatClampNeg 0))) H := hP
                  have hD : va_D A (WM hm ad cI cZ (tk_up (tk_up (tk_up g 11 (upd (g 11) x0.toNatClampNeg 1)) 12 (upd (g 12) x0.toNatClampNeg 0)) 17 (upd (g 17) x0.toNatClampNeg 0))) := hD
                  refine lv_aload_n hx hb dM_writeSecond_131 rfl (lv_at hl 1 rfl) ?_
                  refine va_get (D := D) (ci := 3) (v := .ref (ad 7)) (C := RM) (T := TM) (N := 33) hx hb hw inM hown hK hP 0 rfl rfl 7 (by decide) f28 (fun _ h9 => h9) rfl dM_writeSecond_132 ?_
                  refine lv_iload_n hx hb dM_writeSecond_135 rfl (lv_at hl 2 rfl) ?_
                  refine lv_aload_n hx hb dM_writeSecond_136 rfl (lv_at hl 1 rfl) ?_
                  refine va_get (D := D) (ci := 3) (v := .ref (ad 17)) (C := RM) (T := TM) (N := 33) hx hb hw inM hown hK hP 0 rfl rfl 17 (by decide) f59 (fun _ h9 => h9) rfl dM_writeSecond_137 ?_
                  refine lv_iload_n hx hb dM_writeSecond_140 rfl (lv_at hl 2 rfl) ?_
                  refine tkld_17 hx hb hK hP hi0 dM_writeSecond_141 ?_
                  refine tk_top (tk_us (g 17) x0.toNatClampNeg 0) ?_
                  refine lv_if_ne (tgt := 149) hx hb dM_writeSecond_142 (by decide) (fun h => absurd (by decide) h) (fun _ => ?_)
                  refine lv_iconst (v := 1) hx hb dM_writeSecond_145 (by decide) ?_
                  refine lv_goto (tgt := 150) hx hb dM_writeSecond_146 (by decide) ?_
                  refine tkst_7 hx hb hK hP hD hS hi0 (x' := 1) rfl dM_writeSecond_150 (fun H locs hP hD hS => ?_)
                  have hP : va_P D vwCl (WM hm ad cI cZ (tk_up (tk_up (tk_up (tk_up g 11 (upd (g 11) x0.toNatClampNeg 1)) 12 (upd (g 12) x0.toNatClampNeg 0)) 17 (upd (g 17) x0.toNatClampNeg 0)) 7 (upd (g 7) x0.toNatClampNeg 1))) H := hP
                  have hD : va_D A (WM hm ad cI cZ (tk_up (tk_up (tk_up (tk_up g 11 (upd (g 11) x0.toNatClampNeg 1)) 12 (upd (g 12) x0.toNatClampNeg 0)) 17 (upd (g 17) x0.toNatClampNeg 0)) 7 (upd (g 7) x0.toNatClampNeg 1))) := hD
                  exact tk_vret hx hb hr hlk hP hD hS dM_writeSecond_151 (congrArg (WM hm ad cI cZ) (by unfold tkM_writeSecond_s; rw [if_pos h1_, if_neg h2_, if_neg h3_, if_pos h4_, if_neg h7_, if_pos h13_, if_neg h14_, if_pos h15_]))
                · refine lv_iconst (v := 4) hx hb dM_writeSecond_125 (by decide) ?_
                  refine lv_goto (tgt := 130) hx hb dM_writeSecond_126 (by decide) ?_
                  refine tkst_17 hx hb hK hP hD hS hi0 dM_writeSecond_130 (fun H locs hP hD hS => ?_)
                  have hP : va_P D vwCl (WM hm ad cI cZ (tk_up (tk_up (tk_up g 11 (upd (g 11) x0.toNatClampNeg 1)) 12 (upd (g 12) x0.toNatClampNeg 0)) 17 (upd (g 17) x0.toNatClampNeg 4))) H := hP
                  have hD : va_D A (WM hm ad cI cZ (tk_up (tk_up (tk_up g 11 (upd (g 11) x0.toNatClampNeg 1)) 12 (upd (g 12) x0.toNatClampNeg 0)) 17 (upd (g 17) x0.toNatClampNeg 4))) := hD
                  refine lv_aload_n hx hb dM_writeSecond_131 rfl (lv_at hl 1 rfl) ?_
                  refine va_get (D := D) (ci := 3) (v := .ref (ad 7)) (C := RM) (T := TM) (N := 33) hx hb hw inM hown hK hP 0 rfl rfl 7 (by decide) f28 (fun _ h9 => h9) rfl dM_writeSecond_132 ?_
                  refine lv_iload_n hx hb dM_writeSecond_135 rfl (lv_at hl 2 rfl) ?_
                  refine lv_aload_n hx hb dM_writeSecond_136 rfl (lv_at hl 1 rfl) ?_
                  refine va_get (D := D) (ci := 3) (v := .ref (ad 17)) (C := RM) (T := TM) (N := 33) hx hb hw inM hown hK hP 0 rfl rfl 17 (by decide) f59 (fun _ h9 => h9) rfl dM_writeSecond_137 ?_
                  refine lv_iload_n hx hb dM_writeSecond_140 rfl (lv_at hl 2 rfl) ?_
                  refine tkld_17 hx hb hK hP hi0 dM_writeSecond_141 ?_
                  refine tk_top (tk_us (g 17) x0.toNatClampNeg 4) ?_
                  refine lv_if_ne (tgt := 149) hx hb dM_writeSecond_142 (by decide) (fun _ => ?_) (fun h => absurd h (by decide))
                  refine lv_iconst (v := 0) hx hb dM_writeSecond_149 (by decide) ?_
                  refine tkst_7 hx hb hK hP hD hS hi0 (x' := 0) rfl dM_writeSecond_150 (fun H locs hP hD hS => ?_)
                  have hP : va_P D vwCl (WM hm ad cI cZ (tk_up (tk_up (tk_up (tk_up g 11 (upd (g 11) x0.toNatClampNeg 1)) 12 (upd (g 12) x0.toNatClampNeg 0)) 17 (upd (g 17) x0.toNatClampNeg 4)) 7 (upd (g 7) x0.toNatClampNeg 0))) H := hP
                  have hD : va_D A (WM hm ad cI cZ (tk_up (tk_up (tk_up (tk_up g 11 (upd (g 11) x0.toNatClampNeg 1)) 12 (upd (g 12) x0.toNatClampNeg 0)) 17 (upd (g 17) x0.toNatClampNeg 4)) 7 (upd (g 7) x0.toNatClampNeg 0))) := hD
                  exact tk_vret hx hb hr hlk hP hD hS dM_writeSecond_151 (congrArg (WM hm ad cI cZ) (by unfold tkM_writeSecond_s; rw [if_pos h1_, if_neg h2_, if_neg h3_, if_pos h4_, if_neg h7_, if_pos h13_, if_neg h14_, if_neg h15_]))
            · refine lv_iconst (v := 1) hx hb dM_writeSecond_82 (by decide) ?_
              refine lv_goto (tgt := 87) hx hb dM_writeSecond_83 (by decide) ?_
              refine tkst_12 hx hb hK hP hD hS hi0 (x' := 1) rfl dM_writeSecond_87 (fun H locs hP hD hS => ?_)
              have hP : va_P D vwCl (WM hm ad cI cZ (tk_up (tk_up g 11 (upd (g 11) x0.toNatClampNeg 1)) 12 (upd (g 12) x0.toNatClampNeg 1))) H := hP
              have hD : va_D A (WM hm ad cI cZ (tk_up (tk_up g 11 (upd (g 11) x0.toNatClampNeg 1)) 12 (upd (g 12) x0.toNatClampNeg 1))) := hD
              refine lv_aload_n hx hb dM_writeSecond_88 rfl (lv_at hl 1 rfl) ?_
              refine va_get (D := D) (ci := 3) (v := .ref (ad 17)) (C := RM) (T := TM) (N := 33) hx hb hw inM hown hK hP 0 rfl rfl 17 (by decide) f59 (fun _ h9 => h9) rfl dM_writeSecond_89 ?_
              refine lv_iload_n hx hb dM_writeSecond_92 rfl (lv_at hl 2 rfl) ?_
              refine lv_iload_n hx hb dM_writeSecond_93 rfl (lv_at hl 0 rfl) ?_
              refine lv_iconst (v := 2) hx hb dM_writeSecond_94 (by decide) ?_
              refine lv_icmp_ne (tgt := 111) hx hb dM_writeSecond_95 (by decide) (fun _ => ?_) (fun h => absurd h h3_)
              refine lv_iload_n hx hb dM_writeSecond_111 rfl (lv_at hl 0 rfl) ?_
              refine lv_iconst (v := 4) hx hb dM_writeSecond_112 (by decide) ?_
              refine lv_icmp_ge (tgt := 129) hx hb dM_writeSecond_113 (by decide) (fun (h16_ : 4 ≤ g 17 x0.toNatClampNeg) => ?_) (fun (h16_ : ¬ (4 ≤ g 17 x0.toNatClampNeg)) => ?_)
              · refine lv_iconst (v := 0) hx hb dM_writeSecond_129 (by decide) ?_
                refine tkst_17 hx hb hK hP hD hS hi0 dM_writeSecond_130 (fun H locs hP hD hS => ?_)
                have hP : va_P D vwCl (WM hm ad cI cZ (tk_up (tk_up (tk_up g 11 (upd (g 11) x0.toNatClampNeg 1)) 12 (upd (g 12) x0.toNatClampNeg 1)) 17 (upd (g 17) x0.toNatClampNeg 0))) H := hP
                have hD : va_D A (WM hm ad cI cZ (tk_up (tk_up (tk_up g 11 (upd (g 11) x0.toNatClampNeg 1)) 12 (upd (g 12) x0.toNatClampNeg 1)) 17 (upd (g 17) x0.toNatClampNeg 0))) := hD
                refine lv_aload_n hx hb dM_writeSecond_131 rfl (lv_at hl 1 rfl) ?_
                refine va_get (D := D) (ci := 3) (v := .ref (ad 7)) (C := RM) (T := TM) (N := 33) hx hb hw inM hown hK hP 0 rfl rfl 7 (by decide) f28 (fun _ h9 => h9) rfl dM_writeSecond_132 ?_
                refine lv_iload_n hx hb dM_writeSecond_135 rfl (lv_at hl 2 rfl) ?_
                refine lv_aload_n hx hb dM_writeSecond_136 rfl (lv_at hl 1 rfl) ?_
                refine va_get (D := D) (ci := 3) (v := .ref (ad 17)) (C := RM) (T := TM) (N := 33) hx hb hw inM hown hK hP 0 rfl rfl 17 (by decide) f59 (fun _ h9 => h9) rfl dM_writeSecond_137 ?_
                refine lv_iload_n hx hb dM_writeSecond_140 rfl (lv_at hl 2 rfl) ?_
                refine tkld_17 hx hb hK hP hi0 dM_writeSecond_141 ?_
                refine tk_top (tk_us (g 17) x0.toNatClampNeg 0) ?_
                refine lv_if_ne (tgt := 149) hx hb dM_writeSecond_142 (by decide) (fun h => absurd (by decide) h) (fun _ => ?_)
                refine lv_iconst (v := 1) hx hb dM_writeSecond_145 (by decide) ?_
                refine lv_goto (tgt := 150) hx hb dM_writeSecond_146 (by decide) ?_
                refine tkst_7 hx hb hK hP hD hS hi0 (x' := 1) rfl dM_writeSecond_150 (fun H locs hP hD hS => ?_)
                have hP : va_P D vwCl (WM hm ad cI cZ (tk_up (tk_up (tk_up (tk_up g 11 (upd (g 11) x0.toNatClampNeg 1)) 12 (upd (g 12) x0.toNatClampNeg 1)) 17 (upd (g 17) x0.toNatClampNeg 0)) 7 (upd (g 7) x0.toNatClampNeg 1))) H := hP
                have hD : va_D A (WM hm ad cI cZ (tk_up (tk_up (tk_up (tk_up g 11 (upd (g 11) x0.toNatClampNeg 1)) 12 (upd (g 12) x0.toNatClampNeg 1)) 17 (upd (g 17) x0.toNatClampNeg 0)) 7 (upd (g 7) x0.toNatClampNeg 1))) := hD
                exact tk_vret hx hb hr hlk hP hD hS dM_writeSecond_151 (congrArg (WM hm ad cI cZ) (by unfold tkM_writeSecond_s; rw [if_pos h1_, if_neg h2_, if_neg h3_, if_pos h4_, if_neg h7_, if_neg h13_, if_pos h16_]))
              · refine lv_aload_n hx hb dM_writeSecond_116 rfl (lv_at hl 1 rfl) ?_
                refine va_get (D := D) (ci := 3) (v := .ref (ad 10)) (C := RM) (T := TM) (N := 33) hx hb hw inM hown hK hP 0 rfl rfl 10 (by decide) f38 (fun _ h9 => h9) rfl dM_writeSecond_117 ?_
                refine lv_iload_n hx hb dM_writeSecond_120 rfl (lv_at hl 2 rfl) ?_
                refine tkld_10 hx hb hK hP hi0 dM_writeSecond_121 ?_
                refine lv_if_eq (tgt := 129) hx hb dM_writeSecond_122 (by decide) (fun (h17_ : g 10 x0.toNatClampNeg = 0) => ?_) (fun (h17_ : ¬ (g 10 x0.toNatClampNeg = 0)) => ?_)
                · refine lv_iconst (v := 0) hx hb dM_writeSecond_129 (by decide) ?_
                  refine tkst_17 hx hb hK hP hD hS hi0 dM_writeSecond_130 (fun H locs hP hD hS => ?_)
                  have hP : va_P D vwCl (WM hm ad cI cZ (tk_up (tk_up (tk_up g 11 (upd (g 11) x0.toNatClampNeg 1)) 12 (upd (g 12) x0.toNatClampNeg 1)) 17 (upd (g 17) x0.toNatClampNeg 0))) H := hP
                  have hD : va_D A (WM hm ad cI cZ (tk_up (tk_up (tk_up g 11 (upd (g 11) x0.toNatClampNeg 1)) 12 (upd (g 12) x0.toNatClampNeg 1)) 17 (upd (g 17) x0.toNatClampNeg 0))) := hD
                  refine lv_aload_n hx hb dM_writeSecond_131 rfl (lv_at hl 1 rfl) ?_
                  refine va_get (D := D) (ci := 3) (v := .ref (ad 7)) (C := RM) (T := TM) (N := 33) hx hb hw inM hown hK hP 0 rfl rfl 7 (by decide) f28 (fun _ h9 => h9) rfl dM_writeSecond_132 ?_
                  refine lv_iload_n hx hb dM_writeSecond_135 rfl (lv_at hl 2 rfl) ?_
                  refine lv_aload_n hx hb dM_writeSecond_136 rfl (lv_at hl 1 rfl) ?_
                  refine va_get (D := D) (ci := 3) (v := .ref (ad 17)) (C := RM) (T := TM) (N := 33) hx hb hw inM hown hK hP 0 rfl rfl 17 (by decide) f59 (fun _ h9 => h9) rfl dM_writeSecond_137 ?_
                  refine lv_iload_n hx hb dM_writeSecond_140 rfl (lv_at hl 2 rfl) ?_
                  refine tkld_17 hx hb hK hP hi0 dM_writeSecond_141 ?_
                  refine tk_top (tk_us (g 17) x0.toNatClampNeg 0) ?_
                  refine lv_if_ne (tgt := 149) hx hb dM_writeSecond_142 (by decide) (fun h => absurd (by decide) h) (fun _ => ?_)
                  refine lv_iconst (v := 1) hx hb dM_writeSecond_145 (by decide) ?_
                  refine lv_goto (tgt := 150) hx hb dM_writeSecond_146 (by decide) ?_
                  refine tkst_7 hx hb hK hP hD hS hi0 (x' := 1) rfl dM_writeSecond_150 (fun H locs hP hD hS => ?_)
                  have hP : va_P D vwCl (WM hm ad cI cZ (tk_up (tk_up (tk_up (tk_up g 11 (upd (g 11) x0.toNatClampNeg 1)) 12 (upd (g 12) x0.toNatClampNeg 1)) 17 (upd (g 17) x0.toNatClampNeg 0)) 7 (upd (g 7) x0.toNatClampNeg 1))) H := hP
                  have hD : va_D A (WM hm ad cI cZ (tk_up (tk_up (tk_up (tk_up g 11 (upd (g 11) x0.toNatClampNeg 1)) 12 (upd (g 12) x0.toNatClampNeg 1)) 17 (upd (g 17) x0.toNatClampNeg 0)) 7 (upd (g 7) x0.toNatClampNeg 1))) := hD
                  exact tk_vret hx hb hr hlk hP hD hS dM_writeSecond_151 (congrArg (WM hm ad cI cZ) (by unfold tkM_writeSecond_s; rw [if_pos h1_, if_neg h2_, if_neg h3_, if_pos h4_, if_neg h7_, if_neg h13_, if_neg h16_, if_pos h17_]))
                · refine lv_iconst (v := 4) hx hb dM_writeSecond_125 (by decide) ?_
                  refine lv_goto (tgt := 130) hx hb dM_writeSecond_126 (by decide) ?_
                  refine tkst_17 hx hb hK hP hD hS hi0 dM_writeSecond_130 (fun H locs hP hD hS => ?_)
                  have hP : va_P D vwCl (WM hm ad cI cZ (tk_up (tk_up (tk_up g 11 (upd (g 11) x0.toNatClampNeg 1)) 12 (upd (g 12) x0.toNatClampNeg 1)) 17 (upd (g 17) x0.toNatClampNeg 4))) H := hP
                  have hD : va_D A (WM hm ad cI cZ (tk_up (tk_up (tk_up g 11 (upd (g 11) x0.toNatClampNeg 1)) 12 (upd (g 12) x0.toNatClampNeg 1)) 17 (upd (g 17) x0.toNatClampNeg 4))) := hD
                  refine lv_aload_n hx hb dM_writeSecond_131 rfl (lv_at hl 1 rfl) ?_
                  refine va_get (D := D) (ci := 3) (v := .ref (ad 7)) (C := RM) (T := TM) (N := 33) hx hb hw inM hown hK hP 0 rfl rfl 7 (by decide) f28 (fun _ h9 => h9) rfl dM_writeSecond_132 ?_
                  refine lv_iload_n hx hb dM_writeSecond_135 rfl (lv_at hl 2 rfl) ?_
                  refine lv_aload_n hx hb dM_writeSecond_136 rfl (lv_at hl 1 rfl) ?_
                  refine va_get (D := D) (ci := 3) (v := .ref (ad 17)) (C := RM) (T := TM) (N := 33) hx hb hw inM hown hK hP 0 rfl rfl 17 (by decide) f59 (fun _ h9 => h9) rfl dM_writeSecond_137 ?_
                  refine lv_iload_n hx hb dM_writeSecond_140 rfl (lv_at hl 2 rfl) ?_
                  refine tkld_17 hx hb hK hP hi0 dM_writeSecond_141 ?_
                  refine tk_top (tk_us (g 17) x0.toNatClampNeg 4) ?_
                  refine lv_if_ne (tgt := 149) hx hb dM_writeSecond_142 (by decide) (fun _ => ?_) (fun h => absurd h (by decide))
                  refine lv_iconst (v := 0) hx hb dM_writeSecond_149 (by decide) ?_
                  refine tkst_7 hx hb hK hP hD hS hi0 (x' := 0) rfl dM_writeSecond_150 (fun H locs hP hD hS => ?_)
                  have hP : va_P D vwCl (WM hm ad cI cZ (tk_up (tk_up (tk_up (tk_up g 11 (upd (g 11) x0.toNatClampNeg 1)) 12 (upd (g 12) x0.toNatClampNeg 1)) 17 (upd (g 17) x0.toNatClampNeg 4)) 7 (upd (g 7) x0.toNatClampNeg 0))) H := hP
                  have hD : va_D A (WM hm ad cI cZ (tk_up (tk_up (tk_up (tk_up g 11 (upd (g 11) x0.toNatClampNeg 1)) 12 (upd (g 12) x0.toNatClampNeg 1)) 17 (upd (g 17) x0.toNatClampNeg 4)) 7 (upd (g 7) x0.toNatClampNeg 0))) := hD
                  exact tk_vret hx hb hr hlk hP hD hS dM_writeSecond_151 (congrArg (WM hm ad cI cZ) (by unfold tkM_writeSecond_s; rw [if_pos h1_, if_neg h2_, if_neg h3_, if_pos h4_, if_neg h7_, if_neg h13_, if_neg h16_, if_neg h17_]))
      · refine lv_aload_n hx hb dM_writeSecond_34 rfl (lv_at hl 1 rfl) ?_
        refine va_get (D := D) (ci := 3) (v := .ref (ad 5)) (C := RM) (T := TM) (N := 33) hx hb hw inM hown hK hP 0 rfl rfl 5 (by decide) f22 (fun _ h9 => h9) rfl dM_writeSecond_35 ?_
        refine lv_iload_n hx hb dM_writeSecond_38 rfl (lv_at hl 2 rfl) ?_
        refine lv_iload_n hx hb dM_writeSecond_39 rfl (lv_at hl 3 rfl) ?_
        refine lv_sipush (v := 248) hx hb dM_writeSecond_40 (by decide) ?_
        refine lv_iand hx hb dM_writeSecond_43 ?_
        refine tkst_5 hx hb hK hP hD hS hi0 dM_writeSecond_44 (fun H locs hP hD hS => ?_)
        have hP : va_P D vwCl (WM hm ad cI cZ (tk_up g 5 (upd (g 5) x0.toNatClampNeg (x1 &&& 248)))) H := hP
        have hD : va_D A (WM hm ad cI cZ (tk_up g 5 (upd (g 5) x0.toNatClampNeg (x1 &&& 248)))) := hD
        refine lv_goto (tgt := 88) hx hb dM_writeSecond_45 (by decide) ?_
        refine lv_aload_n hx hb dM_writeSecond_88 rfl (lv_at hl 1 rfl) ?_
        refine va_get (D := D) (ci := 3) (v := .ref (ad 17)) (C := RM) (T := TM) (N := 33) hx hb hw inM hown hK hP 0 rfl rfl 17 (by decide) f59 (fun _ h9 => h9) rfl dM_writeSecond_89 ?_
        refine lv_iload_n hx hb dM_writeSecond_92 rfl (lv_at hl 2 rfl) ?_
        refine lv_iload_n hx hb dM_writeSecond_93 rfl (lv_at hl 0 rfl) ?_
        refine lv_iconst (v := 2) hx hb dM_writeSecond_94 (by decide) ?_
        refine lv_icmp_ne (tgt := 111) hx hb dM_writeSecond_95 (by decide) (fun h => absurd h3_ h) (fun _ => ?_)
        refine lv_aload_n hx hb dM_writeSecond_98 rfl (lv_at hl 1 rfl) ?_
        refine va_get (D := D) (ci := 3) (v := .ref (ad 9)) (C := RM) (T := TM) (N := 33) hx hb hw inM hown hK hP 0 rfl rfl 9 (by decide) f35 (fun _ h9 => h9) rfl dM_writeSecond_99 ?_
        refine lv_iload_n hx hb dM_writeSecond_102 rfl (lv_at hl 2 rfl) ?_
        refine tkld_9 hx hb hK hP hi0 dM_writeSecond_103 ?_
        refine lv_if_ne (tgt := 111) hx hb dM_writeSecond_104 (by decide) (fun (h18_ : ¬ (g 9 x0.toNatClampNeg = 0)) => ?_) (fun (h18_ : g 9 x0.toNatClampNeg = 0) => ?_)
        · refine lv_iload_n hx hb dM_writeSecond_111 rfl (lv_at hl 0 rfl) ?_
          refine lv_iconst (v := 4) hx hb dM_writeSecond_112 (by decide) ?_
          refine lv_icmp_ge (tgt := 129) hx hb dM_writeSecond_113 (by decide) (fun (h19_ : 4 ≤ g 17 x0.toNatClampNeg) => ?_) (fun (h19_ : ¬ (4 ≤ g 17 x0.toNatClampNeg)) => ?_)
          · refine lv_iconst (v := 0) hx hb dM_writeSecond_129 (by decide) ?_
            refine tkst_17 hx hb hK hP hD hS hi0 dM_writeSecond_130 (fun H locs hP hD hS => ?_)
            have hP : va_P D vwCl (WM hm ad cI cZ (tk_up (tk_up g 5 (upd (g 5) x0.toNatClampNeg (x1 &&& 248))) 17 (upd (g 17) x0.toNatClampNeg 0))) H := hP
            have hD : va_D A (WM hm ad cI cZ (tk_up (tk_up g 5 (upd (g 5) x0.toNatClampNeg (x1 &&& 248))) 17 (upd (g 17) x0.toNatClampNeg 0))) := hD
            refine lv_aload_n hx hb dM_writeSecond_131 rfl (lv_at hl 1 rfl) ?_
            refine va_get (D := D) (ci := 3) (v := .ref (ad 7)) (C := RM) (T := TM) (N := 33) hx hb hw inM hown hK hP 0 rfl rfl 7 (by decide) f28 (fun _ h9 => h9) rfl dM_writeSecond_132 ?_
            refine lv_iload_n hx hb dM_writeSecond_135 rfl (lv_at hl 2 rfl) ?_
            refine lv_aload_n hx hb dM_writeSecond_136 rfl (lv_at hl 1 rfl) ?_
            refine va_get (D := D) (ci := 3) (v := .ref (ad 17)) (C := RM) (T := TM) (N := 33) hx hb hw inM hown hK hP 0 rfl rfl 17 (by decide) f59 (fun _ h9 => h9) rfl dM_writeSecond_137 ?_
            refine lv_iload_n hx hb dM_writeSecond_140 rfl (lv_at hl 2 rfl) ?_
            refine tkld_17 hx hb hK hP hi0 dM_writeSecond_141 ?_
            refine tk_top (tk_us (g 17) x0.toNatClampNeg 0) ?_
            refine lv_if_ne (tgt := 149) hx hb dM_writeSecond_142 (by decide) (fun h => absurd (by decide) h) (fun _ => ?_)
            refine lv_iconst (v := 1) hx hb dM_writeSecond_145 (by decide) ?_
            refine lv_goto (tgt := 150) hx hb dM_writeSecond_146 (by decide) ?_
            refine tkst_7 hx hb hK hP hD hS hi0 (x' := 1) rfl dM_writeSecond_150 (fun H locs hP hD hS => ?_)
            have hP : va_P D vwCl (WM hm ad cI cZ (tk_up (tk_up (tk_up g 5 (upd (g 5) x0.toNatClampNeg (x1 &&& 248))) 17 (upd (g 17) x0.toNatClampNeg 0)) 7 (upd (g 7) x0.toNatClampNeg 1))) H := hP
            have hD : va_D A (WM hm ad cI cZ (tk_up (tk_up (tk_up g 5 (upd (g 5) x0.toNatClampNeg (x1 &&& 248))) 17 (upd (g 17) x0.toNatClampNeg 0)) 7 (upd (g 7) x0.toNatClampNeg 1))) := hD
            exact tk_vret hx hb hr hlk hP hD hS dM_writeSecond_151 (congrArg (WM hm ad cI cZ) (by unfold tkM_writeSecond_s; rw [if_pos h1_, if_neg h2_, if_pos h3_, if_neg h18_, if_pos h19_]))
          · refine lv_aload_n hx hb dM_writeSecond_116 rfl (lv_at hl 1 rfl) ?_
            refine va_get (D := D) (ci := 3) (v := .ref (ad 10)) (C := RM) (T := TM) (N := 33) hx hb hw inM hown hK hP 0 rfl rfl 10 (by decide) f38 (fun _ h9 => h9) rfl dM_writeSecond_117 ?_
            refine lv_iload_n hx hb dM_writeSecond_120 rfl (lv_at hl 2 rfl) ?_
            refine tkld_10 hx hb hK hP hi0 dM_writeSecond_121 ?_
            refine lv_if_eq (tgt := 129) hx hb dM_writeSecond_122 (by decide) (fun (h20_ : g 10 x0.toNatClampNeg = 0) => ?_) (fun (h20_ : ¬ (g 10 x0.toNatClampNeg = 0)) => ?_)
            · refine lv_iconst (v := 0) hx hb dM_writeSecond_129 (by decide) ?_
              refine tkst_17 hx hb hK hP hD hS hi0 dM_writeSecond_130 (fun H locs hP hD hS => ?_)
              have hP : va_P D vwCl (WM hm ad cI cZ (tk_up (tk_up g 5 (upd (g 5) x0.toNatClampNeg (x1 &&& 248))) 17 (upd (g 17) x0.toNatClampNeg 0))) H := hP
              have hD : va_D A (WM hm ad cI cZ (tk_up (tk_up g 5 (upd (g 5) x0.toNatClampNeg (x1 &&& 248))) 17 (upd (g 17) x0.toNatClampNeg 0))) := hD
              refine lv_aload_n hx hb dM_writeSecond_131 rfl (lv_at hl 1 rfl) ?_
              refine va_get (D := D) (ci := 3) (v := .ref (ad 7)) (C := RM) (T := TM) (N := 33) hx hb hw inM hown hK hP 0 rfl rfl 7 (by decide) f28 (fun _ h9 => h9) rfl dM_writeSecond_132 ?_
              refine lv_iload_n hx hb dM_writeSecond_135 rfl (lv_at hl 2 rfl) ?_
              refine lv_aload_n hx hb dM_writeSecond_136 rfl (lv_at hl 1 rfl) ?_
              refine va_get (D := D) (ci := 3) (v := .ref (ad 17)) (C := RM) (T := TM) (N := 33) hx hb hw inM hown hK hP 0 rfl rfl 17 (by decide) f59 (fun _ h9 => h9) rfl dM_writeSecond_137 ?_
              refine lv_iload_n hx hb dM_writeSecond_140 rfl (lv_at hl 2 rfl) ?_
              refine tkld_17 hx hb hK hP hi0 dM_writeSecond_141 ?_
              refine tk_top (tk_us (g 17) x0.toNatClampNeg 0) ?_
              refine lv_if_ne (tgt := 149) hx hb dM_writeSecond_142 (by decide) (fun h => absurd (by decide) h) (fun _ => ?_)
              refine lv_iconst (v := 1) hx hb dM_writeSecond_145 (by decide) ?_
              refine lv_goto (tgt := 150) hx hb dM_writeSecond_146 (by decide) ?_
              refine tkst_7 hx hb hK hP hD hS hi0 (x' := 1) rfl dM_writeSecond_150 (fun H locs hP hD hS => ?_)
              have hP : va_P D vwCl (WM hm ad cI cZ (tk_up (tk_up (tk_up g 5 (upd (g 5) x0.toNatClampNeg (x1 &&& 248))) 17 (upd (g 17) x0.toNatClampNeg 0)) 7 (upd (g 7) x0.toNatClampNeg 1))) H := hP
              have hD : va_D A (WM hm ad cI cZ (tk_up (tk_up (tk_up g 5 (upd (g 5) x0.toNatClampNeg (x1 &&& 248))) 17 (upd (g 17) x0.toNatClampNeg 0)) 7 (upd (g 7) x0.toNatClampNeg 1))) := hD
              exact tk_vret hx hb hr hlk hP hD hS dM_writeSecond_151 (congrArg (WM hm ad cI cZ) (by unfold tkM_writeSecond_s; rw [if_pos h1_, if_neg h2_, if_pos h3_, if_neg h18_, if_neg h19_, if_pos h20_]))
            · refine lv_iconst (v := 4) hx hb dM_writeSecond_125 (by decide) ?_
              refine lv_goto (tgt := 130) hx hb dM_writeSecond_126 (by decide) ?_
              refine tkst_17 hx hb hK hP hD hS hi0 dM_writeSecond_130 (fun H locs hP hD hS => ?_)
              have hP : va_P D vwCl (WM hm ad cI cZ (tk_up (tk_up g 5 (upd (g 5) x0.toNatClampNeg (x1 &&& 248))) 17 (upd (g 17) x0.toNatClampNeg 4))) H := hP
              have hD : va_D A (WM hm ad cI cZ (tk_up (tk_up g 5 (upd (g 5) x0.toNatClampNeg (x1 &&& 248))) 17 (upd (g 17) x0.toNatClampNeg 4))) := hD
              refine lv_aload_n hx hb dM_writeSecond_131 rfl (lv_at hl 1 rfl) ?_
              refine va_get (D := D) (ci := 3) (v := .ref (ad 7)) (C := RM) (T := TM) (N := 33) hx hb hw inM hown hK hP 0 rfl rfl 7 (by decide) f28 (fun _ h9 => h9) rfl dM_writeSecond_132 ?_
              refine lv_iload_n hx hb dM_writeSecond_135 rfl (lv_at hl 2 rfl) ?_
              refine lv_aload_n hx hb dM_writeSecond_136 rfl (lv_at hl 1 rfl) ?_
              refine va_get (D := D) (ci := 3) (v := .ref (ad 17)) (C := RM) (T := TM) (N := 33) hx hb hw inM hown hK hP 0 rfl rfl 17 (by decide) f59 (fun _ h9 => h9) rfl dM_writeSecond_137 ?_
              refine lv_iload_n hx hb dM_writeSecond_140 rfl (lv_at hl 2 rfl) ?_
              refine tkld_17 hx hb hK hP hi0 dM_writeSecond_141 ?_
              refine tk_top (tk_us (g 17) x0.toNatClampNeg 4) ?_
              refine lv_if_ne (tgt := 149) hx hb dM_writeSecond_142 (by decide) (fun _ => ?_) (fun h => absurd h (by decide))
              refine lv_iconst (v := 0) hx hb dM_writeSecond_149 (by decide) ?_
              refine tkst_7 hx hb hK hP hD hS hi0 (x' := 0) rfl dM_writeSecond_150 (fun H locs hP hD hS => ?_)
              have hP : va_P D vwCl (WM hm ad cI cZ (tk_up (tk_up (tk_up g 5 (upd (g 5) x0.toNatClampNeg (x1 &&& 248))) 17 (upd (g 17) x0.toNatClampNeg 4)) 7 (upd (g 7) x0.toNatClampNeg 0))) H := hP
              have hD : va_D A (WM hm ad cI cZ (tk_up (tk_up (tk_up g 5 (upd (g 5) x0.toNatClampNeg (x1 &&& 248))) 17 (upd (g 17) x0.toNatClampNeg 4)) 7 (upd (g 7) x0.toNatClampNeg 0))) := hD
              exact tk_vret hx hb hr hlk hP hD hS dM_writeSecond_151 (congrArg (WM hm ad cI cZ) (by unfold tkM_writeSecond_s; rw [if_pos h1_, if_neg h2_, if_pos h3_, if_neg h18_, if_neg h19_, if_neg h20_]))
        · refine lv_iconst (v := 3) hx hb dM_writeSecond_107 (by decide) ?_
          refine lv_goto (tgt := 130) hx hb dM_writeSecond_108 (by decide) ?_
          refine tkst_17 hx hb hK hP hD hS hi0 dM_writeSecond_130 (fun H locs hP hD hS => ?_)
          have hP : va_P D vwCl (WM hm ad cI cZ (tk_up (tk_up g 5 (upd (g 5) x0.toNatClampNeg (x1 &&& 248))) 17 (upd (g 17) x0.toNatClampNeg 3))) H := hP
          have hD : va_D A (WM hm ad cI cZ (tk_up (tk_up g 5 (upd (g 5) x0.toNatClampNeg (x1 &&& 248))) 17 (upd (g 17) x0.toNatClampNeg 3))) := hD
          refine lv_aload_n hx hb dM_writeSecond_131 rfl (lv_at hl 1 rfl) ?_
          refine va_get (D := D) (ci := 3) (v := .ref (ad 7)) (C := RM) (T := TM) (N := 33) hx hb hw inM hown hK hP 0 rfl rfl 7 (by decide) f28 (fun _ h9 => h9) rfl dM_writeSecond_132 ?_
          refine lv_iload_n hx hb dM_writeSecond_135 rfl (lv_at hl 2 rfl) ?_
          refine lv_aload_n hx hb dM_writeSecond_136 rfl (lv_at hl 1 rfl) ?_
          refine va_get (D := D) (ci := 3) (v := .ref (ad 17)) (C := RM) (T := TM) (N := 33) hx hb hw inM hown hK hP 0 rfl rfl 17 (by decide) f59 (fun _ h9 => h9) rfl dM_writeSecond_137 ?_
          refine lv_iload_n hx hb dM_writeSecond_140 rfl (lv_at hl 2 rfl) ?_
          refine tkld_17 hx hb hK hP hi0 dM_writeSecond_141 ?_
          refine tk_top (tk_us (g 17) x0.toNatClampNeg 3) ?_
          refine lv_if_ne (tgt := 149) hx hb dM_writeSecond_142 (by decide) (fun _ => ?_) (fun h => absurd h (by decide))
          refine lv_iconst (v := 0) hx hb dM_writeSecond_149 (by decide) ?_
          refine tkst_7 hx hb hK hP hD hS hi0 (x' := 0) rfl dM_writeSecond_150 (fun H locs hP hD hS => ?_)
          have hP : va_P D vwCl (WM hm ad cI cZ (tk_up (tk_up (tk_up g 5 (upd (g 5) x0.toNatClampNeg (x1 &&& 248))) 17 (upd (g 17) x0.toNatClampNeg 3)) 7 (upd (g 7) x0.toNatClampNeg 0))) H := hP
          have hD : va_D A (WM hm ad cI cZ (tk_up (tk_up (tk_up g 5 (upd (g 5) x0.toNatClampNeg (x1 &&& 248))) 17 (upd (g 17) x0.toNatClampNeg 3)) 7 (upd (g 7) x0.toNatClampNeg 0))) := hD
          exact tk_vret hx hb hr hlk hP hD hS dM_writeSecond_151 (congrArg (WM hm ad cI cZ) (by unfold tkM_writeSecond_s; rw [if_pos h1_, if_neg h2_, if_pos h3_, if_pos h18_]))
    · exact tk_vret hx hb hr hlk hP hD hS dM_writeSecond_28 (congrArg (WM hm ad cI cZ) (by unfold tkM_writeSecond_s; rw [if_pos h1_, if_pos h2_]))
  · refine lv_aload_n hx hb dM_writeSecond_9 rfl (lv_at hl 0 rfl) ?_
    refine va_get (D := D) (ci := 3) (v := .ref (ad 3)) (C := RM) (T := TM) (N := 33) hx hb hw inM hown hK hP 0 rfl rfl 3 (by decide) f16 (fun _ h9 => h9) rfl dM_writeSecond_10 ?_
    refine lv_iload_n hx hb dM_writeSecond_13 rfl (lv_at hl 1 rfl) ?_
    refine lv_iload_n hx hb dM_writeSecond_14 rfl (lv_at hl 2 rfl) ?_
    refine tkst_3 hx hb hK hP hD hS hi0 dM_writeSecond_15 (fun H locs hP hD hS => ?_)
    have hP : va_P D vwCl (WM hm ad cI cZ (tk_up g 3 (upd (g 3) x0.toNatClampNeg x1))) H := hP
    have hD : va_D A (WM hm ad cI cZ (tk_up g 3 (upd (g 3) x0.toNatClampNeg x1))) := hD
    exact tk_vret hx hb hr hlk hP hD hS dM_writeSecond_16 (congrArg (WM hm ad cI cZ) (by unfold tkM_writeSecond_s; rw [if_neg h1_]))
def tkM_readFirst_r (g : Nat → Nat → Int32) (x0 : Int32) : Int32 :=
  if g 15 x0.toNatClampNeg = 0 then (if g 16 x0.toNatClampNeg = 0 then tkM_requests_r g x0
    else g 4 x0.toNatClampNeg)
  else if 0 ≤ tkM_choice_r (tk_up g 15 (upd (g 15) x0.toNatClampNeg 0)) x0 then 128 + (tkM_choice_r (tk_up g 15 (upd (g 15) x0.toNatClampNeg 0)) x0)
    else 0
def tkM_readFirst_s (g : Nat → Nat → Int32) (x0 : Int32) : Nat → Nat → Int32 :=
  if g 15 x0.toNatClampNeg = 0 then g
  else if 0 ≤ tkM_choice_r (tk_up g 15 (upd (g 15) x0.toNatClampNeg 0)) x0 then tkM_serve_s (tk_up g 15 (upd (g 15) x0.toNatClampNeg 0)) x0 (tkM_choice_r (tk_up g 15 (upd (g 15) x0.toNatClampNeg 0)) x0)
    else tk_up g 15 (upd (g 15) x0.toNatClampNeg 0)
set_option maxHeartbeats 1000000 in
set_option maxRecDepth 100000 in
theorem kM_readFirst (l : Launch) (D : va_G) (hm : Nat) (ad : Nat → Nat) (cI cZ : ClassId) (g : Nat → Nat → Int32) (x0 : Int32) (hi0 : vp_in x0 2) : tk_M l yM_readFirst wsM_readFirst { frames := 2, cells := 0, slots := 0, locals := 47 } D [(cI, .int), (cZ, .boolean)] [.ref hm, .int x0] (WM hm ad cI cZ g) (WM hm ad cI cZ (tkM_readFirst_s g x0)) (some (.int (tkM_readFirst_r g x0))) := by
  refine tk_M.of (cc := cM_readFirst) (maxL := 3) (ret := (some .int)) (by decide) rfl (Nat.le_of_ble_eq_true rfl) ?_
  intro p e s m below meth co A H locs ls hB hK hN hA hP hD hS hl
  obtain ⟨hx, hb, hr, hml, hown, hlk, hnm, hts⟩ := hB
  have hown : s.vm.findClass RM = some m.cls := hown
  have hl : lv_has ls 3 [(0, .ref hm), (1, .int x0)] := hl
  have hw : ∀ w ∈ tkWM, w.before _ s = true := fun w h => hts w (List.mem_cons_of_mem _ h)
  have f53 := hw _ wF_M_53
  have f56 := hw _ wF_M_56
  have f19 := hw _ wF_M_19
  refine lv_aload_n hx hb dM_readFirst_0 rfl (lv_at hl 0 rfl) ?_
  refine va_get (D := D) (ci := 3) (v := .ref (ad 15)) (C := RM) (T := TM) (N := 33) hx hb hw inM hown hK hP 0 rfl rfl 15 (by decide) f53 (fun _ h9 => h9) rfl dM_readFirst_1 ?_
  refine lv_iload_n hx hb dM_readFirst_4 rfl (lv_at hl 1 rfl) ?_
  refine tkld_15 hx hb hK hP hi0 dM_readFirst_5 ?_
  refine lv_if_ne (tgt := 33) hx hb dM_readFirst_6 (by decide) (fun (h1_ : ¬ (g 15 x0.toNatClampNeg = 0)) => ?_) (fun (h1_ : g 15 x0.toNatClampNeg = 0) => ?_)
  · refine lv_aload_n hx hb dM_readFirst_33 rfl (lv_at hl 0 rfl) ?_
    refine va_get (D := D) (ci := 3) (v := .ref (ad 15)) (C := RM) (T := TM) (N := 33) hx hb hw inM hown hK hP 0 rfl rfl 15 (by decide) f53 (fun _ h9 => h9) rfl dM_readFirst_34 ?_
    refine lv_iload_n hx hb dM_readFirst_37 rfl (lv_at hl 1 rfl) ?_
    refine lv_iconst (v := 0) hx hb dM_readFirst_38 (by decide) ?_
    refine tkst_15 hx hb hK hP hD hS hi0 (x' := 0) rfl dM_readFirst_39 (fun H locs hP hD hS => ?_)
    have hP : va_P D vwCl (WM hm ad cI cZ (tk_up g 15 (upd (g 15) x0.toNatClampNeg 0))) H := hP
    have hD : va_D A (WM hm ad cI cZ (tk_up g 15 (upd (g 15) x0.toNatClampNeg 0))) := hD
    refine lv_aload_n hx hb dM_readFirst_40 rfl (lv_at hl 0 rfl) ?_
    refine lv_iload_n hx hb dM_readFirst_41 rfl (lv_at hl 1 rfl) ?_
    refine tk_callA hD hS hA (va_runV (As := [.int x0]) (rest := []) ⟨hx, hb, hml, hown, hw⟩ (kM_choice l D hm ad cI cZ (tk_up g 15 (upd (g 15) x0.toNatClampNeg 0)) x0 hi0 H.size) (cwV 1 hw (tk_gV tkWM_good wM_M_123 wI_M_choice wS_M_choice wZ_M wC_M_choice) rfl rfl rfl (by decide +kernel) ⟨Nat.le_of_ble_eq_true rfl, Nat.le_of_ble_eq_true rfl⟩) (tk_preM hK hN hP hD) rfl rfl hl.1 rfl (lv_room (Nat.le_of_ble_eq_true rfl)) dM_readFirst_42 ⟨Nat.zero_le _, Nat.zero_le _⟩) (fun H locs hP hD hS => ?_)
    refine W.eq (g2 := F0 m 45 ls [.int (tkM_choice_r (tk_up g 15 (upd (g 15) x0.toNatClampNeg 0)) x0)]) rfl ?_
    refine lv_istore_n hx hb dM_readFirst_45 rfl hl (by decide) rfl (fun ls hl => ?_)
    have hl : lv_has ls 3 [(2, .int (tkM_choice_r (tk_up g 15 (upd (g 15) x0.toNatClampNeg 0)) x0)), (0, .ref hm), (1, .int x0)] := hl
    refine lv_iload_n hx hb dM_readFirst_46 rfl (lv_at hl 0 rfl) ?_
    refine lv_if_ge (tgt := 52) hx hb dM_readFirst_47 (by decide) (fun (h2_ : 0 ≤ tkM_choice_r (tk_up g 15 (upd (g 15) x0.toNatClampNeg 0)) x0) => ?_) (fun (h2_ : ¬ (0 ≤ tkM_choice_r (tk_up g 15 (upd (g 15) x0.toNatClampNeg 0)) x0)) => ?_)
    · refine lv_aload_n hx hb dM_readFirst_52 rfl (lv_at hl 1 rfl) ?_
      refine lv_iload_n hx hb dM_readFirst_53 rfl (lv_at hl 2 rfl) ?_
      refine lv_iload_n hx hb dM_readFirst_54 rfl (lv_at hl 0 rfl) ?_
      refine tk_callA hD hS hA (va_runV (As := [.int x0, .int (tkM_choice_r (tk_up g 15 (upd (g 15) x0.toNatClampNeg 0)) x0)]) (rest := []) ⟨hx, hb, hml, hown, hw⟩ (kM_serve l D hm ad cI cZ (tk_up g 15 (upd (g 15) x0.toNatClampNeg 0)) x0 (tkM_choice_r (tk_up g 15 (upd (g 15) x0.toNatClampNeg 0)) x0) hi0 H.size) (cwV 2 hw (tk_gV tkWM_good wM_M_136 wI_M_serve wS_M_serve wZ_M wC_M_serve) rfl rfl rfl (by decide +kernel) ⟨Nat.le_of_ble_eq_true rfl, Nat.le_of_ble_eq_true rfl⟩) (tk_preM hK hN hP hD) rfl rfl hl.1 rfl (lv_room (Nat.le_of_ble_eq_true rfl)) dM_readFirst_55 ⟨Nat.zero_le _, Nat.zero_le _⟩) (fun H locs hP hD hS => ?_)
      refine W.eq (g2 := F0 m 58 ls []) rfl ?_
      refine lv_sipush (v := 128) hx hb dM_readFirst_58 (by decide) ?_
      refine lv_iload_n hx hb dM_readFirst_61 rfl (lv_at hl 0 rfl) ?_
      refine lv_iadd hx hb dM_readFirst_62 ?_
      exact tk_iret hx hb hr hlk hP hD hS dM_readFirst_63 (by unfold tkM_readFirst_r; rw [if_neg h1_, if_pos h2_]) (congrArg (WM hm ad cI cZ) (by unfold tkM_readFirst_s; rw [if_neg h1_, if_pos h2_]))
    · refine lv_iconst (v := 0) hx hb dM_readFirst_50 (by decide) ?_
      exact tk_iret hx hb hr hlk hP hD hS dM_readFirst_51 (by unfold tkM_readFirst_r; rw [if_neg h1_, if_neg h2_]) (congrArg (WM hm ad cI cZ) (by unfold tkM_readFirst_s; rw [if_neg h1_, if_neg h2_]))
  · refine lv_aload_n hx hb dM_readFirst_9 rfl (lv_at hl 0 rfl) ?_
    refine va_get (D := D) (ci := 3) (v := .ref (ad 16)) (C := RM) (T := TM) (N := 33) hx hb hw inM hown hK hP 0 rfl rfl 16 (by decide) f56 (fun _ h9 => h9) rfl dM_readFirst_10 ?_
    refine lv_iload_n hx hb dM_readFirst_13 rfl (lv_at hl 1 rfl) ?_
    refine tkld_16 hx hb hK hP hi0 dM_readFirst_14 ?_
    refine lv_if_eq (tgt := 27) hx hb dM_readFirst_15 (by decide) (fun (h3_ : g 16 x0.toNatClampNeg = 0) => ?_) (fun (h3_ : ¬ (g 16 x0.toNatClampNeg = 0)) => ?_)
    · refine lv_aload_n hx hb dM_readFirst_27 rfl (lv_at hl 0 rfl) ?_
      refine lv_iload_n hx hb dM_readFirst_28 rfl (lv_at hl 1 rfl) ?_
      refine tk_callA hD hS hA (va_runV (As := [.int x0]) (rest := []) ⟨hx, hb, hml, hown, hw⟩ (kM_requests l D hm ad cI cZ g x0 hi0 H.size) (cwV 1 hw (tk_gV tkWM_good wM_M_115 wI_M_requests wS_M_requests wZ_M wC_M_requests) rfl rfl rfl (by decide +kernel) ⟨Nat.le_of_ble_eq_true rfl, Nat.le_of_ble_eq_true rfl⟩) (tk_preM hK hN hP hD) rfl rfl hl.1 rfl (lv_room (Nat.le_of_ble_eq_true rfl)) dM_readFirst_29 ⟨Nat.zero_le _, Nat.zero_le _⟩) (fun H locs hP hD hS => ?_)
      refine W.eq (g2 := F0 m 32 ls [.int (tkM_requests_r g x0)]) rfl ?_
      exact tk_iret hx hb hr hlk hP hD hS dM_readFirst_32 (by unfold tkM_readFirst_r; rw [if_pos h1_, if_pos h3_]) (congrArg (WM hm ad cI cZ) (by unfold tkM_readFirst_s; rw [if_pos h1_]))
    · refine lv_aload_n hx hb dM_readFirst_18 rfl (lv_at hl 0 rfl) ?_
      refine va_get (D := D) (ci := 3) (v := .ref (ad 4)) (C := RM) (T := TM) (N := 33) hx hb hw inM hown hK hP 0 rfl rfl 4 (by decide) f19 (fun _ h9 => h9) rfl dM_readFirst_19 ?_
      refine lv_iload_n hx hb dM_readFirst_22 rfl (lv_at hl 1 rfl) ?_
      refine tkld_4 hx hb hK hP hi0 dM_readFirst_23 ?_
      refine lv_goto (tgt := 32) hx hb dM_readFirst_24 (by decide) ?_
      exact tk_iret hx hb hr hlk hP hD hS dM_readFirst_32 (by unfold tkM_readFirst_r; rw [if_pos h1_, if_neg h3_]) (congrArg (WM hm ad cI cZ) (by unfold tkM_readFirst_s; rw [if_pos h1_]))
