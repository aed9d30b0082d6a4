def tkM_write_s (g : Nat → Nat → Int32) (x0 x1 : Int32) : Nat → Nat → Int32 :=
  if x0 < 0 then tk_up g 0 (fun _ => 1)
  else if 7 < x0 then tk_up g 0 (fun _ => 1)
    else if x1 < 0 then tk_up g 0 (fun _ => 1)
      else if 255 < x1 then tk_up g 0 (fun _ => 1)
        else if x0 ≤ 3 then (if x0 = 7 then tkM_follow_s (tkM_control_s (tk_up g 0 (fun _ => 0)) x1)
            else if x0 - x0 / 2 * 2 = 0 then tkM_follow_s (tkM_writeFirst_s (tk_up g 0 (fun _ => 0)) (x0 / 2) x1)
              else tkM_follow_s (tkM_writeSecond_s (tk_up g 0 (fun _ => 0)) (x0 / 2) x1))
          else if 7 ≤ x0 then (if x0 = 7 then tkM_follow_s (tkM_control_s (tk_up g 0 (fun _ => 0)) x1)
              else tkM_follow_s (tkM_writeCounter_s (tk_up g 0 (fun _ => 0)) (x0 - 4) x1))
            else if 0 ≤ g 20 (x0 - 4).toNatClampNeg then (if x0 = 7 then tkM_follow_s (tkM_control_s (tk_up g 0 (fun _ => 0)) x1)
                else tkM_follow_s (tkM_writeCounter_s (tk_up g 0 (fun _ => 0)) (x0 - 4) x1))
              else tk_up g 0 (fun _ => 2)
set_option maxHeartbeats 1000000 in
set_option maxRecDepth 100000 in
theorem kM_write (l : Launch) (D : va_G) (hm : Nat) (ad : Nat → Nat) (cI cZ : ClassId) (g : Nat → Nat → Int32) (x0 x1 : Int32) : tk_M l yM_write wsM_write { frames := 4, cells := 0, slots := 0, locals := 92 } D [(cI, .int), (cZ, .boolean)] [.ref hm, .int x0, .int x1] (WM hm ad cI cZ g) (WM hm ad cI cZ (tkM_write_s g x0 x1)) none := by
  refine tk_M.of (cc := cM_write) (maxL := 4) (ret := none) (by decide) rfl (Nat.le_of_ble_eq_true rfl) ?_
  intro p e s m below meth co A H locs ls hB hK hN hA hP hD hS hl
  obtain ⟨hx, hb, hr, hml, hown, hlk, hnm, hts⟩ := hB
  have hown : s.vm.findClass RM = some m.cls := hown
  have hl : lv_has ls 4 [(0, .ref hm), (1, .int x0), (2, .int x1)] := hl
  have hw : ∀ w ∈ tkWM, w.before _ s = true := fun w h => hts w (List.mem_cons_of_mem _ h)
  have f107 := hw _ wF_M_107
  have f68 := hw _ wF_M_68
  refine lv_iload_n hx hb dM_write_0 rfl (lv_at hl 1 rfl) ?_
  refine lv_if_lt (tgt := 25) hx hb dM_write_1 (by decide) (fun (h1_ : x0 < 0) => ?_) (fun (h1_ : ¬ (x0 < 0)) => ?_)
  · refine lv_iconst (v := 0) hx hb dM_write_25 (by decide) ?_
    refine lv_istore_n hx hb dM_write_26 rfl hl (by decide) rfl (fun ls hl => ?_)
    have hl : lv_has ls 4 [(3, .int 0), (0, .ref hm), (1, .int x0), (2, .int x1)] := hl
    refine lv_aload_n hx hb dM_write_27 rfl (lv_at hl 1 rfl) ?_
    refine lv_iload_n hx hb dM_write_28 rfl (lv_at hl 0 rfl) ?_
    refine lv_if_ne (tgt := 36) hx hb dM_write_29 (by decide) (fun h => absurd (by decide) h) (fun _ => ?_)
    refine lv_iconst (v := 1) hx hb dM_write_32 (by decide) ?_
    refine lv_goto (tgt := 63) hx hb dM_write_33 (by decide) ?_
    refine va_put (D := D) (ci := 3) (v := .int 1) (ty := .int) (C := RM) (T := TM) (N := 33) hx hb hw inM tyM tyM_ok nmM hown hK hP hD hS 0 rfl rfl 0 (by decide) f107 (fun _ h9 => h9) rfl (tyM_ok 0 (by decide)) rfl rfl (Nat.le_of_ble_eq_true rfl) dM_write_63 (fun H locs hP hD hS => ?_)
    have hP : va_P D vwCl (WM hm ad cI cZ (tk_up g 0 (fun _ => 1))) H := hP
    have hD : va_D A (WM hm ad cI cZ (tk_up g 0 (fun _ => 1))) := hD
    refine lv_aload_n hx hb dM_write_66 rfl (lv_at hl 1 rfl) ?_
    refine va_get (D := D) (ci := 3) (v := .int 1) (C := RM) (T := TM) (N := 33) hx hb hw inM hown hK hP 0 rfl rfl 0 (by decide) f107 (fun _ h9 => h9) rfl dM_write_67 ?_
    refine lv_if_le (tgt := 74) hx hb dM_write_70 (by decide) (fun h => absurd h (by decide)) (fun _ => ?_)
    exact tk_vret hx hb hr hlk hP hD hS dM_write_73 (congrArg (WM hm ad cI cZ) (by unfold tkM_write_s; rw [if_pos h1_]))
  · refine lv_iload_n hx hb dM_write_4 rfl (lv_at hl 1 rfl) ?_
    refine lv_bipush (v := 7) hx hb dM_write_5 (by decide) ?_
    refine lv_icmp_gt (tgt := 25) hx hb dM_write_7 (by decide) (fun (h2_ : 7 < x0) => ?_) (fun (h2_ : ¬ (7 < x0)) => ?_)
    · refine lv_iconst (v := 0) hx hb dM_write_25 (by decide) ?_
      refine lv_istore_n hx hb dM_write_26 rfl hl (by decide) rfl (fun ls hl => ?_)
      have hl : lv_has ls 4 [(3, .int 0), (0, .ref hm), (1, .int x0), (2, .int x1)] := hl
      refine lv_aload_n hx hb dM_write_27 rfl (lv_at hl 1 rfl) ?_
      refine lv_iload_n hx hb dM_write_28 rfl (lv_at hl 0 rfl) ?_
      refine lv_if_ne (tgt := 36) hx hb dM_write_29 (by decide) (fun h => absurd (by decide) h) (fun _ => ?_)
      refine lv_iconst (v := 1) hx hb dM_write_32 (by decide) ?_
      refine lv_goto (tgt := 63) hx hb dM_write_33 (by decide) ?_
      refine va_put (D := D) (ci := 3) (v := .int 1) (ty := .int) (C := RM) (T := TM) (N := 33) hx hb hw inM tyM tyM_ok nmM hown hK hP hD hS 0 rfl rfl 0 (by decide) f107 (fun _ h9 => h9) rfl (tyM_ok 0 (by decide)) rfl rfl (Nat.le_of_ble_eq_true rfl) dM_write_63 (fun H locs hP hD hS => ?_)
      have hP : va_P D vwCl (WM hm ad cI cZ (tk_up g 0 (fun _ => 1))) H := hP
      have hD : va_D A (WM hm ad cI cZ (tk_up g 0 (fun _ => 1))) := hD
      refine lv_aload_n hx hb dM_write_66 rfl (lv_at hl 1 rfl) ?_
      refine va_get (D := D) (ci := 3) (v := .int 1) (C := RM) (T := TM) (N := 33) hx hb hw inM hown hK hP 0 rfl rfl 0 (by decide) f107 (fun _ h9 => h9) rfl dM_write_67 ?_
      refine lv_if_le (tgt := 74) hx hb dM_write_70 (by decide) (fun h => absurd h (by decide)) (fun _ => ?_)
      exact tk_vret hx hb hr hlk hP hD hS dM_write_73 (congrArg (WM hm ad cI cZ) (by unfold tkM_write_s; rw [if_neg h1_, if_pos h2_]))
    · refine lv_iload_n hx hb dM_write_10 rfl (lv_at hl 2 rfl) ?_
      refine lv_if_lt (tgt := 25) hx hb dM_write_11 (by decide) (fun (h3_ : x1 < 0) => ?_) (fun (h3_ : ¬ (x1 < 0)) => ?_)
      · refine lv_iconst (v := 0) hx hb dM_write_25 (by decide) ?_
        refine lv_istore_n hx hb dM_write_26 rfl hl (by decide) rfl (fun ls hl => ?_)
        have hl : lv_has ls 4 [(3, .int 0), (0, .ref hm), (1, .int x0), (2, .int x1)] := hl
        refine lv_aload_n hx hb dM_write_27 rfl (lv_at hl 1 rfl) ?_
        refine lv_iload_n hx hb dM_write_28 rfl (lv_at hl 0 rfl) ?_
        refine lv_if_ne (tgt := 36) hx hb dM_write_29 (by decide) (fun h => absurd (by decide) h) (fun _ => ?_)
        refine lv_iconst (v := 1) hx hb dM_write_32 (by decide) ?_
        refine lv_goto (tgt := 63) hx hb dM_write_33 (by decide) ?_
        refine va_put (D := D) (ci := 3) (v := .int 1) (ty := .int) (C := RM) (T := TM) (N := 33) hx hb hw inM tyM tyM_ok nmM hown hK hP hD hS 0 rfl rfl 0 (by decide) f107 (fun _ h9 => h9) rfl (tyM_ok 0 (by decide)) rfl rfl (Nat.le_of_ble_eq_true rfl) dM_write_63 (fun H locs hP hD hS => ?_)
        have hP : va_P D vwCl (WM hm ad cI cZ (tk_up g 0 (fun _ => 1))) H := hP
        have hD : va_D A (WM hm ad cI cZ (tk_up g 0 (fun _ => 1))) := hD
        refine lv_aload_n hx hb dM_write_66 rfl (lv_at hl 1 rfl) ?_
        refine va_get (D := D) (ci := 3) (v := .int 1) (C := RM) (T := TM) (N := 33) hx hb hw inM hown hK hP 0 rfl rfl 0 (by decide) f107 (fun _ h9 => h9) rfl dM_write_67 ?_
        refine lv_if_le (tgt := 74) hx hb dM_write_70 (by decide) (fun h => absurd h (by decide)) (fun _ => ?_)
        exact tk_vret hx hb hr hlk hP hD hS dM_write_73 (congrArg (WM hm ad cI cZ) (by unfold tkM_write_s; rw [if_neg h1_, if_neg h2_, if_pos h3_]))
      · refine lv_iload_n hx hb dM_write_14 rfl (lv_at hl 2 rfl) ?_
        refine lv_sipush (v := 255) hx hb dM_write_15 (by decide) ?_
        refine lv_icmp_gt (tgt := 25) hx hb dM_write_18 (by decide) (fun (h4_ : 255 < x1) => ?_) (fun (h4_ : ¬ (255 < x1)) => ?_)
        · refine lv_iconst (v := 0) hx hb dM_write_25 (by decide) ?_
          refine lv_istore_n hx hb dM_write_26 rfl hl (by decide) rfl (fun ls hl => ?_)
          have hl : lv_has ls 4 [(3, .int 0), (0, .ref hm), (1, .int x0), (2, .int x1)] := hl
          refine lv_aload_n hx hb dM_write_27 rfl (lv_at hl 1 rfl) ?_
          refine lv_iload_n hx hb dM_write_28 rfl (lv_at hl 0 rfl) ?_
          refine lv_if_ne (tgt := 36) hx hb dM_write_29 (by decide) (fun h => absurd (by decide) h) (fun _ => ?_)
          refine lv_iconst (v := 1) hx hb dM_write_32 (by decide) ?_
          refine lv_goto (tgt := 63) hx hb dM_write_33 (by decide) ?_
          refine va_put (D := D) (ci := 3) (v := .int 1) (ty := .int) (C := RM) (T := TM) (N := 33) hx hb hw inM tyM tyM_ok nmM hown hK hP hD hS 0 rfl rfl 0 (by decide) f107 (fun _ h9 => h9) rfl (tyM_ok 0 (by decide)) rfl rfl (Nat.le_of_ble_eq_true rfl) dM_write_63 (fun H locs hP hD hS => ?_)
          have hP : va_P D vwCl (WM hm ad cI cZ (tk_up g 0 (fun _ => 1))) H := hP
          have hD : va_D A (WM hm ad cI cZ (tk_up g 0 (fun _ => 1))) := hD
          refine lv_aload_n hx hb dM_write_66 rfl (lv_at hl 1 rfl) ?_
          refine va_get (D := D) (ci := 3) (v := .int 1) (C := RM) (T := TM) (N := 33) hx hb hw inM hown hK hP 0 rfl rfl 0 (by decide) f107 (fun _ h9 => h9) rfl dM_write_67 ?_
          refine lv_if_le (tgt := 74) hx hb dM_write_70 (by decide) (fun h => absurd h (by decide)) (fun _ => ?_)
          exact tk_vret hx hb hr hlk hP hD hS dM_write_73 (congrArg (WM hm ad cI cZ) (by unfold tkM_write_s; rw [if_neg h1_, if_neg h2_, if_neg h3_, if_pos h4_]))
        · refine lv_iconst (v := 1) hx hb dM_write_21 (by decide) ?_
          refine lv_goto (tgt := 26) hx hb dM_write_22 (by decide) ?_
          refine lv_istore_n hx hb dM_write_26 rfl hl (by decide) rfl (fun ls hl => ?_)
          have hl : lv_has ls 4 [(3, .int 1), (0, .ref hm), (1, .int x0), (2, .int x1)] := hl
          refine lv_aload_n hx hb dM_write_27 rfl (lv_at hl 1 rfl) ?_
          refine lv_iload_n hx hb dM_write_28 rfl (lv_at hl 0 rfl) ?_
          refine lv_if_ne (tgt := 36) hx hb dM_write_29 (by decide) (fun _ => ?_) (fun h => absurd h (by decide))
          refine lv_iload_n hx hb dM_write_36 rfl (lv_at hl 2 rfl) ?_
          refine lv_iconst (v := 3) hx hb dM_write_37 (by decide) ?_
          refine lv_icmp_le (tgt := 62) hx hb dM_write_38 (by decide) (fun (h5_ : x0 ≤ 3) => ?_) (fun (h5_ : ¬ (x0 ≤ 3)) => ?_)
          · refine lv_iconst (v := 0) hx hb dM_write_62 (by decide) ?_
            refine va_put (D := D) (ci := 3) (v := .int 0) (ty := .int) (C := RM) (T := TM) (N := 33) hx hb hw inM tyM tyM_ok nmM hown hK hP hD hS 0 rfl rfl 0 (by decide) f107 (fun _ h9 => h9) rfl (tyM_ok 0 (by decide)) rfl rfl (Nat.le_of_ble_eq_true rfl) dM_write_63 (fun H locs hP hD hS => ?_)
            have hP : va_P D vwCl (WM hm ad cI cZ (tk_up g 0 (fun _ => 0))) H := hP
            have hD : va_D A (WM hm ad cI cZ (tk_up g 0 (fun _ => 0))) := hD
            refine lv_aload_n hx hb dM_write_66 rfl (lv_at hl 1 rfl) ?_
            refine va_get (D := D) (ci := 3) (v := .int 0) (C := RM) (T := TM) (N := 33) hx hb hw inM hown hK hP 0 rfl rfl 0 (by decide) f107 (fun _ h9 => h9) rfl dM_write_67 ?_
            refine lv_if_le (tgt := 74) hx hb dM_write_70 (by decide) (fun _ => ?_) (fun h => absurd (by decide) h)
            refine lv_iload_n hx hb dM_write_74 rfl (lv_at hl 2 rfl) ?_
            refine lv_bipush (v := 7) hx hb dM_write_75 (by decide) ?_
            refine lv_icmp_ne (tgt := 88) hx hb dM_write_77 (by decide) (fun (h6_ : ¬ (x0 = 7)) => ?_) (fun (h6_ : x0 = 7) => ?_)
            · refine lv_iload_n hx hb dM_write_88 rfl (lv_at hl 2 rfl) ?_
              refine lv_iconst (v := 3) hx hb dM_write_89 (by decide) ?_
              refine lv_icmp_le (tgt := 104) hx hb dM_write_90 (by decide) (fun _ => ?_) (fun h => absurd h5_ h)
              refine lv_iload_n hx hb dM_write_104 rfl (lv_at hl 2 rfl) ?_
              refine lv_iconst (v := 2) hx hb dM_write_105 (by decide) ?_
              refine lv_irem hx hb dM_write_106 (by decide) ?_
              refine lv_if_ne (tgt := 121) hx hb dM_write_107 (by decide) (fun (h7_ : ¬ (x0 - x0 / 2 * 2 = 0)) => ?_) (fun (h7_ : x0 - x0 / 2 * 2 = 0) => ?_)
              · refine lv_aload_n hx hb dM_write_121 rfl (lv_at hl 1 rfl) ?_
                refine lv_iload_n hx hb dM_write_122 rfl (lv_at hl 2 rfl) ?_
                refine lv_iconst (v := 2) hx hb dM_write_123 (by decide) ?_
                refine lv_idiv hx hb dM_write_124 (by decide) ?_
                refine lv_iload_n hx hb dM_write_125 rfl (lv_at hl 3 rfl) ?_
                refine tk_callA hD hS hA (va_runV (As := [.int (x0 / 2), .int x1]) (rest := []) ⟨hx, hb, hml, hown, hw⟩ (kM_writeSecond l D hm ad cI cZ (tk_up g 0 (fun _ => 0)) (x0 / 2) x1 (tk_ix2 h1_ h5_) H.size) (cwV 2 hw (tk_gV tkWM_good wM_M_166 wI_M_writeSecond wS_M_writeSecond wZ_M wC_M_writeSecond) rfl rfl rfl (by decide +kernel) ⟨Nat.le_of_ble_eq_true rfl, Nat.le_of_ble_eq_true rfl⟩) (tk_preM hK hN hP hD) rfl rfl hl.1 rfl (lv_room (Nat.le_of_ble_eq_true rfl)) dM_write_126 ⟨Nat.zero_le _, Nat.zero_le _⟩) (fun H locs hP hD hS => ?_)
                refine W.eq (g2 := F0 m 129 ls []) rfl ?_
                refine lv_aload_n hx hb dM_write_129 rfl (lv_at hl 1 rfl) ?_
                refine tk_callA hD hS hA (va_runV (As := []) (rest := []) ⟨hx, hb, hml, hown, hw⟩ (kM_follow l D hm ad cI cZ (tkM_writeSecond_s (tk_up g 0 (fun _ => 0)) (x0 / 2) x1) H.size) (cwV 0 hw (tk_gV tkWM_good wM_M_169 wI_M_follow wS_M_follow wZ_M wC_M_follow) rfl rfl rfl (by decide +kernel) ⟨Nat.le_of_ble_eq_true rfl, Nat.le_of_ble_eq_true rfl⟩) (tk_preM hK hN hP hD) rfl rfl hl.1 rfl (lv_room (Nat.le_of_ble_eq_true rfl)) dM_write_130 ⟨Nat.zero_le _, Nat.zero_le _⟩) (fun H locs hP hD hS => ?_)
                refine W.eq (g2 := F0 m 133 ls []) rfl ?_
                exact tk_vret hx hb hr hlk hP hD hS dM_write_133 (congrArg (WM hm ad cI cZ) (by unfold tkM_write_s; rw [if_neg h1_, if_neg h2_, if_neg h3_, if_neg h4_, if_pos h5_, if_neg h6_, if_neg h7_]))
              · refine lv_aload_n hx hb dM_write_110 rfl (lv_at hl 1 rfl) ?_
                refine lv_iload_n hx hb dM_write_111 rfl (lv_at hl 2 rfl) ?_
                refine lv_iconst (v := 2) hx hb dM_write_112 (by decide) ?_
                refine lv_idiv hx hb dM_write_113 (by decide) ?_
                refine lv_iload_n hx hb dM_write_114 rfl (lv_at hl 3 rfl) ?_
                refine tk_callA hD hS hA (va_runV (As := [.int (x0 / 2), .int x1]) (rest := []) ⟨hx, hb, hml, hown, hw⟩ (kM_writeFirst l D hm ad cI cZ (tk_up g 0 (fun _ => 0)) (x0 / 2) x1 (tk_ix2 h1_ h5_) H.size) (cwV 2 hw (tk_gV tkWM_good wM_M_163 wI_M_writeFirst wS_M_writeFirst wZ_M wC_M_writeFirst) rfl rfl rfl (by decide +kernel) ⟨Nat.le_of_ble_eq_true rfl, Nat.le_of_ble_eq_true rfl⟩) (tk_preM hK hN hP hD) rfl rfl hl.1 rfl (lv_room (Nat.le_of_ble_eq_true rfl)) dM_write_115 ⟨Nat.zero_le _, Nat.zero_le _⟩) (fun H locs hP hD hS => ?_)
                refine W.eq (g2 := F0 m 118 ls []) rfl ?_
                refine lv_goto (tgt := 129) hx hb dM_write_118 (by decide) ?_
                refine lv_aload_n hx hb dM_write_129 rfl (lv_at hl 1 rfl) ?_
                refine tk_callA hD hS hA (va_runV (As := []) (rest := []) ⟨hx, hb, hml, hown, hw⟩ (kM_follow l D hm ad cI cZ (tkM_writeFirst_s (tk_up g 0 (fun _ => 0)) (x0 / 2) x1) H.size) (cwV 0 hw (tk_gV tkWM_good wM_M_169 wI_M_follow wS_M_follow wZ_M wC_M_follow) rfl rfl rfl (by decide +kernel) ⟨Nat.le_of_ble_eq_true rfl, Nat.le_of_ble_eq_true rfl⟩) (tk_preM hK hN hP hD) rfl rfl hl.1 rfl (lv_room (Nat.le_of_ble_eq_true rfl)) dM_write_130 ⟨Nat.zero_le _, Nat.zero_le _⟩) (fun H locs hP hD hS => ?_)
                refine W.eq (g2 := F0 m 133 ls []) rfl ?_
                exact tk_vret hx hb hr hlk hP hD hS dM_write_133 (congrArg (WM hm ad cI cZ) (by unfold tkM_write_s; rw [if_neg h1_, if_neg h2_, if_neg h3_, if_neg h4_, if_pos h5_, if_neg h6_, if_pos h7_]))
            · refine lv_aload_n hx hb dM_write_80 rfl (lv_at hl 1 rfl) ?_
              refine lv_iload_n hx hb dM_write_81 rfl (lv_at hl 3 rfl) ?_
              refine tk_callA hD hS hA (va_runV (As := [.int x1]) (rest := []) ⟨hx, hb, hml, hown, hw⟩ (kM_control l D hm ad cI cZ (tk_up g 0 (fun _ => 0)) x1 (tk_ixq h3_ h4_) H.size) (cwV 1 hw (tk_gV tkWM_good wM_M_157 wI_M_control wS_M_control wZ_M wC_M_control) rfl rfl rfl (by decide +kernel) ⟨Nat.le_of_ble_eq_true rfl, Nat.le_of_ble_eq_true rfl⟩) (tk_preM hK hN hP hD) rfl rfl hl.1 rfl (lv_room (Nat.le_of_ble_eq_true rfl)) dM_write_82 ⟨Nat.zero_le _, Nat.zero_le _⟩) (fun H locs hP hD hS => ?_)
              refine W.eq (g2 := F0 m 85 ls []) rfl ?_
              refine lv_goto (tgt := 129) hx hb dM_write_85 (by decide) ?_
              refine lv_aload_n hx hb dM_write_129 rfl (lv_at hl 1 rfl) ?_
              refine tk_callA hD hS hA (va_runV (As := []) (rest := []) ⟨hx, hb, hml, hown, hw⟩ (kM_follow l D hm ad cI cZ (tkM_control_s (tk_up g 0 (fun _ => 0)) x1) H.size) (cwV 0 hw (tk_gV tkWM_good wM_M_169 wI_M_follow wS_M_follow wZ_M wC_M_follow) rfl rfl rfl (by decide +kernel) ⟨Nat.le_of_ble_eq_true rfl, Nat.le_of_ble_eq_true rfl⟩) (tk_preM hK hN hP hD) rfl rfl hl.1 rfl (lv_room (Nat.le_of_ble_eq_true rfl)) dM_write_130 ⟨Nat.zero_le _, Nat.zero_le _⟩) (fun H locs hP hD hS => ?_)
              refine W.eq (g2 := F0 m 133 ls []) rfl ?_
              exact tk_vret hx hb hr hlk hP hD hS dM_write_133 (congrArg (WM hm ad cI cZ) (by unfold tkM_write_s; rw [if_neg h1_, if_neg h2_, if_neg h3_, if_neg h4_, if_pos h5_, if_pos h6_]))
          · refine lv_iload_n hx hb dM_write_41 rfl (lv_at hl 2 rfl) ?_
            refine lv_bipush (v := 7) hx hb dM_write_42 (by decide) ?_
            refine lv_icmp_ge (tgt := 62) hx hb dM_write_44 (by decide) (fun (h8_ : 7 ≤ x0) => ?_) (fun (h8_ : ¬ (7 ≤ x0)) => ?_)
            · refine lv_iconst (v := 0) hx hb dM_write_62 (by decide) ?_
              refine va_put (D := D) (ci := 3) (v := .int 0) (ty := .int) (C := RM) (T := TM) (N := 33) hx hb hw inM tyM tyM_ok nmM hown hK hP hD hS 0 rfl rfl 0 (by decide) f107 (fun _ h9 => h9) rfl (tyM_ok 0 (by decide)) rfl rfl (Nat.le_of_ble_eq_true rfl) dM_write_63 (fun H locs hP hD hS => ?_)
              have hP : va_P D vwCl (WM hm ad cI cZ (tk_up g 0 (fun _ => 0))) H := hP
              have hD : va_D A (WM hm ad cI cZ (tk_up g 0 (fun _ => 0))) := hD
              refine lv_aload_n hx hb dM_write_66 rfl (lv_at hl 1 rfl) ?_
              refine va_get (D := D) (ci := 3) (v := .int 0) (C := RM) (T := TM) (N := 33) hx hb hw inM hown hK hP 0 rfl rfl 0 (by decide) f107 (fun _ h9 => h9) rfl dM_write_67 ?_
              refine lv_if_le (tgt := 74) hx hb dM_write_70 (by decide) (fun _ => ?_) (fun h => absurd (by decide) h)
              refine lv_iload_n hx hb dM_write_74 rfl (lv_at hl 2 rfl) ?_
              refine lv_bipush (v := 7) hx hb dM_write_75 (by decide) ?_
              refine lv_icmp_ne (tgt := 88) hx hb dM_write_77 (by decide) (fun (h9_ : ¬ (x0 = 7)) => ?_) (fun (h9_ : x0 = 7) => ?_)
              · refine lv_iload_n hx hb dM_write_88 rfl (lv_at hl 2 rfl) ?_
                refine lv_iconst (v := 3) hx hb dM_write_89 (by decide) ?_
                refine lv_icmp_le (tgt := 104) hx hb dM_write_90 (by decide) (fun h => absurd h h5_) (fun _ => ?_)
                refine lv_aload_n hx hb dM_write_93 rfl (lv_at hl 1 rfl) ?_
                refine lv_iload_n hx hb dM_write_94 rfl (lv_at hl 2 rfl) ?_
                refine lv_iconst (v := 4) hx hb dM_write_95 (by decide) ?_
                refine lv_isub hx hb dM_write_96 ?_
                refine lv_iload_n hx hb dM_write_97 rfl (lv_at hl 3 rfl) ?_
                refine tk_callA hD hS hA (va_runV (As := [.int (x0 - 4), .int x1]) (rest := []) ⟨hx, hb, hml, hown, hw⟩ (kM_writeCounter l D hm ad cI cZ (tk_up g 0 (fun _ => 0)) (x0 - 4) x1 (tk_ix4b h5_ h2_ h9_) H.size) (cwV 2 hw (tk_gV tkWM_good wM_M_160 wI_M_writeCounter wS_M_writeCounter wZ_M wC_M_writeCounter) rfl rfl rfl (by decide +kernel) ⟨Nat.le_of_ble_eq_true rfl, Nat.le_of_ble_eq_true rfl⟩) (tk_preM hK hN hP hD) rfl rfl hl.1 rfl (lv_room (Nat.le_of_ble_eq_true rfl)) dM_write_98 ⟨Nat.zero_le _, Nat.zero_le _⟩) (fun H locs hP hD hS => ?_)
                refine W.eq (g2 := F0 m 101 ls []) rfl ?_
                refine lv_goto (tgt := 129) hx hb dM_write_101 (by decide) ?_
                refine lv_aload_n hx hb dM_write_129 rfl (lv_at hl 1 rfl) ?_
                refine tk_callA hD hS hA (va_runV (As := []) (rest := []) ⟨hx, hb, hml, hown, hw⟩ (kM_follow l D hm ad cI cZ (tkM_writeCounter_s (tk_up g 0 (fun _ => 0)) (x0 - 4) x1) H.size) (cwV 0 hw (tk_gV tkWM_good wM_M_169 wI_M_follow wS_M_follow wZ_M wC_M_follow) rfl rfl rfl (by decide +kernel) ⟨Nat.le_of_ble_eq_true rfl, Nat.le_of_ble_eq_true rfl⟩) (tk_preM hK hN hP hD) rfl rfl hl.1 rfl (lv_room (Nat.le_of_ble_eq_true rfl)) dM_write_130 ⟨Nat.zero_le _, Nat.zero_le _⟩) (fun H locs hP hD hS => ?_)
                refine W.eq (g2 := F0 m 133 ls []) rfl ?_
                exact tk_vret hx hb hr hlk hP hD hS dM_write_133 (congrArg (WM hm ad cI cZ) (by unfold tkM_write_s; rw [if_neg h1_, if_neg h2_, if_neg h3_, if_neg h4_, if_neg h5_, if_pos h8_, if_neg h9_]))
              · refine lv_aload_n hx hb dM_write_80 rfl (lv_at hl 1 rfl) ?_
                refine lv_iload_n hx hb dM_write_81 rfl (lv_at hl 3 rfl) ?_
                refine tk_callA hD hS hA (va_runV (As := [.int x1]) (rest := []) ⟨hx, hb, hml, hown, hw⟩ (kM_control l D hm ad cI cZ (tk_up g 0 (fun _ => 0)) x1 (tk_ixq h3_ h4_) H.size) (cwV 1 hw (tk_gV tkWM_good wM_M_157 wI_M_control wS_M_control wZ_M wC_M_control) rfl rfl rfl (by decide +kernel) ⟨Nat.le_of_ble_eq_true rfl, Nat.le_of_ble_eq_true rfl⟩) (tk_preM hK hN hP hD) rfl rfl hl.1 rfl (lv_room (Nat.le_of_ble_eq_true rfl)) dM_write_82 ⟨Nat.zero_le _, Nat.zero_le _⟩) (fun H locs hP hD hS => ?_)
                refine W.eq (g2 := F0 m 85 ls []) rfl ?_
                refine lv_goto (tgt := 129) hx hb dM_write_85 (by decide) ?_
                refine lv_aload_n hx hb dM_write_129 rfl (lv_at hl 1 rfl) ?_
                refine tk_callA hD hS hA (va_runV (As := []) (rest := []) ⟨hx, hb, hml, hown, hw⟩ (kM_follow l D hm ad cI cZ (tkM_control_s (tk_up g 0 (fun _ => 0)) x1) H.size) (cwV 0 hw (tk_gV tkWM_good wM_M_169 wI_M_follow wS_M_follow wZ_M wC_M_follow) rfl rfl rfl (by decide +kernel) ⟨Nat.le_of_ble_eq_true rfl, Nat.le_of_ble_eq_true rfl⟩) (tk_preM hK hN hP hD) rfl rfl hl.1 rfl (lv_room (Nat.le_of_ble_eq_true rfl)) dM_write_130 ⟨Nat.zero_le _, Nat.zero_le _⟩) (fun H locs hP hD hS => ?_)
                refine W.eq (g2 := F0 m 133 ls []) rfl ?_
                exact tk_vret hx hb hr hlk hP hD hS dM_write_133 (congrArg (WM hm ad cI cZ) (by unfold tkM_write_s; rw [if_neg h1_, if_neg h2_, if_neg h3_, if_neg h4_, if_neg h5_, if_pos h8_, if_pos h9_]))
            · refine lv_aload_n hx hb dM_write_47 rfl (lv_at hl 1 rfl) ?_
              refine va_get (D := D) (ci := 3) (v := .ref (ad 20)) (C := RM) (T := TM) (N := 33) hx hb hw inM hown hK hP 0 rfl rfl 20 (by decide) f68 (fun _ h9 => h9) rfl dM_write_48 ?_
              refine lv_iload_n hx hb dM_write_51 rfl (lv_at hl 2 rfl) ?_
              refine lv_iconst (v := 4) hx hb dM_write_52 (by decide) ?_
              refine lv_isub hx hb dM_write_53 ?_
              refine tkld_20 hx hb hK hP (tk_ix4a h5_ h8_) dM_write_54 ?_
              refine lv_if_ge (tgt := 62) hx hb dM_write_55 (by decide) (fun (h10_ : 0 ≤ g 20 (x0 - 4).toNatClampNeg) => ?_) (fun (h10_ : ¬ (0 ≤ g 20 (x0 - 4).toNatClampNeg)) => ?_)
              · refine lv_iconst (v := 0) hx hb dM_write_62 (by decide) ?_
                refine va_put (D := D) (ci := 3) (v := .int 0) (ty := .int) (C := RM) (T := TM) (N := 33) hx hb hw inM tyM tyM_ok nmM hown hK hP hD hS 0 rfl rfl 0 (by decide) f107 (fun _ h9 => h9) rfl (tyM_ok 0 (by decide)) rfl rfl (Nat.le_of_ble_eq_true rfl) dM_write_63 (fun H locs hP hD hS => ?_)
                have hP : va_P D vwCl (WM hm ad cI cZ (tk_up g 0 (fun _ => 0))) H := hP
                have hD : va_D A (WM hm ad cI cZ (tk_up g 0 (fun _ => 0))) := hD
                refine lv_aload_n hx hb dM_write_66 rfl (lv_at hl 1 rfl) ?_
                refine va_get (D := D) (ci := 3) (v := .int 0) (C := RM) (T := TM) (N := 33) hx hb hw inM hown hK hP 0 rfl rfl 0 (by decide) f107 (fun _ h9 => h9) rfl dM_write_67 ?_
                refine lv_if_le (tgt := 74) hx hb dM_write_70 (by decide) (fun _ => ?_) (fun h => absurd (by decide) h)
                refine lv_iload_n hx hb dM_write_74 rfl (lv_at hl 2 rfl) ?_
                refine lv_bipush (v := 7) hx hb dM_write_75 (by decide) ?_
                refine lv_icmp_ne (tgt := 88) hx hb dM_write_77 (by decide) (fun (h11_ : ¬ (x0 = 7)) => ?_) (fun (h11_ : x0 = 7) => ?_)
                · refine lv_iload_n hx hb dM_write_88 rfl (lv_at hl 2 rfl) ?_
                  refine lv_iconst (v := 3) hx hb dM_write_89 (by decide) ?_
                  refine lv_icmp_le (tgt := 104) hx hb dM_write_90 (by decide) (fun h => absurd h h5_) (fun _ => ?_)
                  refine lv_aload_n hx hb dM_write_93 rfl (lv_at hl 1 rfl) ?_
                  refine lv_iload_n hx hb dM_write_94 rfl (lv_at hl 2 rfl) ?_
                  refine lv_iconst (v := 4) hx hb dM_write_95 (by decide) ?_
                  refine lv_isub hx hb dM_write_96 ?_
                  refine lv_iload_n hx hb dM_write_97 rfl (lv_at hl 3 rfl) ?_
                  refine tk_callA hD hS hA (va_runV (As := [.int (x0 - 4), .int x1]) (rest := []) ⟨hx, hb, hml, hown, hw⟩ (kM_writeCounter l D hm ad cI cZ (tk_up g 0 (fun _ => 0)) (x0 - 4) x1 (tk_ix4a h5_ h8_) H.size) (cwV 2 hw (tk_gV tkWM_good wM_M_160 wI_M_writeCounter wS_M_writeCounter wZ_M wC_M_writeCounter) rfl rfl rfl (by decide +kernel) ⟨Nat.le_of_ble_eq_true rfl, Nat.le_of_ble_eq_true rfl⟩) (tk_preM hK hN hP hD) rfl rfl hl.1 rfl (lv_room (Nat.le_of_ble_eq_true rfl)) dM_write_98 ⟨Nat.zero_le _, Nat.zero_le _⟩) (fun H locs hP hD hS => ?_)
                  refine W.eq (g2 := F0 m 101 ls []) rfl ?_
                  refine lv_goto (tgt := 129) hx hb dM_write_101 (by decide) ?_
                  refine lv_aload_n hx hb dM_write_129 rfl (lv_at hl 1 rfl) ?_
                  refine tk_callA hD hS hA (va_runV (As := []) (rest := []) ⟨hx, hb, hml, hown, hw⟩ (kM_follow l D hm ad cI cZ (tkM_writeCounter_s (tk_up g 0 (fun _ => 0)) (x0 - 4) x1) H.size) (cwV 0 hw (tk_gV tkWM_good wM_M_169 wI_M_follow wS_M_follow wZ_M wC_M_follow) rfl rfl rfl (by decide +kernel) ⟨Nat.le_of_ble_eq_true rfl, Nat.le_of_ble_eq_true rfl⟩) (tk_preM hK hN hP hD) rfl rfl hl.1 rfl (lv_room (Nat.le_of_ble_eq_true rfl)) dM_write_130 ⟨Nat.zero_le _, Nat.zero_le _⟩) (fun H locs hP hD hS => ?_)
                  refine W.eq (g2 := F0 m 133 ls []) rfl ?_
                  exact tk_vret hx hb hr hlk hP hD hS dM_write_133 (congrArg (WM hm ad cI cZ) (by unfold tkM_write_s; rw [if_neg h1_, if_neg h2_, if_neg h3_, if_neg h4_, if_neg h5_, if_neg h8_, if_pos h10_, if_neg h11_]))
                · refine lv_aload_n hx hb dM_write_80 rfl (lv_at hl 1 rfl) ?_
                  refine lv_iload_n hx hb dM_write_81 rfl (lv_at hl 3 rfl) ?_
                  refine tk_callA hD hS hA (va_runV (As := [.int x1]) (rest := []) ⟨hx, hb, hml, hown, hw⟩ (kM_control l D hm ad cI cZ (tk_up g 0 (fun _ => 0)) x1 (tk_ixq h3_ h4_) H.size) (cwV 1 hw (tk_gV tkWM_good wM_M_157 wI_M_control wS_M_control wZ_M wC_M_control) rfl rfl rfl (by decide +kernel) ⟨Nat.le_of_ble_eq_true rfl, Nat.le_of_ble_eq_true rfl⟩) (tk_preM hK hN hP hD) rfl rfl hl.1 rfl (lv_room (Nat.le_of_ble_eq_true rfl)) dM_write_82 ⟨Nat.zero_le _, Nat.zero_le _⟩) (fun H locs hP hD hS => ?_)
                  refine W.eq (g2 := F0 m 85 ls []) rfl ?_
                  refine lv_goto (tgt := 129) hx hb dM_write_85 (by decide) ?_
                  refine lv_aload_n hx hb dM_write_129 rfl (lv_at hl 1 rfl) ?_
                  refine tk_callA hD hS hA (va_runV (As := []) (rest := []) ⟨hx, hb, hml, hown, hw⟩ (kM_follow l D hm ad cI cZ (tkM_control_s (tk_up g 0 (fun _ => 0)) x1) H.size) (cwV 0 hw (tk_gV tkWM_good wM_M_169 wI_M_follow wS_M_follow wZ_M wC_M_follow) rfl rfl rfl (by decide +kernel) ⟨Nat.le_of_ble_eq_true rfl, Nat.le_of_ble_eq_true rfl⟩) (tk_preM hK hN hP hD) rfl rfl hl.1 rfl (lv_room (Nat.le_of_ble_eq_true rfl)) dM_write_130 ⟨Nat.zero_le _, Nat.zero_le _⟩) (fun H locs hP hD hS => ?_)
                  refine W.eq (g2 := F0 m 133 ls []) rfl ?_
                  exact tk_vret hx hb hr hlk hP hD hS dM_write_133 (congrArg (WM hm ad cI cZ) (by unfold tkM_write_s; rw [if_neg h1_, if_neg h2_, if_neg h3_, if_neg h4_, if_neg h5_, if_neg h8_, if_pos h10_, if_pos h11_]))
              · refine lv_iconst (v := 2) hx hb dM_write_58 (by decide) ?_
                refine lv_goto (tgt := 63) hx hb dM_write_59 (by decide) ?_
                refine va_put (D := D) (ci := 3) (v := .int 2) (ty := .int) (C := RM) (T := TM) (N := 33) hx hb hw inM tyM tyM_ok nmM hown hK hP hD hS 0 rfl rfl 0 (by decide) f107 (fun _ h9 => h9) rfl (tyM_ok 0 (by decide)) rfl rfl (Nat.le_of_ble_eq_true rfl) dM_write_63 (fun H locs hP hD hS => ?_)
                have hP : va_P D vwCl (WM hm ad cI cZ (tk_up g 0 (fun _ => 2))) H := hP
                have hD : va_D A (WM hm ad cI cZ (tk_up g 0 (fun _ => 2))) := hD
                refine lv_aload_n hx hb dM_write_66 rfl (lv_at hl 1 rfl) ?_
                refine va_get (D := D) (ci := 3) (v := .int 2) (C := RM) (T := TM) (N := 33) hx hb hw inM hown hK hP 0 rfl rfl 0 (by decide) f107 (fun _ h9 => h9) rfl dM_write_67 ?_
                refine lv_if_le (tgt := 74) hx hb dM_write_70 (by decide) (fun h => absurd h (by decide)) (fun _ => ?_)
                exact tk_vret hx hb hr hlk hP hD hS dM_write_73 (congrArg (WM hm ad cI cZ) (by unfold tkM_write_s; rw [if_neg h1_, if_neg h2_, if_neg h3_, if_neg h4_, if_neg h5_, if_neg h8_, if_neg h10_]))
def tkM_read_r (g : Nat → Nat → Int32) (x0 : Int32) : Int32 :=
  if x0 < 0 then 0
  else if x0 ≤ 6 then (if x0 ≤ 3 then (if x0 - x0 / 2 * 2 = 1 then g 3 (x0 / 2).toNatClampNeg
        else tkM_readFirst_r (tk_up g 0 (fun _ => 0)) (x0 / 2))
      else if 0 ≤ g 20 (x0 - 4).toNatClampNeg then tkM_readCounter_r (tk_up g 0 (fun _ => 0)) (x0 - 4)
        else 0)
    else 0
def tkM_read_s (g : Nat → Nat → Int32) (x0 : Int32) : Nat → Nat → Int32 :=
  if x0 < 0 then tk_up g 0 (fun _ => 1)
  else if x0 ≤ 6 then (if x0 ≤ 3 then (if x0 - x0 / 2 * 2 = 1 then tkM_follow_s (tk_up g 0 (fun _ => 0))
        else tkM_follow_s (tkM_readFirst_s (tk_up g 0 (fun _ => 0)) (x0 / 2)))
      else if 0 ≤ g 20 (x0 - 4).toNatClampNeg then tkM_follow_s (tkM_readCounter_s (tk_up g 0 (fun _ => 0)) (x0 - 4))
        else tk_up g 0 (fun _ => 2))
    else tk_up g 0 (fun _ => 1)
set_option maxHeartbeats 1000000 in
set_option maxRecDepth 100000 in
theorem kM_read (l : Launch) (D : va_G) (hm : Nat) (ad : Nat → Nat) (cI cZ : ClassId) (g : Nat → Nat → Int32) (x0 : Int32) : tk_M l yM_read wsM_read { frames := 3, cells := 0, slots := 0, locals := 69 } D [(cI, .int), (cZ, .boolean)] [.ref hm, .int x0] (WM hm ad cI cZ g) (WM hm ad cI cZ (tkM_read_s g x0)) (some (.int (tkM_read_r g x0))) := by
  refine tk_M.of (cc := cM_read) (maxL := 3) (ret := (some .int)) (by decide) rfl (Nat.le_of_ble_eq_true rfl) ?_
  intro p e s m below meth co A H locs ls hB hK hN hA hP hD hS hl
  obtain ⟨hx, hb, hr, hml, hown, hlk, hnm, hts⟩ := hB
  have hown : s.vm.findClass RM = some m.cls := hown
  have hl : lv_has ls 3 [(0, .ref hm), (1, .int x0)] := hl
  have hw : ∀ w ∈ tkWM, w.before _ s = true := fun w h => hts w (List.mem_cons_of_mem _ h)
  have f107 := hw _ wF_M_107
  have f16 := hw _ wF_M_16
  have f68 := hw _ wF_M_68
  refine lv_aload_n hx hb dM_read_0 rfl (lv_at hl 0 rfl) ?_
  refine lv_iload_n hx hb dM_read_1 rfl (lv_at hl 1 rfl) ?_
  refine lv_if_lt (tgt := 11) hx hb dM_read_2 (by decide) (fun (h1_ : x0 < 0) => ?_) (fun (h1_ : ¬ (x0 < 0)) => ?_)
  · refine lv_iconst (v := 1) hx hb dM_read_11 (by decide) ?_
    refine lv_goto (tgt := 36) hx hb dM_read_12 (by decide) ?_
    refine va_put (D := D) (ci := 3) (v := .int 1) (ty := .int) (C := RM) (T := TM) (N := 33) hx hb hw inM tyM tyM_ok nmM hown hK hP hD hS 0 rfl rfl 0 (by decide) f107 (fun _ h9 => h9) rfl (tyM_ok 0 (by decide)) rfl rfl (Nat.le_of_ble_eq_true rfl) dM_read_36 (fun H locs hP hD hS => ?_)
    have hP : va_P D vwCl (WM hm ad cI cZ (tk_up g 0 (fun _ => 1))) H := hP
    have hD : va_D A (WM hm ad cI cZ (tk_up g 0 (fun _ => 1))) := hD
    refine lv_aload_n hx hb dM_read_39 rfl (lv_at hl 0 rfl) ?_
    refine va_get (D := D) (ci := 3) (v := .int 1) (C := RM) (T := TM) (N := 33) hx hb hw inM hown hK hP 0 rfl rfl 0 (by decide) f107 (fun _ h9 => h9) rfl dM_read_40 ?_
    refine lv_if_le (tgt := 48) hx hb dM_read_43 (by decide) (fun h => absurd h (by decide)) (fun _ => ?_)
    refine lv_iconst (v := 0) hx hb dM_read_46 (by decide) ?_
    exact tk_iret hx hb hr hlk hP hD hS dM_read_47 (by unfold tkM_read_r; rw [if_pos h1_]) (congrArg (WM hm ad cI cZ) (by unfold tkM_read_s; rw [if_pos h1_]))
  · refine lv_iload_n hx hb dM_read_5 rfl (lv_at hl 1 rfl) ?_
    refine lv_bipush (v := 6) hx hb dM_read_6 (by decide) ?_
    refine lv_icmp_le (tgt := 15) hx hb dM_read_8 (by decide) (fun (h2_ : x0 ≤ 6) => ?_) (fun (h2_ : ¬ (x0 ≤ 6)) => ?_)
    · refine lv_iload_n hx hb dM_read_15 rfl (lv_at hl 1 rfl) ?_
      refine lv_iconst (v := 3) hx hb dM_read_16 (by decide) ?_
      refine lv_icmp_le (tgt := 35) hx hb dM_read_17 (by decide) (fun (h3_ : x0 ≤ 3) => ?_) (fun (h3_ : ¬ (x0 ≤ 3)) => ?_)
      · refine lv_iconst (v := 0) hx hb dM_read_35 (by decide) ?_
        refine va_put (D := D) (ci := 3) (v := .int 0) (ty := .int) (C := RM) (T := TM) (N := 33) hx hb hw inM tyM tyM_ok nmM hown hK hP hD hS 0 rfl rfl 0 (by decide) f107 (fun _ h9 => h9) rfl (tyM_ok 0 (by decide)) rfl rfl (Nat.le_of_ble_eq_true rfl) dM_read_36 (fun H locs hP hD hS => ?_)
        have hP : va_P D vwCl (WM hm ad cI cZ (tk_up g 0 (fun _ => 0))) H := hP
        have hD : va_D A (WM hm ad cI cZ (tk_up g 0 (fun _ => 0))) := hD
        refine lv_aload_n hx hb dM_read_39 rfl (lv_at hl 0 rfl) ?_
        refine va_get (D := D) (ci := 3) (v := .int 0) (C := RM) (T := TM) (N := 33) hx hb hw inM hown hK hP 0 rfl rfl 0 (by decide) f107 (fun _ h9 => h9) rfl dM_read_40 ?_
        refine lv_if_le (tgt := 48) hx hb dM_read_43 (by decide) (fun _ => ?_) (fun h => absurd (by decide) h)
        refine lv_iload_n hx hb dM_read_48 rfl (lv_at hl 1 rfl) ?_
        refine lv_iconst (v := 3) hx hb dM_read_49 (by decide) ?_
        refine lv_icmp_le (tgt := 63) hx hb dM_read_50 (by decide) (fun _ => ?_) (fun h => absurd h3_ h)
        refine lv_iload_n hx hb dM_read_63 rfl (lv_at hl 1 rfl) ?_
        refine lv_iconst (v := 2) hx hb dM_read_64 (by decide) ?_
        refine lv_irem hx hb dM_read_65 (by decide) ?_
        refine lv_iconst (v := 1) hx hb dM_read_66 (by decide) ?_
        refine lv_icmp_ne (tgt := 81) hx hb dM_read_67 (by decide) (fun (h4_ : ¬ (x0 - x0 / 2 * 2 = 1)) => ?_) (fun (h4_ : x0 - x0 / 2 * 2 = 1) => ?_)
        · refine lv_aload_n hx hb dM_read_81 rfl (lv_at hl 0 rfl) ?_
          refine lv_iload_n hx hb dM_read_82 rfl (lv_at hl 1 rfl) ?_
          refine lv_iconst (v := 2) hx hb dM_read_83 (by decide) ?_
          refine lv_idiv hx hb dM_read_84 (by decide) ?_
          refine tk_callA hD hS hA (va_runV (As := [.int (x0 / 2)]) (rest := []) ⟨hx, hb, hml, hown, hw⟩ (kM_readFirst l D hm ad cI cZ (tk_up g 0 (fun _ => 0)) (x0 / 2) (tk_ix2 h1_ h3_) H.size) (cwV 1 hw (tk_gV tkWM_good wM_M_175 wI_M_readFirst wS_M_readFirst wZ_M wC_M_readFirst) rfl rfl rfl (by decide +kernel) ⟨Nat.le_of_ble_eq_true rfl, Nat.le_of_ble_eq_true rfl⟩) (tk_preM hK hN hP hD) rfl rfl hl.1 rfl (lv_room (Nat.le_of_ble_eq_true rfl)) dM_read_85 ⟨Nat.zero_le _, Nat.zero_le _⟩) (fun H locs hP hD hS => ?_)
          refine W.eq (g2 := F0 m 88 ls [.int (tkM_readFirst_r (tk_up g 0 (fun _ => 0)) (x0 / 2))]) rfl ?_
          refine lv_istore_n hx hb dM_read_88 rfl hl (by decide) rfl (fun ls hl => ?_)
          have hl : lv_has ls 3 [(2, .int (tkM_readFirst_r (tk_up g 0 (fun _ => 0)) (x0 / 2))), (0, .ref hm), (1, .int x0)] := hl
          refine lv_aload_n hx hb dM_read_89 rfl (lv_at hl 1 rfl) ?_
          refine tk_callA hD hS hA (va_runV (As := []) (rest := []) ⟨hx, hb, hml, hown, hw⟩ (kM_follow l D hm ad cI cZ (tkM_readFirst_s (tk_up g 0 (fun _ => 0)) (x0 / 2)) H.size) (cwV 0 hw (tk_gV tkWM_good wM_M_169 wI_M_follow wS_M_follow wZ_M wC_M_follow) rfl rfl rfl (by decide +kernel) ⟨Nat.le_of_ble_eq_true rfl, Nat.le_of_ble_eq_true rfl⟩) (tk_preM hK hN hP hD) rfl rfl hl.1 rfl (lv_room (Nat.le_of_ble_eq_true rfl)) dM_read_90 ⟨Nat.zero_le _, Nat.zero_le _⟩) (fun H locs hP hD hS => ?_)
          refine W.eq (g2 := F0 m 93 ls []) rfl ?_
          refine lv_iload_n hx hb dM_read_93 rfl (lv_at hl 0 rfl) ?_
          exact tk_iret hx hb hr hlk hP hD hS dM_read_94 (by unfold tkM_read_r; rw [if_neg h1_, if_pos h2_, if_pos h3_, if_neg h4_]) (congrArg (WM hm ad cI cZ) (by unfold tkM_read_s; rw [if_neg h1_, if_pos h2_, if_pos h3_, if_neg h4_]))
        · refine lv_aload_n hx hb dM_read_70 rfl (lv_at hl 0 rfl) ?_
          refine va_get (D := D) (ci := 3) (v := .ref (ad 3)) (C := RM) (T := TM) (N := 33) hx hb hw inM hown hK hP 0 rfl rfl 3 (by decide) f16 (fun _ h9 => h9) rfl dM_read_71 ?_
          refine lv_iload_n hx hb dM_read_74 rfl (lv_at hl 1 rfl) ?_
          refine lv_iconst (v := 2) hx hb dM_read_75 (by decide) ?_
          refine lv_idiv hx hb dM_read_76 (by decide) ?_
          refine tkld_3 hx hb hK hP (tk_ix2 h1_ h3_) dM_read_77 ?_
          refine lv_goto (tgt := 88) hx hb dM_read_78 (by decide) ?_
          refine lv_istore_n hx hb dM_read_88 rfl hl (by decide) rfl (fun ls hl => ?_)
          have hl : lv_has ls 3 [(2, .int (g 3 (x0 / 2).toNatClampNeg)), (0, .ref hm), (1, .int x0)] := hl
          refine lv_aload_n hx hb dM_read_89 rfl (lv_at hl 1 rfl) ?_
          refine tk_callA hD hS hA (va_runV (As := []) (rest := []) ⟨hx, hb, hml, hown, hw⟩ (kM_follow l D hm ad cI cZ (tk_up g 0 (fun _ => 0)) H.size) (cwV 0 hw (tk_gV tkWM_good wM_M_169 wI_M_follow wS_M_follow wZ_M wC_M_follow) rfl rfl rfl (by decide +kernel) ⟨Nat.le_of_ble_eq_true rfl, Nat.le_of_ble_eq_true rfl⟩) (tk_preM hK hN hP hD) rfl rfl hl.1 rfl (lv_room (Nat.le_of_ble_eq_true rfl)) dM_read_90 ⟨Nat.zero_le _, Nat.zero_le _⟩) (fun H locs hP hD hS => ?_)
          refine W.eq (g2 := F0 m 93 ls []) rfl ?_
          refine lv_iload_n hx hb dM_read_93 rfl (lv_at hl 0 rfl) ?_
          exact tk_iret hx hb hr hlk hP hD hS dM_read_94 (by unfold tkM_read_r; rw [if_neg h1_, if_pos h2_, if_pos h3_, if_pos h4_]) (congrArg (WM hm ad cI cZ) (by unfold tkM_read_s; rw [if_neg h1_, if_pos h2_, if_pos h3_, if_pos h4_]))
      · refine lv_aload_n hx hb dM_read_20 rfl (lv_at hl 0 rfl) ?_
        refine va_get (D := D) (ci := 3) (v := .ref (ad 20)) (C := RM) (T := TM) (N := 33) hx hb hw inM hown hK hP 0 rfl rfl 20 (by decide) f68 (fun _ h9 => h9) rfl dM_read_21 ?_
        refine lv_iload_n hx hb dM_read_24 rfl (lv_at hl 1 rfl) ?_
        refine lv_iconst (v := 4) hx hb dM_read_25 (by decide) ?_
        refine lv_isub hx hb dM_read_26 ?_
        refine tkld_20 hx hb hK hP (tk_ix4c h3_ h2_) dM_read_27 ?_
        refine lv_if_ge (tgt := 35) hx hb dM_read_28 (by decide) (fun (h5_ : 0 ≤ g 20 (x0 - 4).toNatClampNeg) => ?_) (fun (h5_ : ¬ (0 ≤ g 20 (x0 - 4).toNatClampNeg)) => ?_)
        · refine lv_iconst (v := 0) hx hb dM_read_35 (by decide) ?_
          refine va_put (D := D) (ci := 3) (v := .int 0) (ty := .int) (C := RM) (T := TM) (N := 33) hx hb hw inM tyM tyM_ok nmM hown hK hP hD hS 0 rfl rfl 0 (by decide) f107 (fun _ h9 => h9) rfl (tyM_ok 0 (by decide)) rfl rfl (Nat.le_of_ble_eq_true rfl) dM_read_36 (fun H locs hP hD hS => ?_)
          have hP : va_P D vwCl (WM hm ad cI cZ (tk_up g 0 (fun _ => 0))) H := hP
          have hD : va_D A (WM hm ad cI cZ (tk_up g 0 (fun _ => 0))) := hD
          refine lv_aload_n hx hb dM_read_39 rfl (lv_at hl 0 rfl) ?_
          refine va_get (D := D) (ci := 3) (v := .int 0) (C := RM) (T := TM) (N := 33) hx hb hw inM hown hK hP 0 rfl rfl 0 (by decide) f107 (fun _ h9 => h9) rfl dM_read_40 ?_
          refine lv_if_le (tgt := 48) hx hb dM_read_43 (by decide) (fun _ => ?_) (fun h => absurd (by decide) h)
          refine lv_iload_n hx hb dM_read_48 rfl (lv_at hl 1 rfl) ?_
          refine lv_iconst (v := 3) hx hb dM_read_49 (by decide) ?_
          refine lv_icmp_le (tgt := 63) hx hb dM_read_50 (by decide) (fun h => absurd h h3_) (fun _ => ?_)
          refine lv_aload_n hx hb dM_read_53 rfl (lv_at hl 0 rfl) ?_
          refine lv_iload_n hx hb dM_read_54 rfl (lv_at hl 1 rfl) ?_
          refine lv_iconst (v := 4) hx hb dM_read_55 (by decide) ?_
          refine lv_isub hx hb dM_read_56 ?_
          refine tk_callA hD hS hA (va_runV (As := [.int (x0 - 4)]) (rest := []) ⟨hx, hb, hml, hown, hw⟩ (kM_readCounter l D hm ad cI cZ (tk_up g 0 (fun _ => 0)) (x0 - 4) (tk_ix4c h3_ h2_) H.size) (cwV 1 hw (tk_gV tkWM_good wM_M_172 wI_M_readCounter wS_M_readCounter wZ_M wC_M_readCounter) rfl rfl rfl (by decide +kernel) ⟨Nat.le_of_ble_eq_true rfl, Nat.le_of_ble_eq_true rfl⟩) (tk_preM hK hN hP hD) rfl rfl hl.1 rfl (lv_room (Nat.le_of_ble_eq_true rfl)) dM_read_57 ⟨Nat.zero_le _, Nat.zero_le _⟩) (fun H locs hP hD hS => ?_)
          refine W.eq (g2 := F0 m 60 ls [.int (tkM_readCounter_r (tk_up g 0 (fun _ => 0)) (x0 - 4))]) rfl ?_
          refine lv_goto (tgt := 88) hx hb dM_read_60 (by decide) ?_
          refine lv_istore_n hx hb dM_read_88 rfl hl (by decide) rfl (fun ls hl => ?_)
          have hl : lv_has ls 3 [(2, .int (tkM_readCounter_r (tk_up g 0 (fun _ => 0)) (x0 - 4))), (0, .ref hm), (1, .int x0)] := hl
          refine lv_aload_n hx hb dM_read_89 rfl (lv_at hl 1 rfl) ?_
          refine tk_callA hD hS hA (va_runV (As := []) (rest := []) ⟨hx, hb, hml, hown, hw⟩ (kM_follow l D hm ad cI cZ (tkM_readCounter_s (tk_up g 0 (fun _ => 0)) (x0 - 4)) H.size) (cwV 0 hw (tk_gV tkWM_good wM_M_169 wI_M_follow wS_M_follow wZ_M wC_M_follow) rfl rfl rfl (by decide +kernel) ⟨Nat.le_of_ble_eq_true rfl, Nat.le_of_ble_eq_true rfl⟩) (tk_preM hK hN hP hD) rfl rfl hl.1 rfl (lv_room (Nat.le_of_ble_eq_true rfl)) dM_read_90 ⟨Nat.zero_le _, Nat.zero_le _⟩) (fun H locs hP hD hS => ?_)
          refine W.eq (g2 := F0 m 93 ls []) rfl ?_
          refine lv_iload_n hx hb dM_read_93 rfl (lv_at hl 0 rfl) ?_
          exact tk_iret hx hb hr hlk hP hD hS dM_read_94 (by unfold tkM_read_r; rw [if_neg h1_, if_pos h2_, if_neg h3_, if_pos h5_]) (congrArg (WM hm ad cI cZ) (by unfold tkM_read_s; rw [if_neg h1_, if_pos h2_, if_neg h3_, if_pos h5_]))
        · refine lv_iconst (v := 2) hx hb dM_read_31 (by decide) ?_
          refine lv_goto (tgt := 36) hx hb dM_read_32 (by decide) ?_
          refine va_put (D := D) (ci := 3) (v := .int 2) (ty := .int) (C := RM) (T := TM) (N := 33) hx hb hw inM tyM tyM_ok nmM hown hK hP hD hS 0 rfl rfl 0 (by decide) f107 (fun _ h9 => h9) rfl (tyM_ok 0 (by decide)) rfl rfl (Nat.le_of_ble_eq_true rfl) dM_read_36 (fun H locs hP hD hS => ?_)
          have hP : va_P D vwCl (WM hm ad cI cZ (tk_up g 0 (fun _ => 2))) H := hP
          have hD : va_D A (WM hm ad cI cZ (tk_up g 0 (fun _ => 2))) := hD
          refine lv_aload_n hx hb dM_read_39 rfl (lv_at hl 0 rfl) ?_
          refine va_get (D := D) (ci := 3) (v := .int 2) (C := RM) (T := TM) (N := 33) hx hb hw inM hown hK hP 0 rfl rfl 0 (by decide) f107 (fun _ h9 => h9) rfl dM_read_40 ?_
          refine lv_if_le (tgt := 48) hx hb dM_read_43 (by decide) (fun h => absurd h (by decide)) (fun _ => ?_)
          refine lv_iconst (v := 0) hx hb dM_read_46 (by decide) ?_
          exact tk_iret hx hb hr hlk hP hD hS dM_read_47 (by unfold tkM_read_r; rw [if_neg h1_, if_pos h2_, if_neg h3_, if_neg h5_]) (congrArg (WM hm ad cI cZ) (by unfold tkM_read_s; rw [if_neg h1_, if_pos h2_, if_neg h3_, if_neg h5_]))
    · refine lv_iconst (v := 1) hx hb dM_read_11 (by decide) ?_
      refine lv_goto (tgt := 36) hx hb dM_read_12 (by decide) ?_
      refine va_put (D := D) (ci := 3) (v := .int 1) (ty := .int) (C := RM) (T := TM) (N := 33) hx hb hw inM tyM tyM_ok nmM hown hK hP hD hS 0 rfl rfl 0 (by decide) f107 (fun _ h9 => h9) rfl (tyM_ok 0 (by decide)) rfl rfl (Nat.le_of_ble_eq_true rfl) dM_read_36 (fun H locs hP hD hS => ?_)
      have hP : va_P D vwCl (WM hm ad cI cZ (tk_up g 0 (fun _ => 1))) H := hP
      have hD : va_D A (WM hm ad cI cZ (tk_up g 0 (fun _ => 1))) := hD
      refine lv_aload_n hx hb dM_read_39 rfl (lv_at hl 0 rfl) ?_
      refine va_get (D := D) (ci := 3) (v := .int 1) (C := RM) (T := TM) (N := 33) hx hb hw inM hown hK hP 0 rfl rfl 0 (by decide) f107 (fun _ h9 => h9) rfl dM_read_40 ?_
      refine lv_if_le (tgt := 48) hx hb dM_read_43 (by decide) (fun h => absurd h (by decide)) (fun _ => ?_)
      refine lv_iconst (v := 0) hx hb dM_read_46 (by decide) ?_
      exact tk_iret hx hb hr hlk hP hD hS dM_read_47 (by unfold tkM_read_r; rw [if_neg h1_, if_neg h2_]) (congrArg (WM hm ad cI cZ) (by unfold tkM_read_s; rw [if_neg h1_, if_neg h2_]))
def tkM_line_r (g : Nat → Nat → Int32) (x0 x1 x2 : Int32) : Int32 :=
  if x0 < 0 then 0
  else if 1 < x0 then 0
    else if x1 < 0 then 0
      else if 7 < x1 then 0
        else if x0 = 0 then (if x1 = 0 then 0
            else if x1 = 2 then 0
              else 1)
          else 1
def tkM_line_s (g : Nat → Nat → Int32) (x0 x1 x2 : Int32) : Nat → Nat → Int32 :=
  if x0 < 0 then tk_up g 0 (fun _ => 0)
  else if 1 < x0 then tk_up g 0 (fun _ => 0)
    else if x1 < 0 then tk_up g 0 (fun _ => 0)
      else if 7 < x1 then tk_up g 0 (fun _ => 0)
        else if x0 = 0 then (if x1 = 0 then tk_up g 0 (fun _ => 0)
            else if x1 = 2 then tk_up g 0 (fun _ => 0)
              else tkM_follow_s (tkM_set_s (tk_up g 0 (fun _ => 0)) x0 x1 x2))
          else tkM_follow_s (tkM_set_s (tk_up g 0 (fun _ => 0)) x0 x1 x2)
set_option maxHeartbeats 1000000 in
set_option maxRecDepth 100000 in
theorem kM_line (l : Launch) (D : va_G) (hm : Nat) (ad : Nat → Nat) (cI cZ : ClassId) (g : Nat → Nat → Int32) (x0 x1 x2 : Int32) : tk_M l yM_line wsM_line { frames := 3, cells := 0, slots := 0, locals := 67 } D [(cI, .int), (cZ, .boolean)] [.ref hm, .int x0, .int x1, .int x2] (WM hm ad cI cZ g) (WM hm ad cI cZ (tkM_line_s g x0 x1 x2)) (some (.int (tkM_line_r g x0 x1 x2))) := by
  refine tk_M.of (cc := cM_line) (maxL := 4) (ret := (some .boolean)) (by decide) rfl (Nat.le_of_ble_eq_true rfl) ?_
  intro p e s m below meth co A H locs ls hB hK hN hA hP hD hS hl
  obtain ⟨hx, hb, hr, hml, hown, hlk, hnm, hts⟩ := hB
  have hown : s.vm.findClass RM = some m.cls := hown
  have hl : lv_has ls 4 [(0, .ref hm), (1, .int x0), (2, .int x1), (3, .int x2)] := hl
  have hw : ∀ w ∈ tkWM, w.before _ s = true := fun w h => hts w (List.mem_cons_of_mem _ h)
  have f107 := hw _ wF_M_107
  refine lv_aload_n hx hb dM_line_0 rfl (lv_at hl 0 rfl) ?_
  refine lv_iconst (v := 0) hx hb dM_line_1 (by decide) ?_
  refine va_put (D := D) (ci := 3) (v := .int 0) (ty := .int) (C := RM) (T := TM) (N := 33) hx hb hw inM tyM tyM_ok nmM hown hK hP hD hS 0 rfl rfl 0 (by decide) f107 (fun _ h9 => h9) rfl (tyM_ok 0 (by decide)) rfl rfl (Nat.le_of_ble_eq_true rfl) dM_line_2 (fun H locs hP hD hS => ?_)
  have hP : va_P D vwCl (WM hm ad cI cZ (tk_up g 0 (fun _ => 0))) H := hP
  have hD : va_D A (WM hm ad cI cZ (tk_up g 0 (fun _ => 0))) := hD
  refine lv_iload_n hx hb dM_line_5 rfl (lv_at hl 1 rfl) ?_
  refine lv_if_lt (tgt := 37) hx hb dM_line_6 (by decide) (fun (h1_ : x0 < 0) => ?_) (fun (h1_ : ¬ (x0 < 0)) => ?_)
  · refine lv_iconst (v := 0) hx hb dM_line_37 (by decide) ?_
    exact tk_zret hx hb hr hlk hP hD hS dM_line_38 rfl (by unfold tkM_line_r; rw [if_pos h1_]) (congrArg (WM hm ad cI cZ) (by unfold tkM_line_s; rw [if_pos h1_]))
  · refine lv_iload_n hx hb dM_line_9 rfl (lv_at hl 1 rfl) ?_
    refine lv_iconst (v := 1) hx hb dM_line_10 (by decide) ?_
    refine lv_icmp_gt (tgt := 37) hx hb dM_line_11 (by decide) (fun (h2_ : 1 < x0) => ?_) (fun (h2_ : ¬ (1 < x0)) => ?_)
    · refine lv_iconst (v := 0) hx hb dM_line_37 (by decide) ?_
      exact tk_zret hx hb hr hlk hP hD hS dM_line_38 rfl (by unfold tkM_line_r; rw [if_neg h1_, if_pos h2_]) (congrArg (WM hm ad cI cZ) (by unfold tkM_line_s; rw [if_neg h1_, if_pos h2_]))
    · refine lv_iload_n hx hb dM_line_14 rfl (lv_at hl 2 rfl) ?_
      refine lv_if_lt (tgt := 37) hx hb dM_line_15 (by decide) (fun (h3_ : x1 < 0) => ?_) (fun (h3_ : ¬ (x1 < 0)) => ?_)
      · refine lv_iconst (v := 0) hx hb dM_line_37 (by decide) ?_
        exact tk_zret hx hb hr hlk hP hD hS dM_line_38 rfl (by unfold tkM_line_r; rw [if_neg h1_, if_neg h2_, if_pos h3_]) (congrArg (WM hm ad cI cZ) (by unfold tkM_line_s; rw [if_neg h1_, if_neg h2_, if_pos h3_]))
      · refine lv_iload_n hx hb dM_line_18 rfl (lv_at hl 2 rfl) ?_
        refine lv_bipush (v := 7) hx hb dM_line_19 (by decide) ?_
        refine lv_icmp_gt (tgt := 37) hx hb dM_line_21 (by decide) (fun (h4_ : 7 < x1) => ?_) (fun (h4_ : ¬ (7 < x1)) => ?_)
        · refine lv_iconst (v := 0) hx hb dM_line_37 (by decide) ?_
          exact tk_zret hx hb hr hlk hP hD hS dM_line_38 rfl (by unfold tkM_line_r; rw [if_neg h1_, if_neg h2_, if_neg h3_, if_pos h4_]) (congrArg (WM hm ad cI cZ) (by unfold tkM_line_s; rw [if_neg h1_, if_neg h2_, if_neg h3_, if_pos h4_]))
        · refine lv_iload_n hx hb dM_line_24 rfl (lv_at hl 1 rfl) ?_
          refine lv_if_ne (tgt := 39) hx hb dM_line_25 (by decide) (fun (h5_ : ¬ (x0 = 0)) => ?_) (fun (h5_ : x0 = 0) => ?_)
          · refine lv_aload_n hx hb dM_line_39 rfl (lv_at hl 0 rfl) ?_
            refine lv_iload_n hx hb dM_line_40 rfl (lv_at hl 1 rfl) ?_
            refine lv_iload_n hx hb dM_line_41 rfl (lv_at hl 2 rfl) ?_
            refine lv_iload_n hx hb dM_line_42 rfl (lv_at hl 3 rfl) ?_
            refine tk_callA hD hS hA (va_runV (As := [.int x0, .int x1, .int x2]) (rest := []) ⟨hx, hb, hml, hown, hw⟩ (kM_set l D hm ad cI cZ (tk_up g 0 (fun _ => 0)) x0 x1 x2 (tk_ixr2 h1_ h2_) H.size) (cwV 3 hw (tk_gV tkWM_good wM_M_119 wI_M_set wS_M_set wZ_M wC_M_set) rfl rfl rfl (by decide +kernel) ⟨Nat.le_of_ble_eq_true rfl, Nat.le_of_ble_eq_true rfl⟩) (tk_preM hK hN hP hD) rfl rfl hl.1 rfl (lv_room (Nat.le_of_ble_eq_true rfl)) dM_line_43 ⟨Nat.zero_le _, Nat.zero_le _⟩) (fun H locs hP hD hS => ?_)
            refine W.eq (g2 := F0 m 46 ls []) rfl ?_
            refine lv_aload_n hx hb dM_line_46 rfl (lv_at hl 0 rfl) ?_
            refine tk_callA hD hS hA (va_runV (As := []) (rest := []) ⟨hx, hb, hml, hown, hw⟩ (kM_follow l D hm ad cI cZ (tkM_set_s (tk_up g 0 (fun _ => 0)) x0 x1 x2) H.size) (cwV 0 hw (tk_gV tkWM_good wM_M_169 wI_M_follow wS_M_follow wZ_M wC_M_follow) rfl rfl rfl (by decide +kernel) ⟨Nat.le_of_ble_eq_true rfl, Nat.le_of_ble_eq_true rfl⟩) (tk_preM hK hN hP hD) rfl rfl hl.1 rfl (lv_room (Nat.le_of_ble_eq_true rfl)) dM_line_47 ⟨Nat.zero_le _, Nat.zero_le _⟩) (fun H locs hP hD hS => ?_)
            refine W.eq (g2 := F0 m 50 ls []) rfl ?_
            refine lv_iconst (v := 1) hx hb dM_line_50 (by decide) ?_
            exact tk_zret hx hb hr hlk hP hD hS dM_line_51 rfl (by unfold tkM_line_r; rw [if_neg h1_, if_neg h2_, if_neg h3_, if_neg h4_, if_neg h5_]) (congrArg (WM hm ad cI cZ) (by unfold tkM_line_s; rw [if_neg h1_, if_neg h2_, if_neg h3_, if_neg h4_, if_neg h5_]))
          · refine lv_iload_n hx hb dM_line_28 rfl (lv_at hl 2 rfl) ?_
            refine lv_if_eq (tgt := 37) hx hb dM_line_29 (by decide) (fun (h6_ : x1 = 0) => ?_) (fun (h6_ : ¬ (x1 = 0)) => ?_)
            · refine lv_iconst (v := 0) hx hb dM_line_37 (by decide) ?_
              exact tk_zret hx hb hr hlk hP hD hS dM_line_38 rfl (by unfold tkM_line_r; rw [if_neg h1_, if_neg h2_, if_neg h3_, if_neg h4_, if_pos h5_, if_pos h6_]) (congrArg (WM hm ad cI cZ) (by unfold tkM_line_s; rw [if_neg h1_, if_neg h2_, if_neg h3_, if_neg h4_, if_pos h5_, if_pos h6_]))
            · refine lv_iload_n hx hb dM_line_32 rfl (lv_at hl 2 rfl) ?_
              refine lv_iconst (v := 2) hx hb dM_line_33 (by decide) ?_
              refine lv_icmp_ne (tgt := 39) hx hb dM_line_34 (by decide) (fun (h7_ : ¬ (x1 = 2)) => ?_) (fun (h7_ : x1 = 2) => ?_)
              · refine lv_aload_n hx hb dM_line_39 rfl (lv_at hl 0 rfl) ?_
                refine lv_iload_n hx hb dM_line_40 rfl (lv_at hl 1 rfl) ?_
                refine lv_iload_n hx hb dM_line_41 rfl (lv_at hl 2 rfl) ?_
                refine lv_iload_n hx hb dM_line_42 rfl (lv_at hl 3 rfl) ?_
                refine tk_callA hD hS hA (va_runV (As := [.int x0, .int x1, .int x2]) (rest := []) ⟨hx, hb, hml, hown, hw⟩ (kM_set l D hm ad cI cZ (tk_up g 0 (fun _ => 0)) x0 x1 x2 (tk_ixr2 h1_ h2_) H.size) (cwV 3 hw (tk_gV tkWM_good wM_M_119 wI_M_set wS_M_set wZ_M wC_M_set) rfl rfl rfl (by decide +kernel) ⟨Nat.le_of_ble_eq_true rfl, Nat.le_of_ble_eq_true rfl⟩) (tk_preM hK hN hP hD) rfl rfl hl.1 rfl (lv_room (Nat.le_of_ble_eq_true rfl)) dM_line_43 ⟨Nat.zero_le _, Nat.zero_le _⟩) (fun H locs hP hD hS => ?_)
                refine W.eq (g2 := F0 m 46 ls []) rfl ?_
                refine lv_aload_n hx hb dM_line_46 rfl (lv_at hl 0 rfl) ?_
                refine tk_callA hD hS hA (va_runV (As := []) (rest := []) ⟨hx, hb, hml, hown, hw⟩ (kM_follow l D hm ad cI cZ (tkM_set_s (tk_up g 0 (fun _ => 0)) x0 x1 x2) H.size) (cwV 0 hw (tk_gV tkWM_good wM_M_169 wI_M_follow wS_M_follow wZ_M wC_M_follow) rfl rfl rfl (by decide +kernel) ⟨Nat.le_of_ble_eq_true rfl, Nat.le_of_ble_eq_true rfl⟩) (tk_preM hK hN hP hD) rfl rfl hl.1 rfl (lv_room (Nat.le_of_ble_eq_true rfl)) dM_line_47 ⟨Nat.zero_le _, Nat.zero_le _⟩) (fun H locs hP hD hS => ?_)
                refine W.eq (g2 := F0 m 50 ls []) rfl ?_
                refine lv_iconst (v := 1) hx hb dM_line_50 (by decide) ?_
                exact tk_zret hx hb hr hlk hP hD hS dM_line_51 rfl (by unfold tkM_line_r; rw [if_neg h1_, if_neg h2_, if_neg h3_, if_neg h4_, if_pos h5_, if_neg h6_, if_neg h7_]) (congrArg (WM hm ad cI cZ) (by unfold tkM_line_s; rw [if_neg h1_, if_neg h2_, if_neg h3_, if_neg h4_, if_pos h5_, if_neg h6_, if_neg h7_]))
              · refine lv_iconst (v := 0) hx hb dM_line_37 (by decide) ?_
                exact tk_zret hx hb hr hlk hP hD hS dM_line_38 rfl (by unfold tkM_line_r; rw [if_neg h1_, if_neg h2_, if_neg h3_, if_neg h4_, if_pos h5_, if_neg h6_, if_pos h7_]) (congrArg (WM hm ad cI cZ) (by unfold tkM_line_s; rw [if_neg h1_, if_neg h2_, if_neg h3_, if_neg h4_, if_pos h5_, if_neg h6_, if_pos h7_]))
def tkM_gate_r (g : Nat → Nat → Int32) (x0 x1 : Int32) : Int32 :=
  if x0 < 0 then 0
  else if x0 ≤ 2 then 1
    else 0
def tkM_gate_s (g : Nat → Nat → Int32) (x0 x1 : Int32) : Nat → Nat → Int32 :=
  if x0 < 0 then tk_up g 0 (fun _ => 0)
  else if x0 ≤ 2 then (if x1 = 0 then (if g 18 x0.toNatClampNeg = 0 then tkM_follow_s (tk_up (tk_up g 0 (fun _ => 0)) 18 (upd (g 18) x0.toNatClampNeg (vp_nar .boolean x1)))
        else if g 20 x0.toNatClampNeg = 2 then tkM_follow_s (tk_up (tk_up (tk_up g 0 (fun _ => 0)) 18 (upd (g 18) x0.toNatClampNeg (vp_nar .boolean x1))) 19 (upd (g 19) x0.toNatClampNeg 1))
          else if g 20 x0.toNatClampNeg = 3 then tkM_follow_s (tk_up (tk_up (tk_up g 0 (fun _ => 0)) 18 (upd (g 18) x0.toNatClampNeg (vp_nar .boolean x1))) 19 (upd (g 19) x0.toNatClampNeg 1))
            else tkM_follow_s (tk_up (tk_up g 0 (fun _ => 0)) 18 (upd (g 18) x0.toNatClampNeg (vp_nar .boolean x1))))
      else if g 18 x0.toNatClampNeg = 0 then (if g 22 x0.toNatClampNeg ≤ 0 then tkM_follow_s (tk_up (tk_up g 0 (fun _ => 0)) 18 (upd (g 18) x0.toNatClampNeg (vp_nar .boolean x1)))
          else if g 20 x0.toNatClampNeg = 1 then tkM_follow_s (tk_up (tk_up (tk_up g 0 (fun _ => 0)) 18 (upd (g 18) x0.toNatClampNeg (vp_nar .boolean x1))) 25 (upd (g 25) x0.toNatClampNeg 1))
            else if g 20 x0.toNatClampNeg = 2 then tkM_follow_s (tk_up (tk_up (tk_up g 0 (fun _ => 0)) 18 (upd (g 18) x0.toNatClampNeg (vp_nar .boolean x1))) 25 (upd (g 25) x0.toNatClampNeg 1))
              else if g 20 x0.toNatClampNeg = 3 then tkM_follow_s (tk_up (tk_up (tk_up g 0 (fun _ => 0)) 18 (upd (g 18) x0.toNatClampNeg (vp_nar .boolean x1))) 25 (upd (g 25) x0.toNatClampNeg 1))
                else if g 20 x0.toNatClampNeg = 5 then tkM_follow_s (tk_up (tk_up (tk_up g 0 (fun _ => 0)) 18 (upd (g 18) x0.toNatClampNeg (vp_nar .boolean x1))) 25 (upd (g 25) x0.toNatClampNeg 1))
                  else tkM_follow_s (tk_up (tk_up g 0 (fun _ => 0)) 18 (upd (g 18) x0.toNatClampNeg (vp_nar .boolean x1))))
        else tkM_follow_s (tk_up (tk_up g 0 (fun _ => 0)) 18 (upd (g 18) x0.toNatClampNeg (vp_nar .boolean x1))))
    else tk_up g 0 (fun _ => 0)
set_option maxHeartbeats 1000000 in
set_option maxRecDepth 100000 in
theorem kM_gate (l : Launch) (D : va_G) (hm : Nat) (ad : Nat → Nat) (cI cZ : ClassId) (g : Nat → Nat → Int32) (x0 x1 : Int32) : tk_M l yM_gate wsM_gate { frames := 3, cells := 0, slots := 0, locals := 67 } D [(cI, .int), (cZ, .boolean)] [.ref hm, .int x0, .int x1] (WM hm ad cI cZ g) (WM hm ad cI cZ (tkM_gate_s g x0 x1)) (some (.int (tkM_gate_r g x0 x1))) := by
  refine tk_M.of (cc := cM_gate) (maxL := 5) (ret := (some .boolean)) (by decide) rfl (Nat.le_of_ble_eq_true rfl) ?_
  intro p e s m below meth co A H locs ls hB hK hN hA hP hD hS hl
  obtain ⟨hx, hb, hr, hml, hown, hlk, hnm, hts⟩ := hB
  have hown : s.vm.findClass RM = some m.cls := hown
  have hl : lv_has ls 5 [(0, .ref hm), (1, .int x0), (2, .int x1)] := hl
  have hw : ∀ w ∈ tkWM, w.before _ s = true := fun w h => hts w (List.mem_cons_of_mem _ h)
  have f107 := hw _ wF_M_107
  have f68 := hw _ wF_M_68
  have f62 := hw _ wF_M_62
  have f65 := hw _ wF_M_65
  have f74 := hw _ wF_M_74
  have f83 := hw _ wF_M_83
  refine lv_aload_n hx hb dM_gate_0 rfl (lv_at hl 0 rfl) ?_
  refine lv_iconst (v := 0) hx hb dM_gate_1 (by decide) ?_
  refine va_put (D := D) (ci := 3) (v := .int 0) (ty := .int) (C := RM) (T := TM) (N := 33) hx hb hw inM tyM tyM_ok nmM hown hK hP hD hS 0 rfl rfl 0 (by decide) f107 (fun _ h9 => h9) rfl (tyM_ok 0 (by decide)) rfl rfl (Nat.le_of_ble_eq_true rfl) dM_gate_2 (fun H locs hP hD hS => ?_)
  have hP : va_P D vwCl (WM hm ad cI cZ (tk_up g 0 (fun _ => 0))) H := hP
  have hD : va_D A (WM hm ad cI cZ (tk_up g 0 (fun _ => 0))) := hD
  refine lv_iload_n hx hb dM_gate_5 rfl (lv_at hl 1 rfl) ?_
  refine lv_if_lt (tgt := 14) hx hb dM_gate_6 (by decide) (fun (h1_ : x0 < 0) => ?_) (fun (h1_ : ¬ (x0 < 0)) => ?_)
  · refine lv_iconst (v := 0) hx hb dM_gate_14 (by decide) ?_
    exact tk_zret hx hb hr hlk hP hD hS dM_gate_15 rfl (by unfold tkM_gate_r; rw [if_pos h1_]) (congrArg (WM hm ad cI cZ) (by unfold tkM_gate_s; rw [if_pos h1_]))
  · refine lv_iload_n hx hb dM_gate_9 rfl (lv_at hl 1 rfl) ?_
    refine lv_iconst (v := 2) hx hb dM_gate_10 (by decide) ?_
    refine lv_icmp_le (tgt := 16) hx hb dM_gate_11 (by decide) (fun (h2_ : x0 ≤ 2) => ?_) (fun (h2_ : ¬ (x0 ≤ 2)) => ?_)
    · refine lv_aload_n hx hb dM_gate_16 rfl (lv_at hl 0 rfl) ?_
      refine va_get (D := D) (ci := 3) (v := .ref (ad 20)) (C := RM) (T := TM) (N := 33) hx hb hw inM hown hK hP 0 rfl rfl 20 (by decide) f68 (fun _ h9 => h9) rfl dM_gate_17 ?_
      refine lv_iload_n hx hb dM_gate_20 rfl (lv_at hl 1 rfl) ?_
      refine tkld_20 hx hb hK hP (tk_ixl3 h1_ h2_) dM_gate_21 ?_
      refine lv_istore_n hx hb dM_gate_22 rfl hl (by decide) rfl (fun ls hl => ?_)
      have hl : lv_has ls 5 [(3, .int (g 20 x0.toNatClampNeg)), (0, .ref hm), (1, .int x0), (2, .int x1)] := hl
      refine lv_aload_n hx hb dM_gate_23 rfl (lv_at hl 1 rfl) ?_
      refine va_get (D := D) (ci := 3) (v := .ref (ad 18)) (C := RM) (T := TM) (N := 33) hx hb hw inM hown hK hP 0 rfl rfl 18 (by decide) f62 (fun _ h9 => h9) rfl dM_gate_24 ?_
      refine lv_iload_n hx hb dM_gate_27 rfl (lv_at hl 2 rfl) ?_
      refine tkld_18 hx hb hK hP (tk_ixl3 h1_ h2_) dM_gate_28 ?_
      refine lv_istore hx hb dM_gate_29 hl (by decide) rfl (fun ls hl => ?_)
      have hl : lv_has ls 5 [(4, .int (g 18 x0.toNatClampNeg)), (3, .int (g 20 x0.toNatClampNeg)), (0, .ref hm), (1, .int x0), (2, .int x1)] := hl
      refine lv_aload_n hx hb dM_gate_31 rfl (lv_at hl 2 rfl) ?_
      refine va_get (D := D) (ci := 3) (v := .ref (ad 18)) (C := RM) (T := TM) (N := 33) hx hb hw inM hown hK hP 0 rfl rfl 18 (by decide) f62 (fun _ h9 => h9) rfl dM_gate_32 ?_
      refine lv_iload_n hx hb dM_gate_35 rfl (lv_at hl 3 rfl) ?_
      refine lv_iload_n hx hb dM_gate_36 rfl (lv_at hl 4 rfl) ?_
      refine tkst_18 hx hb hK hP hD hS (tk_ixl3 h1_ h2_) rfl dM_gate_37 (fun H locs hP hD hS => ?_)
      have hP : va_P D vwCl (WM hm ad cI cZ (tk_up (tk_up g 0 (fun _ => 0)) 18 (upd (g 18) x0.toNatClampNeg (vp_nar .boolean x1)))) H := hP
      have hD : va_D A (WM hm ad cI cZ (tk_up (tk_up g 0 (fun _ => 0)) 18 (upd (g 18) x0.toNatClampNeg (vp_nar .boolean x1)))) := hD
      refine lv_iload_n hx hb dM_gate_38 rfl (lv_at hl 4 rfl) ?_
      refine lv_if_eq (tgt := 83) hx hb dM_gate_39 (by decide) (fun (h3_ : x1 = 0) => ?_) (fun (h3_ : ¬ (x1 = 0)) => ?_)
      · refine lv_iload_n hx hb dM_gate_83 rfl (lv_at hl 4 rfl) ?_
        refine lv_if_ne (tgt := 109) hx hb dM_gate_84 (by decide) (fun h => absurd h3_ h) (fun _ => ?_)
        refine lv_iload hx hb dM_gate_87 (lv_at hl 0 rfl) ?_
        refine lv_if_eq (tgt := 109) hx hb dM_gate_89 (by decide) (fun (h4_ : g 18 x0.toNatClampNeg = 0) => ?_) (fun (h4_ : ¬ (g 18 x0.toNatClampNeg = 0)) => ?_)
        · refine lv_aload_n hx hb dM_gate_109 rfl (lv_at hl 2 rfl) ?_
          refine tk_callA hD hS hA (va_runV (As := []) (rest := []) ⟨hx, hb, hml, hown, hw⟩ (kM_follow l D hm ad cI cZ (tk_up (tk_up g 0 (fun _ => 0)) 18 (upd (g 18) x0.toNatClampNeg (vp_nar .boolean x1))) H.size) (cwV 0 hw (tk_gV tkWM_good wM_M_169 wI_M_follow wS_M_follow wZ_M wC_M_follow) rfl rfl rfl (by decide +kernel) ⟨Nat.le_of_ble_eq_true rfl, Nat.le_of_ble_eq_true rfl⟩) (tk_preM hK hN hP hD) rfl rfl hl.1 rfl (lv_room (Nat.le_of_ble_eq_true rfl)) dM_gate_110 ⟨Nat.zero_le _, Nat.zero_le _⟩) (fun H locs hP hD hS => ?_)
          refine W.eq (g2 := F0 m 113 ls []) rfl ?_
          refine lv_iconst (v := 1) hx hb dM_gate_113 (by decide) ?_
          exact tk_zret hx hb hr hlk hP hD hS dM_gate_114 rfl (by unfold tkM_gate_r; rw [if_neg h1_, if_pos h2_]) (congrArg (WM hm ad cI cZ) (by unfold tkM_gate_s; rw [if_neg h1_, if_pos h2_, if_pos h3_, if_pos h4_]))
        · refine lv_iload_n hx hb dM_gate_92 rfl (lv_at hl 1 rfl) ?_
          refine lv_iconst (v := 2) hx hb dM_gate_93 (by decide) ?_
          refine lv_icmp_eq (tgt := 102) hx hb dM_gate_94 (by decide) (fun (h5_ : g 20 x0.toNatClampNeg = 2) => ?_) (fun (h5_ : ¬ (g 20 x0.toNatClampNeg = 2)) => ?_)
          · refine lv_aload_n hx hb dM_gate_102 rfl (lv_at hl 2 rfl) ?_
            refine va_get (D := D) (ci := 3) (v := .ref (ad 19)) (C := RM) (T := TM) (N := 33) hx hb hw inM hown hK hP 0 rfl rfl 19 (by decide) f65 (fun _ h9 => h9) rfl dM_gate_103 ?_
            refine lv_iload_n hx hb dM_gate_106 rfl (lv_at hl 3 rfl) ?_
            refine lv_iconst (v := 1) hx hb dM_gate_107 (by decide) ?_
            refine tkst_19 hx hb hK hP hD hS (tk_ixl3 h1_ h2_) (x' := 1) rfl dM_gate_108 (fun H locs hP hD hS => ?_)
            have hP : va_P D vwCl (WM hm ad cI cZ (tk_up (tk_up (tk_up g 0 (fun _ => 0)) 18 (upd (g 18) x0.toNatClampNeg (vp_nar .boolean x1))) 19 (upd (g 19) x0.toNatClampNeg 1))) H := hP
            have hD : va_D A (WM hm ad cI cZ (tk_up (tk_up (tk_up g 0 (fun _ => 0)) 18 (upd (g 18) x0.toNatClampNeg (vp_nar .boolean x1))) 19 (upd (g 19) x0.toNatClampNeg 1))) := hD
            refine lv_aload_n hx hb dM_gate_109 rfl (lv_at hl 2 rfl) ?_
            refine tk_callA hD hS hA (va_runV (As := []) (rest := []) ⟨hx, hb, hml, hown, hw⟩ (kM_follow l D hm ad cI cZ (tk_up (tk_up (tk_up g 0 (fun _ => 0)) 18 (upd (g 18) x0.toNatClampNeg (vp_nar .boolean x1))) 19 (upd (g 19) x0.toNatClampNeg 1)) H.size) (cwV 0 hw (tk_gV tkWM_good wM_M_169 wI_M_follow wS_M_follow wZ_M wC_M_follow) rfl rfl rfl (by decide +kernel) ⟨Nat.le_of_ble_eq_true rfl, Nat.le_of_ble_eq_true rfl⟩) (tk_preM hK hN hP hD) rfl rfl hl.1 rfl (lv_room (Nat.le_of_ble_eq_true rfl)) dM_gate_110 ⟨Nat.zero_le _, Nat.zero_le _⟩) (fun H locs hP hD hS => ?_)
            refine W.eq (g2 := F0 m 113 ls []) rfl ?_
            refine lv_iconst (v := 1) hx hb dM_gate_113 (by decide) ?_
            exact tk_zret hx hb hr hlk hP hD hS dM_gate_114 rfl (by unfold tkM_gate_r; rw [if_neg h1_, if_pos h2_]) (congrArg (WM hm ad cI cZ) (by unfold tkM_gate_s; rw [if_neg h1_, if_pos h2_, if_pos h3_, if_neg h4_, if_pos h5_]))
          · refine lv_iload_n hx hb dM_gate_97 rfl (lv_at hl 1 rfl) ?_
            refine lv_iconst (v := 3) hx hb dM_gate_98 (by decide) ?_
            refine lv_icmp_ne (tgt := 109) hx hb dM_gate_99 (by decide) (fun (h6_ : ¬ (g 20 x0.toNatClampNeg = 3)) => ?_) (fun (h6_ : g 20 x0.toNatClampNeg = 3) => ?_)
            · refine lv_aload_n hx hb dM_gate_109 rfl (lv_at hl 2 rfl) ?_
              refine tk_callA hD hS hA (va_runV (As := []) (rest := []) ⟨hx, hb, hml, hown, hw⟩ (kM_follow l D hm ad cI cZ (tk_up (tk_up g 0 (fun _ => 0)) 18 (upd (g 18) x0.toNatClampNeg (vp_nar .boolean x1))) H.size) (cwV 0 hw (tk_gV tkWM_good wM_M_169 wI_M_follow wS_M_follow wZ_M wC_M_follow) rfl rfl rfl (by decide +kernel) ⟨Nat.le_of_ble_eq_true rfl, Nat.le_of_ble_eq_true rfl⟩) (tk_preM hK hN hP hD) rfl rfl hl.1 rfl (lv_room (Nat.le_of_ble_eq_true rfl)) dM_gate_110 ⟨Nat.zero_le _, Nat.zero_le _⟩) (fun H locs hP hD hS => ?_)
              refine W.eq (g2 := F0 m 113 ls []) rfl ?_
              refine lv_iconst (v := 1) hx hb dM_gate_113 (by decide) ?_
              exact tk_zret hx hb hr hlk hP hD hS dM_gate_114 rfl (by unfold tkM_gate_r; rw [if_neg h1_, if_pos h2_]) (congrArg (WM hm ad cI cZ) (by unfold tkM_gate_s; rw [if_neg h1_, if_pos h2_, if_pos h3_, if_neg h4_, if_neg h5_, if_neg h6_]))
            · refine lv_aload_n hx hb dM_gate_102 rfl (lv_at hl 2 rfl) ?_
              refine va_get (D := D) (ci := 3) (v := .ref (ad 19)) (C := RM) (T := TM) (N := 33) hx hb hw inM hown hK hP 0 rfl rfl 19 (by decide) f65 (fun _ h9 => h9) rfl dM_gate_103 ?_
              refine lv_iload_n hx hb dM_gate_106 rfl (lv_at hl 3 rfl) ?_
              refine lv_iconst (v := 1) hx hb dM_gate_107 (by decide) ?_
              refine tkst_19 hx hb hK hP hD hS (tk_ixl3 h1_ h2_) (x' := 1) rfl dM_gate_108 (fun H locs hP hD hS => ?_)
              have hP : va_P D vwCl (WM hm ad cI cZ (tk_up (tk_up (tk_up g 0 (fun _ => 0)) 18 (upd (g 18) x0.toNatClampNeg (vp_nar .boolean x1))) 19 (upd (g 19) x0.toNatClampNeg 1))) H := hP
              have hD : va_D A (WM hm ad cI cZ (tk_up (tk_up (tk_up g 0 (fun _ => 0)) 18 (upd (g 18) x0.toNatClampNeg (vp_nar .boolean x1))) 19 (upd (g 19) x0.toNatClampNeg 1))) := hD
              refine lv_aload_n hx hb dM_gate_109 rfl (lv_at hl 2 rfl) ?_
              refine tk_callA hD hS hA (va_runV (As := []) (rest := []) ⟨hx, hb, hml, hown, hw⟩ (kM_follow l D hm ad cI cZ (tk_up (tk_up (tk_up g 0 (fun _ => 0)) 18 (upd (g 18) x0.toNatClampNeg (vp_nar .boolean x1))) 19 (upd (g 19) x0.toNatClampNeg 1)) H.size) (cwV 0 hw (tk_gV tkWM_good wM_M_169 wI_M_follow wS_M_follow wZ_M wC_M_follow) rfl rfl rfl (by decide +kernel) ⟨Nat.le_of_ble_eq_true rfl, Nat.le_of_ble_eq_true rfl⟩) (tk_preM hK hN hP hD) rfl rfl hl.1 rfl (lv_room (Nat.le_of_ble_eq_true rfl)) dM_gate_110 ⟨Nat.zero_le _, Nat.zero_le _⟩) (fun H locs hP hD hS => ?_)
              refine W.eq (g2 := F0 m 113 ls []) rfl ?_
              refine lv_iconst (v := 1) hx hb dM_gate_113 (by decide) ?_
              exact tk_zret hx hb hr hlk hP hD hS dM_gate_114 rfl (by unfold tkM_gate_r; rw [if_neg h1_, if_pos h2_]) (congrArg (WM hm ad cI cZ) (by unfold tkM_gate_s; rw [if_neg h1_, if_pos h2_, if_pos h3_, if_neg h4_, if_neg h5_, if_pos h6_]))
      · refine lv_iload hx hb dM_gate_42 (lv_at hl 0 rfl) ?_
        refine lv_if_ne (tgt := 83) hx hb dM_gate_44 (by decide) (fun (h7_ : ¬ (g 18 x0.toNatClampNeg = 0)) => ?_) (fun (h7_ : g 18 x0.toNatClampNeg = 0) => ?_)
        · refine lv_iload_n hx hb dM_gate_83 rfl (lv_at hl 4 rfl) ?_
          refine lv_if_ne (tgt := 109) hx hb dM_gate_84 (by decide) (fun _ => ?_) (fun h => absurd h h3_)
          refine lv_aload_n hx hb dM_gate_109 rfl (lv_at hl 2 rfl) ?_
          refine tk_callA hD hS hA (va_runV (As := []) (rest := []) ⟨hx, hb, hml, hown, hw⟩ (kM_follow l D hm ad cI cZ (tk_up (tk_up g 0 (fun _ => 0)) 18 (upd (g 18) x0.toNatClampNeg (vp_nar .boolean x1))) H.size) (cwV 0 hw (tk_gV tkWM_good wM_M_169 wI_M_follow wS_M_follow wZ_M wC_M_follow) rfl rfl rfl (by decide +kernel) ⟨Nat.le_of_ble_eq_true rfl, Nat.le_of_ble_eq_true rfl⟩) (tk_preM hK hN hP hD) rfl rfl hl.1 rfl (lv_room (Nat.le_of_ble_eq_true rfl)) dM_gate_110 ⟨Nat.zero_le _, Nat.zero_le _⟩) (fun H locs hP hD hS => ?_)
          refine W.eq (g2 := F0 m 113 ls []) rfl ?_
          refine lv_iconst (v := 1) hx hb dM_gate_113 (by decide) ?_
          exact tk_zret hx hb hr hlk hP hD hS dM_gate_114 rfl (by unfold tkM_gate_r; rw [if_neg h1_, if_pos h2_]) (congrArg (WM hm ad cI cZ) (by unfold tkM_gate_s; rw [if_neg h1_, if_pos h2_, if_neg h3_, if_neg h7_]))
        · refine lv_aload_n hx hb dM_gate_47 rfl (lv_at hl 2 rfl) ?_
          refine va_get (D := D) (ci := 3) (v := .ref (ad 22)) (C := RM) (T := TM) (N := 33) hx hb hw inM hown hK hP 0 rfl rfl 22 (by decide) f74 (fun _ h9 => h9) rfl dM_gate_48 ?_
          refine lv_iload_n hx hb dM_gate_51 rfl (lv_at hl 3 rfl) ?_
          refine tkld_22 hx hb hK hP (tk_ixl3 h1_ h2_) dM_gate_52 ?_
          refine lv_if_le (tgt := 83) hx hb dM_gate_53 (by decide) (fun (h8_ : g 22 x0.toNatClampNeg ≤ 0) => ?_) (fun (h8_ : ¬ (g 22 x0.toNatClampNeg ≤ 0)) => ?_)
          · refine lv_iload_n hx hb dM_gate_83 rfl (lv_at hl 4 rfl) ?_
            refine lv_if_ne (tgt := 109) hx hb dM_gate_84 (by decide) (fun _ => ?_) (fun h => absurd h h3_)
            refine lv_aload_n hx hb dM_gate_109 rfl (lv_at hl 2 rfl) ?_
            refine tk_callA hD hS hA (va_runV (As := []) (rest := []) ⟨hx, hb, hml, hown, hw⟩ (kM_follow l D hm ad cI cZ (tk_up (tk_up g 0 (fun _ => 0)) 18 (upd (g 18) x0.toNatClampNeg (vp_nar .boolean x1))) H.size) (cwV 0 hw (tk_gV tkWM_good wM_M_169 wI_M_follow wS_M_follow wZ_M wC_M_follow) rfl rfl rfl (by decide +kernel) ⟨Nat.le_of_ble_eq_true rfl, Nat.le_of_ble_eq_true rfl⟩) (tk_preM hK hN hP hD) rfl rfl hl.1 rfl (lv_room (Nat.le_of_ble_eq_true rfl)) dM_gate_110 ⟨Nat.zero_le _, Nat.zero_le _⟩) (fun H locs hP hD hS => ?_)
            refine W.eq (g2 := F0 m 113 ls []) rfl ?_
            refine lv_iconst (v := 1) hx hb dM_gate_113 (by decide) ?_
            exact tk_zret hx hb hr hlk hP hD hS dM_gate_114 rfl (by unfold tkM_gate_r; rw [if_neg h1_, if_pos h2_]) (congrArg (WM hm ad cI cZ) (by unfold tkM_gate_s; rw [if_neg h1_, if_pos h2_, if_neg h3_, if_pos h7_, if_pos h8_]))
          · refine lv_iload_n hx hb dM_gate_56 rfl (lv_at hl 1 rfl) ?_
            refine lv_iconst (v := 1) hx hb dM_gate_57 (by decide) ?_
            refine lv_icmp_eq (tgt := 76) hx hb dM_gate_58 (by decide) (fun (h9_ : g 20 x0.toNatClampNeg = 1) => ?_) (fun (h9_ : ¬ (g 20 x0.toNatClampNeg = 1)) => ?_)
            · refine lv_aload_n hx hb dM_gate_76 rfl (lv_at hl 2 rfl) ?_
              refine va_get (D := D) (ci := 3) (v := .ref (ad 25)) (C := RM) (T := TM) (N := 33) hx hb hw inM hown hK hP 0 rfl rfl 25 (by decide) f83 (fun _ h9 => h9) rfl dM_gate_77 ?_
              refine lv_iload_n hx hb dM_gate_80 rfl (lv_at hl 3 rfl) ?_
              refine lv_iconst (v := 1) hx hb dM_gate_81 (by decide) ?_
              refine tkst_25 hx hb hK hP hD hS (tk_ixl3 h1_ h2_) (x' := 1) rfl dM_gate_82 (fun H locs hP hD hS => ?_)
              have hP : va_P D vwCl (WM hm ad cI cZ (tk_up (tk_up (tk_up g 0 (fun _ => 0)) 18 (upd (g 18) x0.toNatClampNeg (vp_nar .boolean x1))) 25 (upd (g 25) x0.toNatClampNeg 1))) H := hP
              have hD : va_D A (WM hm ad cI cZ (tk_up (tk_up (tk_up g 0 (fun _ => 0)) 18 (upd (g 18) x0.toNatClampNeg (vp_nar .boolean x1))) 25 (upd (g 25) x0.toNatClampNeg 1))) := hD
              refine lv_iload_n hx hb dM_gate_83 rfl (lv_at hl 4 rfl) ?_
              refine lv_if_ne (tgt := 109) hx hb dM_gate_84 (by decide) (fun _ => ?_) (fun h => absurd h h3_)
              refine lv_aload_n hx hb dM_gate_109 rfl (lv_at hl 2 rfl) ?_
              refine tk_callA hD hS hA (va_runV (As := []) (rest := []) ⟨hx, hb, hml, hown, hw⟩ (kM_follow l D hm ad cI cZ (tk_up (tk_up (tk_up g 0 (fun _ => 0)) 18 (upd (g 18) x0.toNatClampNeg (vp_nar .boolean x1))) 25 (upd (g 25) x0.toNatClampNeg 1)) H.size) (cwV 0 hw (tk_gV tkWM_good wM_M_169 wI_M_follow wS_M_follow wZ_M wC_M_follow) rfl rfl rfl (by decide +kernel) ⟨Nat.le_of_ble_eq_true rfl, Nat.le_of_ble_eq_true rfl⟩) (tk_preM hK hN hP hD) rfl rfl hl.1 rfl (lv_room (Nat.le_of_ble_eq_true rfl)) dM_gate_110 ⟨Nat.zero_le _, Nat.zero_le _⟩) (fun H locs hP hD hS => ?_)
              refine W.eq (g2 := F0 m 113 ls []) rfl ?_
              refine lv_iconst (v := 1) hx hb dM_gate_113 (by decide) ?_
              exact tk_zret hx hb hr hlk hP hD hS dM_gate_114 rfl (by unfold tkM_gate_r; rw [if_neg h1_, if_pos h2_]) (congrArg (WM hm ad cI cZ) (by unfold tkM_gate_s; rw [if_neg h1_, if_pos h2_, if_neg h3_, if_pos h7_, if_neg h8_, if_pos h9_]))
            · refine lv_iload_n hx hb dM_gate_61 rfl (lv_at hl 1 rfl) ?_
              refine lv_iconst (v := 2) hx hb dM_gate_62 (by decide) ?_
              refine lv_icmp_eq (tgt := 76) hx hb dM_gate_63 (by decide) (fun (h10_ : g 20 x0.toNatClampNeg = 2) => ?_) (fun (h10_ : ¬ (g 20 x0.toNatClampNeg = 2)) => ?_)
              · refine lv_aload_n hx hb dM_gate_76 rfl (lv_at hl 2 rfl) ?_
                refine va_get (D := D) (ci := 3) (v := .ref (ad 25)) (C := RM) (T := TM) (N := 33) hx hb hw inM hown hK hP 0 rfl rfl 25 (by decide) f83 (fun _ h9 => h9) rfl dM_gate_77 ?_
                refine lv_iload_n hx hb dM_gate_80 rfl (lv_at hl 3 rfl) ?_
                refine lv_iconst (v := 1) hx hb dM_gate_81 (by decide) ?_
                refine tkst_25 hx hb hK hP hD hS (tk_ixl3 h1_ h2_) (x' := 1) rfl dM_gate_82 (fun H locs hP hD hS => ?_)
                have hP : va_P D vwCl (WM hm ad cI cZ (tk_up (tk_up (tk_up g 0 (fun _ => 0)) 18 (upd (g 18) x0.toNatClampNeg (vp_nar .boolean x1))) 25 (upd (g 25) x0.toNatClampNeg 1))) H := hP
                have hD : va_D A (WM hm ad cI cZ (tk_up (tk_up (tk_up g 0 (fun _ => 0)) 18 (upd (g 18) x0.toNatClampNeg (vp_nar .boolean x1))) 25 (upd (g 25) x0.toNatClampNeg 1))) := hD
                refine lv_iload_n hx hb dM_gate_83 rfl (lv_at hl 4 rfl) ?_
                refine lv_if_ne (tgt := 109) hx hb dM_gate_84 (by decide) (fun _ => ?_) (fun h => absurd h h3_)
                refine lv_aload_n hx hb dM_gate_109 rfl (lv_at hl 2 rfl) ?_
                refine tk_callA hD hS hA (va_runV (As := []) (rest := []) ⟨hx, hb, hml, hown, hw⟩ (kM_follow l D hm ad cI cZ (tk_up (tk_up (tk_up g 0 (fun _ => 0)) 18 (upd (g 18) x0.toNatClampNeg (vp_nar .boolean x1))) 25 (upd (g 25) x0.toNatClampNeg 1)) H.size) (cwV 0 hw (tk_gV tkWM_good wM_M_169 wI_M_follow wS_M_follow wZ_M wC_M_follow) rfl rfl rfl (by decide +kernel) ⟨Nat.le_of_ble_eq_true rfl, Nat.le_of_ble_eq_true rfl⟩) (tk_preM hK hN hP hD) rfl rfl hl.1 rfl (lv_room (Nat.le_of_ble_eq_true rfl)) dM_gate_110 ⟨Nat.zero_le _, Nat.zero_le _⟩) (fun H locs hP hD hS => ?_)
                refine W.eq (g2 := F0 m 113 ls []) rfl ?_
                refine lv_iconst (v := 1) hx hb dM_gate_113 (by decide) ?_
                exact tk_zret hx hb hr hlk hP hD hS dM_gate_114 rfl (by unfold tkM_gate_r; rw [if_neg h1_, if_pos h2_]) (congrArg (WM hm ad cI cZ) (by unfold tkM_gate_s; rw [if_neg h1_, if_pos h2_, if_neg h3_, if_pos h7_, if_neg h8_, if_neg h9_, if_pos h10_]))
              · refine lv_iload_n hx hb dM_gate_66 rfl (lv_at hl 1 rfl) ?_
                refine lv_iconst (v := 3) hx hb dM_gate_67 (by decide) ?_
                refine lv_icmp_eq (tgt := 76) hx hb dM_gate_68 (by decide) (fun (h11_ : g 20 x0.toNatClampNeg = 3) => ?_) (fun (h11_ : ¬ (g 20 x0.toNatClampNeg = 3)) => ?_)
                · refine lv_aload_n hx hb dM_gate_76 rfl (lv_at hl 2 rfl) ?_
                  refine va_get (D := D) (ci := 3) (v := .ref (ad 25)) (C := RM) (T := TM) (N := 33) hx hb hw inM hown hK hP 0 rfl rfl 25 (by decide) f83 (fun _ h9 => h9) rfl dM_gate_77 ?_
                  refine lv_iload_n hx hb dM_gate_80 rfl (lv_at hl 3 rfl) ?_
                  refine lv_iconst (v := 1) hx hb dM_gate_81 (by decide) ?_
                  refine tkst_25 hx hb hK hP hD hS (tk_ixl3 h1_ h2_) (x' := 1) rfl dM_gate_82 (fun H locs hP hD hS => ?_)
                  have hP : va_P D vwCl (WM hm ad cI cZ (tk_up (tk_up (tk_up g 0 (fun _ => 0)) 18 (upd (g 18) x0.toNatClampNeg (vp_nar .boolean x1))) 25 (upd (g 25) x0.toNatClampNeg 1))) H := hP
                  have hD : va_D A (WM hm ad cI cZ (tk_up (tk_up (tk_up g 0 (fun _ => 0)) 18 (upd (g 18) x0.toNatClampNeg (vp_nar .boolean x1))) 25 (upd (g 25) x0.toNatClampNeg 1))) := hD
                  refine lv_iload_n hx hb dM_gate_83 rfl (lv_at hl 4 rfl) ?_
                  refine lv_if_ne (tgt := 109) hx hb dM_gate_84 (by decide) (fun _ => ?_) (fun h => absurd h h3_)
                  refine lv_aload_n hx hb dM_gate_109 rfl (lv_at hl 2 rfl) ?_
                  refine tk_callA hD hS hA (va_runV (As := []) (rest := []) ⟨hx, hb, hml, hown, hw⟩ (kM_follow l D hm ad cI cZ (tk_up (tk_up (tk_up g 0 (fun _ => 0)) 18 (upd (g 18) x0.toNatClampNeg (vp_nar .boolean x1))) 25 (upd (g 25) x0.toNatClampNeg 1)) H.size) (cwV 0 hw (tk_gV tkWM_good wM_M_169 wI_M_follow wS_M_follow wZ_M wC_M_follow) rfl rfl rfl (by decide +kernel) ⟨Nat.le_of_ble_eq_true rfl, Nat.le_of_ble_eq_true rfl⟩) (tk_preM hK hN hP hD) rfl rfl hl.1 rfl (lv_room (Nat.le_of_ble_eq_true rfl)) dM_gate_110 ⟨Nat.zero_le _, Nat.zero_le _⟩) (fun H locs hP hD hS => ?_)
                  refine W.eq (g2 := F0 m 113 ls []) rfl ?_
                  refine lv_iconst (v := 1) hx hb dM_gate_113 (by decide) ?_
                  exact tk_zret hx hb hr hlk hP hD hS dM_gate_114 rfl (by unfold tkM_gate_r; rw [if_neg h1_, if_pos h2_]) (congrArg (WM hm ad cI cZ) (by unfold tkM_gate_s; rw [if_neg h1_, if_pos h2_, if_neg h3_, if_pos h7_, if_neg h8_, if_neg h9_, if_neg h10_, if_pos h11_]))
                · refine lv_iload_n hx hb dM_gate_71 rfl (lv_at hl 1 rfl) ?_
                  refine lv_iconst (v := 5) hx hb dM_gate_72 (by decide) ?_
                  refine lv_icmp_ne (tgt := 83) hx hb dM_gate_73 (by decide) (fun (h12_ : ¬ (g 20 x0.toNatClampNeg = 5)) => ?_) (fun (h12_ : g 20 x0.toNatClampNeg = 5) => ?_)
                  · refine lv_iload_n hx hb dM_gate_83 rfl (lv_at hl 4 rfl) ?_
                    refine lv_if_ne (tgt := 109) hx hb dM_gate_84 (by decide) (fun _ => ?_) (fun h => absurd h h3_)
                    refine lv_aload_n hx hb dM_gate_109 rfl (lv_at hl 2 rfl) ?_
                    refine tk_callA hD hS hA (va_runV (As := []) (rest := []) ⟨hx, hb, hml, hown, hw⟩ (kM_follow l D hm ad cI cZ (tk_up (tk_up g 0 (fun _ => 0)) 18 (upd (g 18) x0.toNatClampNeg (vp_nar .boolean x1))) H.size) (cwV 0 hw (tk_gV tkWM_good wM_M_169 wI_M_follow wS_M_follow wZ_M wC_M_follow) rfl rfl rfl (by decide +kernel) ⟨Nat.le_of_ble_eq_true rfl, Nat.le_of_ble_eq_true rfl⟩) (tk_preM hK hN hP hD) rfl rfl hl.1 rfl (lv_room (Nat.le_of_ble_eq_true rfl)) dM_gate_110 ⟨Nat.zero_le _, Nat.zero_le _⟩) (fun H locs hP hD hS => ?_)
                    refine W.eq (g2 := F0 m 113 ls []) rfl ?_
                    refine lv_iconst (v := 1) hx hb dM_gate_113 (by decide) ?_
                    exact tk_zret hx hb hr hlk hP hD hS dM_gate_114 rfl (by unfold tkM_gate_r; rw [if_neg h1_, if_pos h2_]) (congrArg (WM hm ad cI cZ) (by unfold tkM_gate_s; rw [if_neg h1_, if_pos h2_, if_neg h3_, if_pos h7_, if_neg h8_, if_neg h9_, if_neg h10_, if_neg h11_, if_neg h12_]))
                  · refine lv_aload_n hx hb dM_gate_76 rfl (lv_at hl 2 rfl) ?_
                    refine va_get (D := D) (ci := 3) (v := .ref (ad 25)) (C := RM) (T := TM) (N := 33) hx hb hw inM hown hK hP 0 rfl rfl 25 (by decide) f83 (fun _ h9 => h9) rfl dM_gate_77 ?_
                    refine lv_iload_n hx hb dM_gate_80 rfl (lv_at hl 3 rfl) ?_
                    refine lv_iconst (v := 1) hx hb dM_gate_81 (by decide) ?_
                    refine tkst_25 hx hb hK hP hD hS (tk_ixl3 h1_ h2_) (x' := 1) rfl dM_gate_82 (fun H locs hP hD hS => ?_)
                    have hP : va_P D vwCl (WM hm ad cI cZ (tk_up (tk_up (tk_up g 0 (fun _ => 0)) 18 (upd (g 18) x0.toNatClampNeg (vp_nar .boolean x1))) 25 (upd (g 25) x0.toNatClampNeg 1))) H := hP
                    have hD : va_D A (WM hm ad cI cZ (tk_up (tk_up (tk_up g 0 (fun _ => 0)) 18 (upd (g 18) x0.toNatClampNeg (vp_nar .boolean x1))) 25 (upd (g 25) x0.toNatClampNeg 1))) := hD
                    refine lv_iload_n hx hb dM_gate_83 rfl (lv_at hl 4 rfl) ?_
                    refine lv_if_ne (tgt := 109) hx hb dM_gate_84 (by decide) (fun _ => ?_) (fun h => absurd h h3_)
                    refine lv_aload_n hx hb dM_gate_109 rfl (lv_at hl 2 rfl) ?_
                    refine tk_callA hD hS hA (va_runV (As := []) (rest := []) ⟨hx, hb, hml, hown, hw⟩ (kM_follow l D hm ad cI cZ (tk_up (tk_up (tk_up g 0 (fun _ => 0)) 18 (upd (g 18) x0.toNatClampNeg (vp_nar .boolean x1))) 25 (upd (g 25) x0.toNatClampNeg 1)) H.size) (cwV 0 hw (tk_gV tkWM_good wM_M_169 wI_M_follow wS_M_follow wZ_M wC_M_follow) rfl rfl rfl (by decide +kernel) ⟨Nat.le_of_ble_eq_true rfl, Nat.le_of_ble_eq_true rfl⟩) (tk_preM hK hN hP hD) rfl rfl hl.1 rfl (lv_room (Nat.le_of_ble_eq_true rfl)) dM_gate_110 ⟨Nat.zero_le _, Nat.zero_le _⟩) (fun H locs hP hD hS => ?_)
                    refine W.eq (g2 := F0 m 113 ls []) rfl ?_
                    refine lv_iconst (v := 1) hx hb dM_gate_113 (by decide) ?_
                    exact tk_zret hx hb hr hlk hP hD hS dM_gate_114 rfl (by unfold tkM_gate_r; rw [if_neg h1_, if_pos h2_]) (congrArg (WM hm ad cI cZ) (by unfold tkM_gate_s; rw [if_neg h1_, if_pos h2_, if_neg h3_, if_pos h7_, if_neg h8_, if_neg h9_, if_neg h10_, if_neg h11_, if_pos h12_]))
    · refine lv_iconst (v := 0) hx hb dM_gate_14 (by decide) ?_
      exact tk_zret hx hb hr hlk hP hD hS dM_gate_15 rfl (by unfold tkM_gate_r; rw [if_neg h1_, if_neg h2_]) (congrArg (WM hm ad cI cZ) (by unfold tkM_gate_s; rw [if_neg h1_, if_neg h2_]))
def tkM_tick_v1 (g : Nat → Nat → Int32) (r : Int32) : Int32 :=
  if ((tkM_tickOne_s (tkM_tickOne_s (tkM_tickOne_s g 0) 1) 2) 19) (0 : Int32).toNatClampNeg = 0 then r
  else if g 19 (0 : Int32).toNatClampNeg = 0 then r + 1
    else r
def tkM_tickB_r (g : Nat → Nat → Int32) (r : Int32) : Int32 :=
  tkM_tick_v1 g r
def tkM_tickB_s (g : Nat → Nat → Int32) : Nat → Nat → Int32 :=
  tkM_follow_s (tkM_tickOne_s (tkM_tickOne_s (tkM_tickOne_s g 0) 1) 2)
def tkM_ticks : Nat → (Nat → Nat → Int32) → Int32 → (Nat → Nat → Int32) × Int32
  | 0, g, r => (g, r)
  | k + 1, g, r => if g 0 0 = 0 then tkM_ticks k (tkM_tickB_s g) (tkM_tickB_r g r) else (g, r)
def tkM_tick_v2 (g0 : Nat → Nat → Int32) (x0 : Int32) : Int32 :=
  if x0 < 0 then 1
  else if x0 ≤ 100 then 0
    else 1
def tkM_tick_r (g0 : Nat → Nat → Int32) (x0 : Int32) : Int32 := (tkM_ticks x0.toInt.toNat (tk_up g0 0 (fun _ => tkM_tick_v2 g0 x0)) 0).2
def tkM_tick_s (g0 : Nat → Nat → Int32) (x0 : Int32) : Nat → Nat → Int32 := (tkM_ticks x0.toInt.toNat (tk_up g0 0 (fun _ => tkM_tick_v2 g0 x0)) 0).1
set_option maxHeartbeats 1000000 in
set_option maxRecDepth 100000 in
theorem kM_tick (l : Launch) (D : va_G) (hm : Nat) (ad : Nat → Nat) (cI cZ : ClassId) (g0 : Nat → Nat → Int32) (x0 : Int32) : tk_M l yM_tick wsM_tick { frames := 4, cells := 0, slots := 0, locals := 88 } D [(cI, .int), (cZ, .boolean)] [.ref hm, .int x0] (WM hm ad cI cZ g0) (WM hm ad cI cZ (tkM_tick_s g0 x0)) (some (.int (tkM_tick_r g0 x0))) := by
  refine tk_M.of (cc := cM_tick) (maxL := 6) (ret := (some .int)) (by decide) rfl (Nat.le_of_ble_eq_true rfl) ?_
  intro p e s m below meth co A H locs ls hB hK hN hA hP hD hS hl
  obtain ⟨hx, hb, hr, hml, hown, hlk, hnm, hts⟩ := hB
  have hown : s.vm.findClass RM = some m.cls := hown
  have hl : lv_has ls 6 [(0, .ref hm), (1, .int x0)] := hl
  have hw : ∀ w ∈ tkWM, w.before _ s = true := fun w h => hts w (List.mem_cons_of_mem _ h)
  have f107 := hw _ wF_M_107
  have f65 := hw _ wF_M_65
  have loop : ∀ (k i : Nat) (g : Nat → Nat → Int32) (r : Int32) (H : Heap) (locs : List Loc) (ls : Array Slot), i + k = x0.toInt.toNat → tkM_ticks k g r = tkM_ticks x0.toInt.toNat (tk_up g0 0 (fun _ => tkM_tick_v2 g0 x0)) 0 → lv_has ls 6 [(3, .int (nI i)), (2, .int r), (0, .ref hm), (1, .int x0)] → va_P D vwCl (WM hm ad cI cZ g) H → va_D A (WM hm ad cI cZ g) → va_S A s.heap H locs → W p l e { frames := 4, cells := 0, slots := 0, locals := 88 } s m #[.ref hm, .int x0] below meth co H locs 0 0 (MQ below (tk_Q D A (WM hm ad cI cZ (tkM_tick_s g0 x0)) (some (.int (tkM_tick_r g0 x0)))) #[.ref hm, .int x0] s 0 0 A) (F0 m 23 ls []) := by
    intro k
    induction k with
    | zero =>
      intro i g r H locs ls hik hF hl hP hD hS
      have hF : tkM_ticks x0.toInt.toNat (tk_up g0 0 (fun _ => tkM_tick_v2 g0 x0)) 0 = (g, r) := hF.symm
      have hc : x0 ≤ nI i := tk_ge (by omega)
      refine lv_iload_n hx hb dM_tick_23 rfl (lv_at hl 0 rfl) ?_
      refine lv_iload_n hx hb dM_tick_24 rfl (lv_at hl 3 rfl) ?_
      refine lv_icmp_ge (tgt := 96) hx hb dM_tick_25 (by decide) (fun _ => ?_) (fun h => absurd hc h)
      refine lv_iload_n hx hb dM_tick_96 rfl (lv_at hl 1 rfl) ?_
      exact tk_iret hx hb hr hlk hP hD hS dM_tick_97 (congrArg Prod.snd hF) (congrArg (fun z => WM hm ad cI cZ z.1) hF)
    | succ k ih =>
      intro i g r H locs ls hik hF hl hP hD hS
      have hc : ¬ x0 ≤ nI i := tk_nge (by omega)
      refine lv_iload_n hx hb dM_tick_23 rfl (lv_at hl 0 rfl) ?_
      refine lv_iload_n hx hb dM_tick_24 rfl (lv_at hl 3 rfl) ?_
      refine lv_icmp_ge (tgt := 96) hx hb dM_tick_25 (by decide) (fun h => absurd h hc) (fun _ => ?_)
      refine lv_aload_n hx hb dM_tick_28 rfl (lv_at hl 2 rfl) ?_
      refine va_get (D := D) (ci := 3) (v := .int (g 0 0)) (C := RM) (T := TM) (N := 33) hx hb hw inM hown hK hP 0 rfl rfl 0 (by decide) f107 (fun _ h9 => h9) rfl dM_tick_29 ?_
      refine lv_if_ne (tgt := 96) hx hb dM_tick_32 (by decide) (fun (h1_ : ¬ (g 0 0 = 0)) => ?_) (fun (h1_ : g 0 0 = 0) => ?_)
      · refine lv_iload_n hx hb dM_tick_96 rfl (lv_at hl 1 rfl) ?_
        have hF : tkM_ticks x0.toInt.toNat (tk_up g0 0 (fun _ => tkM_tick_v2 g0 x0)) 0 = (g, r) := by rw [← hF, tkM_ticks, if_neg h1_]
        exact tk_iret hx hb hr hlk hP hD hS dM_tick_97 (congrArg Prod.snd hF) (congrArg (fun z => WM hm ad cI cZ z.1) hF)
      · refine lv_aload_n hx hb dM_tick_35 rfl (lv_at hl 2 rfl) ?_
        refine va_get (D := D) (ci := 3) (v := .ref (ad 19)) (C := RM) (T := TM) (N := 33) hx hb hw inM hown hK hP 0 rfl rfl 19 (by decide) f65 (fun _ h9 => h9) rfl dM_tick_36 ?_
        refine lv_iconst (v := 0) hx hb dM_tick_39 (by decide) ?_
        refine tkld_19 hx hb hK hP (by unfold vp_in; decide) dM_tick_40 ?_
        refine lv_istore hx hb dM_tick_41 hl (by decide) rfl (fun ls hl => ?_)
        have hl : lv_has ls 6 [(4, .int (g 19 (0 : Int32).toNatClampNeg)), (3, .int (nI i)), (2, .int r), (0, .ref hm), (1, .int x0)] := hl
        refine lv_iconst (v := 0) hx hb dM_tick_43 (by decide) ?_
        refine lv_istore hx hb dM_tick_44 hl (by decide) rfl (fun ls hl => ?_)
        have hl : lv_has ls 6 [(5, .int 0), (4, .int (g 19 (0 : Int32).toNatClampNeg)), (3, .int (nI i)), (2, .int r), (0, .ref hm), (1, .int x0)] := hl
        refine lv_iload hx hb dM_tick_46 (lv_at hl 0 rfl) ?_
        refine lv_iconst (v := 3) hx hb dM_tick_48 (by decide) ?_
        refine lv_icmp_ge (tgt := 64) hx hb dM_tick_49 (by decide) (fun h => absurd h (by decide)) (fun _ => ?_)
        refine lv_aload_n hx hb dM_tick_52 rfl (lv_at hl 4 rfl) ?_
        refine lv_iload hx hb dM_tick_53 (lv_at hl 0 rfl) ?_
        refine tk_callA hD hS hA (va_runV (As := [.int 0]) (rest := []) ⟨hx, hb, hml, hown, hw⟩ (kM_tickOne l D hm ad cI cZ g 0 (by unfold vp_in; decide) H.size) (cwV 1 hw (tk_gV tkWM_good wM_M_178 wI_M_tickOne wS_M_tickOne wZ_M wC_M_tickOne) rfl rfl rfl (by decide +kernel) ⟨Nat.le_of_ble_eq_true rfl, Nat.le_of_ble_eq_true rfl⟩) (tk_preM hK hN hP hD) rfl rfl hl.1 rfl (lv_room (Nat.le_of_ble_eq_true rfl)) dM_tick_55 ⟨Nat.zero_le _, Nat.zero_le _⟩) (fun H locs hP hD hS => ?_)
        refine W.eq (g2 := F0 m 58 ls []) rfl ?_
        refine lv_iinc (k := 0) (v := 1) hx hb dM_tick_58 hl rfl (by decide) (by decide) rfl (fun ls hl => ?_)
        have hl : lv_has ls 6 [(5, .int 1), (4, .int (g 19 (0 : Int32).toNatClampNeg)), (3, .int (nI i)), (2, .int r), (0, .ref hm), (1, .int x0)] := hl
        refine lv_goto (tgt := 46) hx hb dM_tick_61 (by decide) ?_
        refine lv_iload hx hb dM_tick_46 (lv_at hl 0 rfl) ?_
        refine lv_iconst (v := 3) hx hb dM_tick_48 (by decide) ?_
        refine lv_icmp_ge (tgt := 64) hx hb dM_tick_49 (by decide) (fun h => absurd h (by decide)) (fun _ => ?_)
        refine lv_aload_n hx hb dM_tick_52 rfl (lv_at hl 4 rfl) ?_
        refine lv_iload hx hb dM_tick_53 (lv_at hl 0 rfl) ?_
        refine tk_callA hD hS hA (va_runV (As := [.int 1]) (rest := []) ⟨hx, hb, hml, hown, hw⟩ (kM_tickOne l D hm ad cI cZ (tkM_tickOne_s g 0) 1 (by unfold vp_in; decide) H.size) (cwV 1 hw (tk_gV tkWM_good wM_M_178 wI_M_tickOne wS_M_tickOne wZ_M wC_M_tickOne) rfl rfl rfl (by decide +kernel) ⟨Nat.le_of_ble_eq_true rfl, Nat.le_of_ble_eq_true rfl⟩) (tk_preM hK hN hP hD) rfl rfl hl.1 rfl (lv_room (Nat.le_of_ble_eq_true rfl)) dM_tick_55 ⟨Nat.zero_le _, Nat.zero_le _⟩) (fun H locs hP hD hS => ?_)
        refine W.eq (g2 := F0 m 58 ls []) rfl ?_
        refine lv_iinc (k := 0) (v := 2) hx hb dM_tick_58 hl rfl (by decide) (by decide) rfl (fun ls hl => ?_)
        have hl : lv_has ls 6 [(5, .int 2), (4, .int (g 19 (0 : Int32).toNatClampNeg)), (3, .int (nI i)), (2, .int r), (0, .ref hm), (1, .int x0)] := hl
        refine lv_goto (tgt := 46) hx hb dM_tick_61 (by decide) ?_
        refine lv_iload hx hb dM_tick_46 (lv_at hl 0 rfl) ?_
        refine lv_iconst (v := 3) hx hb dM_tick_48 (by decide) ?_
        refine lv_icmp_ge (tgt := 64) hx hb dM_tick_49 (by decide) (fun h => absurd h (by decide)) (fun _ => ?_)
        refine lv_aload_n hx hb dM_tick_52 rfl (lv_at hl 4 rfl) ?_
        refine lv_iload hx hb dM_tick_53 (lv_at hl 0 rfl) ?_
        refine tk_callA hD hS hA (va_runV (As := [.int 2]) (rest := []) ⟨hx, hb, hml, hown, hw⟩ (kM_tickOne l D hm ad cI cZ (tkM_tickOne_s (tkM_tickOne_s g 0) 1) 2 (by unfold vp_in; decide) H.size) (cwV 1 hw (tk_gV tkWM_good wM_M_178 wI_M_tickOne wS_M_tickOne wZ_M wC_M_tickOne) rfl rfl rfl (by decide +kernel) ⟨Nat.le_of_ble_eq_true rfl, Nat.le_of_ble_eq_true rfl⟩) (tk_preM hK hN hP hD) rfl rfl hl.1 rfl (lv_room (Nat.le_of_ble_eq_true rfl)) dM_tick_55 ⟨Nat.zero_le _, Nat.zero_le _⟩) (fun H locs hP hD hS => ?_)
        refine W.eq (g2 := F0 m 58 ls []) rfl ?_
        refine lv_iinc (k := 0) (v := 3) hx hb dM_tick_58 hl rfl (by decide) (by decide) rfl (fun ls hl => ?_)
        have hl : lv_has ls 6 [(5, .int 3), (4, .int (g 19 (0 : Int32).toNatClampNeg)), (3, .int (nI i)), (2, .int r), (0, .ref hm), (1, .int x0)] := hl
        refine lv_goto (tgt := 46) hx hb dM_tick_61 (by decide) ?_
        refine lv_iload hx hb dM_tick_46 (lv_at hl 0 rfl) ?_
        refine lv_iconst (v := 3) hx hb dM_tick_48 (by decide) ?_
        refine lv_icmp_ge (tgt := 64) hx hb dM_tick_49 (by decide) (fun _ => ?_) (fun h => absurd (by decide) h)
        refine lv_aload_n hx hb dM_tick_64 rfl (lv_at hl 4 rfl) ?_
        refine va_get (D := D) (ci := 3) (v := .ref (ad 19)) (C := RM) (T := TM) (N := 33) hx hb hw inM hown hK hP 0 rfl rfl 19 (by decide) f65 (fun _ h9 => h9) rfl dM_tick_65 ?_
        refine lv_iconst (v := 0) hx hb dM_tick_68 (by decide) ?_
        refine tkld_19 hx hb hK hP (by unfold vp_in; decide) dM_tick_69 ?_
        refine tk_mrg (D := D) (ws1 := (WM hm ad cI cZ (tkM_tickOne_s (tkM_tickOne_s (tkM_tickOne_s g 0) 1) 2))) (g2 := F0 m 85 ls [.int (tkM_tick_v1 g r)]) hD hS (fun key => ?_) (fun H locs hP hD hS => ?_)
        · refine lv_if_eq (tgt := 84) hx hb dM_tick_70 (by decide) (fun (h2_ : ((tkM_tickOne_s (tkM_tickOne_s (tkM_tickOne_s g 0) 1) 2) 19) (0 : Int32).toNatClampNeg = 0) => ?_) (fun (h2_ : ¬ (((tkM_tickOne_s (tkM_tickOne_s (tkM_tickOne_s g 0) 1) 2) 19) (0 : Int32).toNatClampNeg = 0)) => ?_)
          · refine lv_iload_n hx hb dM_tick_84 rfl (lv_at hl 3 rfl) ?_
            exact tk_top (by unfold tkM_tick_v1; rw [if_pos h2_]) (key H locs hP hD hS)
          · refine lv_iload hx hb dM_tick_73 (lv_at hl 1 rfl) ?_
            refine lv_if_ne (tgt := 84) hx hb dM_tick_75 (by decide) (fun (h3_ : ¬ (g 19 (0 : Int32).toNatClampNeg = 0)) => ?_) (fun (h3_ : g 19 (0 : Int32).toNatClampNeg = 0) => ?_)
            · refine lv_iload_n hx hb dM_tick_84 rfl (lv_at hl 3 rfl) ?_
              exact tk_top (by unfold tkM_tick_v1; rw [if_neg h2_, if_neg h3_]) (key H locs hP hD hS)
            · refine lv_iload_n hx hb dM_tick_78 rfl (lv_at hl 3 rfl) ?_
              refine lv_iconst (v := 1) hx hb dM_tick_79 (by decide) ?_
              refine lv_iadd hx hb dM_tick_80 ?_
              refine lv_goto (tgt := 85) hx hb dM_tick_81 (by decide) ?_
              exact tk_top (by unfold tkM_tick_v1; rw [if_neg h2_, if_pos h3_]) (key H locs hP hD hS)
        · refine lv_istore_n hx hb dM_tick_85 rfl hl (by decide) rfl (fun ls hl => ?_)
          have hl : lv_has ls 6 [(2, .int (tkM_tick_v1 g r)), (5, .int 3), (4, .int (g 19 (0 : Int32).toNatClampNeg)), (3, .int (nI i)), (0, .ref hm), (1, .int x0)] := hl
          refine lv_aload_n hx hb dM_tick_86 rfl (lv_at hl 4 rfl) ?_
          refine tk_callA hD hS hA (va_runV (As := []) (rest := []) ⟨hx, hb, hml, hown, hw⟩ (kM_follow l D hm ad cI cZ (tkM_tickOne_s (tkM_tickOne_s (tkM_tickOne_s g 0) 1) 2) H.size) (cwV 0 hw (tk_gV tkWM_good wM_M_169 wI_M_follow wS_M_follow wZ_M wC_M_follow) rfl rfl rfl (by decide +kernel) ⟨Nat.le_of_ble_eq_true rfl, Nat.le_of_ble_eq_true rfl⟩) (tk_preM hK hN hP hD) rfl rfl hl.1 rfl (lv_room (Nat.le_of_ble_eq_true rfl)) dM_tick_87 ⟨Nat.zero_le _, Nat.zero_le _⟩) (fun H locs hP hD hS => ?_)
          refine W.eq (g2 := F0 m 90 ls []) rfl ?_
          refine lv_iinc (k := 3) (v := nI (i + 1)) hx hb dM_tick_90 hl rfl (tk_inc _) (by decide) rfl (fun ls hl => ?_)
          have hl : lv_has ls 6 [(3, .int (nI (i + 1))), (2, .int (tkM_tick_v1 g r)), (5, .int 3), (4, .int (g 19 (0 : Int32).toNatClampNeg)), (0, .ref hm), (1, .int x0)] := hl
          refine lv_goto (tgt := 23) hx hb dM_tick_93 (by decide) ?_
          exact ih (i + 1) _ _ H locs ls (by omega) (by rw [← hF, tkM_ticks, if_pos h1_]; rfl) (lv_sub hl [0, 1, 4, 5] rfl) hP hD hS
  refine lv_aload_n hx hb dM_tick_0 rfl (lv_at hl 0 rfl) ?_
  refine lv_iload_n hx hb dM_tick_1 rfl (lv_at hl 1 rfl) ?_
  refine tk_mrg (D := D) (ws1 := (WM hm ad cI cZ g0)) (g2 := F0 m 16 ls [.int (tkM_tick_v2 g0 x0), .ref hm]) hD hS (fun key => ?_) (fun H locs hP hD hS => ?_)
  · refine lv_if_lt (tgt := 11) hx hb dM_tick_2 (by decide) (fun (h4_ : x0 < 0) => ?_) (fun (h4_ : ¬ (x0 < 0)) => ?_)
    · refine lv_iconst (v := 1) hx hb dM_tick_11 (by decide) ?_
      refine lv_goto (tgt := 16) hx hb dM_tick_12 (by decide) ?_
      exact tk_top (by unfold tkM_tick_v2; rw [if_pos h4_]) (key H locs hP hD hS)
    · refine lv_iload_n hx hb dM_tick_5 rfl (lv_at hl 1 rfl) ?_
      refine lv_bipush (v := 100) hx hb dM_tick_6 (by decide) ?_
      refine lv_icmp_le (tgt := 15) hx hb dM_tick_8 (by decide) (fun (h5_ : x0 ≤ 100) => ?_) (fun (h5_ : ¬ (x0 ≤ 100)) => ?_)
      · refine lv_iconst (v := 0) hx hb dM_tick_15 (by decide) ?_
        exact tk_top (by unfold tkM_tick_v2; rw [if_neg h4_, if_pos h5_]) (key H locs hP hD hS)
      · refine lv_iconst (v := 1) hx hb dM_tick_11 (by decide) ?_
        refine lv_goto (tgt := 16) hx hb dM_tick_12 (by decide) ?_
        exact tk_top (by unfold tkM_tick_v2; rw [if_neg h4_, if_neg h5_]) (key H locs hP hD hS)
  · refine va_put (D := D) (ci := 3) (v := .int (tkM_tick_v2 g0 x0)) (ty := .int) (C := RM) (T := TM) (N := 33) hx hb hw inM tyM tyM_ok nmM hown hK hP hD hS 0 rfl rfl 0 (by decide) f107 (fun _ h9 => h9) rfl (tyM_ok 0 (by decide)) rfl rfl (Nat.le_of_ble_eq_true rfl) dM_tick_16 (fun H locs hP hD hS => ?_)
    have hP : va_P D vwCl (WM hm ad cI cZ (tk_up g0 0 (fun _ => tkM_tick_v2 g0 x0))) H := hP
    have hD : va_D A (WM hm ad cI cZ (tk_up g0 0 (fun _ => tkM_tick_v2 g0 x0))) := hD
    refine lv_iconst (v := 0) hx hb dM_tick_19 (by decide) ?_
    refine lv_istore_n hx hb dM_tick_20 rfl hl (by decide) rfl (fun ls hl => ?_)
    have hl : lv_has ls 6 [(2, .int 0), (0, .ref hm), (1, .int x0)] := hl
    refine lv_iconst (v := 0) hx hb dM_tick_21 (by decide) ?_
    refine lv_istore_n hx hb dM_tick_22 rfl hl (by decide) rfl (fun ls hl => ?_)
    have hl : lv_has ls 6 [(3, .int 0), (2, .int 0), (0, .ref hm), (1, .int x0)] := hl
    exact loop x0.toInt.toNat 0 _ _ H locs ls (by omega) rfl (lv_sub hl [0, 1, 2, 3] rfl) hP hD hS
def tkM_acknowledge_r (g : Nat → Nat → Int32) : Int32 :=
  if g 7 (0 : Int32).toNatClampNeg = 0 then 0
  else if 0 ≤ tkM_choice_r (tk_up g 0 (fun _ => 0)) 0 then (if tkM_choice_r (tk_up g 0 (fun _ => 0)) 0 < 0 then (if tkM_choice_r (tk_up g 0 (fun _ => 0)) 0 = 2 then (if g 9 (0 : Int32).toNatClampNeg = 0 then (if 0 ≤ tkM_choice_r (tk_up g 0 (fun _ => 0)) 1 then (g 5 (1 : Int32).toNatClampNeg) + (tkM_choice_r (tk_up g 0 (fun _ => 0)) 1)
            else (g 5 (1 : Int32).toNatClampNeg) + 7)
          else (g 5 (0 : Int32).toNatClampNeg) + (tkM_choice_r (tk_up g 0 (fun _ => 0)) 0))
        else (g 5 (0 : Int32).toNatClampNeg) + (tkM_choice_r (tk_up g 0 (fun _ => 0)) 0))
      else if tkM_choice_r (tk_up g 0 (fun _ => 0)) 0 = 2 then (if ((tkM_serve_s (tk_up g 0 (fun _ => 0)) 0 (tkM_choice_r (tk_up g 0 (fun _ => 0)) 0)) 9) (0 : Int32).toNatClampNeg = 0 then (if 0 ≤ tkM_choice_r (tkM_serve_s (tk_up g 0 (fun _ => 0)) 0 (tkM_choice_r (tk_up g 0 (fun _ => 0)) 0)) 1 then (((tkM_serve_s (tk_up g 0 (fun _ => 0)) 0 (tkM_choice_r (tk_up g 0 (fun _ => 0)) 0)) 5) (1 : Int32).toNatClampNeg) + (tkM_choice_r (tkM_serve_s (tk_up g 0 (fun _ => 0)) 0 (tkM_choice_r (tk_up g 0 (fun _ => 0)) 0)) 1)
            else (((tkM_serve_s (tk_up g 0 (fun _ => 0)) 0 (tkM_choice_r (tk_up g 0 (fun _ => 0)) 0)) 5) (1 : Int32).toNatClampNeg) + 7)
          else (g 5 (0 : Int32).toNatClampNeg) + (tkM_choice_r (tk_up g 0 (fun _ => 0)) 0))
        else (g 5 (0 : Int32).toNatClampNeg) + (tkM_choice_r (tk_up g 0 (fun _ => 0)) 0))
    else if tkM_choice_r (tk_up g 0 (fun _ => 0)) 0 < 0 then (if tkM_choice_r (tk_up g 0 (fun _ => 0)) 0 = 2 then (if g 9 (0 : Int32).toNatClampNeg = 0 then (if 0 ≤ tkM_choice_r (tk_up g 0 (fun _ => 0)) 1 then (g 5 (1 : Int32).toNatClampNeg) + (tkM_choice_r (tk_up g 0 (fun _ => 0)) 1)
            else (g 5 (1 : Int32).toNatClampNeg) + 7)
          else (g 5 (0 : Int32).toNatClampNeg) + 7)
        else (g 5 (0 : Int32).toNatClampNeg) + 7)
      else if tkM_choice_r (tk_up g 0 (fun _ => 0)) 0 = 2 then (if ((tkM_serve_s (tk_up g 0 (fun _ => 0)) 0 (tkM_choice_r (tk_up g 0 (fun _ => 0)) 0)) 9) (0 : Int32).toNatClampNeg = 0 then (if 0 ≤ tkM_choice_r (tkM_serve_s (tk_up g 0 (fun _ => 0)) 0 (tkM_choice_r (tk_up g 0 (fun _ => 0)) 0)) 1 then (((tkM_serve_s (tk_up g 0 (fun _ => 0)) 0 (tkM_choice_r (tk_up g 0 (fun _ => 0)) 0)) 5) (1 : Int32).toNatClampNeg) + (tkM_choice_r (tkM_serve_s (tk_up g 0 (fun _ => 0)) 0 (tkM_choice_r (tk_up g 0 (fun _ => 0)) 0)) 1)
            else (((tkM_serve_s (tk_up g 0 (fun _ => 0)) 0 (tkM_choice_r (tk_up g 0 (fun _ => 0)) 0)) 5) (1 : Int32).toNatClampNeg) + 7)
          else (g 5 (0 : Int32).toNatClampNeg) + 7)
        else (g 5 (0 : Int32).toNatClampNeg) + 7
def tkM_acknowledge_s (g : Nat → Nat → Int32) : Nat → Nat → Int32 :=
  if g 7 (0 : Int32).toNatClampNeg = 0 then tk_up g 0 (fun _ => 1)
  else if tkM_choice_r (tk_up g 0 (fun _ => 0)) 0 < 0 then (if tkM_choice_r (tk_up g 0 (fun _ => 0)) 0 = 2 then (if g 9 (0 : Int32).toNatClampNeg = 0 then (if tkM_choice_r (tk_up g 0 (fun _ => 0)) 1 < 0 then tkM_follow_s (tk_up g 0 (fun _ => 0))
          else tkM_follow_s (tkM_serve_s (tk_up g 0 (fun _ => 0)) 1 (tkM_choice_r (tk_up g 0 (fun _ => 0)) 1)))
        else tkM_follow_s (tk_up g 0 (fun _ => 0)))
      else tkM_follow_s (tk_up g 0 (fun _ => 0)))
    else if tkM_choice_r (tk_up g 0 (fun _ => 0)) 0 = 2 then (if ((tkM_serve_s (tk_up g 0 (fun _ => 0)) 0 (tkM_choice_r (tk_up g 0 (fun _ => 0)) 0)) 9) (0 : Int32).toNatClampNeg = 0 then (if tkM_choice_r (tkM_serve_s (tk_up g 0 (fun _ => 0)) 0 (tkM_choice_r (tk_up g 0 (fun _ => 0)) 0)) 1 < 0 then tkM_follow_s (tkM_serve_s (tk_up g 0 (fun _ => 0)) 0 (tkM_choice_r (tk_up g 0 (fun _ => 0)) 0))
          else tkM_follow_s (tkM_serve_s (tkM_serve_s (tk_up g 0 (fun _ => 0)) 0 (tkM_choice_r (tk_up g 0 (fun _ => 0)) 0)) 1 (tkM_choice_r (tkM_serve_s (tk_up g 0 (fun _ => 0)) 0 (tkM_choice_r (tk_up g 0 (fun _ => 0)) 0)) 1)))
        else tkM_follow_s (tkM_serve_s (tk_up g 0 (fun _ => 0)) 0 (tkM_choice_r (tk_up g 0 (fun _ => 0)) 0)))
      else tkM_follow_s (tkM_serve_s (tk_up g 0 (fun _ => 0)) 0 (tkM_choice_r (tk_up g 0 (fun _ => 0)) 0))
set_option maxHeartbeats 1000000 in
set_option maxRecDepth 100000 in
theorem kM_acknowledge (l : Launch) (D : va_G) (hm : Nat) (ad : Nat → Nat) (cI cZ : ClassId) (g : Nat → Nat → Int32) : tk_M l yM_acknowledge wsM_acknowledge { frames := 3, cells := 0, slots := 0, locals := 67 } D [(cI, .int), (cZ, .boolean)] [.ref hm] (WM hm ad cI cZ g) (WM hm ad cI cZ (tkM_acknowledge_s g)) (some (.int (tkM_acknowledge_r g))) := by
  refine tk_M.of (cc := cM_acknowledge) (maxL := 4) (ret := (some .int)) (by decide) rfl (Nat.le_of_ble_eq_true rfl) ?_
  intro p e s m below meth co A H locs ls hB hK hN hA hP hD hS hl
  obtain ⟨hx, hb, hr, hml, hown, hlk, hnm, hts⟩ := hB
  have hown : s.vm.findClass RM = some m.cls := hown
  have hl : lv_has ls 4 [(0, .ref hm)] := hl
  have hw : ∀ w ∈ tkWM, w.before _ s = true := fun w h => hts w (List.mem_cons_of_mem _ h)
  have f28 := hw _ wF_M_28
  have f107 := hw _ wF_M_107
  have f22 := hw _ wF_M_22
  have f35 := hw _ wF_M_35
  refine lv_aload_n hx hb dM_acknowledge_0 rfl (lv_at hl 0 rfl) ?_
  refine lv_aload_n hx hb dM_acknowledge_1 rfl (lv_at hl 0 rfl) ?_
  refine va_get (D := D) (ci := 3) (v := .ref (ad 7)) (C := RM) (T := TM) (N := 33) hx hb hw inM hown hK hP 0 rfl rfl 7 (by decide) f28 (fun _ h9 => h9) rfl dM_acknowledge_2 ?_
  refine lv_iconst (v := 0) hx hb dM_acknowledge_5 (by decide) ?_
  refine tkld_7 hx hb hK hP (by unfold vp_in; decide) dM_acknowledge_6 ?_
  refine lv_if_eq (tgt := 14) hx hb dM_acknowledge_7 (by decide) (fun (h1_ : g 7 (0 : Int32).toNatClampNeg = 0) => ?_) (fun (h1_ : ¬ (g 7 (0 : Int32).toNatClampNeg = 0)) => ?_)
  · refine lv_iconst (v := 1) hx hb dM_acknowledge_14 (by decide) ?_
    refine va_put (D := D) (ci := 3) (v := .int 1) (ty := .int) (C := RM) (T := TM) (N := 33) hx hb hw inM tyM tyM_ok nmM hown hK hP hD hS 0 rfl rfl 0 (by decide) f107 (fun _ h9 => h9) rfl (tyM_ok 0 (by decide)) rfl rfl (Nat.le_of_ble_eq_true rfl) dM_acknowledge_15 (fun H locs hP hD hS => ?_)
    have hP : va_P D vwCl (WM hm ad cI cZ (tk_up g 0 (fun _ => 1))) H := hP
    have hD : va_D A (WM hm ad cI cZ (tk_up g 0 (fun _ => 1))) := hD
    refine lv_aload_n hx hb dM_acknowledge_18 rfl (lv_at hl 0 rfl) ?_
    refine va_get (D := D) (ci := 3) (v := .int 1) (C := RM) (T := TM) (N := 33) hx hb hw inM hown hK hP 0 rfl rfl 0 (by decide) f107 (fun _ h9 => h9) rfl dM_acknowledge_19 ?_
    refine lv_if_le (tgt := 27) hx hb dM_acknowledge_22 (by decide) (fun h => absurd h (by decide)) (fun _ => ?_)
    refine lv_iconst (v := 0) hx hb dM_acknowledge_25 (by decide) ?_
    exact tk_iret hx hb hr hlk hP hD hS dM_acknowledge_26 (by unfold tkM_acknowledge_r; rw [if_pos h1_]) (congrArg (WM hm ad cI cZ) (by unfold tkM_acknowledge_s; rw [if_pos h1_]))
  · refine lv_iconst (v := 0) hx hb dM_acknowledge_10 (by decide) ?_
    refine lv_goto (tgt := 15) hx hb dM_acknowledge_11 (by decide) ?_
    refine va_put (D := D) (ci := 3) (v := .int 0) (ty := .int) (C := RM) (T := TM) (N := 33) hx hb hw inM tyM tyM_ok nmM hown hK hP hD hS 0 rfl rfl 0 (by decide) f107 (fun _ h9 => h9) rfl (tyM_ok 0 (by decide)) rfl rfl (Nat.le_of_ble_eq_true rfl) dM_acknowledge_15 (fun H locs hP hD hS => ?_)
    have hP : va_P D vwCl (WM hm ad cI cZ (tk_up g 0 (fun _ => 0))) H := hP
    have hD : va_D A (WM hm ad cI cZ (tk_up g 0 (fun _ => 0))) := hD
    refine lv_aload_n hx hb dM_acknowledge_18 rfl (lv_at hl 0 rfl) ?_
    refine va_get (D := D) (ci := 3) (v := .int 0) (C := RM) (T := TM) (N := 33) hx hb hw inM hown hK hP 0 rfl rfl 0 (by decide) f107 (fun _ h9 => h9) rfl dM_acknowledge_19 ?_
    refine lv_if_le (tgt := 27) hx hb dM_acknowledge_22 (by decide) (fun _ => ?_) (fun h => absurd (by decide) h)
    refine lv_aload_n hx hb dM_acknowledge_27 rfl (lv_at hl 0 rfl) ?_
    refine lv_iconst (v := 0) hx hb dM_acknowledge_28 (by decide) ?_
    refine tk_callA hD hS hA (va_runV (As := [.int 0]) (rest := []) ⟨hx, hb, hml, hown, hw⟩ (kM_choice l D hm ad cI cZ (tk_up g 0 (fun _ => 0)) 0 (by unfold vp_in; decide) H.size) (cwV 1 hw (tk_gV tkWM_good wM_M_123 wI_M_choice wS_M_choice wZ_M wC_M_choice) rfl rfl rfl (by decide +kernel) ⟨Nat.le_of_ble_eq_true rfl, Nat.le_of_ble_eq_true rfl⟩) (tk_preM hK hN hP hD) rfl rfl hl.1 rfl (lv_room (Nat.le_of_ble_eq_true rfl)) dM_acknowledge_29 ⟨Nat.zero_le _, Nat.zero_le _⟩) (fun H locs hP hD hS => ?_)
    refine W.eq (g2 := F0 m 32 ls [.int (tkM_choice_r (tk_up g 0 (fun _ => 0)) 0)]) rfl ?_
    refine lv_istore_n hx hb dM_acknowledge_32 rfl hl (by decide) rfl (fun ls hl => ?_)
    have hl : lv_has ls 4 [(1, .int (tkM_choice_r (tk_up g 0 (fun _ => 0)) 0)), (0, .ref hm)] := hl
    refine lv_aload_n hx hb dM_acknowledge_33 rfl (lv_at hl 1 rfl) ?_
    refine va_get (D := D) (ci := 3) (v := .ref (ad 5)) (C := RM) (T := TM) (N := 33) hx hb hw inM hown hK hP 0 rfl rfl 5 (by decide) f22 (fun _ h9 => h9) rfl dM_acknowledge_34 ?_
    refine lv_iconst (v := 0) hx hb dM_acknowledge_37 (by decide) ?_
    refine tkld_5 hx hb hK hP (by unfold vp_in; decide) dM_acknowledge_38 ?_
    refine lv_iload_n hx hb dM_acknowledge_39 rfl (lv_at hl 0 rfl) ?_
    refine lv_if_ge (tgt := 48) hx hb dM_acknowledge_40 (by decide) (fun (h2_ : 0 ≤ tkM_choice_r (tk_up g 0 (fun _ => 0)) 0) => ?_) (fun (h2_ : ¬ (0 ≤ tkM_choice_r (tk_up g 0 (fun _ => 0)) 0)) => ?_)
    · refine lv_iload_n hx hb dM_acknowledge_48 rfl (lv_at hl 0 rfl) ?_
      refine lv_iadd hx hb dM_acknowledge_49 ?_
      refine lv_istore_n hx hb dM_acknowledge_50 rfl hl (by decide) rfl (fun ls hl => ?_)
      have hl : lv_has ls 4 [(2, .int ((g 5 (0 : Int32).toNatClampNeg) + (tkM_choice_r (tk_up g 0 (fun _ => 0)) 0))), (1, .int (tkM_choice_r (tk_up g 0 (fun _ => 0)) 0)), (0, .ref hm)] := hl
      refine lv_iload_n hx hb dM_acknowledge_51 rfl (lv_at hl 1 rfl) ?_
      refine lv_if_lt (tgt := 61) hx hb dM_acknowledge_52 (by decide) (fun (h3_ : tkM_choice_r (tk_up g 0 (fun _ => 0)) 0 < 0) => ?_) (fun (h3_ : ¬ (tkM_choice_r (tk_up g 0 (fun _ => 0)) 0 < 0)) => ?_)
      · refine lv_iload_n hx hb dM_acknowledge_61 rfl (lv_at hl 1 rfl) ?_
        refine lv_iconst (v := 2) hx hb dM_acknowledge_62 (by decide) ?_
        refine lv_icmp_ne (tgt := 109) hx hb dM_acknowledge_63 (by decide) (fun (h4_ : ¬ (tkM_choice_r (tk_up g 0 (fun _ => 0)) 0 = 2)) => ?_) (fun (h4_ : tkM_choice_r (tk_up g 0 (fun _ => 0)) 0 = 2) => ?_)
        · refine lv_aload_n hx hb dM_acknowledge_109 rfl (lv_at hl 2 rfl) ?_
          refine tk_callA hD hS hA (va_runV (As := []) (rest := []) ⟨hx, hb, hml, hown, hw⟩ (kM_follow l D hm ad cI cZ (tk_up g 0 (fun _ => 0)) H.size) (cwV 0 hw (tk_gV tkWM_good wM_M_169 wI_M_follow wS_M_follow wZ_M wC_M_follow) rfl rfl rfl (by decide +kernel) ⟨Nat.le_of_ble_eq_true rfl, Nat.le_of_ble_eq_true rfl⟩) (tk_preM hK hN hP hD) rfl rfl hl.1 rfl (lv_room (Nat.le_of_ble_eq_true rfl)) dM_acknowledge_110 ⟨Nat.zero_le _, Nat.zero_le _⟩) (fun H locs hP hD hS => ?_)
          refine W.eq (g2 := F0 m 113 ls []) rfl ?_
          refine lv_iload_n hx hb dM_acknowledge_113 rfl (lv_at hl 0 rfl) ?_
          exact tk_iret hx hb hr hlk hP hD hS dM_acknowledge_114 (by unfold tkM_acknowledge_r; rw [if_neg h1_, if_pos h2_, if_pos h3_, if_neg h4_]) (congrArg (WM hm ad cI cZ) (by unfold tkM_acknowledge_s; rw [if_neg h1_, if_pos h3_, if_neg h4_]))
        · refine lv_aload_n hx hb dM_acknowledge_66 rfl (lv_at hl 2 rfl) ?_
          refine va_get (D := D) (ci := 3) (v := .ref (ad 9)) (C := RM) (T := TM) (N := 33) hx hb hw inM hown hK hP 0 rfl rfl 9 (by decide) f35 (fun _ h9 => h9) rfl dM_acknowledge_67 ?_
          refine lv_iconst (v := 0) hx hb dM_acknowledge_70 (by decide) ?_
          refine tkld_9 hx hb hK hP (by unfold vp_in; decide) dM_acknowledge_71 ?_
          refine lv_if_ne (tgt := 109) hx hb dM_acknowledge_72 (by decide) (fun (h5_ : ¬ (g 9 (0 : Int32).toNatClampNeg = 0)) => ?_) (fun (h5_ : g 9 (0 : Int32).toNatClampNeg = 0) => ?_)
          · refine lv_aload_n hx hb dM_acknowledge_109 rfl (lv_at hl 2 rfl) ?_
            refine tk_callA hD hS hA (va_runV (As := []) (rest := []) ⟨hx, hb, hml, hown, hw⟩ (kM_follow l D hm ad cI cZ (tk_up g 0 (fun _ => 0)) H.size) (cwV 0 hw (tk_gV tkWM_good wM_M_169 wI_M_follow wS_M_follow wZ_M wC_M_follow) rfl rfl rfl (by decide +kernel) ⟨Nat.le_of_ble_eq_true rfl, Nat.le_of_ble_eq_true rfl⟩) (tk_preM hK hN hP hD) rfl rfl hl.1 rfl (lv_room (Nat.le_of_ble_eq_true rfl)) dM_acknowledge_110 ⟨Nat.zero_le _, Nat.zero_le _⟩) (fun H locs hP hD hS => ?_)
            refine W.eq (g2 := F0 m 113 ls []) rfl ?_
            refine lv_iload_n hx hb dM_acknowledge_113 rfl (lv_at hl 0 rfl) ?_
            exact tk_iret hx hb hr hlk hP hD hS dM_acknowledge_114 (by unfold tkM_acknowledge_r; rw [if_neg h1_, if_pos h2_, if_pos h3_, if_pos h4_, if_neg h5_]) (congrArg (WM hm ad cI cZ) (by unfold tkM_acknowledge_s; rw [if_neg h1_, if_pos h3_, if_pos h4_, if_neg h5_]))
          · refine lv_aload_n hx hb dM_acknowledge_75 rfl (lv_at hl 2 rfl) ?_
            refine lv_iconst (v := 1) hx hb dM_acknowledge_76 (by decide) ?_
            refine tk_callA hD hS hA (va_runV (As := [.int 1]) (rest := []) ⟨hx, hb, hml, hown, hw⟩ (kM_choice l D hm ad cI cZ (tk_up g 0 (fun _ => 0)) 1 (by unfold vp_in; decide) H.size) (cwV 1 hw (tk_gV tkWM_good wM_M_123 wI_M_choice wS_M_choice wZ_M wC_M_choice) rfl rfl rfl (by decide +kernel) ⟨Nat.le_of_ble_eq_true rfl, Nat.le_of_ble_eq_true rfl⟩) (tk_preM hK hN hP hD) rfl rfl hl.1 rfl (lv_room (Nat.le_of_ble_eq_true rfl)) dM_acknowledge_77 ⟨Nat.zero_le _, Nat.zero_le _⟩) (fun H locs hP hD hS => ?_)
            refine W.eq (g2 := F0 m 80 ls [.int (tkM_choice_r (tk_up g 0 (fun _ => 0)) 1)]) rfl ?_
            refine lv_istore_n hx hb dM_acknowledge_80 rfl hl (by decide) rfl (fun ls hl => ?_)
            have hl : lv_has ls 4 [(3, .int (tkM_choice_r (tk_up g 0 (fun _ => 0)) 1)), (2, .int ((g 5 (0 : Int32).toNatClampNeg) + (tkM_choice_r (tk_up g 0 (fun _ => 0)) 0))), (1, .int (tkM_choice_r (tk_up g 0 (fun _ => 0)) 0)), (0, .ref hm)] := hl
            refine lv_aload_n hx hb dM_acknowledge_81 rfl (lv_at hl 3 rfl) ?_
            refine va_get (D := D) (ci := 3) (v := .ref (ad 5)) (C := RM) (T := TM) (N := 33) hx hb hw inM hown hK hP 0 rfl rfl 5 (by decide) f22 (fun _ h9 => h9) rfl dM_acknowledge_82 ?_
            refine lv_iconst (v := 1) hx hb dM_acknowledge_85 (by decide) ?_
            refine tkld_5 hx hb hK hP (by unfold vp_in; decide) dM_acknowledge_86 ?_
            refine lv_iload_n hx hb dM_acknowledge_87 rfl (lv_at hl 0 rfl) ?_
            refine lv_if_ge (tgt := 96) hx hb dM_acknowledge_88 (by decide) (fun (h6_ : 0 ≤ tkM_choice_r (tk_up g 0 (fun _ => 0)) 1) => ?_) (fun (h6_ : ¬ (0 ≤ tkM_choice_r (tk_up g 0 (fun _ => 0)) 1)) => ?_)
            · refine lv_iload_n hx hb dM_acknowledge_96 rfl (lv_at hl 0 rfl) ?_
              refine lv_iadd hx hb dM_acknowledge_97 ?_
              refine lv_istore_n hx hb dM_acknowledge_98 rfl hl (by decide) rfl (fun ls hl => ?_)
              have hl : lv_has ls 4 [(2, .int ((g 5 (1 : Int32).toNatClampNeg) + (tkM_choice_r (tk_up g 0 (fun _ => 0)) 1))), (3, .int (tkM_choice_r (tk_up g 0 (fun _ => 0)) 1)), (1, .int (tkM_choice_r (tk_up g 0 (fun _ => 0)) 0)), (0, .ref hm)] := hl
              refine lv_iload_n hx hb dM_acknowledge_99 rfl (lv_at hl 1 rfl) ?_
              refine lv_if_lt (tgt := 109) hx hb dM_acknowledge_100 (by decide) (fun (h7_ : tkM_choice_r (tk_up g 0 (fun _ => 0)) 1 < 0) => ?_) (fun (h7_ : ¬ (tkM_choice_r (tk_up g 0 (fun _ => 0)) 1 < 0)) => ?_)
              · refine lv_aload_n hx hb dM_acknowledge_109 rfl (lv_at hl 3 rfl) ?_
                refine tk_callA hD hS hA (va_runV (As := []) (rest := []) ⟨hx, hb, hml, hown, hw⟩ (kM_follow l D hm ad cI cZ (tk_up g 0 (fun _ => 0)) H.size) (cwV 0 hw (tk_gV tkWM_good wM_M_169 wI_M_follow wS_M_follow wZ_M wC_M_follow) rfl rfl rfl (by decide +kernel) ⟨Nat.le_of_ble_eq_true rfl, Nat.le_of_ble_eq_true rfl⟩) (tk_preM hK hN hP hD) rfl rfl hl.1 rfl (lv_room (Nat.le_of_ble_eq_true rfl)) dM_acknowledge_110 ⟨Nat.zero_le _, Nat.zero_le _⟩) (fun H locs hP hD hS => ?_)
                refine W.eq (g2 := F0 m 113 ls []) rfl ?_
                refine lv_iload_n hx hb dM_acknowledge_113 rfl (lv_at hl 0 rfl) ?_
                exact tk_iret hx hb hr hlk hP hD hS dM_acknowledge_114 (by unfold tkM_acknowledge_r; rw [if_neg h1_, if_pos h2_, if_pos h3_, if_pos h4_, if_pos h5_, if_pos h6_]) (congrArg (WM hm ad cI cZ) (by unfold tkM_acknowledge_s; rw [if_neg h1_, if_pos h3_, if_pos h4_, if_pos h5_, if_pos h7_]))
              · refine lv_aload_n hx hb dM_acknowledge_103 rfl (lv_at hl 3 rfl) ?_
                refine lv_iconst (v := 1) hx hb dM_acknowledge_104 (by decide) ?_
                refine lv_iload_n hx hb dM_acknowledge_105 rfl (lv_at hl 1 rfl) ?_
                refine tk_callA hD hS hA (va_runV (As := [.int 1, .int (tkM_choice_r (tk_up g 0 (fun _ => 0)) 1)]) (rest := []) ⟨hx, hb, hml, hown, hw⟩ (kM_serve l D hm ad cI cZ (tk_up g 0 (fun _ => 0)) 1 (tkM_choice_r (tk_up g 0 (fun _ => 0)) 1) (by unfold vp_in; decide) H.size) (cwV 2 hw (tk_gV tkWM_good wM_M_136 wI_M_serve wS_M_serve wZ_M wC_M_serve) rfl rfl rfl (by decide +kernel) ⟨Nat.le_of_ble_eq_true rfl, Nat.le_of_ble_eq_true rfl⟩) (tk_preM hK hN hP hD) rfl rfl hl.1 rfl (lv_room (Nat.le_of_ble_eq_true rfl)) dM_acknowledge_106 ⟨Nat.zero_le _, Nat.zero_le _⟩) (fun H locs hP hD hS => ?_)
                refine W.eq (g2 := F0 m 109 ls []) rfl ?_
                refine lv_aload_n hx hb dM_acknowledge_109 rfl (lv_at hl 3 rfl) ?_
                refine tk_callA hD hS hA (va_runV (As := []) (rest := []) ⟨hx, hb, hml, hown, hw⟩ (kM_follow l D hm ad cI cZ (tkM_serve_s (tk_up g 0 (fun _ => 0)) 1 (tkM_choice_r (tk_up g 0 (fun _ => 0)) 1)) H.size) (cwV 0 hw (tk_gV tkWM_good wM_M_169 wI_M_follow wS_M_follow wZ_M wC_M_follow) rfl rfl rfl (by decide +kernel) ⟨Nat.le_of_ble_eq_true rfl, Nat.le_of_ble_eq_true rfl⟩) (tk_preM hK hN hP hD) rfl rfl hl.1 rfl (lv_room (Nat.le_of_ble_eq_true rfl)) dM_acknowledge_110 ⟨Nat.zero_le _, Nat.zero_le _⟩) (fun H locs hP hD hS => ?_)
                refine W.eq (g2 := F0 m 113 ls []) rfl ?_
                refine lv_iload_n hx hb dM_acknowledge_113 rfl (lv_at hl 0 rfl) ?_
                exact tk_iret hx hb hr hlk hP hD hS dM_acknowledge_114 (by unfold tkM_acknowledge_r; rw [if_neg h1_, if_pos h2_, if_pos h3_, if_pos h4_, if_pos h5_, if_pos h6_]) (congrArg (WM hm ad cI cZ) (by unfold tkM_acknowledge_s; rw [if_neg h1_, if_pos h3_, if_pos h4_, if_pos h5_, if_neg h7_]))
            · refine lv_bipush (v := 7) hx hb dM_acknowledge_91 (by decide) ?_
              refine lv_goto (tgt := 97) hx hb dM_acknowledge_93 (by decide) ?_
              refine lv_iadd hx hb dM_acknowledge_97 ?_
              refine lv_istore_n hx hb dM_acknowledge_98 rfl hl (by decide) rfl (fun ls hl => ?_)
              have hl : lv_has ls 4 [(2, .int ((g 5 (1 : Int32).toNatClampNeg) + 7)), (3, .int (tkM_choice_r (tk_up g 0 (fun _ => 0)) 1)), (1, .int (tkM_choice_r (tk_up g 0 (fun _ => 0)) 0)), (0, .ref hm)] := hl
              refine lv_iload_n hx hb dM_acknowledge_99 rfl (lv_at hl 1 rfl) ?_
              refine lv_if_lt (tgt := 109) hx hb dM_acknowledge_100 (by decide) (fun (h8_ : tkM_choice_r (tk_up g 0 (fun _ => 0)) 1 < 0) => ?_) (fun (h8_ : ¬ (tkM_choice_r (tk_up g 0 (fun _ => 0)) 1 < 0)) => ?_)
              · refine lv_aload_n hx hb dM_acknowledge_109 rfl (lv_at hl 3 rfl) ?_
                refine tk_callA hD hS hA (va_runV (As := []) (rest := []) ⟨hx, hb, hml, hown, hw⟩ (kM_follow l D hm ad cI cZ (tk_up g 0 (fun _ => 0)) H.size) (cwV 0 hw (tk_gV tkWM_good wM_M_169 wI_M_follow wS_M_follow wZ_M wC_M_follow) rfl rfl rfl (by decide +kernel) ⟨Nat.le_of_ble_eq_true rfl, Nat.le_of_ble_eq_true rfl⟩) (tk_preM hK hN hP hD) rfl rfl hl.1 rfl (lv_room (Nat.le_of_ble_eq_true rfl)) dM_acknowledge_110 ⟨Nat.zero_le _, Nat.zero_le _⟩) (fun H locs hP hD hS => ?_)
                refine W.eq (g2 := F0 m 113 ls []) rfl ?_
                refine lv_iload_n hx hb dM_acknowledge_113 rfl (lv_at hl 0 rfl) ?_
                exact tk_iret hx hb hr hlk hP hD hS dM_acknowledge_114 (by unfold tkM_acknowledge_r; rw [if_neg h1_, if_pos h2_, if_pos h3_, if_pos h4_, if_pos h5_, if_neg h6_]) (congrArg (WM hm ad cI cZ) (by unfold tkM_acknowledge_s; rw [if_neg h1_, if_pos h3_, if_pos h4_, if_pos h5_, if_pos h8_]))
              · refine lv_aload_n hx hb dM_acknowledge_103 rfl (lv_at hl 3 rfl) ?_
                refine lv_iconst (v := 1) hx hb dM_acknowledge_104 (by decide) ?_
                refine lv_iload_n hx hb dM_acknowledge_105 rfl (lv_at hl 1 rfl) ?_
                refine tk_callA hD hS hA (va_runV (As := [.int 1, .int (tkM_choice_r (tk_up g 0 (fun _ => 0)) 1)]) (rest := []) ⟨hx, hb, hml, hown, hw⟩ (kM_serve l D hm ad cI cZ (tk_up g 0 (fun _ => 0)) 1 (tkM_choice_r (tk_up g 0 (fun _ => 0)) 1) (by unfold vp_in; decide) H.size) (cwV 2 hw (tk_gV tkWM_good wM_M_136 wI_M_serve wS_M_serve wZ_M wC_M_serve) rfl rfl rfl (by decide +kernel) ⟨Nat.le_of_ble_eq_true rfl, Nat.le_of_ble_eq_true rfl⟩) (tk_preM hK hN hP hD) rfl rfl hl.1 rfl (lv_room (Nat.le_of_ble_eq_true rfl)) dM_acknowledge_106 ⟨Nat.zero_le _, Nat.zero_le _⟩) (fun H locs hP hD hS => ?_)
                refine W.eq (g2 := F0 m 109 ls []) rfl ?_
                refine lv_aload_n hx hb dM_acknowledge_109 rfl (lv_at hl 3 rfl) ?_
                refine tk_callA hD hS hA (va_runV (As := []) (rest := []) ⟨hx, hb, hml, hown, hw⟩ (kM_follow l D hm ad cI cZ (tkM_serve_s (tk_up g 0 (fun _ => 0)) 1 (tkM_choice_r (tk_up g 0 (fun _ => 0)) 1)) H.size) (cwV 0 hw (tk_gV tkWM_good wM_M_169 wI_M_follow wS_M_follow wZ_M wC_M_follow) rfl rfl rfl (by decide +kernel) ⟨Nat.le_of_ble_eq_true rfl, Nat.le_of_ble_eq_true rfl⟩) (tk_preM hK hN hP hD) rfl rfl hl.1 rfl (lv_room (Nat.le_of_ble_eq_true rfl)) dM_acknowledge_110 ⟨Nat.zero_le _, Nat.zero_le _⟩) (fun H locs hP hD hS => ?_)
                refine W.eq (g2 := F0 m 113 ls []) rfl ?_
                refine lv_iload_n hx hb dM_acknowledge_113 rfl (lv_at hl 0 rfl) ?_
                exact tk_iret hx hb hr hlk hP hD hS dM_acknowledge_114 (by unfold tkM_acknowledge_r; rw [if_neg h1_, if_pos h2_, if_pos h3_, if_pos h4_, if_pos h5_, if_neg h6_]) (congrArg (WM hm ad cI cZ) (by unfold tkM_acknowledge_s; rw [if_neg h1_, if_pos h3_, if_pos h4_, if_pos h5_, if_neg h8_]))
      · refine lv_aload_n hx hb dM_acknowledge_55 rfl (lv_at hl 2 rfl) ?_
        refine lv_iconst (v := 0) hx hb dM_acknowledge_56 (by decide) ?_
        refine lv_iload_n hx hb dM_acknowledge_57 rfl (lv_at hl 1 rfl) ?_
        refine tk_callA hD hS hA (va_runV (As := [.int 0, .int (tkM_choice_r (tk_up g 0 (fun _ => 0)) 0)]) (rest := []) ⟨hx, hb, hml, hown, hw⟩ (kM_serve l D hm ad cI cZ (tk_up g 0 (fun _ => 0)) 0 (tkM_choice_r (tk_up g 0 (fun _ => 0)) 0) (by unfold vp_in; decide) H.size) (cwV 2 hw (tk_gV tkWM_good wM_M_136 wI_M_serve wS_M_serve wZ_M wC_M_serve) rfl rfl rfl (by decide +kernel) ⟨Nat.le_of_ble_eq_true rfl, Nat.le_of_ble_eq_true rfl⟩) (tk_preM hK hN hP hD) rfl rfl hl.1 rfl (lv_room (Nat.le_of_ble_eq_true rfl)) dM_acknowledge_58 ⟨Nat.zero_le _, Nat.zero_le _⟩) (fun H locs hP hD hS => ?_)
        refine W.eq (g2 := F0 m 61 ls []) rfl ?_
        refine lv_iload_n hx hb dM_acknowledge_61 rfl (lv_at hl 1 rfl) ?_
        refine lv_iconst (v := 2) hx hb dM_acknowledge_62 (by decide) ?_
        refine lv_icmp_ne (tgt := 109) hx hb dM_acknowledge_63 (by decide) (fun (h9_ : ¬ (tkM_choice_r (tk_up g 0 (fun _ => 0)) 0 = 2)) => ?_) (fun (h9_ : tkM_choice_r (tk_up g 0 (fun _ => 0)) 0 = 2) => ?_)
        · refine lv_aload_n hx hb dM_acknowledge_109 rfl (lv_at hl 2 rfl) ?_
          refine tk_callA hD hS hA (va_runV (As := []) (rest := []) ⟨hx, hb, hml, hown, hw⟩ (kM_follow l D hm ad cI cZ (tkM_serve_s (tk_up g 0 (fun _ => 0)) 0 (tkM_choice_r (tk_up g 0 (fun _ => 0)) 0)) H.size) (cwV 0 hw (tk_gV tkWM_good wM_M_169 wI_M_follow wS_M_follow wZ_M wC_M_follow) rfl rfl rfl (by decide +kernel) ⟨Nat.le_of_ble_eq_true rfl, Nat.le_of_ble_eq_true rfl⟩) (tk_preM hK hN hP hD) rfl rfl hl.1 rfl (lv_room (Nat.le_of_ble_eq_true rfl)) dM_acknowledge_110 ⟨Nat.zero_le _, Nat.zero_le _⟩) (fun H locs hP hD hS => ?_)
          refine W.eq (g2 := F0 m 113 ls []) rfl ?_
          refine lv_iload_n hx hb dM_acknowledge_113 rfl (lv_at hl 0 rfl) ?_
          exact tk_iret hx hb hr hlk hP hD hS dM_acknowledge_114 (by unfold tkM_acknowledge_r; rw [if_neg h1_, if_pos h2_, if_neg h3_, if_neg h9_]) (congrArg (WM hm ad cI cZ) (by unfold tkM_acknowledge_s; rw [if_neg h1_, if_neg h3_, if_neg h9_]))
        · refine lv_aload_n hx hb dM_acknowledge_66 rfl (lv_at hl 2 rfl) ?_
          refine va_get (D := D) (ci := 3) (v := .ref (ad 9)) (C := RM) (T := TM) (N := 33) hx hb hw inM hown hK hP 0 rfl rfl 9 (by decide) f35 (fun _ h9 => h9) rfl dM_acknowledge_67 ?_
          refine lv_iconst (v := 0) hx hb dM_acknowledge_70 (by decide) ?_
          refine tkld_9 hx hb hK hP (by unfold vp_in; decide) dM_acknowledge_71 ?_
          refine lv_if_ne (tgt := 109) hx hb dM_acknowledge_72 (by decide) (fun (h10_ : ¬ (((tkM_serve_s (tk_up g 0 (fun _ => 0)) 0 (tkM_choice_r (tk_up g 0 (fun _ => 0)) 0)) 9) (0 : Int32).toNatClampNeg = 0)) => ?_) (fun (h10_ : ((tkM_serve_s (tk_up g 0 (fun _ => 0)) 0 (tkM_choice_r (tk_up g 0 (fun _ => 0)) 0)) 9) (0 : Int32).toNatClampNeg = 0) => ?_)
          · refine lv_aload_n hx hb dM_acknowledge_109 rfl (lv_at hl 2 rfl) ?_
            refine tk_callA hD hS hA (va_runV (As := []) (rest := []) ⟨hx, hb, hml, hown, hw⟩ (kM_follow l D hm ad cI cZ (tkM_serve_s (tk_up g 0 (fun _ => 0)) 0 (tkM_choice_r (tk_up g 0 (fun _ => 0)) 0)) H.size) (cwV 0 hw (tk_gV tkWM_good wM_M_169 wI_M_follow wS_M_follow wZ_M wC_M_follow) rfl rfl rfl (by decide +kernel) ⟨Nat.le_of_ble_eq_true rfl, Nat.le_of_ble_eq_true rfl⟩) (tk_preM hK hN hP hD) rfl rfl hl.1 rfl (lv_room (Nat.le_of_ble_eq_true rfl)) dM_acknowledge_110 ⟨Nat.zero_le _, Nat.zero_le _⟩) (fun H locs hP hD hS => ?_)
            refine W.eq (g2 := F0 m 113 ls []) rfl ?_
            refine lv_iload_n hx hb dM_acknowledge_113 rfl (lv_at hl 0 rfl) ?_
            exact tk_iret hx hb hr hlk hP hD hS dM_acknowledge_114 (by unfold tkM_acknowledge_r; rw [if_neg h1_, if_pos h2_, if_neg h3_, if_pos h9_, if_neg h10_]) (congrArg (WM hm ad cI cZ) (by unfold tkM_acknowledge_s; rw [if_neg h1_, if_neg h3_, if_pos h9_, if_neg h10_]))
          · refine lv_aload_n hx hb dM_acknowledge_75 rfl (lv_at hl 2 rfl) ?_
            refine lv_iconst (v := 1) hx hb dM_acknowledge_76 (by decide) ?_
            refine tk_callA hD hS hA (va_runV (As := [.int 1]) (rest := []) ⟨hx, hb, hml, hown, hw⟩ (kM_choice l D hm ad cI cZ (tkM_serve_s (tk_up g 0 (fun _ => 0)) 0 (tkM_choice_r (tk_up g 0 (fun _ => 0)) 0)) 1 (by unfold vp_in; decide) H.size) (cwV 1 hw (tk_gV tkWM_good wM_M_123 wI_M_choice wS_M_choice wZ_M wC_M_choice) rfl rfl rfl (by decide +kernel) ⟨Nat.le_of_ble_eq_true rfl, Nat.le_of_ble_eq_true rfl⟩) (tk_preM hK hN hP hD) rfl rfl hl.1 rfl (lv_room (Nat.le_of_ble_eq_true rfl)) dM_acknowledge_77 ⟨Nat.zero_le _, Nat.zero_le _⟩) (fun H locs hP hD hS => ?_)
            refine W.eq (g2 := F0 m 80 ls [.int (tkM_choice_r (tkM_serve_s (tk_up g 0 (fun _ => 0)) 0 (tkM_choice_r (tk_up g 0 (fun _ => 0)) 0)) 1)]) rfl ?_
            refine lv_istore_n hx hb dM_acknowledge_80 rfl hl (by decide) rfl (fun ls hl => ?_)
            have hl : lv_has ls 4 [(3, .int (tkM_choice_r (tkM_serve_s (tk_up g 0 (fun _ => 0)) 0 (tkM_choice_r (tk_up g 0 (fun _ => 0)) 0)) 1)), (2, .int ((g 5 (0 : Int32).toNatClampNeg) + (tkM_choice_r (tk_up g 0 (fun _ => 0)) 0))), (1, .int (tkM_choice_r (tk_up g 0 (fun _ => 0)) 0)), (0, .ref hm)] := hl
            refine lv_aload_n hx hb dM_acknowledge_81 rfl (lv_at hl 3 rfl) ?_
            refine va_get (D := D) (ci := 3) (v := .ref (ad 5)) (C := RM) (T := TM) (N := 33) hx hb hw inM hown hK hP 0 rfl rfl 5 (by decide) f22 (fun _ h9 => h9) rfl dM_acknowledge_82 ?_
            refine lv_iconst (v := 1) hx hb dM_acknowledge_85 (by decide) ?_
            refine tkld_5 hx hb hK hP (by unfold vp_in; decide) dM_acknowledge_86 ?_
            refine lv_iload_n hx hb dM_acknowledge_87 rfl (lv_at hl 0 rfl) ?_
            refine lv_if_ge (tgt := 96) hx hb dM_acknowledge_88 (by decide) (fun (h11_ : 0 ≤ tkM_choice_r (tkM_serve_s (tk_up g 0 (fun _ => 0)) 0 (tkM_choice_r (tk_up g 0 (fun _ => 0)) 0)) 1) => ?_) (fun (h11_ : ¬ (0 ≤ tkM_choice_r (tkM_serve_s (tk_up g 0 (fun _ => 0)) 0 (tkM_choice_r (tk_up g 0 (fun _ => 0)) 0)) 1)) => ?_)
            · refine lv_iload_n hx hb dM_acknowledge_96 rfl (lv_at hl 0 rfl) ?_
              refine lv_iadd hx hb dM_acknowledge_97 ?_
              refine lv_istore_n hx hb dM_acknowledge_98 rfl hl (by decide) rfl (fun ls hl => ?_)
              have hl : lv_has ls 4 [(2, .int ((((tkM_serve_s (tk_up g 0 (fun _ => 0)) 0 (tkM_choice_r (tk_up g 0 (fun _ => 0)) 0)) 5) (1 : Int32).toNatClampNeg) + (tkM_choice_r (tkM_serve_s (tk_up g 0 (fun _ => 0)) 0 (tkM_choice_r (tk_up g 0 (fun _ => 0)) 0)) 1))), (3, .int (tkM_choice_r (tkM_serve_s (tk_up g 0 (fun _ => 0)) 0 (tkM_choice_r (tk_up g 0 (fun _ => 0)) 0)) 1)), (1, .int (tkM_choice_r (tk_up g 0 (fun _ => 0)) 0)), (0, .ref hm)] := hl
              refine lv_iload_n hx hb dM_acknowledge_99 rfl (lv_at hl 1 rfl) ?_
              refine lv_if_lt (tgt := 109) hx hb dM_acknowledge_100 (by decide) (fun (h12_ : tkM_choice_r (tkM_serve_s (tk_up g 0 (fun _ => 0)) 0 (tkM_choice_r (tk_up g 0 (fun _ => 0)) 0)) 1 < 0) => ?_) (fun (h12_ : ¬ (tkM_choice_r (tkM_serve_s (tk_up g 0 (fun _ => 0)) 0 (tkM_choice_r (tk_up g 0 (fun _ => 0)) 0)) 1 < 0)) => ?_)
              · refine lv_aload_n hx hb dM_acknowledge_109 rfl (lv_at hl 3 rfl) ?_
                refine tk_callA hD hS hA (va_runV (As := []) (rest := []) ⟨hx, hb, hml, hown, hw⟩ (kM_follow l D hm ad cI cZ (tkM_serve_s (tk_up g 0 (fun _ => 0)) 0 (tkM_choice_r (tk_up g 0 (fun _ => 0)) 0)) H.size) (cwV 0 hw (tk_gV tkWM_good wM_M_169 wI_M_follow wS_M_follow wZ_M wC_M_follow) rfl rfl rfl (by decide +kernel) ⟨Nat.le_of_ble_eq_true rfl, Nat.le_of_ble_eq_true rfl⟩) (tk_preM hK hN hP hD) rfl rfl hl.1 rfl (lv_room (Nat.le_of_ble_eq_true rfl)) dM_acknowledge_110 ⟨Nat.zero_le _, Nat.zero_le _⟩) (fun H locs hP hD hS => ?_)
                refine W.eq (g2 := F0 m 113 ls []) rfl ?_
                refine lv_iload_n hx hb dM_acknowledge_113 rfl (lv_at hl 0 rfl) ?_
                exact tk_iret hx hb hr hlk hP hD hS dM_acknowledge_114 (by unfold tkM_acknowledge_r; rw [if_neg h1_, if_pos h2_, if_neg h3_, if_pos h9_, if_pos h10_, if_pos h11_]) (congrArg (WM hm ad cI cZ) (by unfold tkM_acknowledge_s; rw [if_neg h1_, if_neg h3_, if_pos h9_, if_pos h10_, if_pos h12_]))
              · refine lv_aload_n hx hb dM_acknowledge_103 rfl (lv_at hl 3 rfl) ?_
                refine lv_iconst (v := 1) hx hb dM_acknowledge_104 (by decide) ?_
                refine lv_iload_n hx hb dM_acknowledge_105 rfl (lv_at hl 1 rfl) ?_
                refine tk_callA hD hS hA (va_runV (As := [.int 1, .int (tkM_choice_r (tkM_serve_s (tk_up g 0 (fun _ => 0)) 0 (tkM_choice_r (tk_up g 0 (fun _ => 0)) 0)) 1)]) (rest := []) ⟨hx, hb, hml, hown, hw⟩ (kM_serve l D hm ad cI cZ (tkM_serve_s (tk_up g 0 (fun _ => 0)) 0 (tkM_choice_r (tk_up g 0 (fun _ => 0)) 0)) 1 (tkM_choice_r (tkM_serve_s (tk_up g 0 (fun _ => 0)) 0 (tkM_choice_r (tk_up g 0 (fun _ => 0)) 0)) 1) (by unfold vp_in; decide) H.size) (cwV 2 hw (tk_gV tkWM_good wM_M_136 wI_M_serve wS_M_serve wZ_M wC_M_serve) rfl rfl rfl (by decide +kernel) ⟨Nat.le_of_ble_eq_true rfl, Nat.le_of_ble_eq_true rfl⟩) (tk_preM hK hN hP hD) rfl rfl hl.1 rfl (lv_room (Nat.le_of_ble_eq_true rfl)) dM_acknowledge_106 ⟨Nat.zero_le _, Nat.zero_le _⟩) (fun H locs hP hD hS => ?_)
                refine W.eq (g2 := F0 m 109 ls []) rfl ?_
                refine lv_aload_n hx hb dM_acknowledge_109 rfl (lv_at hl 3 rfl) ?_
                refine tk_callA hD hS hA (va_runV (As := []) (rest := []) ⟨hx, hb, hml, hown, hw⟩ (kM_follow l D hm ad cI cZ (tkM_serve_s (tkM_serve_s (tk_up g 0 (fun _ => 0)) 0 (tkM_choice_r (tk_up g 0 (fun _ => 0)) 0)) 1 (tkM_choice_r (tkM_serve_s (tk_up g 0 (fun _ => 0)) 0 (tkM_choice_r (tk_up g 0 (fun _ => 0)) 0)) 1)) H.size) (cwV 0 hw (tk_gV tkWM_good wM_M_169 wI_M_follow wS_M_follow wZ_M wC_M_follow) rfl rfl rfl (by decide +kernel) ⟨Nat.le_of_ble_eq_true rfl, Nat.le_of_ble_eq_true rfl⟩) (tk_preM hK hN hP hD) rfl rfl hl.1 rfl (lv_room (Nat.le_of_ble_eq_true rfl)) dM_acknowledge_110 ⟨Nat.zero_le _, Nat.zero_le _⟩) (fun H locs hP hD hS => ?_)
                refine W.eq (g2 := F0 m 113 ls []) rfl ?_
                refine lv_iload_n hx hb dM_acknowledge_113 rfl (lv_at hl 0 rfl) ?_
                exact tk_iret hx hb hr hlk hP hD hS dM_acknowledge_114 (by unfold tkM_acknowledge_r; rw [if_neg h1_, if_pos h2_, if_neg h3_, if_pos h9_, if_pos h10_, if_pos h11_]) (congrArg (WM hm ad cI cZ) (by unfold tkM_acknowledge_s; rw [if_neg h1_, if_neg h3_, if_pos h9_, if_pos h10_, if_neg h12_]))
            · refine lv_bipush (v := 7) hx hb dM_acknowledge_91 (by decide) ?_
              refine lv_goto (tgt := 97) hx hb dM_acknowledge_93 (by decide) ?_
              refine lv_iadd hx hb dM_acknowledge_97 ?_
              refine lv_istore_n hx hb dM_acknowledge_98 rfl hl (by decide) rfl (fun ls hl => ?_)
              have hl : lv_has ls 4 [(2, .int ((((tkM_serve_s (tk_up g 0 (fun _ => 0)) 0 (tkM_choice_r (tk_up g 0 (fun _ => 0)) 0)) 5) (1 : Int32).toNatClampNeg) + 7)), (3, .int (tkM_choice_r (tkM_serve_s (tk_up g 0 (fun _ => 0)) 0 (tkM_choice_r (tk_up g 0 (fun _ => 0)) 0)) 1)), (1, .int (tkM_choice_r (tk_up g 0 (fun _ => 0)) 0)), (0, .ref hm)] := hl
              refine lv_iload_n hx hb dM_acknowledge_99 rfl (lv_at hl 1 rfl) ?_
              refine lv_if_lt (tgt := 109) hx hb dM_acknowledge_100 (by decide) (fun (h13_ : tkM_choice_r (tkM_serve_s (tk_up g 0 (fun _ => 0)) 0 (tkM_choice_r (tk_up g 0 (fun _ => 0)) 0)) 1 < 0) => ?_) (fun (h13_ : ¬ (tkM_choice_r (tkM_serve_s (tk_up g 0 (fun _ => 0)) 0 (tkM_choice_r (tk_up g 0 (fun _ => 0)) 0)) 1 < 0)) => ?_)
              · refine lv_aload_n hx hb dM_acknowledge_109 rfl (lv_at hl 3 rfl) ?_
                refine tk_callA hD hS hA (va_runV (As := []) (rest := []) ⟨hx, hb, hml, hown, hw⟩ (kM_follow l D hm ad cI cZ (tkM_serve_s (tk_up g 0 (fun _ => 0)) 0 (tkM_choice_r (tk_up g 0 (fun _ => 0)) 0)) H.size) (cwV 0 hw (tk_gV tkWM_good wM_M_169 wI_M_follow wS_M_follow wZ_M wC_M_follow) rfl rfl rfl (by decide +kernel) ⟨Nat.le_of_ble_eq_true rfl, Nat.le_of_ble_eq_true rfl⟩) (tk_preM hK hN hP hD) rfl rfl hl.1 rfl (lv_room (Nat.le_of_ble_eq_true rfl)) dM_acknowledge_110 ⟨Nat.zero_le _, Nat.zero_le _⟩) (fun H locs hP hD hS => ?_)
                refine W.eq (g2 := F0 m 113 ls []) rfl ?_
                refine lv_iload_n hx hb dM_acknowledge_113 rfl (lv_at hl 0 rfl) ?_
                exact tk_iret hx hb hr hlk hP hD hS dM_acknowledge_114 (by unfold tkM_acknowledge_r; rw [if_neg h1_, if_pos h2_, if_neg h3_, if_pos h9_, if_pos h10_, if_neg h11_]) (congrArg (WM hm ad cI cZ) (by unfold tkM_acknowledge_s; rw [if_neg h1_, if_neg h3_, if_pos h9_, if_pos h10_, if_pos h13_]))
              · refine lv_aload_n hx hb dM_acknowledge_103 rfl (lv_at hl 3 rfl) ?_
                refine lv_iconst (v := 1) hx hb dM_acknowledge_104 (by decide) ?_
                refine lv_iload_n hx hb dM_acknowledge_105 rfl (lv_at hl 1 rfl) ?_
                refine tk_callA hD hS hA (va_runV (As := [.int 1, .int (tkM_choice_r (tkM_serve_s (tk_up g 0 (fun _ => 0)) 0 (tkM_choice_r (tk_up g 0 (fun _ => 0)) 0)) 1)]) (rest := []) ⟨hx, hb, hml, hown, hw⟩ (kM_serve l D hm ad cI cZ (tkM_serve_s (tk_up g 0 (fun _ => 0)) 0 (tkM_choice_r (tk_up g 0 (fun _ => 0)) 0)) 1 (tkM_choice_r (tkM_serve_s (tk_up g 0 (fun _ => 0)) 0 (tkM_choice_r (tk_up g 0 (fun _ => 0)) 0)) 1) (by unfold vp_in; decide) H.size) (cwV 2 hw (tk_gV tkWM_good wM_M_136 wI_M_serve wS_M_serve wZ_M wC_M_serve) rfl rfl rfl (by decide +kernel) ⟨Nat.le_of_ble_eq_true rfl, Nat.le_of_ble_eq_true rfl⟩) (tk_preM hK hN hP hD) rfl rfl hl.1 rfl (lv_room (Nat.le_of_ble_eq_true rfl)) dM_acknowledge_106 ⟨Nat.zero_le _, Nat.zero_le _⟩) (fun H locs hP hD hS => ?_)
                refine W.eq (g2 := F0 m 109 ls []) rfl ?_
                refine lv_aload_n hx hb dM_acknowledge_109 rfl (lv_at hl 3 rfl) ?_
                refine tk_callA hD hS hA (va_runV (As := []) (rest := []) ⟨hx, hb, hml, hown, hw⟩ (kM_follow l D hm ad cI cZ (tkM_serve_s (tkM_serve_s (tk_up g 0 (fun _ => 0)) 0 (tkM_choice_r (tk_up g 0 (fun _ => 0)) 0)) 1 (tkM_choice_r (tkM_serve_s (tk_up g 0 (fun _ => 0)) 0 (tkM_choice_r (tk_up g 0 (fun _ => 0)) 0)) 1)) H.size) (cwV 0 hw (tk_gV tkWM_good wM_M_169 wI_M_follow wS_M_follow wZ_M wC_M_follow) rfl rfl rfl (by decide +kernel) ⟨Nat.le_of_ble_eq_true rfl, Nat.le_of_ble_eq_true rfl⟩) (tk_preM hK hN hP hD) rfl rfl hl.1 rfl (lv_room (Nat.le_of_ble_eq_true rfl)) dM_acknowledge_110 ⟨Nat.zero_le _, Nat.zero_le _⟩) (fun H locs hP hD hS => ?_)
                refine W.eq (g2 := F0 m 113 ls []) rfl ?_
                refine lv_iload_n hx hb dM_acknowledge_113 rfl (lv_at hl 0 rfl) ?_
                exact tk_iret hx hb hr hlk hP hD hS dM_acknowledge_114 (by unfold tkM_acknowledge_r; rw [if_neg h1_, if_pos h2_, if_neg h3_, if_pos h9_, if_pos h10_, if_neg h11_]) (congrArg (WM hm ad cI cZ) (by unfold tkM_acknowledge_s; rw [if_neg h1_, if_neg h3_, if_pos h9_, if_pos h10_, if_neg h13_]))
    · refine lv_bipush (v := 7) hx hb dM_acknowledge_43 (by decide) ?_
      refine lv_goto (tgt := 49) hx hb dM_acknowledge_45 (by decide) ?_
      refine lv_iadd hx hb dM_acknowledge_49 ?_
      refine lv_istore_n hx hb dM_acknowledge_50 rfl hl (by decide) rfl (fun ls hl => ?_)
      have hl : lv_has ls 4 [(2, .int ((g 5 (0 : Int32).toNatClampNeg) + 7)), (1, .int (tkM_choice_r (tk_up g 0 (fun _ => 0)) 0)), (0, .ref hm)] := hl
      refine lv_iload_n hx hb dM_acknowledge_51 rfl (lv_at hl 1 rfl) ?_
      refine lv_if_lt (tgt := 61) hx hb dM_acknowledge_52 (by decide) (fun (h14_ : tkM_choice_r (tk_up g 0 (fun _ => 0)) 0 < 0) => ?_) (fun (h14_ : ¬ (tkM_choice_r (tk_up g 0 (fun _ => 0)) 0 < 0)) => ?_)
      · refine lv_iload_n hx hb dM_acknowledge_61 rfl (lv_at hl 1 rfl) ?_
        refine lv_iconst (v := 2) hx hb dM_acknowledge_62 (by decide) ?_
        refine lv_icmp_ne (tgt := 109) hx hb dM_acknowledge_63 (by decide) (fun (h15_ : ¬ (tkM_choice_r (tk_up g 0 (fun _ => 0)) 0 = 2)) => ?_) (fun (h15_ : tkM_choice_r (tk_up g 0 (fun _ => 0)) 0 = 2) => ?_)
        · refine lv_aload_n hx hb dM_acknowledge_109 rfl (lv_at hl 2 rfl) ?_
          refine tk_callA hD hS hA (va_runV (As := []) (rest := []) ⟨hx, hb, hml, hown, hw⟩ (kM_follow l D hm ad cI cZ (tk_up g 0 (fun _ => 0)) H.size) (cwV 0 hw (tk_gV tkWM_good wM_M_169 wI_M_follow wS_M_follow wZ_M wC_M_follow) rfl rfl rfl (by decide +kernel) ⟨Nat.le_of_ble_eq_true rfl, Nat.le_of_ble_eq_true rfl⟩) (tk_preM hK hN hP hD) rfl rfl hl.1 rfl (lv_room (Nat.le_of_ble_eq_true rfl)) dM_acknowledge_110 ⟨Nat.zero_le _, Nat.zero_le _⟩) (fun H locs hP hD hS => ?_)
          refine W.eq (g2 := F0 m 113 ls []) rfl ?_
          refine lv_iload_n hx hb dM_acknowledge_113 rfl (lv_at hl 0 rfl) ?_
          exact tk_iret hx hb hr hlk hP hD hS dM_acknowledge_114 (by unfold tkM_acknowledge_r; rw [if_neg h1_, if_neg h2_, if_pos h14_, if_neg h15_]) (congrArg (WM hm ad cI cZ) (by unfold tkM_acknowledge_s; rw [if_neg h1_, if_pos h14_, if_neg h15_]))
        · refine lv_aload_n hx hb dM_acknowledge_66 rfl (lv_at hl 2 rfl) ?_
          refine va_get (D := D) (ci := 3) (v := .ref (ad 9)) (C := RM) (T := TM) (N := 33) hx hb hw inM hown hK hP 0 rfl rfl 9 (by decide) f35 (fun _ h9 => h9) rfl dM_acknowledge_67 ?_
          refine lv_iconst (v := 0) hx hb dM_acknowledge_70 (by decide) ?_
          refine tkld_9 hx hb hK hP (by unfold vp_in; decide) dM_acknowledge_71 ?_
          refine lv_if_ne (tgt := 109) hx hb dM_acknowledge_72 (by decide) (fun (h16_ : ¬ (g 9 (0 : Int32).toNatClampNeg = 0)) => ?_) (fun (h16_ : g 9 (0 : Int32).toNatClampNeg = 0) => ?_)
          · refine lv_aload_n hx hb dM_acknowledge_109 rfl (lv_at hl 2 rfl) ?_
            refine tk_callA hD hS hA (va_runV (As := []) (rest := []) ⟨hx, hb, hml, hown, hw⟩ (kM_follow l D hm ad cI cZ (tk_up g 0 (fun _ => 0)) H.size) (cwV 0 hw (tk_gV tkWM_good wM_M_169 wI_M_follow wS_M_follow wZ_M wC_M_follow) rfl rfl rfl (by decide +kernel) ⟨Nat.le_of_ble_eq_true rfl, Nat.le_of_ble_eq_true rfl⟩) (tk_preM hK hN hP hD) rfl rfl hl.1 rfl (lv_room (Nat.le_of_ble_eq_true rfl)) dM_acknowledge_110 ⟨Nat.zero_le _, Nat.zero_le _⟩) (fun H locs hP hD hS => ?_)
            refine W.eq (g2 := F0 m 113 ls []) rfl ?_
            refine lv_iload_n hx hb dM_acknowledge_113 rfl (lv_at hl 0 rfl) ?_
            exact tk_iret hx hb hr hlk hP hD hS dM_acknowledge_114 (by unfold tkM_acknowledge_r; rw [if_neg h1_, if_neg h2_, if_pos h14_, if_pos h15_, if_neg h16_]) (congrArg (WM hm ad cI cZ) (by unfold tkM_acknowledge_s; rw [if_neg h1_, if_pos h14_, if_pos h15_, if_neg h16_]))
          · refine lv_aload_n hx hb dM_acknowledge_75 rfl (lv_at hl 2 rfl) ?_
            refine lv_iconst (v := 1) hx hb dM_acknowledge_76 (by decide) ?_
            refine tk_callA hD hS hA (va_runV (As := [.int 1]) (rest := []) ⟨hx, hb, hml, hown, hw⟩ (kM_choice l D hm ad cI cZ (tk_up g 0 (fun _ => 0)) 1 (by unfold vp_in; decide) H.size) (cwV 1 hw (tk_gV tkWM_good wM_M_123 wI_M_choice wS_M_choice wZ_M wC_M_choice) rfl rfl rfl (by decide +kernel) ⟨Nat.le_of_ble_eq_true rfl, Nat.le_of_ble_eq_true rfl⟩) (tk_preM hK hN hP hD) rfl rfl hl.1 rfl (lv_room (Nat.le_of_ble_eq_true rfl)) dM_acknowledge_77 ⟨Nat.zero_le _, Nat.zero_le _⟩) (fun H locs hP hD hS => ?_)
            refine W.eq (g2 := F0 m 80 ls [.int (tkM_choice_r (tk_up g 0 (fun _ => 0)) 1)]) rfl ?_
            refine lv_istore_n hx hb dM_acknowledge_80 rfl hl (by decide) rfl (fun ls hl => ?_)
            have hl : lv_has ls 4 [(3, .int (tkM_choice_r (tk_up g 0 (fun _ => 0)) 1)), (2, .int ((g 5 (0 : Int32).toNatClampNeg) + 7)), (1, .int (tkM_choice_r (tk_up g 0 (fun _ => 0)) 0)), (0, .ref hm)] := hl
            refine lv_aload_n hx hb dM_acknowledge_81 rfl (lv_at hl 3 rfl) ?_
            refine va_get (D := D) (ci := 3) (v := .ref (ad 5)) (C := RM) (T := TM) (N := 33) hx hb hw inM hown hK hP 0 rfl rfl 5 (by decide) f22 (fun _ h9 => h9) rfl dM_acknowledge_82 ?_
            refine lv_iconst (v := 1) hx hb dM_acknowledge_85 (by decide) ?_
            refine tkld_5 hx hb hK hP (by unfold vp_in; decide) dM_acknowledge_86 ?_
            refine lv_iload_n hx hb dM_acknowledge_87 rfl (lv_at hl 0 rfl) ?_
            refine lv_if_ge (tgt := 96) hx hb dM_acknowledge_88 (by decide) (fun (h17_ : 0 ≤ tkM_choice_r (tk_up g 0 (fun _ => 0)) 1) => ?_) (fun (h17_ : ¬ (0 ≤ tkM_choice_r (tk_up g 0 (fun _ => 0)) 1)) => ?_)
            · refine lv_iload_n hx hb dM_acknowledge_96 rfl (lv_at hl 0 rfl) ?_
              refine lv_iadd hx hb dM_acknowledge_97 ?_
              refine lv_istore_n hx hb dM_acknowledge_98 rfl hl (by decide) rfl (fun ls hl => ?_)
              have hl : lv_has ls 4 [(2, .int ((g 5 (1 : Int32).toNatClampNeg) + (tkM_choice_r (tk_up g 0 (fun _ => 0)) 1))), (3, .int (tkM_choice_r (tk_up g 0 (fun _ => 0)) 1)), (1, .int (tkM_choice_r (tk_up g 0 (fun _ => 0)) 0)), (0, .ref hm)] := hl
              refine lv_iload_n hx hb dM_acknowledge_99 rfl (lv_at hl 1 rfl) ?_
              refine lv_if_lt (tgt := 109) hx hb dM_acknowledge_100 (by decide) (fun (h18_ : tkM_choice_r (tk_up g 0 (fun _ => 0)) 1 < 0) => ?_) (fun (h18_ : ¬ (tkM_choice_r (tk_up g 0 (fun _ => 0)) 1 < 0)) => ?_)
              · refine lv_aload_n hx hb dM_acknowledge_109 rfl (lv_at hl 3 rfl) ?_
                refine tk_callA hD hS hA (va_runV (As := []) (rest := []) ⟨hx, hb, hml, hown, hw⟩ (kM_follow l D hm ad cI cZ (tk_up g 0 (fun _ => 0)) H.size) (cwV 0 hw (tk_gV tkWM_good wM_M_169 wI_M_follow wS_M_follow wZ_M wC_M_follow) rfl rfl rfl (by decide +kernel) ⟨Nat.le_of_ble_eq_true rfl, Nat.le_of_ble_eq_true rfl⟩) (tk_preM hK hN hP hD) rfl rfl hl.1 rfl (lv_room (Nat.le_of_ble_eq_true rfl)) dM_acknowledge_110 ⟨Nat.zero_le _, Nat.zero_le _⟩) (fun H locs hP hD hS => ?_)
                refine W.eq (g2 := F0 m 113 ls []) rfl ?_
                refine lv_iload_n hx hb dM_acknowledge_113 rfl (lv_at hl 0 rfl) ?_
                exact tk_iret hx hb hr hlk hP hD hS dM_acknowledge_114 (by unfold tkM_acknowledge_r; rw [if_neg h1_, if_neg h2_, if_pos h14_, if_pos h15_, if_pos h16_, if_pos h17_]) (congrArg (WM hm ad cI cZ) (by unfold tkM_acknowledge_s; rw [if_neg h1_, if_pos h14_, if_pos h15_, if_pos h16_, if_pos h18_]))
              · refine lv_aload_n hx hb dM_acknowledge_103 rfl (lv_at hl 3 rfl) ?_
                refine lv_iconst (v := 1) hx hb dM_acknowledge_104 (by decide) ?_
                refine lv_iload_n hx hb dM_acknowledge_105 rfl (lv_at hl 1 rfl) ?_
                refine tk_callA hD hS hA (va_runV (As := [.int 1, .int (tkM_choice_r (tk_up g 0 (fun _ => 0)) 1)]) (rest := []) ⟨hx, hb, hml, hown, hw⟩ (kM_serve l D hm ad cI cZ (tk_up g 0 (fun _ => 0)) 1 (tkM_choice_r (tk_up g 0 (fun _ => 0)) 1) (by unfold vp_in; decide) H.size) (cwV 2 hw (tk_gV tkWM_good wM_M_136 wI_M_serve wS_M_serve wZ_M wC_M_serve) rfl rfl rfl (by decide +kernel) ⟨Nat.le_of_ble_eq_true rfl, Nat.le_of_ble_eq_true rfl⟩) (tk_preM hK hN hP hD) rfl rfl hl.1 rfl (lv_room (Nat.le_of_ble_eq_true rfl)) dM_acknowledge_106 ⟨Nat.zero_le _, Nat.zero_le _⟩) (fun H locs hP hD hS => ?_)
                refine W.eq (g2 := F0 m 109 ls []) rfl ?_
                refine lv_aload_n hx hb dM_acknowledge_109 rfl (lv_at hl 3 rfl) ?_
                refine tk_callA hD hS hA (va_runV (As := []) (rest := []) ⟨hx, hb, hml, hown, hw⟩ (kM_follow l D hm ad cI cZ (tkM_serve_s (tk_up g 0 (fun _ => 0)) 1 (tkM_choice_r (tk_up g 0 (fun _ => 0)) 1)) H.size) (cwV 0 hw (tk_gV tkWM_good wM_M_169 wI_M_follow wS_M_follow wZ_M wC_M_follow) rfl rfl rfl (by decide +kernel) ⟨Nat.le_of_ble_eq_true rfl, Nat.le_of_ble_eq_true rfl⟩) (tk_preM hK hN hP hD) rfl rfl hl.1 rfl (lv_room (Nat.le_of_ble_eq_true rfl)) dM_acknowledge_110 ⟨Nat.zero_le _, Nat.zero_le _⟩) (fun H locs hP hD hS => ?_)
                refine W.eq (g2 := F0 m 113 ls []) rfl ?_
                refine lv_iload_n hx hb dM_acknowledge_113 rfl (lv_at hl 0 rfl) ?_
                exact tk_iret hx hb hr hlk hP hD hS dM_acknowledge_114 (by unfold tkM_acknowledge_r; rw [if_neg h1_, if_neg h2_, if_pos h14_, if_pos h15_, if_pos h16_, if_pos h17_]) (congrArg (WM hm ad cI cZ) (by unfold tkM_acknowledge_s; rw [if_neg h1_, if_pos h14_, if_pos h15_, if_pos h16_, if_neg h18_]))
            · refine lv_bipush (v := 7) hx hb dM_acknowledge_91 (by decide) ?_
              refine lv_goto (tgt := 97) hx hb dM_acknowledge_93 (by decide) ?_
              refine lv_iadd hx hb dM_acknowledge_97 ?_
              refine lv_istore_n hx hb dM_acknowledge_98 rfl hl (by decide) rfl (fun ls hl => ?_)
              have hl : lv_has ls 4 [(2, .int ((g 5 (1 : Int32).toNatClampNeg) + 7)), (3, .int (tkM_choice_r (tk_up g 0 (fun _ => 0)) 1)), (1, .int (tkM_choice_r (tk_up g 0 (fun _ => 0)) 0)), (0, .ref hm)] := hl
              refine lv_iload_n hx hb dM_acknowledge_99 rfl (lv_at hl 1 rfl) ?_
              refine lv_if_lt (tgt := 109) hx hb dM_acknowledge_100 (by decide) (fun (h19_ : tkM_choice_r (tk_up g 0 (fun _ => 0)) 1 < 0) => ?_) (fun (h19_ : ¬ (tkM_choice_r (tk_up g 0 (fun _ => 0)) 1 < 0)) => ?_)
              · refine lv_aload_n hx hb dM_acknowledge_109 rfl (lv_at hl 3 rfl) ?_
                refine tk_callA hD hS hA (va_runV (As := []) (rest := []) ⟨hx, hb, hml, hown, hw⟩ (kM_follow l D hm ad cI cZ (tk_up g 0 (fun _ => 0)) H.size) (cwV 0 hw (tk_gV tkWM_good wM_M_169 wI_M_follow wS_M_follow wZ_M wC_M_follow) rfl rfl rfl (by decide +kernel) ⟨Nat.le_of_ble_eq_true rfl, Nat.le_of_ble_eq_true rfl⟩) (tk_preM hK hN hP hD) rfl rfl hl.1 rfl (lv_room (Nat.le_of_ble_eq_true rfl)) dM_acknowledge_110 ⟨Nat.zero_le _, Nat.zero_le _⟩) (fun H locs hP hD hS => ?_)
                refine W.eq (g2 := F0 m 113 ls []) rfl ?_
                refine lv_iload_n hx hb dM_acknowledge_113 rfl (lv_at hl 0 rfl) ?_
                exact tk_iret hx hb hr hlk hP hD hS dM_acknowledge_114 (by unfold tkM_acknowledge_r; rw [if_neg h1_, if_neg h2_, if_pos h14_, if_pos h15_, if_pos h16_, if_neg h17_]) (congrArg (WM hm ad cI cZ) (by unfold tkM_acknowledge_s; rw [if_neg h1_, if_pos h14_, if_pos h15_, if_pos h16_, if_pos h19_]))
              · refine lv_aload_n hx hb dM_acknowledge_103 rfl (lv_at hl 3 rfl) ?_
                refine lv_iconst (v := 1) hx hb dM_acknowledge_104 (by decide) ?_
                refine lv_iload_n hx hb dM_acknowledge_105 rfl (lv_at hl 1 rfl) ?_
                refine tk_callA hD hS hA (va_runV (As := [.int 1, .int (tkM_choice_r (tk_up g 0 (fun _ => 0)) 1)]) (rest := []) ⟨hx, hb, hml, hown, hw⟩ (kM_serve l D hm ad cI cZ (tk_up g 0 (fun _ => 0)) 1 (tkM_choice_r (tk_up g 0 (fun _ => 0)) 1) (by unfold vp_in; decide) H.size) (cwV 2 hw (tk_gV tkWM_good wM_M_136 wI_M_serve wS_M_serve wZ_M wC_M_serve) rfl rfl rfl (by decide +kernel) ⟨Nat.le_of_ble_eq_true rfl, Nat.le_of_ble_eq_true rfl⟩) (tk_preM hK hN hP hD) rfl rfl hl.1 rfl (lv_room (Nat.le_of_ble_eq_true rfl)) dM_acknowledge_106 ⟨Nat.zero_le _, Nat.zero_le _⟩) (fun H locs hP hD hS => ?_)
                refine W.eq (g2 := F0 m 109 ls []) rfl ?_
                refine lv_aload_n hx hb dM_acknowledge_109 rfl (lv_at hl 3 rfl) ?_
                refine tk_callA hD hS hA (va_runV (As := []) (rest := []) ⟨hx, hb, hml, hown, hw⟩ (kM_follow l D hm ad cI cZ (tkM_serve_s (tk_up g 0 (fun _ => 0)) 1 (tkM_choice_r (tk_up g 0 (fun _ => 0)) 1)) H.size) (cwV 0 hw (tk_gV tkWM_good wM_M_169 wI_M_follow wS_M_follow wZ_M wC_M_follow) rfl rfl rfl (by decide +kernel) ⟨Nat.le_of_ble_eq_true rfl, Nat.le_of_ble_eq_true rfl⟩) (tk_preM hK hN hP hD) rfl rfl hl.1 rfl (lv_room (Nat.le_of_ble_eq_true rfl)) dM_acknowledge_110 ⟨Nat.zero_le _, Nat.zero_le _⟩) (fun H locs hP hD hS => ?_)
                refine W.eq (g2 := F0 m 113 ls []) rfl ?_
                refine lv_iload_n hx hb dM_acknowledge_113 rfl (lv_at hl 0 rfl) ?_
                exact tk_iret hx hb hr hlk hP hD hS dM_acknowledge_114 (by unfold tkM_acknowledge_r; rw [if_neg h1_, if_neg h2_, if_pos h14_, if_pos h15_, if_pos h16_, if_neg h17_]) (congrArg (WM hm ad cI cZ) (by unfold tkM_acknowledge_s; rw [if_neg h1_, if_pos h14_, if_pos h15_, if_pos h16_, if_neg h19_]))
      · refine lv_aload_n hx hb dM_acknowledge_55 rfl (lv_at hl 2 rfl) ?_
        refine lv_iconst (v := 0) hx hb dM_acknowledge_56 (by decide) ?_
        refine lv_iload_n hx hb dM_acknowledge_57 rfl (lv_at hl 1 rfl) ?_
        refine tk_callA hD hS hA (va_runV (As := [.int 0, .int (tkM_choice_r (tk_up g 0 (fun _ => 0)) 0)]) (rest := []) ⟨hx, hb, hml, hown, hw⟩ (kM_serve l D hm ad cI cZ (tk_up g 0 (fun _ => 0)) 0 (tkM_choice_r (tk_up g 0 (fun _ => 0)) 0) (by unfold vp_in; decide) H.size) (cwV 2 hw (tk_gV tkWM_good wM_M_136 wI_M_serve wS_M_serve wZ_M wC_M_serve) rfl rfl rfl (by decide +kernel) ⟨Nat.le_of_ble_eq_true rfl, Nat.le_of_ble_eq_true rfl⟩) (tk_preM hK hN hP hD) rfl rfl hl.1 rfl (lv_room (Nat.le_of_ble_eq_true rfl)) dM_acknowledge_58 ⟨Nat.zero_le _, Nat.zero_le _⟩) (fun H locs hP hD hS => ?_)
        refine W.eq (g2 := F0 m 61 ls []) rfl ?_
        refine lv_iload_n hx hb dM_acknowledge_61 rfl (lv_at hl 1 rfl) ?_
        refine lv_iconst (v := 2) hx hb dM_acknowledge_62 (by decide) ?_
        refine lv_icmp_ne (tgt := 109) hx hb dM_acknowledge_63 (by decide) (fun (h20_ : ¬ (tkM_choice_r (tk_up g 0 (fun _ => 0)) 0 = 2)) => ?_) (fun (h20_ : tkM_choice_r (tk_up g 0 (fun _ => 0)) 0 = 2) => ?_)
        · refine lv_aload_n hx hb dM_acknowledge_109 rfl (lv_at hl 2 rfl) ?_
          refine tk_callA hD hS hA (va_runV (As := []) (rest := []) ⟨hx, hb, hml, hown, hw⟩ (kM_follow l D hm ad cI cZ (tkM_serve_s (tk_up g 0 (fun _ => 0)) 0 (tkM_choice_r (tk_up g 0 (fun _ => 0)) 0)) H.size) (cwV 0 hw (tk_gV tkWM_good wM_M_169 wI_M_follow wS_M_follow wZ_M wC_M_follow) rfl rfl rfl (by decide +kernel) ⟨Nat.le_of_ble_eq_true rfl, Nat.le_of_ble_eq_true rfl⟩) (tk_preM hK hN hP hD) rfl rfl hl.1 rfl (lv_room (Nat.le_of_ble_eq_true rfl)) dM_acknowledge_110 ⟨Nat.zero_le _, Nat.zero_le _⟩) (fun H locs hP hD hS => ?_)
          refine W.eq (g2 := F0 m 113 ls []) rfl ?_
          refine lv_iload_n hx hb dM_acknowledge_113 rfl (lv_at hl 0 rfl) ?_
          exact tk_iret hx hb hr hlk hP hD hS dM_acknowledge_114 (by unfold tkM_acknowledge_r; rw [if_neg h1_, if_neg h2_, if_neg h14_, if_neg h20_]) (congrArg (WM hm ad cI cZ) (by unfold tkM_acknowledge_s; rw [if_neg h1_, if_neg h14_, if_neg h20_]))
        · refine lv_aload_n hx hb dM_acknowledge_66 rfl (lv_at hl 2 rfl) ?_
          refine va_get (D := D) (ci := 3) (v := .ref (ad 9)) (C := RM) (T := TM) (N := 33) hx hb hw inM hown hK hP 0 rfl rfl 9 (by decide) f35 (fun _ h9 => h9) rfl dM_acknowledge_67 ?_
          refine lv_iconst (v := 0) hx hb dM_acknowledge_70 (by decide) ?_
          refine tkld_9 hx hb hK hP (by unfold vp_in; decide) dM_acknowledge_71 ?_
          refine lv_if_ne (tgt := 109) hx hb dM_acknowledge_72 (by decide) (fun (h21_ : ¬ (((tkM_serve_s (tk_up g 0 (fun _ => 0)) 0 (tkM_choice_r (tk_up g 0 (fun _ => 0)) 0)) 9) (0 : Int32).toNatClampNeg = 0)) => ?_) (fun (h21_ : ((tkM_serve_s (tk_up g 0 (fun _ => 0)) 0 (tkM_choice_r (tk_up g 0 (fun _ => 0)) 0)) 9) (0 : Int32).toNatClampNeg = 0) => ?_)
          · refine lv_aload_n hx hb dM_acknowledge_109 rfl (lv_at hl 2 rfl) ?_
            refine tk_callA hD hS hA (va_runV (As := []) (rest := []) ⟨hx, hb, hml, hown, hw⟩ (kM_follow l D hm ad cI cZ (tkM_serve_s (tk_up g 0 (fun _ => 0)) 0 (tkM_choice_r (tk_up g 0 (fun _ => 0)) 0)) H.size) (cwV 0 hw (tk_gV tkWM_good wM_M_169 wI_M_follow wS_M_follow wZ_M wC_M_follow) rfl rfl rfl (by decide +kernel) ⟨Nat.le_of_ble_eq_true rfl, Nat.le_of_ble_eq_true rfl⟩) (tk_preM hK hN hP hD) rfl rfl hl.1 rfl (lv_room (Nat.le_of_ble_eq_true rfl)) dM_acknowledge_110 ⟨Nat.zero_le _, Nat.zero_le _⟩) (fun H locs hP hD hS => ?_)
            refine W.eq (g2 := F0 m 113 ls []) rfl ?_
            refine lv_iload_n hx hb dM_acknowledge_113 rfl (lv_at hl 0 rfl) ?_
            exact tk_iret hx hb hr hlk hP hD hS dM_acknowledge_114 (by unfold tkM_acknowledge_r; rw [if_neg h1_, if_neg h2_, if_neg h14_, if_pos h20_, if_neg h21_]) (congrArg (WM hm ad cI cZ) (by unfold tkM_acknowledge_s; rw [if_neg h1_, if_neg h14_, if_pos h20_, if_neg h21_]))
          · refine lv_aload_n hx hb dM_acknowledge_75 rfl (lv_at hl 2 rfl) ?_
            refine lv_iconst (v := 1) hx hb dM_acknowledge_76 (by decide) ?_
            refine tk_callA hD hS hA (va_runV (As := [.int 1]) (rest := []) ⟨hx, hb, hml, hown, hw⟩ (kM_choice l D hm ad cI cZ (tkM_serve_s (tk_up g 0 (fun _ => 0)) 0 (tkM_choice_r (tk_up g 0 (fun _ => 0)) 0)) 1 (by unfold vp_in; decide) H.size) (cwV 1 hw (tk_gV tkWM_good wM_M_123 wI_M_choice wS_M_choice wZ_M wC_M_choice) rfl rfl rfl (by decide +kernel) ⟨Nat.le_of_ble_eq_true rfl, Nat.le_of_ble_eq_true rfl⟩) (tk_preM hK hN hP hD) rfl rfl hl.1 rfl (lv_room (Nat.le_of_ble_eq_true rfl)) dM_acknowledge_77 ⟨Nat.zero_le _, Nat.zero_le _⟩) (fun H locs hP hD hS => ?_)
            refine W.eq (g2 := F0 m 80 ls [.int (tkM_choice_r (tkM_serve_s (tk_up g 0 (fun _ => 0)) 0 (tkM_choice_r (tk_up g 0 (fun _ => 0)) 0)) 1)]) rfl ?_
            refine lv_istore_n hx hb dM_acknowledge_80 rfl hl (by decide) rfl (fun ls hl => ?_)
            have hl : lv_has ls 4 [(3, .int (tkM_choice_r (tkM_serve_s (tk_up g 0 (fun _ => 0)) 0 (tkM_choice_r (tk_up g 0 (fun _ => 0)) 0)) 1)), (2, .int ((g 5 (0 : Int32).toNatClampNeg) + 7)), (1, .int (tkM_choice_r (tk_up g 0 (fun _ => 0)) 0)), (0, .ref hm)] := hl
            refine lv_aload_n hx hb dM_acknowledge_81 rfl (lv_at hl 3 rfl) ?_
            refine va_get (D := D) (ci := 3) (v := .ref (ad 5)) (C := RM) (T := TM) (N := 33) hx hb hw inM hown hK hP 0 rfl rfl 5 (by decide) f22 (fun _ h9 => h9) rfl dM_acknowledge_82 ?_
            refine lv_iconst (v := 1) hx hb dM_acknowledge_85 (by decide) ?_
            refine tkld_5 hx hb hK hP (by unfold vp_in; decide) dM_acknowledge_86 ?_
            refine lv_iload_n hx hb dM_acknowledge_87 rfl (lv_at hl 0 rfl) ?_
            refine lv_if_ge (tgt := 96) hx hb dM_acknowledge_88 (by decide) (fun (h22_ : 0 ≤ tkM_choice_r (tkM_serve_s (tk_up g 0 (fun _ => 0)) 0 (tkM_choice_r (tk_up g 0 (fun _ => 0)) 0)) 1) => ?_) (fun (h22_ : ¬ (0 ≤ tkM_choice_r (tkM_serve_s (tk_up g 0 (fun _ => 0)) 0 (tkM_choice_r (tk_up g 0 (fun _ => 0)) 0)) 1)) => ?_)
            · refine lv_iload_n hx hb dM_acknowledge_96 rfl (lv_at hl 0 rfl) ?_
              refine lv_iadd hx hb dM_acknowledge_97 ?_
              refine lv_istore_n hx hb dM_acknowledge_98 rfl hl (by decide) rfl (fun ls hl => ?_)
              have hl : lv_has ls 4 [(2, .int ((((tkM_serve_s (tk_up g 0 (fun _ => 0)) 0 (tkM_choice_r (tk_up g 0 (fun _ => 0)) 0)) 5) (1 : Int32).toNatClampNeg) + (tkM_choice_r (tkM_serve_s (tk_up g 0 (fun _ => 0)) 0 (tkM_choice_r (tk_up g 0 (fun _ => 0)) 0)) 1))), (3, .int (tkM_choice_r (tkM_serve_s (tk_up g 0 (fun _ => 0)) 0 (tkM_choice_r (tk_up g 0 (fun _ => 0)) 0)) 1)), (1, .int (tkM_choice_r (tk_up g 0 (fun _ => 0)) 0)), (0, .ref hm)] := hl
              refine lv_iload_n hx hb dM_acknowledge_99 rfl (lv_at hl 1 rfl) ?_
              refine lv_if_lt (tgt := 109) hx hb dM_acknowledge_100 (by decide) (fun (h23_ : tkM_choice_r (tkM_serve_s (tk_up g 0 (fun _ => 0)) 0 (tkM_choice_r (tk_up g 0 (fun _ => 0)) 0)) 1 < 0) => ?_) (fun (h23_ : ¬ (tkM_choice_r (tkM_serve_s (tk_up g 0 (fun _ => 0)) 0 (tkM_choice_r (tk_up g 0 (fun _ => 0)) 0)) 1 < 0)) => ?_)
              · refine lv_aload_n hx hb dM_acknowledge_109 rfl (lv_at hl 3 rfl) ?_
                refine tk_callA hD hS hA (va_runV (As := []) (rest := []) ⟨hx, hb, hml, hown, hw⟩ (kM_follow l D hm ad cI cZ (tkM_serve_s (tk_up g 0 (fun _ => 0)) 0 (tkM_choice_r (tk_up g 0 (fun _ => 0)) 0)) H.size) (cwV 0 hw (tk_gV tkWM_good wM_M_169 wI_M_follow wS_M_follow wZ_M wC_M_follow) rfl rfl rfl (by decide +kernel) ⟨Nat.le_of_ble_eq_true rfl, Nat.le_of_ble_eq_true rfl⟩) (tk_preM hK hN hP hD) rfl rfl hl.1 rfl (lv_room (Nat.le_of_ble_eq_true rfl)) dM_acknowledge_110 ⟨Nat.zero_le _, Nat.zero_le _⟩) (fun H locs hP hD hS => ?_)
                refine W.eq (g2 := F0 m 113 ls []) rfl ?_
                refine lv_iload_n hx hb dM_acknowledge_113 rfl (lv_at hl 0 rfl) ?_
                exact tk_iret hx hb hr hlk hP hD hS dM_acknowledge_114 (by unfold tkM_acknowledge_r; rw [if_neg h1_, if_neg h2_, if_neg h14_, if_pos h20_, if_pos h21_, if_pos h22_]) (congrArg (WM hm ad cI cZ) (by unfold tkM_acknowledge_s; rw [if_neg h1_, if_neg h14_, if_pos h20_, if_pos h21_, if_pos h23_]))
              · refine lv_aload_n hx hb dM_acknowledge_103 rfl (lv_at hl 3 rfl) ?_
                refine lv_iconst (v := 1) hx hb dM_acknowledge_104 (by decide) ?_
                refine lv_iload_n hx hb dM_acknowledge_105 rfl (lv_at hl 1 rfl) ?_
                refine tk_callA hD hS hA (va_runV (As := [.int 1, .int (tkM_choice_r (tkM_serve_s (tk_up g 0 (fun _ => 0)) 0 (tkM_choice_r (tk_up g 0 (fun _ => 0)) 0)) 1)]) (rest := []) ⟨hx, hb, hml, hown, hw⟩ (kM_serve l D hm ad cI cZ (tkM_serve_s (tk_up g 0 (fun _ => 0)) 0 (tkM_choice_r (tk_up g 0 (fun _ => 0)) 0)) 1 (tkM_choice_r (tkM_serve_s (tk_up g 0 (fun _ => 0)) 0 (tkM_choice_r (tk_up g 0 (fun _ => 0)) 0)) 1) (by unfold vp_in; decide) H.size) (cwV 2 hw (tk_gV tkWM_good wM_M_136 wI_M_serve wS_M_serve wZ_M wC_M_serve) rfl rfl rfl (by decide +kernel) ⟨Nat.le_of_ble_eq_true rfl, Nat.le_of_ble_eq_true rfl⟩) (tk_preM hK hN hP hD) rfl rfl hl.1 rfl (lv_room (Nat.le_of_ble_eq_true rfl)) dM_acknowledge_106 ⟨Nat.zero_le _, Nat.zero_le _⟩) (fun H locs hP hD hS => ?_)
                refine W.eq (g2 := F0 m 109 ls []) rfl ?_
                refine lv_aload_n hx hb dM_acknowledge_109 rfl (lv_at hl 3 rfl) ?_
                refine tk_callA hD hS hA (va_runV (As := []) (rest := []) ⟨hx, hb, hml, hown, hw⟩ (kM_follow l D hm ad cI cZ (tkM_serve_s (tkM_serve_s (tk_up g 0 (fun _ => 0)) 0 (tkM_choice_r (tk_up g 0 (fun _ => 0)) 0)) 1 (tkM_choice_r (tkM_serve_s (tk_up g 0 (fun _ => 0)) 0 (tkM_choice_r (tk_up g 0 (fun _ => 0)) 0)) 1)) H.size) (cwV 0 hw (tk_gV tkWM_good wM_M_169 wI_M_follow wS_M_follow wZ_M wC_M_follow) rfl rfl rfl (by decide +kernel) ⟨Nat.le_of_ble_eq_true rfl, Nat.le_of_ble_eq_true rfl⟩) (tk_preM hK hN hP hD) rfl rfl hl.1 rfl (lv_room (Nat.le_of_ble_eq_true rfl)) dM_acknowledge_110 ⟨Nat.zero_le _, Nat.zero_le _⟩) (fun H locs hP hD hS => ?_)
                refine W.eq (g2 := F0 m 113 ls []) rfl ?_
                refine lv_iload_n hx hb dM_acknowledge_113 rfl (lv_at hl 0 rfl) ?_
                exact tk_iret hx hb hr hlk hP hD hS dM_acknowledge_114 (by unfold tkM_acknowledge_r; rw [if_neg h1_, if_neg h2_, if_neg h14_, if_pos h20_, if_pos h21_, if_pos h22_]) (congrArg (WM hm ad cI cZ) (by unfold tkM_acknowledge_s; rw [if_neg h1_, if_neg h14_, if_pos h20_, if_pos h21_, if_neg h23_]))
            · refine lv_bipush (v := 7) hx hb dM_acknowledge_91 (by decide) ?_
              refine lv_goto (tgt := 97) hx hb dM_acknowledge_93 (by decide) ?_
              refine lv_iadd hx hb dM_acknowledge_97 ?_
              refine lv_istore_n hx hb dM_acknowledge_98 rfl hl (by decide) rfl (fun ls hl => ?_)
              have hl : lv_has ls 4 [(2, .int ((((tkM_serve_s (tk_up g 0 (fun _ => 0)) 0 (tkM_choice_r (tk_up g 0 (fun _ => 0)) 0)) 5) (1 : Int32).toNatClampNeg) + 7)), (3, .int (tkM_choice_r (tkM_serve_s (tk_up g 0 (fun _ => 0)) 0 (tkM_choice_r (tk_up g 0 (fun _ => 0)) 0)) 1)), (1, .int (tkM_choice_r (tk_up g 0 (fun _ => 0)) 0)), (0, .ref hm)] := hl
              refine lv_iload_n hx hb dM_acknowledge_99 rfl (lv_at hl 1 rfl) ?_
              refine lv_if_lt (tgt := 109) hx hb dM_acknowledge_100 (by decide) (fun (h24_ : tkM_choice_r (tkM_serve_s (tk_up g 0 (fun _ => 0)) 0 (tkM_choice_r (tk_up g 0 (fun _ => 0)) 0)) 1 < 0) => ?_) (fun (h24_ : ¬ (tkM_choice_r (tkM_serve_s (tk_up g 0 (fun _ => 0)) 0 (tkM_choice_r (tk_up g 0 (fun _ => 0)) 0)) 1 < 0)) => ?_)
              · refine lv_aload_n hx hb dM_acknowledge_109 rfl (lv_at hl 3 rfl) ?_
                refine tk_callA hD hS hA (va_runV (As := []) (rest := []) ⟨hx, hb, hml, hown, hw⟩ (kM_follow l D hm ad cI cZ (tkM_serve_s (tk_up g 0 (fun _ => 0)) 0 (tkM_choice_r (tk_up g 0 (fun _ => 0)) 0)) H.size) (cwV 0 hw (tk_gV tkWM_good wM_M_169 wI_M_follow wS_M_follow wZ_M wC_M_follow) rfl rfl rfl (by decide +kernel) ⟨Nat.le_of_ble_eq_true rfl, Nat.le_of_ble_eq_true rfl⟩) (tk_preM hK hN hP hD) rfl rfl hl.1 rfl (lv_room (Nat.le_of_ble_eq_true rfl)) dM_acknowledge_110 ⟨Nat.zero_le _, Nat.zero_le _⟩) (fun H locs hP hD hS => ?_)
                refine W.eq (g2 := F0 m 113 ls []) rfl ?_
                refine lv_iload_n hx hb dM_acknowledge_113 rfl (lv_at hl 0 rfl) ?_
                exact tk_iret hx hb hr hlk hP hD hS dM_acknowledge_114 (by unfold tkM_acknowledge_r; rw [if_neg h1_, if_neg h2_, if_neg h14_, if_pos h20_, if_pos h21_, if_neg h22_]) (congrArg (WM hm ad cI cZ) (by unfold tkM_acknowledge_s; rw [if_neg h1_, if_neg h14_, if_pos h20_, if_pos h21_, if_pos h24_]))
              · refine lv_aload_n hx hb dM_acknowledge_103 rfl (lv_at hl 3 rfl) ?_
                refine lv_iconst (v := 1) hx hb dM_acknowledge_104 (by decide) ?_
                refine lv_iload_n hx hb dM_acknowledge_105 rfl (lv_at hl 1 rfl) ?_
                refine tk_callA hD hS hA (va_runV (As := [.int 1, .int (tkM_choice_r (tkM_serve_s (tk_up g 0 (fun _ => 0)) 0 (tkM_choice_r (tk_up g 0 (fun _ => 0)) 0)) 1)]) (rest := []) ⟨hx, hb, hml, hown, hw⟩ (kM_serve l D hm ad cI cZ (tkM_serve_s (tk_up g 0 (fun _ => 0)) 0 (tkM_choice_r (tk_up g 0 (fun _ => 0)) 0)) 1 (tkM_choice_r (tkM_serve_s (tk_up g 0 (fun _ => 0)) 0 (tkM_choice_r (tk_up g 0 (fun _ => 0)) 0)) 1) (by unfold vp_in; decide) H.size) (cwV 2 hw (tk_gV tkWM_good wM_M_136 wI_M_serve wS_M_serve wZ_M wC_M_serve) rfl rfl rfl (by decide +kernel) ⟨Nat.le_of_ble_eq_true rfl, Nat.le_of_ble_eq_true rfl⟩) (tk_preM hK hN hP hD) rfl rfl hl.1 rfl (lv_room (Nat.le_of_ble_eq_true rfl)) dM_acknowledge_106 ⟨Nat.zero_le _, Nat.zero_le _⟩) (fun H locs hP hD hS => ?_)
                refine W.eq (g2 := F0 m 109 ls []) rfl ?_
                refine lv_aload_n hx hb dM_acknowledge_109 rfl (lv_at hl 3 rfl) ?_
                refine tk_callA hD hS hA (va_runV (As := []) (rest := []) ⟨hx, hb, hml, hown, hw⟩ (kM_follow l D hm ad cI cZ (tkM_serve_s (tkM_serve_s (tk_up g 0 (fun _ => 0)) 0 (tkM_choice_r (tk_up g 0 (fun _ => 0)) 0)) 1 (tkM_choice_r (tkM_serve_s (tk_up g 0 (fun _ => 0)) 0 (tkM_choice_r (tk_up g 0 (fun _ => 0)) 0)) 1)) H.size) (cwV 0 hw (tk_gV tkWM_good wM_M_169 wI_M_follow wS_M_follow wZ_M wC_M_follow) rfl rfl rfl (by decide +kernel) ⟨Nat.le_of_ble_eq_true rfl, Nat.le_of_ble_eq_true rfl⟩) (tk_preM hK hN hP hD) rfl rfl hl.1 rfl (lv_room (Nat.le_of_ble_eq_true rfl)) dM_acknowledge_110 ⟨Nat.zero_le _, Nat.zero_le _⟩) (fun H locs hP hD hS => ?_)
                refine W.eq (g2 := F0 m 113 ls []) rfl ?_
                refine lv_iload_n hx hb dM_acknowledge_113 rfl (lv_at hl 0 rfl) ?_
                exact tk_iret hx hb hr hlk hP hD hS dM_acknowledge_114 (by unfold tkM_acknowledge_r; rw [if_neg h1_, if_neg h2_, if_neg h14_, if_pos h20_, if_pos h21_, if_neg h22_]) (congrArg (WM hm ad cI cZ) (by unfold tkM_acknowledge_s; rw [if_neg h1_, if_neg h14_, if_pos h20_, if_pos h21_, if_neg h24_]))
def tkM_chosen_r (g : Nat → Nat → Int32) (x0 : Int32) : Int32 :=
  if x0 = 0 then tkM_choice_r (tk_up g 0 (fun _ => 0)) x0
  else if x0 = 1 then tkM_choice_r (tk_up g 0 (fun _ => 0)) x0
    else (-1)
def tkM_chosen_s (g : Nat → Nat → Int32) (x0 : Int32) : Nat → Nat → Int32 :=
  tk_up g 0 (fun _ => 0)
set_option maxHeartbeats 1000000 in
set_option maxRecDepth 100000 in
theorem kM_chosen (l : Launch) (D : va_G) (hm : Nat) (ad : Nat → Nat) (cI cZ : ClassId) (g : Nat → Nat → Int32) (x0 : Int32) : tk_M l yM_chosen wsM_chosen { frames := 2, cells := 0, slots := 0, locals := 47 } D [(cI, .int), (cZ, .boolean)] [.ref hm, .int x0] (WM hm ad cI cZ g) (WM hm ad cI cZ (tkM_chosen_s g x0)) (some (.int (tkM_chosen_r g x0))) := by
  refine tk_M.of (cc := cM_chosen) (maxL := 2) (ret := (some .int)) (by decide) rfl (Nat.le_of_ble_eq_true rfl) ?_
  intro p e s m below meth co A H locs ls hB hK hN hA hP hD hS hl
  obtain ⟨hx, hb, hr, hml, hown, hlk, hnm, hts⟩ := hB
  have hown : s.vm.findClass RM = some m.cls := hown
  have hl : lv_has ls 2 [(0, .ref hm), (1, .int x0)] := hl
  have hw : ∀ w ∈ tkWM, w.before _ s = true := fun w h => hts w (List.mem_cons_of_mem _ h)
  have f107 := hw _ wF_M_107
  refine lv_aload_n hx hb dM_chosen_0 rfl (lv_at hl 0 rfl) ?_
  refine lv_iconst (v := 0) hx hb dM_chosen_1 (by decide) ?_
  refine va_put (D := D) (ci := 3) (v := .int 0) (ty := .int) (C := RM) (T := TM) (N := 33) hx hb hw inM tyM tyM_ok nmM hown hK hP hD hS 0 rfl rfl 0 (by decide) f107 (fun _ h9 => h9) rfl (tyM_ok 0 (by decide)) rfl rfl (Nat.le_of_ble_eq_true rfl) dM_chosen_2 (fun H locs hP hD hS => ?_)
  have hP : va_P D vwCl (WM hm ad cI cZ (tk_up g 0 (fun _ => 0))) H := hP
  have hD : va_D A (WM hm ad cI cZ (tk_up g 0 (fun _ => 0))) := hD
  refine lv_iload_n hx hb dM_chosen_5 rfl (lv_at hl 1 rfl) ?_
  refine lv_if_eq (tgt := 14) hx hb dM_chosen_6 (by decide) (fun (h1_ : x0 = 0) => ?_) (fun (h1_ : ¬ (x0 = 0)) => ?_)
  · refine lv_aload_n hx hb dM_chosen_14 rfl (lv_at hl 0 rfl) ?_
    refine lv_iload_n hx hb dM_chosen_15 rfl (lv_at hl 1 rfl) ?_
    refine tk_callA hD hS hA (va_runV (As := [.int x0]) (rest := []) ⟨hx, hb, hml, hown, hw⟩ (kM_choice l D hm ad cI cZ (tk_up g 0 (fun _ => 0)) x0 (tk_ixe h1_ (by unfold vp_in; decide)) H.size) (cwV 1 hw (tk_gV tkWM_good wM_M_123 wI_M_choice wS_M_choice wZ_M wC_M_choice) rfl rfl rfl (by decide +kernel) ⟨Nat.le_of_ble_eq_true rfl, Nat.le_of_ble_eq_true rfl⟩) (tk_preM hK hN hP hD) rfl rfl hl.1 rfl (lv_room (Nat.le_of_ble_eq_true rfl)) dM_chosen_16 ⟨Nat.zero_le _, Nat.zero_le _⟩) (fun H locs hP hD hS => ?_)
    refine W.eq (g2 := F0 m 19 ls [.int (tkM_choice_r (tk_up g 0 (fun _ => 0)) x0)]) rfl ?_
    refine lv_goto (tgt := 23) hx hb dM_chosen_19 (by decide) ?_
    exact tk_iret hx hb hr hlk hP hD hS dM_chosen_23 (by unfold tkM_chosen_r; rw [if_pos h1_]) (congrArg (WM hm ad cI cZ) rfl)
  · refine lv_iload_n hx hb dM_chosen_9 rfl (lv_at hl 1 rfl) ?_
    refine lv_iconst (v := 1) hx hb dM_chosen_10 (by decide) ?_
    refine lv_icmp_ne (tgt := 22) hx hb dM_chosen_11 (by decide) (fun (h2_ : ¬ (x0 = 1)) => ?_) (fun (h2_ : x0 = 1) => ?_)
    · refine lv_iconst (v := -1) hx hb dM_chosen_22 (by decide) ?_
      exact tk_iret hx hb hr hlk hP hD hS dM_chosen_23 (by unfold tkM_chosen_r; rw [if_neg h1_, if_neg h2_]) (congrArg (WM hm ad cI cZ) rfl)
    · refine lv_aload_n hx hb dM_chosen_14 rfl (lv_at hl 0 rfl) ?_
      refine lv_iload_n hx hb dM_chosen_15 rfl (lv_at hl 1 rfl) ?_
      refine tk_callA hD hS hA (va_runV (As := [.int x0]) (rest := []) ⟨hx, hb, hml, hown, hw⟩ (kM_choice l D hm ad cI cZ (tk_up g 0 (fun _ => 0)) x0 (tk_ixe h2_ (by unfold vp_in; decide)) H.size) (cwV 1 hw (tk_gV tkWM_good wM_M_123 wI_M_choice wS_M_choice wZ_M wC_M_choice) rfl rfl rfl (by decide +kernel) ⟨Nat.le_of_ble_eq_true rfl, Nat.le_of_ble_eq_true rfl⟩) (tk_preM hK hN hP hD) rfl rfl hl.1 rfl (lv_room (Nat.le_of_ble_eq_true rfl)) dM_chosen_16 ⟨Nat.zero_le _, Nat.zero_le _⟩) (fun H locs hP hD hS => ?_)
      refine W.eq (g2 := F0 m 19 ls [.int (tkM_choice_r (tk_up g 0 (fun _ => 0)) x0)]) rfl ?_
      refine lv_goto (tgt := 23) hx hb dM_chosen_19 (by decide) ?_
      exact tk_iret hx hb hr hlk hP hD hS dM_chosen_23 (by unfold tkM_chosen_r; rw [if_neg h1_, if_pos h2_]) (congrArg (WM hm ad cI cZ) rfl)
def tkM_about_r (g : Nat → Nat → Int32) (x0 x1 : Int32) : Int32 :=
  if x0 = 0 then (if x1 = 0 then tkM_requests_r (tk_up g 0 (fun _ => 0)) x0
    else if x1 = 1 then g 4 x0.toNatClampNeg
      else if x1 = 2 then g 3 x0.toNatClampNeg
        else if x1 = 3 then g 6 x0.toNatClampNeg
          else if x1 = 4 then g 5 x0.toNatClampNeg
            else if x1 = 5 then g 1 x0.toNatClampNeg
              else if x1 = 6 then g 2 x0.toNatClampNeg
                else if x1 = 7 then (if g 7 x0.toNatClampNeg = 0 then 0
                    else 1)
                  else (-1))
  else if x0 = 1 then (if x1 = 0 then tkM_requests_r (tk_up g 0 (fun _ => 0)) x0
      else if x1 = 1 then g 4 x0.toNatClampNeg
        else if x1 = 2 then g 3 x0.toNatClampNeg
          else if x1 = 3 then g 6 x0.toNatClampNeg
            else if x1 = 4 then g 5 x0.toNatClampNeg
              else if x1 = 5 then g 1 x0.toNatClampNeg
                else if x1 = 6 then g 2 x0.toNatClampNeg
                  else if x1 = 7 then (if g 7 x0.toNatClampNeg = 0 then 0
                      else 1)
                    else (-1))
    else (-1)
def tkM_about_s (g : Nat → Nat → Int32) (x0 x1 : Int32) : Nat → Nat → Int32 :=
  tk_up g 0 (fun _ => 0)
set_option maxHeartbeats 1000000 in
set_option maxRecDepth 100000 in
theorem kM_about (l : Launch) (D : va_G) (hm : Nat) (ad : Nat → Nat) (cI cZ : ClassId) (g : Nat → Nat → Int32) (x0 x1 : Int32) : tk_M l yM_about wsM_about { frames := 1, cells := 0, slots := 0, locals := 21 } D [(cI, .int), (cZ, .boolean)] [.ref hm, .int x0, .int x1] (WM hm ad cI cZ g) (WM hm ad cI cZ (tkM_about_s g x0 x1)) (some (.int (tkM_about_r g x0 x1))) := by
  refine tk_M.of (cc := cM_about) (maxL := 3) (ret := (some .int)) (by decide) rfl (Nat.le_of_ble_eq_true rfl) ?_
  intro p e s m below meth co A H locs ls hB hK hN hA hP hD hS hl
  obtain ⟨hx, hb, hr, hml, hown, hlk, hnm, hts⟩ := hB
  have hown : s.vm.findClass RM = some m.cls := hown
  have hl : lv_has ls 3 [(0, .ref hm), (1, .int x0), (2, .int x1)] := hl
  have hw : ∀ w ∈ tkWM, w.before _ s = true := fun w h => hts w (List.mem_cons_of_mem _ h)
  have f107 := hw _ wF_M_107
  have f19 := hw _ wF_M_19
  have f16 := hw _ wF_M_16
  have f25 := hw _ wF_M_25
  have f22 := hw _ wF_M_22
  have f7 := hw _ wF_M_7
  have f13 := hw _ wF_M_13
  have f28 := hw _ wF_M_28
  refine lv_aload_n hx hb dM_about_0 rfl (lv_at hl 0 rfl) ?_
  refine lv_iconst (v := 0) hx hb dM_about_1 (by decide) ?_
  refine va_put (D := D) (ci := 3) (v := .int 0) (ty := .int) (C := RM) (T := TM) (N := 33) hx hb hw inM tyM tyM_ok nmM hown hK hP hD hS 0 rfl rfl 0 (by decide) f107 (fun _ h9 => h9) rfl (tyM_ok 0 (by decide)) rfl rfl (Nat.le_of_ble_eq_true rfl) dM_about_2 (fun H locs hP hD hS => ?_)
  have hP : va_P D vwCl (WM hm ad cI cZ (tk_up g 0 (fun _ => 0))) H := hP
  have hD : va_D A (WM hm ad cI cZ (tk_up g 0 (fun _ => 0))) := hD
  refine lv_iload_n hx hb dM_about_5 rfl (lv_at hl 1 rfl) ?_
  refine lv_if_eq (tgt := 16) hx hb dM_about_6 (by decide) (fun (h1_ : x0 = 0) => ?_) (fun (h1_ : ¬ (x0 = 0)) => ?_)
  · refine lv_iload_n hx hb dM_about_16 rfl (lv_at hl 2 rfl) ?_
    by_cases h2_ : x1 = 0
    · refine lv_tableIn (tgt := 64) hx hb dM_about_17 (by rw [h2_]; decide) (by rw [h2_]; decide) (by rw [h2_]; rfl) (by decide) ?_
      refine lv_aload_n hx hb dM_about_64 rfl (lv_at hl 0 rfl) ?_
      refine lv_iload_n hx hb dM_about_65 rfl (lv_at hl 1 rfl) ?_
      refine tk_callA hD hS hA (va_runV (As := [.int x0]) (rest := []) ⟨hx, hb, hml, hown, hw⟩ (kM_requests l D hm ad cI cZ (tk_up g 0 (fun _ => 0)) x0 (tk_ixe h1_ (by unfold vp_in; decide)) H.size) (cwV 1 hw (tk_gV tkWM_good wM_M_115 wI_M_requests wS_M_requests wZ_M wC_M_requests) rfl rfl rfl (by decide +kernel) ⟨Nat.le_of_ble_eq_true rfl, Nat.le_of_ble_eq_true rfl⟩) (tk_preM hK hN hP hD) rfl rfl hl.1 rfl (lv_room (Nat.le_of_ble_eq_true rfl)) dM_about_66 ⟨Nat.zero_le _, Nat.zero_le _⟩) (fun H locs hP hD hS => ?_)
      refine W.eq (g2 := F0 m 69 ls [.int (tkM_requests_r (tk_up g 0 (fun _ => 0)) x0)]) rfl ?_
      exact tk_iret hx hb hr hlk hP hD hS dM_about_69 (by unfold tkM_about_r; rw [if_pos h1_, if_pos h2_]) (congrArg (WM hm ad cI cZ) rfl)
    by_cases h3_ : x1 = 1
    · refine lv_tableIn (tgt := 70) hx hb dM_about_17 (by rw [h3_]; decide) (by rw [h3_]; decide) (by rw [h3_]; rfl) (by decide) ?_
      refine lv_aload_n hx hb dM_about_70 rfl (lv_at hl 0 rfl) ?_
      refine va_get (D := D) (ci := 3) (v := .ref (ad 4)) (C := RM) (T := TM) (N := 33) hx hb hw inM hown hK hP 0 rfl rfl 4 (by decide) f19 (fun _ h9 => h9) rfl dM_about_71 ?_
      refine lv_iload_n hx hb dM_about_74 rfl (lv_at hl 1 rfl) ?_
      refine tkld_4 hx hb hK hP (tk_ixe h1_ (by unfold vp_in; decide)) dM_about_75 ?_
      exact tk_iret hx hb hr hlk hP hD hS dM_about_76 (by unfold tkM_about_r; rw [if_pos h1_, if_neg h2_, if_pos h3_]) (congrArg (WM hm ad cI cZ) rfl)
    by_cases h4_ : x1 = 2
    · refine lv_tableIn (tgt := 77) hx hb dM_about_17 (by rw [h4_]; decide) (by rw [h4_]; decide) (by rw [h4_]; rfl) (by decide) ?_
      refine lv_aload_n hx hb dM_about_77 rfl (lv_at hl 0 rfl) ?_
      refine va_get (D := D) (ci := 3) (v := .ref (ad 3)) (C := RM) (T := TM) (N := 33) hx hb hw inM hown hK hP 0 rfl rfl 3 (by decide) f16 (fun _ h9 => h9) rfl dM_about_78 ?_
      refine lv_iload_n hx hb dM_about_81 rfl (lv_at hl 1 rfl) ?_
      refine tkld_3 hx hb hK hP (tk_ixe h1_ (by unfold vp_in; decide)) dM_about_82 ?_
      exact tk_iret hx hb hr hlk hP hD hS dM_about_83 (by unfold tkM_about_r; rw [if_pos h1_, if_neg h2_, if_neg h3_, if_pos h4_]) (congrArg (WM hm ad cI cZ) rfl)
    by_cases h5_ : x1 = 3
    · refine lv_tableIn (tgt := 84) hx hb dM_about_17 (by rw [h5_]; decide) (by rw [h5_]; decide) (by rw [h5_]; rfl) (by decide) ?_
      refine lv_aload_n hx hb dM_about_84 rfl (lv_at hl 0 rfl) ?_
      refine va_get (D := D) (ci := 3) (v := .ref (ad 6)) (C := RM) (T := TM) (N := 33) hx hb hw inM hown hK hP 0 rfl rfl 6 (by decide) f25 (fun _ h9 => h9) rfl dM_about_85 ?_
      refine lv_iload_n hx hb dM_about_88 rfl (lv_at hl 1 rfl) ?_
      refine tkld_6 hx hb hK hP (tk_ixe h1_ (by unfold vp_in; decide)) dM_about_89 ?_
      exact tk_iret hx hb hr hlk hP hD hS dM_about_90 (by unfold tkM_about_r; rw [if_pos h1_, if_neg h2_, if_neg h3_, if_neg h4_, if_pos h5_]) (congrArg (WM hm ad cI cZ) rfl)
    by_cases h6_ : x1 = 4
    · refine lv_tableIn (tgt := 91) hx hb dM_about_17 (by rw [h6_]; decide) (by rw [h6_]; decide) (by rw [h6_]; rfl) (by decide) ?_
      refine lv_aload_n hx hb dM_about_91 rfl (lv_at hl 0 rfl) ?_
      refine va_get (D := D) (ci := 3) (v := .ref (ad 5)) (C := RM) (T := TM) (N := 33) hx hb hw inM hown hK hP 0 rfl rfl 5 (by decide) f22 (fun _ h9 => h9) rfl dM_about_92 ?_
      refine lv_iload_n hx hb dM_about_95 rfl (lv_at hl 1 rfl) ?_
      refine tkld_5 hx hb hK hP (tk_ixe h1_ (by unfold vp_in; decide)) dM_about_96 ?_
      exact tk_iret hx hb hr hlk hP hD hS dM_about_97 (by unfold tkM_about_r; rw [if_pos h1_, if_neg h2_, if_neg h3_, if_neg h4_, if_neg h5_, if_pos h6_]) (congrArg (WM hm ad cI cZ) rfl)
    by_cases h7_ : x1 = 5
    · refine lv_tableIn (tgt := 98) hx hb dM_about_17 (by rw [h7_]; decide) (by rw [h7_]; decide) (by rw [h7_]; rfl) (by decide) ?_
      refine lv_aload_n hx hb dM_about_98 rfl (lv_at hl 0 rfl) ?_
      refine va_get (D := D) (ci := 3) (v := .ref (ad 1)) (C := RM) (T := TM) (N := 33) hx hb hw inM hown hK hP 0 rfl rfl 1 (by decide) f7 (fun _ h9 => h9) rfl dM_about_99 ?_
      refine lv_iload_n hx hb dM_about_102 rfl (lv_at hl 1 rfl) ?_
      refine tkld_1 hx hb hK hP (tk_ixe h1_ (by unfold vp_in; decide)) dM_about_103 ?_
      exact tk_iret hx hb hr hlk hP hD hS dM_about_104 (by unfold tkM_about_r; rw [if_pos h1_, if_neg h2_, if_neg h3_, if_neg h4_, if_neg h5_, if_neg h6_, if_pos h7_]) (congrArg (WM hm ad cI cZ) rfl)
    by_cases h8_ : x1 = 6
    · refine lv_tableIn (tgt := 105) hx hb dM_about_17 (by rw [h8_]; decide) (by rw [h8_]; decide) (by rw [h8_]; rfl) (by decide) ?_
      refine lv_aload_n hx hb dM_about_105 rfl (lv_at hl 0 rfl) ?_
      refine va_get (D := D) (ci := 3) (v := .ref (ad 2)) (C := RM) (T := TM) (N := 33) hx hb hw inM hown hK hP 0 rfl rfl 2 (by decide) f13 (fun _ h9 => h9) rfl dM_about_106 ?_
      refine lv_iload_n hx hb dM_about_109 rfl (lv_at hl 1 rfl) ?_
      refine tkld_2 hx hb hK hP (tk_ixe h1_ (by unfold vp_in; decide)) dM_about_110 ?_
      exact tk_iret hx hb hr hlk hP hD hS dM_about_111 (by unfold tkM_about_r; rw [if_pos h1_, if_neg h2_, if_neg h3_, if_neg h4_, if_neg h5_, if_neg h6_, if_neg h7_, if_pos h8_]) (congrArg (WM hm ad cI cZ) rfl)
    by_cases h9_ : x1 = 7
    · refine lv_tableIn (tgt := 112) hx hb dM_about_17 (by rw [h9_]; decide) (by rw [h9_]; decide) (by rw [h9_]; rfl) (by decide) ?_
      refine lv_aload_n hx hb dM_about_112 rfl (lv_at hl 0 rfl) ?_
      refine va_get (D := D) (ci := 3) (v := .ref (ad 7)) (C := RM) (T := TM) (N := 33) hx hb hw inM hown hK hP 0 rfl rfl 7 (by decide) f28 (fun _ h9 => h9) rfl dM_about_113 ?_
      refine lv_iload_n hx hb dM_about_116 rfl (lv_at hl 1 rfl) ?_
      refine tkld_7 hx hb hK hP (tk_ixe h1_ (by unfold vp_in; decide)) dM_about_117 ?_
      refine lv_if_eq (tgt := 125) hx hb dM_about_118 (by decide) (fun (h10_ : g 7 x0.toNatClampNeg = 0) => ?_) (fun (h10_ : ¬ (g 7 x0.toNatClampNeg = 0)) => ?_)
      · refine lv_iconst (v := 0) hx hb dM_about_125 (by decide) ?_
        exact tk_iret hx hb hr hlk hP hD hS dM_about_126 (by unfold tkM_about_r; rw [if_pos h1_, if_neg h2_, if_neg h3_, if_neg h4_, if_neg h5_, if_neg h6_, if_neg h7_, if_neg h8_, if_pos h9_, if_pos h10_]) (congrArg (WM hm ad cI cZ) rfl)
      · refine lv_iconst (v := 1) hx hb dM_about_121 (by decide) ?_
        refine lv_goto (tgt := 126) hx hb dM_about_122 (by decide) ?_
        exact tk_iret hx hb hr hlk hP hD hS dM_about_126 (by unfold tkM_about_r; rw [if_pos h1_, if_neg h2_, if_neg h3_, if_neg h4_, if_neg h5_, if_neg h6_, if_neg h7_, if_neg h8_, if_pos h9_, if_neg h10_]) (congrArg (WM hm ad cI cZ) rfl)
    have ho : (x1).toInt < 0 ∨ 7 < (x1).toInt := by
      refine tk_out (fun k h1 h2 => ?_)
      rcases (show k = 0 ∨ k = 1 ∨ k = 2 ∨ k = 3 ∨ k = 4 ∨ k = 5 ∨ k = 6 ∨ k = 7 by omega) with rfl | rfl | rfl | rfl | rfl | rfl | rfl | rfl
      · exact h2_
      · exact h3_
      · exact h4_
      · exact h5_
      · exact h6_
      · exact h7_
      · exact h8_
      · exact h9_
    refine lv_tableOut (tgt := 127) hx hb dM_about_17 ho (by decide) ?_
    refine lv_iconst (v := -1) hx hb dM_about_127 (by decide) ?_
    exact tk_iret hx hb hr hlk hP hD hS dM_about_128 (by unfold tkM_about_r; rw [if_pos h1_, if_neg h2_, if_neg h3_, if_neg h4_, if_neg h5_, if_neg h6_, if_neg h7_, if_neg h8_, if_neg h9_]) (congrArg (WM hm ad cI cZ) rfl)
  · refine lv_iload_n hx hb dM_about_9 rfl (lv_at hl 1 rfl) ?_
    refine lv_iconst (v := 1) hx hb dM_about_10 (by decide) ?_
    refine lv_icmp_eq (tgt := 16) hx hb dM_about_11 (by decide) (fun (h11_ : x0 = 1) => ?_) (fun (h11_ : ¬ (x0 = 1)) => ?_)
    · refine lv_iload_n hx hb dM_about_16 rfl (lv_at hl 2 rfl) ?_
      by_cases h12_ : x1 = 0
      · refine lv_tableIn (tgt := 64) hx hb dM_about_17 (by rw [h12_]; decide) (by rw [h12_]; decide) (by rw [h12_]; rfl) (by decide) ?_
        refine lv_aload_n hx hb dM_about_64 rfl (lv_at hl 0 rfl) ?_
        refine lv_iload_n hx hb dM_about_65 rfl (lv_at hl 1 rfl) ?_
        refine tk_callA hD hS hA (va_runV (As := [.int x0]) (rest := []) ⟨hx, hb, hml, hown, hw⟩ (kM_requests l D hm ad cI cZ (tk_up g 0 (fun _ => 0)) x0 (tk_ixe h11_ (by unfold vp_in; decide)) H.size) (cwV 1 hw (tk_gV tkWM_good wM_M_115 wI_M_requests wS_M_requests wZ_M wC_M_requests) rfl rfl rfl (by decide +kernel) ⟨Nat.le_of_ble_eq_true rfl, Nat.le_of_ble_eq_true rfl⟩) (tk_preM hK hN hP hD) rfl rfl hl.1 rfl (lv_room (Nat.le_of_ble_eq_true rfl)) dM_about_66 ⟨Nat.zero_le _, Nat.zero_le _⟩) (fun H locs hP hD hS => ?_)
        refine W.eq (g2 := F0 m 69 ls [.int (tkM_requests_r (tk_up g 0 (fun _ => 0)) x0)]) rfl ?_
        exact tk_iret hx hb hr hlk hP hD hS dM_about_69 (by unfold tkM_about_r; rw [if_neg h1_, if_pos h11_, if_pos h12_]) (congrArg (WM hm ad cI cZ) rfl)
      by_cases h13_ : x1 = 1
      · refine lv_tableIn (tgt := 70) hx hb dM_about_17 (by rw [h13_]; decide) (by rw [h13_]; decide) (by rw [h13_]; rfl) (by decide) ?_
        refine lv_aload_n hx hb dM_about_70 rfl (lv_at hl 0 rfl) ?_
        refine va_get (D := D) (ci := 3) (v := .ref (ad 4)) (C := RM) (T := TM) (N := 33) hx hb hw inM hown hK hP 0 rfl rfl 4 (by decide) f19 (fun _ h9 => h9) rfl dM_about_71 ?_
        refine lv_iload_n hx hb dM_about_74 rfl (lv_at hl 1 rfl) ?_
        refine tkld_4 hx hb hK hP (tk_ixe h11_ (by unfold vp_in; decide)) dM_about_75 ?_
        exact tk_iret hx hb hr hlk hP hD hS dM_about_76 (by unfold tkM_about_r; rw [if_neg h1_, if_pos h11_, if_neg h12_, if_pos h13_]) (congrArg (WM hm ad cI cZ) rfl)
      by_cases h14_ : x1 = 2
      · refine lv_tableIn (tgt := 77) hx hb dM_about_17 (by rw [h14_]; decide) (by rw [h14_]; decide) (by rw [h14_]; rfl) (by decide) ?_
        refine lv_aload_n hx hb dM_about_77 rfl (lv_at hl 0 rfl) ?_
        refine va_get (D := D) (ci := 3) (v := .ref (ad 3)) (C := RM) (T := TM) (N := 33) hx hb hw inM hown hK hP 0 rfl rfl 3 (by decide) f16 (fun _ h9 => h9) rfl dM_about_78 ?_
        refine lv_iload_n hx hb dM_about_81 rfl (lv_at hl 1 rfl) ?_
        refine tkld_3 hx hb hK hP (tk_ixe h11_ (by unfold vp_in; decide)) dM_about_82 ?_
        exact tk_iret hx hb hr hlk hP hD hS dM_about_83 (by unfold tkM_about_r; rw [if_neg h1_, if_pos h11_, if_neg h12_, if_neg h13_, if_pos h14_]) (congrArg (WM hm ad cI cZ) rfl)
      by_cases h15_ : x1 = 3
      · refine lv_tableIn (tgt := 84) hx hb dM_about_17 (by rw [h15_]; decide) (by rw [h15_]; decide) (by rw [h15_]; rfl) (by decide) ?_
        refine lv_aload_n hx hb dM_about_84 rfl (lv_at hl 0 rfl) ?_
        refine va_get (D := D) (ci := 3) (v := .ref (ad 6)) (C := RM) (T := TM) (N := 33) hx hb hw inM hown hK hP 0 rfl rfl 6 (by decide) f25 (fun _ h9 => h9) rfl dM_about_85 ?_
        refine lv_iload_n hx hb dM_about_88 rfl (lv_at hl 1 rfl) ?_
        refine tkld_6 hx hb hK hP (tk_ixe h11_ (by unfold vp_in; decide)) dM_about_89 ?_
        exact tk_iret hx hb hr hlk hP hD hS dM_about_90 (by unfold tkM_about_r; rw [if_neg h1_, if_pos h11_, if_neg h12_, if_neg h13_, if_neg h14_, if_pos h15_]) (congrArg (WM hm ad cI cZ) rfl)
      by_cases h16_ : x1 = 4
      · refine lv_tableIn (tgt := 91) hx hb dM_about_17 (by rw [h16_]; decide) (by rw [h16_]; decide) (by rw [h16_]; rfl) (by decide) ?_
        refine lv_aload_n hx hb dM_about_91 rfl (lv_at hl 0 rfl) ?_
        refine va_get (D := D) (ci := 3) (v := .ref (ad 5)) (C := RM) (T := TM) (N := 33) hx hb hw inM hown hK hP 0 rfl rfl 5 (by decide) f22 (fun _ h9 => h9) rfl dM_about_92 ?_
        refine lv_iload_n hx hb dM_about_95 rfl (lv_at hl 1 rfl) ?_
        refine tkld_5 hx hb hK hP (tk_ixe h11_ (by unfold vp_in; decide)) dM_about_96 ?_
        exact tk_iret hx hb hr hlk hP hD hS dM_about_97 (by unfold tkM_about_r; rw [if_neg h1_, if_pos h11_, if_neg h12_, if_neg h13_, if_neg h14_, if_neg h15_, if_pos h16_]) (congrArg (WM hm ad cI cZ) rfl)
      by_cases h17_ : x1 = 5
      · refine lv_tableIn (tgt := 98) hx hb dM_about_17 (by rw [h17_]; decide) (by rw [h17_]; decide) (by rw [h17_]; rfl) (by decide) ?_
        refine lv_aload_n hx hb dM_about_98 rfl (lv_at hl 0 rfl) ?_
        refine va_get (D := D) (ci := 3) (v := .ref (ad 1)) (C := RM) (T := TM) (N := 33) hx hb hw inM hown hK hP 0 rfl rfl 1 (by decide) f7 (fun _ h9 => h9) rfl dM_about_99 ?_
        refine lv_iload_n hx hb dM_about_102 rfl (lv_at hl 1 rfl) ?_
        refine tkld_1 hx hb hK hP (tk_ixe h11_ (by unfold vp_in; decide)) dM_about_103 ?_
        exact tk_iret hx hb hr hlk hP hD hS dM_about_104 (by unfold tkM_about_r; rw [if_neg h1_, if_pos h11_, if_neg h12_, if_neg h13_, if_neg h14_, if_neg h15_, if_neg h16_, if_pos h17_]) (congrArg (WM hm ad cI cZ) rfl)
      by_cases h18_ : x1 = 6
      · refine lv_tableIn (tgt := 105) hx hb dM_about_17 (by rw [h18_]; decide) (by rw [h18_]; decide) (by rw [h18_]; rfl) (by decide) ?_
        refine lv_aload_n hx hb dM_about_105 rfl (lv_at hl 0 rfl) ?_
        refine va_get (D := D) (ci := 3) (v := .ref (ad 2)) (C := RM) (T := TM) (N := 33) hx hb hw inM hown hK hP 0 rfl rfl 2 (by decide) f13 (fun _ h9 => h9) rfl dM_about_106 ?_
        refine lv_iload_n hx hb dM_about_109 rfl (lv_at hl 1 rfl) ?_
        refine tkld_2 hx hb hK hP (tk_ixe h11_ (by unfold vp_in; decide)) dM_about_110 ?_
        exact tk_iret hx hb hr hlk hP hD hS dM_about_111 (by unfold tkM_about_r; rw [if_neg h1_, if_pos h11_, if_neg h12_, if_neg h13_, if_neg h14_, if_neg h15_, if_neg h16_, if_neg h17_, if_pos h18_]) (congrArg (WM hm ad cI cZ) rfl)
      by_cases h19_ : x1 = 7
      · refine lv_tableIn (tgt := 112) hx hb dM_about_17 (by rw [h19_]; decide) (by rw [h19_]; decide) (by rw [h19_]; rfl) (by decide) ?_
        refine lv_aload_n hx hb dM_about_112 rfl (lv_at hl 0 rfl) ?_
        refine va_get (D := D) (ci := 3) (v := .ref (ad 7)) (C := RM) (T := TM) (N := 33) hx hb hw inM hown hK hP 0 rfl rfl 7 (by decide) f28 (fun _ h9 => h9) rfl dM_about_113 ?_
        refine lv_iload_n hx hb dM_about_116 rfl (lv_at hl 1 rfl) ?_
        refine tkld_7 hx hb hK hP (tk_ixe h11_ (by unfold vp_in; decide)) dM_about_117 ?_
        refine lv_if_eq (tgt := 125) hx hb dM_about_118 (by decide) (fun (h20_ : g 7 x0.toNatClampNeg = 0) => ?_) (fun (h20_ : ¬ (g 7 x0.toNatClampNeg = 0)) => ?_)
        · refine lv_iconst (v := 0) hx hb dM_about_125 (by decide) ?_
          exact tk_iret hx hb hr hlk hP hD hS dM_about_126 (by unfold tkM_about_r; rw [if_neg h1_, if_pos h11_, if_neg h12_, if_neg h13_, if_neg h14_, if_neg h15_, if_neg h16_, if_neg h17_, if_neg h18_, if_pos h19_, if_pos h20_]) (congrArg (WM hm ad cI cZ) rfl)
        · refine lv_iconst (v := 1) hx hb dM_about_121 (by decide) ?_
          refine lv_goto (tgt := 126) hx hb dM_about_122 (by decide) ?_
          exact tk_iret hx hb hr hlk hP hD hS dM_about_126 (by unfold tkM_about_r; rw [if_neg h1_, if_pos h11_, if_neg h12_, if_neg h13_, if_neg h14_, if_neg h15_, if_neg h16_, if_neg h17_, if_neg h18_, if_pos h19_, if_neg h20_]) (congrArg (WM hm ad cI cZ) rfl)
      have ho : (x1).toInt < 0 ∨ 7 < (x1).toInt := by
        refine tk_out (fun k h1 h2 => ?_)
        rcases (show k = 0 ∨ k = 1 ∨ k = 2 ∨ k = 3 ∨ k = 4 ∨ k = 5 ∨ k = 6 ∨ k = 7 by omega) with rfl | rfl | rfl | rfl | rfl | rfl | rfl | rfl
        · exact h12_
        · exact h13_
        · exact h14_
        · exact h15_
        · exact h16_
        · exact h17_
        · exact h18_
        · exact h19_
      refine lv_tableOut (tgt := 127) hx hb dM_about_17 ho (by decide) ?_
      refine lv_iconst (v := -1) hx hb dM_about_127 (by decide) ?_
      exact tk_iret hx hb hr hlk hP hD hS dM_about_128 (by unfold tkM_about_r; rw [if_neg h1_, if_pos h11_, if_neg h12_, if_neg h13_, if_neg h14_, if_neg h15_, if_neg h16_, if_neg h17_, if_neg h18_, if_neg h19_]) (congrArg (WM hm ad cI cZ) rfl)
    · refine lv_iconst (v := -1) hx hb dM_about_14 (by decide) ?_
      exact tk_iret hx hb hr hlk hP hD hS dM_about_15 (by unfold tkM_about_r; rw [if_neg h1_, if_neg h11_]) (congrArg (WM hm ad cI cZ) rfl)
def tkM_counter_r (g : Nat → Nat → Int32) (x0 x1 : Int32) : Int32 :=
  if x0 < 0 then (-1)
  else if x0 ≤ 2 then (if x1 = 0 then g 23 x0.toNatClampNeg
      else if x1 = 1 then (if g 19 x0.toNatClampNeg = 0 then 0
          else 1)
        else if x1 = 2 then (if g 18 x0.toNatClampNeg = 0 then 0
            else 1)
          else if x1 = 3 then g 20 x0.toNatClampNeg
            else if x1 = 4 then g 22 x0.toNatClampNeg
              else if x1 = 5 then (if g 24 x0.toNatClampNeg = 0 then 0
                  else 1)
                else if x1 = 6 then (if g 25 x0.toNatClampNeg = 0 then 0
                    else 1)
                  else (-1))
    else (-1)
def tkM_counter_s (g : Nat → Nat → Int32) (x0 x1 : Int32) : Nat → Nat → Int32 :=
  tk_up g 0 (fun _ => 0)
set_option maxHeartbeats 1000000 in
set_option maxRecDepth 100000 in
theorem kM_counter (l : Launch) (D : va_G) (hm : Nat) (ad : Nat → Nat) (cI cZ : ClassId) (g : Nat → Nat → Int32) (x0 x1 : Int32) : tk_M l yM_counter wsM_counter { frames := 0, cells := 0, slots := 0, locals := 0 } D [(cI, .int), (cZ, .boolean)] [.ref hm, .int x0, .int x1] (WM hm ad cI cZ g) (WM hm ad cI cZ (tkM_counter_s g x0 x1)) (some (.int (tkM_counter_r g x0 x1))) := by
  refine tk_M.of (cc := cM_counter) (maxL := 3) (ret := (some .int)) (by decide) rfl (Nat.le_of_ble_eq_true rfl) ?_
  intro p e s m below meth co A H locs ls hB hK hN hA hP hD hS hl
  obtain ⟨hx, hb, hr, hml, hown, hlk, hnm, hts⟩ := hB
  have hown : s.vm.findClass RM = some m.cls := hown
  have hl : lv_has ls 3 [(0, .ref hm), (1, .int x0), (2, .int x1)] := hl
  have hw : ∀ w ∈ tkWM, w.before _ s = true := fun w h => hts w (List.mem_cons_of_mem _ h)
  have f107 := hw _ wF_M_107
  have f77 := hw _ wF_M_77
  have f65 := hw _ wF_M_65
  have f62 := hw _ wF_M_62
  have f68 := hw _ wF_M_68
  have f74 := hw _ wF_M_74
  have f80 := hw _ wF_M_80
  have f83 := hw _ wF_M_83
  refine lv_aload_n hx hb dM_counter_0 rfl (lv_at hl 0 rfl) ?_
  refine lv_iconst (v := 0) hx hb dM_counter_1 (by decide) ?_
  refine va_put (D := D) (ci := 3) (v := .int 0) (ty := .int) (C := RM) (T := TM) (N := 33) hx hb hw inM tyM tyM_ok nmM hown hK hP hD hS 0 rfl rfl 0 (by decide) f107 (fun _ h9 => h9) rfl (tyM_ok 0 (by decide)) rfl rfl (Nat.le_of_ble_eq_true rfl) dM_counter_2 (fun H locs hP hD hS => ?_)
  have hP : va_P D vwCl (WM hm ad cI cZ (tk_up g 0 (fun _ => 0))) H := hP
  have hD : va_D A (WM hm ad cI cZ (tk_up g 0 (fun _ => 0))) := hD
  refine lv_iload_n hx hb dM_counter_5 rfl (lv_at hl 1 rfl) ?_
  refine lv_if_lt (tgt := 14) hx hb dM_counter_6 (by decide) (fun (h1_ : x0 < 0) => ?_) (fun (h1_ : ¬ (x0 < 0)) => ?_)
  · refine lv_iconst (v := -1) hx hb dM_counter_14 (by decide) ?_
    exact tk_iret hx hb hr hlk hP hD hS dM_counter_15 (by unfold tkM_counter_r; rw [if_pos h1_]) (congrArg (WM hm ad cI cZ) rfl)
  · refine lv_iload_n hx hb dM_counter_9 rfl (lv_at hl 1 rfl) ?_
    refine lv_iconst (v := 2) hx hb dM_counter_10 (by decide) ?_
    refine lv_icmp_le (tgt := 16) hx hb dM_counter_11 (by decide) (fun (h2_ : x0 ≤ 2) => ?_) (fun (h2_ : ¬ (x0 ≤ 2)) => ?_)
    · refine lv_iload_n hx hb dM_counter_16 rfl (lv_at hl 2 rfl) ?_
      by_cases h3_ : x1 = 0
      · refine lv_tableIn (tgt := 60) hx hb dM_counter_17 (by rw [h3_]; decide) (by rw [h3_]; decide) (by rw [h3_]; rfl) (by decide) ?_
        refine lv_aload_n hx hb dM_counter_60 rfl (lv_at hl 0 rfl) ?_
        refine va_get (D := D) (ci := 3) (v := .ref (ad 23)) (C := RM) (T := TM) (N := 33) hx hb hw inM hown hK hP 0 rfl rfl 23 (by decide) f77 (fun _ h9 => h9) rfl dM_counter_61 ?_
        refine lv_iload_n hx hb dM_counter_64 rfl (lv_at hl 1 rfl) ?_
        refine tkld_23 hx hb hK hP (tk_ixl3 h1_ h2_) dM_counter_65 ?_
        exact tk_iret hx hb hr hlk hP hD hS dM_counter_66 (by unfold tkM_counter_r; rw [if_neg h1_, if_pos h2_, if_pos h3_]) (congrArg (WM hm ad cI cZ) rfl)
      by_cases h4_ : x1 = 1
      · refine lv_tableIn (tgt := 67) hx hb dM_counter_17 (by rw [h4_]; decide) (by rw [h4_]; decide) (by rw [h4_]; rfl) (by decide) ?_
        refine lv_aload_n hx hb dM_counter_67 rfl (lv_at hl 0 rfl) ?_
        refine va_get (D := D) (ci := 3) (v := .ref (ad 19)) (C := RM) (T := TM) (N := 33) hx hb hw inM hown hK hP 0 rfl rfl 19 (by decide) f65 (fun _ h9 => h9) rfl dM_counter_68 ?_
        refine lv_iload_n hx hb dM_counter_71 rfl (lv_at hl 1 rfl) ?_
        refine tkld_19 hx hb hK hP (tk_ixl3 h1_ h2_) dM_counter_72 ?_
        refine lv_if_eq (tgt := 80) hx hb dM_counter_73 (by decide) (fun (h5_ : g 19 x0.toNatClampNeg = 0) => ?_) (fun (h5_ : ¬ (g 19 x0.toNatClampNeg = 0)) => ?_)
        · refine lv_iconst (v := 0) hx hb dM_counter_80 (by decide) ?_
          exact tk_iret hx hb hr hlk hP hD hS dM_counter_81 (by unfold tkM_counter_r; rw [if_neg h1_, if_pos h2_, if_neg h3_, if_pos h4_, if_pos h5_]) (congrArg (WM hm ad cI cZ) rfl)
        · refine lv_iconst (v := 1) hx hb dM_counter_76 (by decide) ?_
          refine lv_goto (tgt := 81) hx hb dM_counter_77 (by decide) ?_
          exact tk_iret hx hb hr hlk hP hD hS dM_counter_81 (by unfold tkM_counter_r; rw [if_neg h1_, if_pos h2_, if_neg h3_, if_pos h4_, if_neg h5_]) (congrArg (WM hm ad cI cZ) rfl)
      by_cases h6_ : x1 = 2
      · refine lv_tableIn (tgt := 82) hx hb dM_counter_17 (by rw [h6_]; decide) (by rw [h6_]; decide) (by rw [h6_]; rfl) (by decide) ?_
        refine lv_aload_n hx hb dM_counter_82 rfl (lv_at hl 0 rfl) ?_
        refine va_get (D := D) (ci := 3) (v := .ref (ad 18)) (C := RM) (T := TM) (N := 33) hx hb hw inM hown hK hP 0 rfl rfl 18 (by decide) f62 (fun _ h9 => h9) rfl dM_counter_83 ?_
        refine lv_iload_n hx hb dM_counter_86 rfl (lv_at hl 1 rfl) ?_
        refine tkld_18 hx hb hK hP (tk_ixl3 h1_ h2_) dM_counter_87 ?_
        refine lv_if_eq (tgt := 95) hx hb dM_counter_88 (by decide) (fun (h7_ : g 18 x0.toNatClampNeg = 0) => ?_) (fun (h7_ : ¬ (g 18 x0.toNatClampNeg = 0)) => ?_)
        · refine lv_iconst (v := 0) hx hb dM_counter_95 (by decide) ?_
          exact tk_iret hx hb hr hlk hP hD hS dM_counter_96 (by unfold tkM_counter_r; rw [if_neg h1_, if_pos h2_, if_neg h3_, if_neg h4_, if_pos h6_, if_pos h7_]) (congrArg (WM hm ad cI cZ) rfl)
        · refine lv_iconst (v := 1) hx hb dM_counter_91 (by decide) ?_
          refine lv_goto (tgt := 96) hx hb dM_counter_92 (by decide) ?_
          exact tk_iret hx hb hr hlk hP hD hS dM_counter_96 (by unfold tkM_counter_r; rw [if_neg h1_, if_pos h2_, if_neg h3_, if_neg h4_, if_pos h6_, if_neg h7_]) (congrArg (WM hm ad cI cZ) rfl)
      by_cases h8_ : x1 = 3
      · refine lv_tableIn (tgt := 97) hx hb dM_counter_17 (by rw [h8_]; decide) (by rw [h8_]; decide) (by rw [h8_]; rfl) (by decide) ?_
        refine lv_aload_n hx hb dM_counter_97 rfl (lv_at hl 0 rfl) ?_
        refine va_get (D := D) (ci := 3) (v := .ref (ad 20)) (C := RM) (T := TM) (N := 33) hx hb hw inM hown hK hP 0 rfl rfl 20 (by decide) f68 (fun _ h9 => h9) rfl dM_counter_98 ?_
        refine lv_iload_n hx hb dM_counter_101 rfl (lv_at hl 1 rfl) ?_
        refine tkld_20 hx hb hK hP (tk_ixl3 h1_ h2_) dM_counter_102 ?_
        exact tk_iret hx hb hr hlk hP hD hS dM_counter_103 (by unfold tkM_counter_r; rw [if_neg h1_, if_pos h2_, if_neg h3_, if_neg h4_, if_neg h6_, if_pos h8_]) (congrArg (WM hm ad cI cZ) rfl)
      by_cases h9_ : x1 = 4
      · refine lv_tableIn (tgt := 104) hx hb dM_counter_17 (by rw [h9_]; decide) (by rw [h9_]; decide) (by rw [h9_]; rfl) (by decide) ?_
        refine lv_aload_n hx hb dM_counter_104 rfl (lv_at hl 0 rfl) ?_
        refine va_get (D := D) (ci := 3) (v := .ref (ad 22)) (C := RM) (T := TM) (N := 33) hx hb hw inM hown hK hP 0 rfl rfl 22 (by decide) f74 (fun _ h9 => h9) rfl dM_counter_105 ?_
        refine lv_iload_n hx hb dM_counter_108 rfl (lv_at hl 1 rfl) ?_
        refine tkld_22 hx hb hK hP (tk_ixl3 h1_ h2_) dM_counter_109 ?_
        exact tk_iret hx hb hr hlk hP hD hS dM_counter_110 (by unfold tkM_counter_r; rw [if_neg h1_, if_pos h2_, if_neg h3_, if_neg h4_, if_neg h6_, if_neg h8_, if_pos h9_]) (congrArg (WM hm ad cI cZ) rfl)
      by_cases h10_ : x1 = 5
      · refine lv_tableIn (tgt := 111) hx hb dM_counter_17 (by rw [h10_]; decide) (by rw [h10_]; decide) (by rw [h10_]; rfl) (by decide) ?_
        refine lv_aload_n hx hb dM_counter_111 rfl (lv_at hl 0 rfl) ?_
        refine va_get (D := D) (ci := 3) (v := .ref (ad 24)) (C := RM) (T := TM) (N := 33) hx hb hw inM hown hK hP 0 rfl rfl 24 (by decide) f80 (fun _ h9 => h9) rfl dM_counter_112 ?_
        refine lv_iload_n hx hb dM_counter_115 rfl (lv_at hl 1 rfl) ?_
        refine tkld_24 hx hb hK hP (tk_ixl3 h1_ h2_) dM_counter_116 ?_
        refine lv_if_eq (tgt := 124) hx hb dM_counter_117 (by decide) (fun (h11_ : g 24 x0.toNatClampNeg = 0) => ?_) (fun (h11_ : ¬ (g 24 x0.toNatClampNeg = 0)) => ?_)
        · refine lv_iconst (v := 0) hx hb dM_counter_124 (by decide) ?_
          exact tk_iret hx hb hr hlk hP hD hS dM_counter_125 (by unfold tkM_counter_r; rw [if_neg h1_, if_pos h2_, if_neg h3_, if_neg h4_, if_neg h6_, if_neg h8_, if_neg h9_, if_pos h10_, if_pos h11_]) (congrArg (WM hm ad cI cZ) rfl)
        · refine lv_iconst (v := 1) hx hb dM_counter_120 (by decide) ?_
          refine lv_goto (tgt := 125) hx hb dM_counter_121 (by decide) ?_
          exact tk_iret hx hb hr hlk hP hD hS dM_counter_125 (by unfold tkM_counter_r; rw [if_neg h1_, if_pos h2_, if_neg h3_, if_neg h4_, if_neg h6_, if_neg h8_, if_neg h9_, if_pos h10_, if_neg h11_]) (congrArg (WM hm ad cI cZ) rfl)
      by_cases h12_ : x1 = 6
      · refine lv_tableIn (tgt := 126) hx hb dM_counter_17 (by rw [h12_]; decide) (by rw [h12_]; decide) (by rw [h12_]; rfl) (by decide) ?_
        refine lv_aload_n hx hb dM_counter_126 rfl (lv_at hl 0 rfl) ?_
        refine va_get (D := D) (ci := 3) (v := .ref (ad 25)) (C := RM) (T := TM) (N := 33) hx hb hw inM hown hK hP 0 rfl rfl 25 (by decide) f83 (fun _ h9 => h9) rfl dM_counter_127 ?_
        refine lv_iload_n hx hb dM_counter_130 rfl (lv_at hl 1 rfl) ?_
        refine tkld_25 hx hb hK hP (tk_ixl3 h1_ h2_) dM_counter_131 ?_
        refine lv_if_eq (tgt := 139) hx hb dM_counter_132 (by decide) (fun (h13_ : g 25 x0.toNatClampNeg = 0) => ?_) (fun (h13_ : ¬ (g 25 x0.toNatClampNeg = 0)) => ?_)
        · refine lv_iconst (v := 0) hx hb dM_counter_139 (by decide) ?_
          exact tk_iret hx hb hr hlk hP hD hS dM_counter_140 (by unfold tkM_counter_r; rw [if_neg h1_, if_pos h2_, if_neg h3_, if_neg h4_, if_neg h6_, if_neg h8_, if_neg h9_, if_neg h10_, if_pos h12_, if_pos h13_]) (congrArg (WM hm ad cI cZ) rfl)
        · refine lv_iconst (v := 1) hx hb dM_counter_135 (by decide) ?_
          refine lv_goto (tgt := 140) hx hb dM_counter_136 (by decide) ?_
          exact tk_iret hx hb hr hlk hP hD hS dM_counter_140 (by unfold tkM_counter_r; rw [if_neg h1_, if_pos h2_, if_neg h3_, if_neg h4_, if_neg h6_, if_neg h8_, if_neg h9_, if_neg h10_, if_pos h12_, if_neg h13_]) (congrArg (WM hm ad cI cZ) rfl)
      have ho : (x1).toInt < 0 ∨ 6 < (x1).toInt := by
        refine tk_out (fun k h1 h2 => ?_)
        rcases (show k = 0 ∨ k = 1 ∨ k = 2 ∨ k = 3 ∨ k = 4 ∨ k = 5 ∨ k = 6 by omega) with rfl | rfl | rfl | rfl | rfl | rfl | rfl
        · exact h3_
        · exact h4_
        · exact h6_
        · exact h8_
        · exact h9_
        · exact h10_
        · exact h12_
      refine lv_tableOut (tgt := 141) hx hb dM_counter_17 ho (by decide) ?_
      refine lv_iconst (v := -1) hx hb dM_counter_141 (by decide) ?_
      exact tk_iret hx hb hr hlk hP hD hS dM_counter_142 (by unfold tkM_counter_r; rw [if_neg h1_, if_pos h2_, if_neg h3_, if_neg h4_, if_neg h6_, if_neg h8_, if_neg h9_, if_neg h10_, if_neg h12_]) (congrArg (WM hm ad cI cZ) rfl)
    · refine lv_iconst (v := -1) hx hb dM_counter_14 (by decide) ?_
      exact tk_iret hx hb hr hlk hP hD hS dM_counter_15 (by unfold tkM_counter_r; rw [if_neg h1_, if_neg h2_]) (congrArg (WM hm ad cI cZ) rfl)
