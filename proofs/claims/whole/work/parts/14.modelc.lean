def tkM_latchStatus_s (g : Nat → Nat → Int32) (x0 : Int32) : Nat → Nat → Int32 :=
  if g 19 x0.toNatClampNeg = 0 then (if g 27 x0.toNatClampNeg = 0 then (if 0 ≤ g 32 x0.toNatClampNeg then tk_up g 32 (upd (g 32) x0.toNatClampNeg (g 32 x0.toNatClampNeg))
      else tk_up g 32 (upd (g 32) x0.toNatClampNeg (((0 + 0) + (16 * (g 21 x0.toNatClampNeg))) + (2 * (g 20 x0.toNatClampNeg)))))
    else if 0 ≤ g 32 x0.toNatClampNeg then tk_up g 32 (upd (g 32) x0.toNatClampNeg (g 32 x0.toNatClampNeg))
      else tk_up g 32 (upd (g 32) x0.toNatClampNeg (((0 + 64) + (16 * (g 21 x0.toNatClampNeg))) + (2 * (g 20 x0.toNatClampNeg)))))
  else if g 27 x0.toNatClampNeg = 0 then (if 0 ≤ g 32 x0.toNatClampNeg then tk_up g 32 (upd (g 32) x0.toNatClampNeg (g 32 x0.toNatClampNeg))
      else tk_up g 32 (upd (g 32) x0.toNatClampNeg (((128 + 0) + (16 * (g 21 x0.toNatClampNeg))) + (2 * (g 20 x0.toNatClampNeg)))))
    else if 0 ≤ g 32 x0.toNatClampNeg then tk_up g 32 (upd (g 32) x0.toNatClampNeg (g 32 x0.toNatClampNeg))
      else tk_up g 32 (upd (g 32) x0.toNatClampNeg (((128 + 64) + (16 * (g 21 x0.toNatClampNeg))) + (2 * (g 20 x0.toNatClampNeg))))
set_option maxHeartbeats 1000000 in
set_option maxRecDepth 100000 in
theorem kM_latchStatus (l : Launch) (D : va_G) (hm : Nat) (ad : Nat → Nat) (cI cZ : ClassId) (g : Nat → Nat → Int32) (x0 : Int32) (hi0 : vp_in x0 3) : tk_M l yM_latchStatus wsM_latchStatus { frames := 0, cells := 0, slots := 0, locals := 0 } D [(cI, .int), (cZ, .boolean)] [.ref hm, .int x0] (WM hm ad cI cZ g) (WM hm ad cI cZ (tkM_latchStatus_s g x0)) none := by
  refine tk_M.of (cc := cM_latchStatus) (maxL := 3) (ret := none) (by decide) rfl (Nat.le_of_ble_eq_true rfl) ?_
  intro p e s m below meth co A H locs ls hB hK hN hA hP hD hS hl
  obtain ⟨hx, hb, hr, hml, hown, hlk, hnm, hts⟩ := hB
  have hown : s.vm.findClass RM = some m.cls := hown
  have hl : lv_has ls 3 [(0, .ref hm), (1, .int x0)] := hl
  have hw : ∀ w ∈ tkWM, w.before _ s = true := fun w h => hts w (List.mem_cons_of_mem _ h)
  have f65 := hw _ wF_M_65
  have f89 := hw _ wF_M_89
  have f71 := hw _ wF_M_71
  have f68 := hw _ wF_M_68
  have f104 := hw _ wF_M_104
  refine lv_aload_n hx hb dM_latchStatus_0 rfl (lv_at hl 0 rfl) ?_
  refine va_get (D := D) (ci := 3) (v := .ref (ad 19)) (C := RM) (T := TM) (N := 33) hx hb hw inM hown hK hP 0 rfl rfl 19 (by decide) f65 (fun _ h9 => h9) rfl dM_latchStatus_1 ?_
  refine lv_iload_n hx hb dM_latchStatus_4 rfl (lv_at hl 1 rfl) ?_
  refine tkld_19 hx hb hK hP hi0 dM_latchStatus_5 ?_
  refine lv_if_eq (tgt := 15) hx hb dM_latchStatus_6 (by decide) (fun (h1_ : g 19 x0.toNatClampNeg = 0) => ?_) (fun (h1_ : ¬ (g 19 x0.toNatClampNeg = 0)) => ?_)
  · refine lv_iconst (v := 0) hx hb dM_latchStatus_15 (by decide) ?_
    refine lv_aload_n hx hb dM_latchStatus_16 rfl (lv_at hl 0 rfl) ?_
    refine va_get (D := D) (ci := 3) (v := .ref (ad 27)) (C := RM) (T := TM) (N := 33) hx hb hw inM hown hK hP 0 rfl rfl 27 (by decide) f89 (fun _ h9 => h9) rfl dM_latchStatus_17 ?_
    refine lv_iload_n hx hb dM_latchStatus_20 rfl (lv_at hl 1 rfl) ?_
    refine tkld_27 hx hb hK hP hi0 dM_latchStatus_21 ?_
    refine lv_if_eq (tgt := 30) hx hb dM_latchStatus_22 (by decide) (fun (h2_ : g 27 x0.toNatClampNeg = 0) => ?_) (fun (h2_ : ¬ (g 27 x0.toNatClampNeg = 0)) => ?_)
    · refine lv_iconst (v := 0) hx hb dM_latchStatus_30 (by decide) ?_
      refine lv_iadd hx hb dM_latchStatus_31 ?_
      refine lv_bipush (v := 16) hx hb dM_latchStatus_32 (by decide) ?_
      refine lv_aload_n hx hb dM_latchStatus_34 rfl (lv_at hl 0 rfl) ?_
      refine va_get (D := D) (ci := 3) (v := .ref (ad 21)) (C := RM) (T := TM) (N := 33) hx hb hw inM hown hK hP 0 rfl rfl 21 (by decide) f71 (fun _ h9 => h9) rfl dM_latchStatus_35 ?_
      refine lv_iload_n hx hb dM_latchStatus_38 rfl (lv_at hl 1 rfl) ?_
      refine tkld_21 hx hb hK hP hi0 dM_latchStatus_39 ?_
      refine lv_imul hx hb dM_latchStatus_40 ?_
      refine lv_iadd hx hb dM_latchStatus_41 ?_
      refine lv_iconst (v := 2) hx hb dM_latchStatus_42 (by decide) ?_
      refine lv_aload_n hx hb dM_latchStatus_43 rfl (lv_at hl 0 rfl) ?_
      refine va_get (D := D) (ci := 3) (v := .ref (ad 20)) (C := RM) (T := TM) (N := 33) hx hb hw inM hown hK hP 0 rfl rfl 20 (by decide) f68 (fun _ h9 => h9) rfl dM_latchStatus_44 ?_
      refine lv_iload_n hx hb dM_latchStatus_47 rfl (lv_at hl 1 rfl) ?_
      refine tkld_20 hx hb hK hP hi0 dM_latchStatus_48 ?_
      refine lv_imul hx hb dM_latchStatus_49 ?_
      refine lv_iadd hx hb dM_latchStatus_50 ?_
      refine lv_istore_n hx hb dM_latchStatus_51 rfl hl (by decide) rfl (fun ls hl => ?_)
      have hl : lv_has ls 3 [(2, .int (((0 + 0) + (16 * (g 21 x0.toNatClampNeg))) + (2 * (g 20 x0.toNatClampNeg)))), (0, .ref hm), (1, .int x0)] := hl
      refine lv_aload_n hx hb dM_latchStatus_52 rfl (lv_at hl 1 rfl) ?_
      refine va_get (D := D) (ci := 3) (v := .ref (ad 32)) (C := RM) (T := TM) (N := 33) hx hb hw inM hown hK hP 0 rfl rfl 32 (by decide) f104 (fun _ h9 => h9) rfl dM_latchStatus_53 ?_
      refine lv_iload_n hx hb dM_latchStatus_56 rfl (lv_at hl 2 rfl) ?_
      refine lv_aload_n hx hb dM_latchStatus_57 rfl (lv_at hl 1 rfl) ?_
      refine va_get (D := D) (ci := 3) (v := .ref (ad 32)) (C := RM) (T := TM) (N := 33) hx hb hw inM hown hK hP 0 rfl rfl 32 (by decide) f104 (fun _ h9 => h9) rfl dM_latchStatus_58 ?_
      refine lv_iload_n hx hb dM_latchStatus_61 rfl (lv_at hl 2 rfl) ?_
      refine tkld_32 hx hb hK hP hi0 dM_latchStatus_62 ?_
      refine lv_if_ge (tgt := 70) hx hb dM_latchStatus_63 (by decide) (fun (h3_ : 0 ≤ g 32 x0.toNatClampNeg) => ?_) (fun (h3_ : ¬ (0 ≤ g 32 x0.toNatClampNeg)) => ?_)
      · refine lv_aload_n hx hb dM_latchStatus_70 rfl (lv_at hl 1 rfl) ?_
        refine va_get (D := D) (ci := 3) (v := .ref (ad 32)) (C := RM) (T := TM) (N := 33) hx hb hw inM hown hK hP 0 rfl rfl 32 (by decide) f104 (fun _ h9 => h9) rfl dM_latchStatus_71 ?_
        refine lv_iload_n hx hb dM_latchStatus_74 rfl (lv_at hl 2 rfl) ?_
        refine tkld_32 hx hb hK hP hi0 dM_latchStatus_75 ?_
        refine tkst_32 hx hb hK hP hD hS hi0 dM_latchStatus_76 (fun H locs hP hD hS => ?_)
        have hP : va_P D vwCl (WM hm ad cI cZ (tk_up g 32 (upd (g 32) x0.toNatClampNeg (g 32 x0.toNatClampNeg)))) H := hP
        have hD : va_D A (WM hm ad cI cZ (tk_up g 32 (upd (g 32) x0.toNatClampNeg (g 32 x0.toNatClampNeg)))) := hD
        exact tk_vret hx hb hr hlk hP hD hS dM_latchStatus_77 (congrArg (WM hm ad cI cZ) (by unfold tkM_latchStatus_s; rw [if_pos h1_, if_pos h2_, if_pos h3_]))
      · refine lv_iload_n hx hb dM_latchStatus_66 rfl (lv_at hl 0 rfl) ?_
        refine lv_goto (tgt := 76) hx hb dM_latchStatus_67 (by decide) ?_
        refine tkst_32 hx hb hK hP hD hS hi0 dM_latchStatus_76 (fun H locs hP hD hS => ?_)
        have hP : va_P D vwCl (WM hm ad cI cZ (tk_up g 32 (upd (g 32) x0.toNatClampNeg (((0 + 0) + (16 * (g 21 x0.toNatClampNeg))) + (2 * (g 20 x0.toNatClampNeg)))))) H := hP
        have hD : va_D A (WM hm ad cI cZ (tk_up g 32 (upd (g 32) x0.toNatClampNeg (((0 + 0) + (16 * (g 21 x0.toNatClampNeg))) + (2 * (g 20 x0.toNatClampNeg)))))) := hD
        exact tk_vret hx hb hr hlk hP hD hS dM_latchStatus_77 (congrArg (WM hm ad cI cZ) (by unfold tkM_latchStatus_s; rw [if_pos h1_, if_pos h2_, if_neg h3_]))
    · refine lv_bipush (v := 64) hx hb dM_latchStatus_25 (by decide) ?_
      refine lv_goto (tgt := 31) hx hb dM_latchStatus_27 (by decide) ?_
      refine lv_iadd hx hb dM_latchStatus_31 ?_
      refine lv_bipush (v := 16) hx hb dM_latchStatus_32 (by decide) ?_
      refine lv_aload_n hx hb dM_latchStatus_34 rfl (lv_at hl 0 rfl) ?_
      refine va_get (D := D) (ci := 3) (v := .ref (ad 21)) (C := RM) (T := TM) (N := 33) hx hb hw inM hown hK hP 0 rfl rfl 21 (by decide) f71 (fun _ h9 => h9) rfl dM_latchStatus_35 ?_
      refine lv_iload_n hx hb dM_latchStatus_38 rfl (lv_at hl 1 rfl) ?_
      refine tkld_21 hx hb hK hP hi0 dM_latchStatus_39 ?_
      refine lv_imul hx hb dM_latchStatus_40 ?_
      refine lv_iadd hx hb dM_latchStatus_41 ?_
      refine lv_iconst (v := 2) hx hb dM_latchStatus_42 (by decide) ?_
      refine lv_aload_n hx hb dM_latchStatus_43 rfl (lv_at hl 0 rfl) ?_
      refine va_get (D := D) (ci := 3) (v := .ref (ad 20)) (C := RM) (T := TM) (N := 33) hx hb hw inM hown hK hP 0 rfl rfl 20 (by decide) f68 (fun _ h9 => h9) rfl dM_latchStatus_44 ?_
      refine lv_iload_n hx hb dM_latchStatus_47 rfl (lv_at hl 1 rfl) ?_
      refine tkld_20 hx hb hK hP hi0 dM_latchStatus_48 ?_
      refine lv_imul hx hb dM_latchStatus_49 ?_
      refine lv_iadd hx hb dM_latchStatus_50 ?_
      refine lv_istore_n hx hb dM_latchStatus_51 rfl hl (by decide) rfl (fun ls hl => ?_)
      have hl : lv_has ls 3 [(2, .int (((0 + 64) + (16 * (g 21 x0.toNatClampNeg))) + (2 * (g 20 x0.toNatClampNeg)))), (0, .ref hm), (1, .int x0)] := hl
      refine lv_aload_n hx hb dM_latchStatus_52 rfl (lv_at hl 1 rfl) ?_
      refine va_get (D := D) (ci := 3) (v := .ref (ad 32)) (C := RM) (T := TM) (N := 33) hx hb hw inM hown hK hP 0 rfl rfl 32 (by decide) f104 (fun _ h9 => h9) rfl dM_latchStatus_53 ?_
      refine lv_iload_n hx hb dM_latchStatus_56 rfl (lv_at hl 2 rfl) ?_
      refine lv_aload_n hx hb dM_latchStatus_57 rfl (lv_at hl 1 rfl) ?_
      refine va_get (D := D) (ci := 3) (v := .ref (ad 32)) (C := RM) (T := TM) (N := 33) hx hb hw inM hown hK hP 0 rfl rfl 32 (by decide) f104 (fun _ h9 => h9) rfl dM_latchStatus_58 ?_
      refine lv_iload_n hx hb dM_latchStatus_61 rfl (lv_at hl 2 rfl) ?_
      refine tkld_32 hx hb hK hP hi0 dM_latchStatus_62 ?_
      refine lv_if_ge (tgt := 70) hx hb dM_latchStatus_63 (by decide) (fun (h4_ : 0 ≤ g 32 x0.toNatClampNeg) => ?_) (fun (h4_ : ¬ (0 ≤ g 32 x0.toNatClampNeg)) => ?_)
      · refine lv_aload_n hx hb dM_latchStatus_70 rfl (lv_at hl 1 rfl) ?_
        refine va_get (D := D) (ci := 3) (v := .ref (ad 32)) (C := RM) (T := TM) (N := 33) hx hb hw inM hown hK hP 0 rfl rfl 32 (by decide) f104 (fun _ h9 => h9) rfl dM_latchStatus_71 ?_
        refine lv_iload_n hx hb dM_latchStatus_74 rfl (lv_at hl 2 rfl) ?_
        refine tkld_32 hx hb hK hP hi0 dM_latchStatus_75 ?_
        refine tkst_32 hx hb hK hP hD hS hi0 dM_latchStatus_76 (fun H locs hP hD hS => ?_)
        have hP : va_P D vwCl (WM hm ad cI cZ (tk_up g 32 (upd (g 32) x0.toNatClampNeg (g 32 x0.toNatClampNeg)))) H := hP
        have hD : va_D A (WM hm ad cI cZ (tk_up g 32 (upd (g 32) x0.toNatClampNeg (g 32 x0.toNatClampNeg)))) := hD
        exact tk_vret hx hb hr hlk hP hD hS dM_latchStatus_77 (congrArg (WM hm ad cI cZ) (by unfold tkM_latchStatus_s; rw [if_pos h1_, if_neg h2_, if_pos h4_]))
      · refine lv_iload_n hx hb dM_latchStatus_66 rfl (lv_at hl 0 rfl) ?_
        refine lv_goto (tgt := 76) hx hb dM_latchStatus_67 (by decide) ?_
        refine tkst_32 hx hb hK hP hD hS hi0 dM_latchStatus_76 (fun H locs hP hD hS => ?_)
        have hP : va_P D vwCl (WM hm ad cI cZ (tk_up g 32 (upd (g 32) x0.toNatClampNeg (((0 + 64) + (16 * (g 21 x0.toNatClampNeg))) + (2 * (g 20 x0.toNatClampNeg)))))) H := hP
        have hD : va_D A (WM hm ad cI cZ (tk_up g 32 (upd (g 32) x0.toNatClampNeg (((0 + 64) + (16 * (g 21 x0.toNatClampNeg))) + (2 * (g 20 x0.toNatClampNeg)))))) := hD
        exact tk_vret hx hb hr hlk hP hD hS dM_latchStatus_77 (congrArg (WM hm ad cI cZ) (by unfold tkM_latchStatus_s; rw [if_pos h1_, if_neg h2_, if_neg h4_]))
  · refine lv_sipush (v := 128) hx hb dM_latchStatus_9 (by decide) ?_
    refine lv_goto (tgt := 16) hx hb dM_latchStatus_12 (by decide) ?_
    refine lv_aload_n hx hb dM_latchStatus_16 rfl (lv_at hl 0 rfl) ?_
    refine va_get (D := D) (ci := 3) (v := .ref (ad 27)) (C := RM) (T := TM) (N := 33) hx hb hw inM hown hK hP 0 rfl rfl 27 (by decide) f89 (fun _ h9 => h9) rfl dM_latchStatus_17 ?_
    refine lv_iload_n hx hb dM_latchStatus_20 rfl (lv_at hl 1 rfl) ?_
    refine tkld_27 hx hb hK hP hi0 dM_latchStatus_21 ?_
    refine lv_if_eq (tgt := 30) hx hb dM_latchStatus_22 (by decide) (fun (h5_ : g 27 x0.toNatClampNeg = 0) => ?_) (fun (h5_ : ¬ (g 27 x0.toNatClampNeg = 0)) => ?_)
    · refine lv_iconst (v := 0) hx hb dM_latchStatus_30 (by decide) ?_
      refine lv_iadd hx hb dM_latchStatus_31 ?_
      refine lv_bipush (v := 16) hx hb dM_latchStatus_32 (by decide) ?_
      refine lv_aload_n hx hb dM_latchStatus_34 rfl (lv_at hl 0 rfl) ?_
      refine va_get (D := D) (ci := 3) (v := .ref (ad 21)) (C := RM) (T := TM) (N := 33) hx hb hw inM hown hK hP 0 rfl rfl 21 (by decide) f71 (fun _ h9 => h9) rfl dM_latchStatus_35 ?_
      refine lv_iload_n hx hb dM_latchStatus_38 rfl (lv_at hl 1 rfl) ?_
      refine tkld_21 hx hb hK hP hi0 dM_latchStatus_39 ?_
      refine lv_imul hx hb dM_latchStatus_40 ?_
      refine lv_iadd hx hb dM_latchStatus_41 ?_
      refine lv_iconst (v := 2) hx hb dM_latchStatus_42 (by decide) ?_
      refine lv_aload_n hx hb dM_latchStatus_43 rfl (lv_at hl 0 rfl) ?_
      refine va_get (D := D) (ci := 3) (v := .ref (ad 20)) (C := RM) (T := TM) (N := 33) hx hb hw inM hown hK hP 0 rfl rfl 20 (by decide) f68 (fun _ h9 => h9) rfl dM_latchStatus_44 ?_
      refine lv_iload_n hx hb dM_latchStatus_47 rfl (lv_at hl 1 rfl) ?_
      refine tkld_20 hx hb hK hP hi0 dM_latchStatus_48 ?_
      refine lv_imul hx hb dM_latchStatus_49 ?_
      refine lv_iadd hx hb dM_latchStatus_50 ?_
      refine lv_istore_n hx hb dM_latchStatus_51 rfl hl (by decide) rfl (fun ls hl => ?_)
      have hl : lv_has ls 3 [(2, .int (((128 + 0) + (16 * (g 21 x0.toNatClampNeg))) + (2 * (g 20 x0.toNatClampNeg)))), (0, .ref hm), (1, .int x0)] := hl
      refine lv_aload_n hx hb dM_latchStatus_52 rfl (lv_at hl 1 rfl) ?_
      refine va_get (D := D) (ci := 3) (v := .ref (ad 32)) (C := RM) (T := TM) (N := 33) hx hb hw inM hown hK hP 0 rfl rfl 32 (by decide) f104 (fun _ h9 => h9) rfl dM_latchStatus_53 ?_
      refine lv_iload_n hx hb dM_latchStatus_56 rfl (lv_at hl 2 rfl) ?_
      refine lv_aload_n hx hb dM_latchStatus_57 rfl (lv_at hl 1 rfl) ?_
      refine va_get (D := D) (ci := 3) (v := .ref (ad 32)) (C := RM) (T := TM) (N := 33) hx hb hw inM hown hK hP 0 rfl rfl 32 (by decide) f104 (fun _ h9 => h9) rfl dM_latchStatus_58 ?_
      refine lv_iload_n hx hb dM_latchStatus_61 rfl (lv_at hl 2 rfl) ?_
      refine tkld_32 hx hb hK hP hi0 dM_latchStatus_62 ?_
      refine lv_if_ge (tgt := 70) hx hb dM_latchStatus_63 (by decide) (fun (h6_ : 0 ≤ g 32 x0.toNatClampNeg) => ?_) (fun (h6_ : ¬ (0 ≤ g 32 x0.toNatClampNeg)) => ?_)
      · refine lv_aload_n hx hb dM_latchStatus_70 rfl (lv_at hl 1 rfl) ?_
        refine va_get (D := D) (ci := 3) (v := .ref (ad 32)) (C := RM) (T := TM) (N := 33) hx hb hw inM hown hK hP 0 rfl rfl 32 (by decide) f104 (fun _ h9 => h9) rfl dM_latchStatus_71 ?_
        refine lv_iload_n hx hb dM_latchStatus_74 rfl (lv_at hl 2 rfl) ?_
        refine tkld_32 hx hb hK hP hi0 dM_latchStatus_75 ?_
        refine tkst_32 hx hb hK hP hD hS hi0 dM_latchStatus_76 (fun H locs hP hD hS => ?_)
        have hP : va_P D vwCl (WM hm ad cI cZ (tk_up g 32 (upd (g 32) x0.toNatClampNeg (g 32 x0.toNatClampNeg)))) H := hP
        have hD : va_D A (WM hm ad cI cZ (tk_up g 32 (upd (g 32) x0.toNatClampNeg (g 32 x0.toNatClampNeg)))) := hD
        exact tk_vret hx hb hr hlk hP hD hS dM_latchStatus_77 (congrArg (WM hm ad cI cZ) (by unfold tkM_latchStatus_s; rw [if_neg h1_, if_pos h5_, if_pos h6_]))
      · refine lv_iload_n hx hb dM_latchStatus_66 rfl (lv_at hl 0 rfl) ?_
        refine lv_goto (tgt := 76) hx hb dM_latchStatus_67 (by decide) ?_
        refine tkst_32 hx hb hK hP hD hS hi0 dM_latchStatus_76 (fun H locs hP hD hS => ?_)
        have hP : va_P D vwCl (WM hm ad cI cZ (tk_up g 32 (upd (g 32) x0.toNatClampNeg (((128 + 0) + (16 * (g 21 x0.toNatClampNeg))) + (2 * (g 20 x0.toNatClampNeg)))))) H := hP
        have hD : va_D A (WM hm ad cI cZ (tk_up g 32 (upd (g 32) x0.toNatClampNeg (((128 + 0) + (16 * (g 21 x0.toNatClampNeg))) + (2 * (g 20 x0.toNatClampNeg)))))) := hD
        exact tk_vret hx hb hr hlk hP hD hS dM_latchStatus_77 (congrArg (WM hm ad cI cZ) (by unfold tkM_latchStatus_s; rw [if_neg h1_, if_pos h5_, if_neg h6_]))
    · refine lv_bipush (v := 64) hx hb dM_latchStatus_25 (by decide) ?_
      refine lv_goto (tgt := 31) hx hb dM_latchStatus_27 (by decide) ?_
      refine lv_iadd hx hb dM_latchStatus_31 ?_
      refine lv_bipush (v := 16) hx hb dM_latchStatus_32 (by decide) ?_
      refine lv_aload_n hx hb dM_latchStatus_34 rfl (lv_at hl 0 rfl) ?_
      refine va_get (D := D) (ci := 3) (v := .ref (ad 21)) (C := RM) (T := TM) (N := 33) hx hb hw inM hown hK hP 0 rfl rfl 21 (by decide) f71 (fun _ h9 => h9) rfl dM_latchStatus_35 ?_
      refine lv_iload_n hx hb dM_latchStatus_38 rfl (lv_at hl 1 rfl) ?_
      refine tkld_21 hx hb hK hP hi0 dM_latchStatus_39 ?_
      refine lv_imul hx hb dM_latchStatus_40 ?_
      refine lv_iadd hx hb dM_latchStatus_41 ?_
      refine lv_iconst (v := 2) hx hb dM_latchStatus_42 (by decide) ?_
      refine lv_aload_n hx hb dM_latchStatus_43 rfl (lv_at hl 0 rfl) ?_
      refine va_get (D := D) (ci := 3) (v := .ref (ad 20)) (C := RM) (T := TM) (N := 33) hx hb hw inM hown hK hP 0 rfl rfl 20 (by decide) f68 (fun _ h9 => h9) rfl dM_latchStatus_44 ?_
      refine lv_iload_n hx hb dM_latchStatus_47 rfl (lv_at hl 1 rfl) ?_
      refine tkld_20 hx hb hK hP hi0 dM_latchStatus_48 ?_
      refine lv_imul hx hb dM_latchStatus_49 ?_
      refine lv_iadd hx hb dM_latchStatus_50 ?_
      refine lv_istore_n hx hb dM_latchStatus_51 rfl hl (by decide) rfl (fun ls hl => ?_)
      have hl : lv_has ls 3 [(2, .int (((128 + 64) + (16 * (g 21 x0.toNatClampNeg))) + (2 * (g 20 x0.toNatClampNeg)))), (0, .ref hm), (1, .int x0)] := hl
      refine lv_aload_n hx hb dM_latchStatus_52 rfl (lv_at hl 1 rfl) ?_
      refine va_get (D := D) (ci := 3) (v := .ref (ad 32)) (C := RM) (T := TM) (N := 33) hx hb hw inM hown hK hP 0 rfl rfl 32 (by decide) f104 (fun _ h9 => h9) rfl dM_latchStatus_53 ?_
      refine lv_iload_n hx hb dM_latchStatus_56 rfl (lv_at hl 2 rfl) ?_
      refine lv_aload_n hx hb dM_latchStatus_57 rfl (lv_at hl 1 rfl) ?_
      refine va_get (D := D) (ci := 3) (v := .ref (ad 32)) (C := RM) (T := TM) (N := 33) hx hb hw inM hown hK hP 0 rfl rfl 32 (by decide) f104 (fun _ h9 => h9) rfl dM_latchStatus_58 ?_
      refine lv_iload_n hx hb dM_latchStatus_61 rfl (lv_at hl 2 rfl) ?_
      refine tkld_32 hx hb hK hP hi0 dM_latchStatus_62 ?_
      refine lv_if_ge (tgt := 70) hx hb dM_latchStatus_63 (by decide) (fun (h7_ : 0 ≤ g 32 x0.toNatClampNeg) => ?_) (fun (h7_ : ¬ (0 ≤ g 32 x0.toNatClampNeg)) => ?_)
      · refine lv_aload_n hx hb dM_latchStatus_70 rfl (lv_at hl 1 rfl) ?_
        refine va_get (D := D) (ci := 3) (v := .ref (ad 32)) (C := RM) (T := TM) (N := 33) hx hb hw inM hown hK hP 0 rfl rfl 32 (by decide) f104 (fun _ h9 => h9) rfl dM_latchStatus_71 ?_
        refine lv_iload_n hx hb dM_latchStatus_74 rfl (lv_at hl 2 rfl) ?_
        refine tkld_32 hx hb hK hP hi0 dM_latchStatus_75 ?_
        refine tkst_32 hx hb hK hP hD hS hi0 dM_latchStatus_76 (fun H locs hP hD hS => ?_)
        have hP : va_P D vwCl (WM hm ad cI cZ (tk_up g 32 (upd (g 32) x0.toNatClampNeg (g 32 x0.toNatClampNeg)))) H := hP
        have hD : va_D A (WM hm ad cI cZ (tk_up g 32 (upd (g 32) x0.toNatClampNeg (g 32 x0.toNatClampNeg)))) := hD
        exact tk_vret hx hb hr hlk hP hD hS dM_latchStatus_77 (congrArg (WM hm ad cI cZ) (by unfold tkM_latchStatus_s; rw [if_neg h1_, if_neg h5_, if_pos h7_]))
      · refine lv_iload_n hx hb dM_latchStatus_66 rfl (lv_at hl 0 rfl) ?_
        refine lv_goto (tgt := 76) hx hb dM_latchStatus_67 (by decide) ?_
        refine tkst_32 hx hb hK hP hD hS hi0 dM_latchStatus_76 (fun H locs hP hD hS => ?_)
        have hP : va_P D vwCl (WM hm ad cI cZ (tk_up g 32 (upd (g 32) x0.toNatClampNeg (((128 + 64) + (16 * (g 21 x0.toNatClampNeg))) + (2 * (g 20 x0.toNatClampNeg)))))) H := hP
        have hD : va_D A (WM hm ad cI cZ (tk_up g 32 (upd (g 32) x0.toNatClampNeg (((128 + 64) + (16 * (g 21 x0.toNatClampNeg))) + (2 * (g 20 x0.toNatClampNeg)))))) := hD
        exact tk_vret hx hb hr hlk hP hD hS dM_latchStatus_77 (congrArg (WM hm ad cI cZ) (by unfold tkM_latchStatus_s; rw [if_neg h1_, if_neg h5_, if_neg h7_]))
def tkM_control_v14 (g : Nat → Nat → Int32) (x0 : Int32) : Int32 :=
  if (x0 >>> ((1 : Int32) &&& 31)) &&& 7 ≤ 5 then (x0 >>> ((1 : Int32) &&& 31)) &&& 7
  else ((x0 >>> ((1 : Int32) &&& 31)) &&& 7) - 4
def tkM_control_v15 (g : Nat → Nat → Int32) (x0 : Int32) : Int32 :=
  if tkM_control_v14 g x0 = 0 then 0
  else 1
def tkM_control_w16 (g : Nat → Nat → Int32) (x0 : Int32) : Nat → Nat → Int32 :=
  if g 20 (x0 >>> ((6 : Int32) &&& 31)).toNatClampNeg < 0 then g
  else tkM_latch_s g (x0 >>> ((6 : Int32) &&& 31))
def tkM_control_v17 (g : Nat → Nat → Int32) (x0 : Int32) : Int32 :=
  if (x0 >>> ((1 + 0) &&& 31)) &&& 1 = 1 then (if g 20 (0 : Int32).toNatClampNeg < 0 then 0
    else 1)
  else 0
def tkM_control_w18 (g : Nat → Nat → Int32) (x0 : Int32) : Nat → Nat → Int32 :=
  if tkM_control_v17 g x0 = 0 then g
  else if x0 &&& 32 = 0 then tkM_latch_s g 0
    else g
def tkM_control_w19 (g : Nat → Nat → Int32) (x0 : Int32) : Nat → Nat → Int32 :=
  if tkM_control_v17 g x0 = 0 then tkM_control_w18 g x0
  else if x0 &&& 16 = 0 then tkM_latchStatus_s (tkM_control_w18 g x0) 0
    else tkM_control_w18 g x0
def tkM_control_v20 (g : Nat → Nat → Int32) (x0 : Int32) : Int32 :=
  if (x0 >>> ((1 + 1) &&& 31)) &&& 1 = 1 then (if ((tkM_control_w19 g x0) 20) (1 : Int32).toNatClampNeg < 0 then 0
    else 1)
  else 0
def tkM_control_w21 (g : Nat → Nat → Int32) (x0 : Int32) : Nat → Nat → Int32 :=
  if tkM_control_v20 g x0 = 0 then tkM_control_w19 g x0
  else if x0 &&& 32 = 0 then tkM_latch_s (tkM_control_w19 g x0) 1
    else tkM_control_w19 g x0
def tkM_control_w22 (g : Nat → Nat → Int32) (x0 : Int32) : Nat → Nat → Int32 :=
  if tkM_control_v20 g x0 = 0 then tkM_control_w21 g x0
  else if x0 &&& 16 = 0 then tkM_latchStatus_s (tkM_control_w21 g x0) 1
    else tkM_control_w21 g x0
def tkM_control_v23 (g : Nat → Nat → Int32) (x0 : Int32) : Int32 :=
  if (x0 >>> ((1 + 2) &&& 31)) &&& 1 = 1 then (if ((tkM_control_w22 g x0) 20) (2 : Int32).toNatClampNeg < 0 then 0
    else 1)
  else 0
def tkM_control_w24 (g : Nat → Nat → Int32) (x0 : Int32) : Nat → Nat → Int32 :=
  if tkM_control_v23 g x0 = 0 then tkM_control_w22 g x0
  else if x0 &&& 32 = 0 then tkM_latch_s (tkM_control_w22 g x0) 2
    else tkM_control_w22 g x0
def tkM_control_w25 (g : Nat → Nat → Int32) (x0 : Int32) : Nat → Nat → Int32 :=
  if tkM_control_v23 g x0 = 0 then tkM_control_w24 g x0
  else if x0 &&& 16 = 0 then tkM_latchStatus_s (tkM_control_w24 g x0) 2
    else tkM_control_w24 g x0
def tkM_control_s (g : Nat → Nat → Int32) (x0 : Int32) : Nat → Nat → Int32 :=
  if x0 >>> ((6 : Int32) &&& 31) = 3 then tkM_control_w25 g x0
  else if (x0 >>> ((4 : Int32) &&& 31)) &&& 3 = 0 then tkM_control_w16 g x0
    else tk_up (tk_up (tk_up (tk_up (tk_up (tk_up (tk_up (tk_up (tk_up (tk_up (tk_up (tk_up g 21 (upd (g 21) (x0 >>> ((6 : Int32) &&& 31)).toNatClampNeg ((x0 >>> ((4 : Int32) &&& 31)) &&& 3))) 20 (upd (g 20) (x0 >>> ((6 : Int32) &&& 31)).toNatClampNeg (tkM_control_v14 g x0))) 22 (upd (g 22) (x0 >>> ((6 : Int32) &&& 31)).toNatClampNeg 0)) 24 (upd (g 24) (x0 >>> ((6 : Int32) &&& 31)).toNatClampNeg 0)) 25 (upd (g 25) (x0 >>> ((6 : Int32) &&& 31)).toNatClampNeg 0)) 26 (upd (g 26) (x0 >>> ((6 : Int32) &&& 31)).toNatClampNeg 0)) 31 (upd (g 31) (x0 >>> ((6 : Int32) &&& 31)).toNatClampNeg (-1))) 32 (upd (g 32) (x0 >>> ((6 : Int32) &&& 31)).toNatClampNeg (-1))) 28 (upd (g 28) (x0 >>> ((6 : Int32) &&& 31)).toNatClampNeg 0)) 30 (upd (g 30) (x0 >>> ((6 : Int32) &&& 31)).toNatClampNeg 0)) 27 (upd (g 27) (x0 >>> ((6 : Int32) &&& 31)).toNatClampNeg 1)) 19 (upd (g 19) (x0 >>> ((6 : Int32) &&& 31)).toNatClampNeg (vp_nar .boolean (tkM_control_v15 g x0)))
set_option maxHeartbeats 1000000 in
set_option maxRecDepth 100000 in
theorem kM_control (l : Launch) (D : va_G) (hm : Nat) (ad : Nat → Nat) (cI cZ : ClassId) (g : Nat → Nat → Int32) (x0 : Int32) (hq : ¬ x0 >>> ((6 : Int32) &&& 31) = 3 → vp_in (x0 >>> ((6 : Int32) &&& 31)) 3) : tk_M l yM_control wsM_control { frames := 1, cells := 0, slots := 0, locals := 22 } D [(cI, .int), (cZ, .boolean)] [.ref hm, .int x0] (WM hm ad cI cZ g) (WM hm ad cI cZ (tkM_control_s g x0)) none := by
  refine tk_M.of (cc := cM_control) (maxL := 6) (ret := none) (by decide) rfl (Nat.le_of_ble_eq_true rfl) ?_
  intro p e s m below meth co A H locs ls hB hK hN hA hP hD hS hl
  obtain ⟨hx, hb, hr, hml, hown, hlk, hnm, hts⟩ := hB
  have hown : s.vm.findClass RM = some m.cls := hown
  have hl : lv_has ls 6 [(0, .ref hm), (1, .int x0)] := hl
  have hw : ∀ w ∈ tkWM, w.before _ s = true := fun w h => hts w (List.mem_cons_of_mem _ h)
  have f71 := hw _ wF_M_71
  have f68 := hw _ wF_M_68
  have f74 := hw _ wF_M_74
  have f80 := hw _ wF_M_80
  have f83 := hw _ wF_M_83
  have f86 := hw _ wF_M_86
  have f101 := hw _ wF_M_101
  have f104 := hw _ wF_M_104
  have f92 := hw _ wF_M_92
  have f98 := hw _ wF_M_98
  have f89 := hw _ wF_M_89
  have f65 := hw _ wF_M_65
  refine lv_iload_n hx hb dM_control_0 rfl (lv_at hl 1 rfl) ?_
  refine lv_bipush (v := 6) hx hb dM_control_1 (by decide) ?_
  refine lv_ishr hx hb dM_control_3 ?_
  refine lv_istore_n hx hb dM_control_4 rfl hl (by decide) rfl (fun ls hl => ?_)
  have hl : lv_has ls 6 [(2, .int (x0 >>> ((6 : Int32) &&& 31))), (0, .ref hm), (1, .int x0)] := hl
  refine lv_iload_n hx hb dM_control_5 rfl (lv_at hl 2 rfl) ?_
  refine lv_iconst (v := 4) hx hb dM_control_6 (by decide) ?_
  refine lv_ishr hx hb dM_control_7 ?_
  refine lv_iconst (v := 3) hx hb dM_control_8 (by decide) ?_
  refine lv_iand hx hb dM_control_9 ?_
  refine lv_istore_n hx hb dM_control_10 rfl hl (by decide) rfl (fun ls hl => ?_)
  have hl : lv_has ls 6 [(3, .int ((x0 >>> ((4 : Int32) &&& 31)) &&& 3)), (2, .int (x0 >>> ((6 : Int32) &&& 31))), (0, .ref hm), (1, .int x0)] := hl
  refine lv_iload_n hx hb dM_control_11 rfl (lv_at hl 1 rfl) ?_
  refine lv_iconst (v := 3) hx hb dM_control_12 (by decide) ?_
  refine lv_icmp_ne (tgt := 99) hx hb dM_control_13 (by decide) (fun (h1_ : ¬ (x0 >>> ((6 : Int32) &&& 31) = 3)) => ?_) (fun (h1_ : x0 >>> ((6 : Int32) &&& 31) = 3) => ?_)
  · refine lv_iload_n hx hb dM_control_99 rfl (lv_at hl 0 rfl) ?_
    refine lv_if_ne (tgt := 120) hx hb dM_control_100 (by decide) (fun (h2_ : ¬ ((x0 >>> ((4 : Int32) &&& 31)) &&& 3 = 0)) => ?_) (fun (h2_ : (x0 >>> ((4 : Int32) &&& 31)) &&& 3 = 0) => ?_)
    · refine lv_iload_n hx hb dM_control_120 rfl (lv_at hl 3 rfl) ?_
      refine lv_iconst (v := 1) hx hb dM_control_121 (by decide) ?_
      refine lv_ishr hx hb dM_control_122 ?_
      refine lv_bipush (v := 7) hx hb dM_control_123 (by decide) ?_
      refine lv_iand hx hb dM_control_125 ?_
      refine lv_istore hx hb dM_control_126 hl (by decide) rfl (fun ls hl => ?_)
      have hl : lv_has ls 6 [(4, .int ((x0 >>> ((1 : Int32) &&& 31)) &&& 7)), (3, .int ((x0 >>> ((4 : Int32) &&& 31)) &&& 3)), (2, .int (x0 >>> ((6 : Int32) &&& 31))), (0, .ref hm), (1, .int x0)] := hl
      refine lv_aload_n hx hb dM_control_128 rfl (lv_at hl 3 rfl) ?_
      refine va_get (D := D) (ci := 3) (v := .ref (ad 21)) (C := RM) (T := TM) (N := 33) hx hb hw inM hown hK hP 0 rfl rfl 21 (by decide) f71 (fun _ h9 => h9) rfl dM_control_129 ?_
      refine lv_iload_n hx hb dM_control_132 rfl (lv_at hl 2 rfl) ?_
      refine lv_iload_n hx hb dM_control_133 rfl (lv_at hl 1 rfl) ?_
      refine tkst_21 hx hb hK hP hD hS (hq h1_) dM_control_134 (fun H locs hP hD hS => ?_)
      have hP : va_P D vwCl (WM hm ad cI cZ (tk_up g 21 (upd (g 21) (x0 >>> ((6 : Int32) &&& 31)).toNatClampNeg ((x0 >>> ((4 : Int32) &&& 31)) &&& 3)))) H := hP
      have hD : va_D A (WM hm ad cI cZ (tk_up g 21 (upd (g 21) (x0 >>> ((6 : Int32) &&& 31)).toNatClampNeg ((x0 >>> ((4 : Int32) &&& 31)) &&& 3)))) := hD
      refine lv_aload_n hx hb dM_control_135 rfl (lv_at hl 3 rfl) ?_
      refine va_get (D := D) (ci := 3) (v := .ref (ad 20)) (C := RM) (T := TM) (N := 33) hx hb hw inM hown hK hP 0 rfl rfl 20 (by decide) f68 (fun _ h9 => h9) rfl dM_control_136 ?_
      refine lv_iload_n hx hb dM_control_139 rfl (lv_at hl 2 rfl) ?_
      refine lv_iload hx hb dM_control_140 (lv_at hl 0 rfl) ?_
      refine lv_iconst (v := 5) hx hb dM_control_142 (by decide) ?_
      refine tk_mrg (D := D) (ws1 := (WM hm ad cI cZ (tk_up g 21 (upd (g 21) (x0 >>> ((6 : Int32) &&& 31)).toNatClampNeg ((x0 >>> ((4 : Int32) &&& 31)) &&& 3))))) (g2 := F0 m 155 ls [.int (tkM_control_v14 g x0), .int (x0 >>> ((6 : Int32) &&& 31)), .ref (ad 20)]) hD hS (fun key => ?_) (fun H locs hP hD hS => ?_)
      · refine lv_icmp_le (tgt := 153) hx hb dM_control_143 (by decide) (fun (h3_ : (x0 >>> ((1 : Int32) &&& 31)) &&& 7 ≤ 5) => ?_) (fun (h3_ : ¬ ((x0 >>> ((1 : Int32) &&& 31)) &&& 7 ≤ 5)) => ?_)
        · refine lv_iload hx hb dM_control_153 (lv_at hl 0 rfl) ?_
          exact tk_top (by unfold tkM_control_v14; rw [if_pos h3_]) (key H locs hP hD hS)
        · refine lv_iload hx hb dM_control_146 (lv_at hl 0 rfl) ?_
          refine lv_iconst (v := 4) hx hb dM_control_148 (by decide) ?_
          refine lv_isub hx hb dM_control_149 ?_
          refine lv_goto (tgt := 155) hx hb dM_control_150 (by decide) ?_
          exact tk_top (by unfold tkM_control_v14; rw [if_neg h3_]) (key H locs hP hD hS)
      · refine tkst_20 hx hb hK hP hD hS (hq h1_) dM_control_155 (fun H locs hP hD hS => ?_)
        have hP : va_P D vwCl (WM hm ad cI cZ (tk_up (tk_up g 21 (upd (g 21) (x0 >>> ((6 : Int32) &&& 31)).toNatClampNeg ((x0 >>> ((4 : Int32) &&& 31)) &&& 3))) 20 (upd (g 20) (x0 >>> ((6 : Int32) &&& 31)).toNatClampNeg (tkM_control_v14 g x0)))) H := hP
        have hD : va_D A (WM hm ad cI cZ (tk_up (tk_up g 21 (upd (g 21) (x0 >>> ((6 : Int32) &&& 31)).toNatClampNeg ((x0 >>> ((4 : Int32) &&& 31)) &&& 3))) 20 (upd (g 20) (x0 >>> ((6 : Int32) &&& 31)).toNatClampNeg (tkM_control_v14 g x0)))) := hD
        refine lv_aload_n hx hb dM_control_156 rfl (lv_at hl 3 rfl) ?_
        refine va_get (D := D) (ci := 3) (v := .ref (ad 22)) (C := RM) (T := TM) (N := 33) hx hb hw inM hown hK hP 0 rfl rfl 22 (by decide) f74 (fun _ h9 => h9) rfl dM_control_157 ?_
        refine lv_iload_n hx hb dM_control_160 rfl (lv_at hl 2 rfl) ?_
        refine lv_iconst (v := 0) hx hb dM_control_161 (by decide) ?_
        refine tkst_22 hx hb hK hP hD hS (hq h1_) dM_control_162 (fun H locs hP hD hS => ?_)
        have hP : va_P D vwCl (WM hm ad cI cZ (tk_up (tk_up (tk_up g 21 (upd (g 21) (x0 >>> ((6 : Int32) &&& 31)).toNatClampNeg ((x0 >>> ((4 : Int32) &&& 31)) &&& 3))) 20 (upd (g 20) (x0 >>> ((6 : Int32) &&& 31)).toNatClampNeg (tkM_control_v14 g x0))) 22 (upd (g 22) (x0 >>> ((6 : Int32) &&& 31)).toNatClampNeg 0))) H := hP
        have hD : va_D A (WM hm ad cI cZ (tk_up (tk_up (tk_up g 21 (upd (g 21) (x0 >>> ((6 : Int32) &&& 31)).toNatClampNeg ((x0 >>> ((4 : Int32) &&& 31)) &&& 3))) 20 (upd (g 20) (x0 >>> ((6 : Int32) &&& 31)).toNatClampNeg (tkM_control_v14 g x0))) 22 (upd (g 22) (x0 >>> ((6 : Int32) &&& 31)).toNatClampNeg 0))) := hD
        refine lv_aload_n hx hb dM_control_163 rfl (lv_at hl 3 rfl) ?_
        refine va_get (D := D) (ci := 3) (v := .ref (ad 24)) (C := RM) (T := TM) (N := 33) hx hb hw inM hown hK hP 0 rfl rfl 24 (by decide) f80 (fun _ h9 => h9) rfl dM_control_164 ?_
        refine lv_iload_n hx hb dM_control_167 rfl (lv_at hl 2 rfl) ?_
        refine lv_iconst (v := 0) hx hb dM_control_168 (by decide) ?_
        refine tkst_24 hx hb hK hP hD hS (hq h1_) (x' := 0) rfl dM_control_169 (fun H locs hP hD hS => ?_)
        have hP : va_P D vwCl (WM hm ad cI cZ (tk_up (tk_up (tk_up (tk_up g 21 (upd (g 21) (x0 >>> ((6 : Int32) &&& 31)).toNatClampNeg ((x0 >>> ((4 : Int32) &&& 31)) &&& 3))) 20 (upd (g 20) (x0 >>> ((6 : Int32) &&& 31)).toNatClampNeg (tkM_control_v14 g x0))) 22 (upd (g 22) (x0 >>> ((6 : Int32) &&& 31)).toNatClampNeg 0)) 24 (upd (g 24) (x0 >>> ((6 : Int32) &&& 31)).toNatClampNeg 0))) H := hP
        have hD : va_D A (WM hm ad cI cZ (tk_up (tk_up (tk_up (tk_up g 21 (upd (g 21) (x0 >>> ((6 : Int32) &&& 31)).toNatClampNeg ((x0 >>> ((4 : Int32) &&& 31)) &&& 3))) 20 (upd (g 20) (x0 >>> ((6 : Int32) &&& 31)).toNatClampNeg (tkM_control_v14 g x0))) 22 (upd (g 22) (x0 >>> ((6 : Int32) &&& 31)).toNatClampNeg 0)) 24 (upd (g 24) (x0 >>> ((6 : Int32) &&& 31)).toNatClampNeg 0))) := hD
        refine lv_aload_n hx hb dM_control_170 rfl (lv_at hl 3 rfl) ?_
        refine va_get (D := D) (ci := 3) (v := .ref (ad 25)) (C := RM) (T := TM) (N := 33) hx hb hw inM hown hK hP 0 rfl rfl 25 (by decide) f83 (fun _ h9 => h9) rfl dM_control_171 ?_
        refine lv_iload_n hx hb dM_control_174 rfl (lv_at hl 2 rfl) ?_
        refine lv_iconst (v := 0) hx hb dM_control_175 (by decide) ?_
        refine tkst_25 hx hb hK hP hD hS (hq h1_) (x' := 0) rfl dM_control_176 (fun H locs hP hD hS => ?_)
        have hP : va_P D vwCl (WM hm ad cI cZ (tk_up (tk_up (tk_up (tk_up (tk_up g 21 (upd (g 21) (x0 >>> ((6 : Int32) &&& 31)).toNatClampNeg ((x0 >>> ((4 : Int32) &&& 31)) &&& 3))) 20 (upd (g 20) (x0 >>> ((6 : Int32) &&& 31)).toNatClampNeg (tkM_control_v14 g x0))) 22 (upd (g 22) (x0 >>> ((6 : Int32) &&& 31)).toNatClampNeg 0)) 24 (upd (g 24) (x0 >>> ((6 : Int32) &&& 31)).toNatClampNeg 0)) 25 (upd (g 25) (x0 >>> ((6 : Int32) &&& 31)).toNatClampNeg 0))) H := hP
        have hD : va_D A (WM hm ad cI cZ (tk_up (tk_up (tk_up (tk_up (tk_up g 21 (upd (g 21) (x0 >>> ((6 : Int32) &&& 31)).toNatClampNeg ((x0 >>> ((4 : Int32) &&& 31)) &&& 3))) 20 (upd (g 20) (x0 >>> ((6 : Int32) &&& 31)).toNatClampNeg (tkM_control_v14 g x0))) 22 (upd (g 22) (x0 >>> ((6 : Int32) &&& 31)).toNatClampNeg 0)) 24 (upd (g 24) (x0 >>> ((6 : Int32) &&& 31)).toNatClampNeg 0)) 25 (upd (g 25) (x0 >>> ((6 : Int32) &&& 31)).toNatClampNeg 0))) := hD
        refine lv_aload_n hx hb dM_control_177 rfl (lv_at hl 3 rfl) ?_
        refine va_get (D := D) (ci := 3) (v := .ref (ad 26)) (C := RM) (T := TM) (N := 33) hx hb hw inM hown hK hP 0 rfl rfl 26 (by decide) f86 (fun _ h9 => h9) rfl dM_control_178 ?_
        refine lv_iload_n hx hb dM_control_181 rfl (lv_at hl 2 rfl) ?_
        refine lv_iconst (v := 0) hx hb dM_control_182 (by decide) ?_
        refine tkst_26 hx hb hK hP hD hS (hq h1_) (x' := 0) rfl dM_control_183 (fun H locs hP hD hS => ?_)
        have hP : va_P D vwCl (WM hm ad cI cZ (tk_up (tk_up (tk_up (tk_up (tk_up (tk_up g 21 (upd (g 21) (x0 >>> ((6 : Int32) &&& 31)).toNatClampNeg ((x0 >>> ((4 : Int32) &&& 31)) &&& 3))) 20 (upd (g 20) (x0 >>> ((6 : Int32) &&& 31)).toNatClampNeg (tkM_control_v14 g x0))) 22 (upd (g 22) (x0 >>> ((6 : Int32) &&& 31)).toNatClampNeg 0)) 24 (upd (g 24) (x0 >>> ((6 : Int32) &&& 31)).toNatClampNeg 0)) 25 (upd (g 25) (x0 >>> ((6 : Int32) &&& 31)).toNatClampNeg 0)) 26 (upd (g 26) (x0 >>> ((6 : Int32) &&& 31)).toNatClampNeg 0))) H := hP
        have hD : va_D A (WM hm ad cI cZ (tk_up (tk_up (tk_up (tk_up (tk_up (tk_up g 21 (upd (g 21) (x0 >>> ((6 : Int32) &&& 31)).toNatClampNeg ((x0 >>> ((4 : Int32) &&& 31)) &&& 3))) 20 (upd (g 20) (x0 >>> ((6 : Int32) &&& 31)).toNatClampNeg (tkM_control_v14 g x0))) 22 (upd (g 22) (x0 >>> ((6 : Int32) &&& 31)).toNatClampNeg 0)) 24 (upd (g 24) (x0 >>> ((6 : Int32) &&& 31)).toNatClampNeg 0)) 25 (upd (g 25) (x0 >>> ((6 : Int32) &&& 31)).toNatClampNeg 0)) 26 (upd (g 26) (x0 >>> ((6 : Int32) &&& 31)).toNatClampNeg 0))) := hD
        refine lv_aload_n hx hb dM_control_184 rfl (lv_at hl 3 rfl) ?_
        refine va_get (D := D) (ci := 3) (v := .ref (ad 31)) (C := RM) (T := TM) (N := 33) hx hb hw inM hown hK hP 0 rfl rfl 31 (by decide) f101 (fun _ h9 => h9) rfl dM_control_185 ?_
        refine lv_iload_n hx hb dM_control_188 rfl (lv_at hl 2 rfl) ?_
        refine lv_iconst (v := -1) hx hb dM_control_189 (by decide) ?_
        refine tkst_31 hx hb hK hP hD hS (hq h1_) dM_control_190 (fun H locs hP hD hS => ?_)
        have hP : va_P D vwCl (WM hm ad cI cZ (tk_up (tk_up (tk_up (tk_up (tk_up (tk_up (tk_up g 21 (upd (g 21) (x0 >>> ((6 : Int32) &&& 31)).toNatClampNeg ((x0 >>> ((4 : Int32) &&& 31)) &&& 3))) 20 (upd (g 20) (x0 >>> ((6 : Int32) &&& 31)).toNatClampNeg (tkM_control_v14 g x0))) 22 (upd (g 22) (x0 >>> ((6 : Int32) &&& 31)).toNatClampNeg 0)) 24 (upd (g 24) (x0 >>> ((6 : Int32) &&& 31)).toNatClampNeg 0)) 25 (upd (g 25) (x0 >>> ((6 : Int32) &&& 31)).toNatClampNeg 0)) 26 (upd (g 26) (x0 >>> ((6 : Int32) &&& 31)).toNatClampNeg 0)) 31 (upd (g 31) (x0 >>> ((6 : Int32) &&& 31)).toNatClampNeg (-1)))) H := hP
        have hD : va_D A (WM hm ad cI cZ (tk_up (tk_up (tk_up (tk_up (tk_up (tk_up (tk_up g 21 (upd (g 21) (x0 >>> ((6 : Int32) &&& 31)).toNatClampNeg ((x0 >>> ((4 : Int32) &&& 31)) &&& 3))) 20 (upd (g 20) (x0 >>> ((6 : Int32) &&& 31)).toNatClampNeg (tkM_control_v14 g x0))) 22 (upd (g 22) (x0 >>> ((6 : Int32) &&& 31)).toNatClampNeg 0)) 24 (upd (g 24) (x0 >>> ((6 : Int32) &&& 31)).toNatClampNeg 0)) 25 (upd (g 25) (x0 >>> ((6 : Int32) &&& 31)).toNatClampNeg 0)) 26 (upd (g 26) (x0 >>> ((6 : Int32) &&& 31)).toNatClampNeg 0)) 31 (upd (g 31) (x0 >>> ((6 : Int32) &&& 31)).toNatClampNeg (-1)))) := hD
        refine lv_aload_n hx hb dM_control_191 rfl (lv_at hl 3 rfl) ?_
        refine va_get (D := D) (ci := 3) (v := .ref (ad 32)) (C := RM) (T := TM) (N := 33) hx hb hw inM hown hK hP 0 rfl rfl 32 (by decide) f104 (fun _ h9 => h9) rfl dM_control_192 ?_
        refine lv_iload_n hx hb dM_control_195 rfl (lv_at hl 2 rfl) ?_
        refine lv_iconst (v := -1) hx hb dM_control_196 (by decide) ?_
        refine tkst_32 hx hb hK hP hD hS (hq h1_) dM_control_197 (fun H locs hP hD hS => ?_)
        have hP : va_P D vwCl (WM hm ad cI cZ (tk_up (tk_up (tk_up (tk_up (tk_up (tk_up (tk_up (tk_up g 21 (upd (g 21) (x0 >>> ((6 : Int32) &&& 31)).toNatClampNeg ((x0 >>> ((4 : Int32) &&& 31)) &&& 3))) 20 (upd (g 20) (x0 >>> ((6 : Int32) &&& 31)).toNatClampNeg (tkM_control_v14 g x0))) 22 (upd (g 22) (x0 >>> ((6 : Int32) &&& 31)).toNatClampNeg 0)) 24 (upd (g 24) (x0 >>> ((6 : Int32) &&& 31)).toNatClampNeg 0)) 25 (upd (g 25) (x0 >>> ((6 : Int32) &&& 31)).toNatClampNeg 0)) 26 (upd (g 26) (x0 >>> ((6 : Int32) &&& 31)).toNatClampNeg 0)) 31 (upd (g 31) (x0 >>> ((6 : Int32) &&& 31)).toNatClampNeg (-1))) 32 (upd (g 32) (x0 >>> ((6 : Int32) &&& 31)).toNatClampNeg (-1)))) H := hP
        have hD : va_D A (WM hm ad cI cZ (tk_up (tk_up (tk_up (tk_up (tk_up (tk_up (tk_up (tk_up g 21 (upd (g 21) (x0 >>> ((6 : Int32) &&& 31)).toNatClampNeg ((x0 >>> ((4 : Int32) &&& 31)) &&& 3))) 20 (upd (g 20) (x0 >>> ((6 : Int32) &&& 31)).toNatClampNeg (tkM_control_v14 g x0))) 22 (upd (g 22) (x0 >>> ((6 : Int32) &&& 31)).toNatClampNeg 0)) 24 (upd (g 24) (x0 >>> ((6 : Int32) &&& 31)).toNatClampNeg 0)) 25 (upd (g 25) (x0 >>> ((6 : Int32) &&& 31)).toNatClampNeg 0)) 26 (upd (g 26) (x0 >>> ((6 : Int32) &&& 31)).toNatClampNeg 0)) 31 (upd (g 31) (x0 >>> ((6 : Int32) &&& 31)).toNatClampNeg (-1))) 32 (upd (g 32) (x0 >>> ((6 : Int32) &&& 31)).toNatClampNeg (-1)))) := hD
        refine lv_aload_n hx hb dM_control_198 rfl (lv_at hl 3 rfl) ?_
        refine va_get (D := D) (ci := 3) (v := .ref (ad 28)) (C := RM) (T := TM) (N := 33) hx hb hw inM hown hK hP 0 rfl rfl 28 (by decide) f92 (fun _ h9 => h9) rfl dM_control_199 ?_
        refine lv_iload_n hx hb dM_control_202 rfl (lv_at hl 2 rfl) ?_
        refine lv_iconst (v := 0) hx hb dM_control_203 (by decide) ?_
        refine tkst_28 hx hb hK hP hD hS (hq h1_) (x' := 0) rfl dM_control_204 (fun H locs hP hD hS => ?_)
        have hP : va_P D vwCl (WM hm ad cI cZ (tk_up (tk_up (tk_up (tk_up (tk_up (tk_up (tk_up (tk_up (tk_up g 21 (upd (g 21) (x0 >>> ((6 : Int32) &&& 31)).toNatClampNeg ((x0 >>> ((4 : Int32) &&& 31)) &&& 3))) 20 (upd (g 20) (x0 >>> ((6 : Int32) &&& 31)).toNatClampNeg (tkM_control_v14 g x0))) 22 (upd (g 22) (x0 >>> ((6 : Int32) &&& 31)).toNatClampNeg 0)) 24 (upd (g 24) (x0 >>> ((6 : Int32) &&& 31)).toNatClampNeg 0)) 25 (upd (g 25) (x0 >>> ((6 : Int32) &&& 31)).toNatClampNeg 0)) 26 (upd (g 26) (x0 >>> ((6 : Int32) &&& 31)).toNatClampNeg 0)) 31 (upd (g 31) (x0 >>> ((6 : Int32) &&& 31)).toNatClampNeg (-1))) 32 (upd (g 32) (x0 >>> ((6 : Int32) &&& 31)).toNatClampNeg (-1))) 28 (upd (g 28) (x0 >>> ((6 : Int32) &&& 31)).toNatClampNeg 0))) H := hP
        have hD : va_D A (WM hm ad cI cZ (tk_up (tk_up (tk_up (tk_up (tk_up (tk_up (tk_up (tk_up (tk_up g 21 (upd (g 21) (x0 >>> ((6 : Int32) &&& 31)).toNatClampNeg ((x0 >>> ((4 : Int32) &&& 31)) &&& 3))) 20 (upd (g 20) (x0 >>> ((6 : Int32) &&& 31)).toNatClampNeg (tkM_control_v14 g x0))) 22 (upd (g 22) (x0 >>> ((6 : Int32) &&& 31)).toNatClampNeg 0)) 24 (upd (g 24) (x0 >>> ((6 : Int32) &&& 31)).toNatClampNeg 0)) 25 (upd (g 25) (x0 >>> ((6 : Int32) &&& 31)).toNatClampNeg 0)) 26 (upd (g 26) (x0 >>> ((6 : Int32) &&& 31)).toNatClampNeg 0)) 31 (upd (g 31) (x0 >>> ((6 : Int32) &&& 31)).toNatClampNeg (-1))) 32 (upd (g 32) (x0 >>> ((6 : Int32) &&& 31)).toNatClampNeg (-1))) 28 (upd (g 28) (x0 >>> ((6 : Int32) &&& 31)).toNatClampNeg 0))) := hD
        refine lv_aload_n hx hb dM_control_205 rfl (lv_at hl 3 rfl) ?_
        refine va_get (D := D) (ci := 3) (v := .ref (ad 30)) (C := RM) (T := TM) (N := 33) hx hb hw inM hown hK hP 0 rfl rfl 30 (by decide) f98 (fun _ h9 => h9) rfl dM_control_206 ?_
        refine lv_iload_n hx hb dM_control_209 rfl (lv_at hl 2 rfl) ?_
        refine lv_iconst (v := 0) hx hb dM_control_210 (by decide) ?_
        refine tkst_30 hx hb hK hP hD hS (hq h1_) (x' := 0) rfl dM_control_211 (fun H locs hP hD hS => ?_)
        have hP : va_P D vwCl (WM hm ad cI cZ (tk_up (tk_up (tk_up (tk_up (tk_up (tk_up (tk_up (tk_up (tk_up (tk_up g 21 (upd (g 21) (x0 >>> ((6 : Int32) &&& 31)).toNatClampNeg ((x0 >>> ((4 : Int32) &&& 31)) &&& 3))) 20 (upd (g 20) (x0 >>> ((6 : Int32) &&& 31)).toNatClampNeg (tkM_control_v14 g x0))) 22 (upd (g 22) (x0 >>> ((6 : Int32) &&& 31)).toNatClampNeg 0)) 24 (upd (g 24) (x0 >>> ((6 : Int32) &&& 31)).toNatClampNeg 0)) 25 (upd (g 25) (x0 >>> ((6 : Int32) &&& 31)).toNatClampNeg 0)) 26 (upd (g 26) (x0 >>> ((6 : Int32) &&& 31)).toNatClampNeg 0)) 31 (upd (g 31) (x0 >>> ((6 : Int32) &&& 31)).toNatClampNeg (-1))) 32 (upd (g 32) (x0 >>> ((6 : Int32) &&& 31)).toNatClampNeg (-1))) 28 (upd (g 28) (x0 >>> ((6 : Int32) &&& 31)).toNatClampNeg 0)) 30 (upd (g 30) (x0 >>> ((6 : Int32) &&& 31)).toNatClampNeg 0))) H := hP
        have hD : va_D A (WM hm ad cI cZ (tk_up (tk_up (tk_up (tk_up (tk_up (tk_up (tk_up (tk_up (tk_up (tk_up g 21 (upd (g 21) (x0 >>> ((6 : Int32) &&& 31)).toNatClampNeg ((x0 >>> ((4 : Int32) &&& 31)) &&& 3))) 20 (upd (g 20) (x0 >>> ((6 : Int32) &&& 31)).toNatClampNeg (tkM_control_v14 g x0))) 22 (upd (g 22) (x0 >>> ((6 : Int32) &&& 31)).toNatClampNeg 0)) 24 (upd (g 24) (x0 >>> ((6 : Int32) &&& 31)).toNatClampNeg 0)) 25 (upd (g 25) (x0 >>> ((6 : Int32) &&& 31)).toNatClampNeg 0)) 26 (upd (g 26) (x0 >>> ((6 : Int32) &&& 31)).toNatClampNeg 0)) 31 (upd (g 31) (x0 >>> ((6 : Int32) &&& 31)).toNatClampNeg (-1))) 32 (upd (g 32) (x0 >>> ((6 : Int32) &&& 31)).toNatClampNeg (-1))) 28 (upd (g 28) (x0 >>> ((6 : Int32) &&& 31)).toNatClampNeg 0)) 30 (upd (g 30) (x0 >>> ((6 : Int32) &&& 31)).toNatClampNeg 0))) := hD
        refine lv_aload_n hx hb dM_control_212 rfl (lv_at hl 3 rfl) ?_
        refine va_get (D := D) (ci := 3) (v := .ref (ad 27)) (C := RM) (T := TM) (N := 33) hx hb hw inM hown hK hP 0 rfl rfl 27 (by decide) f89 (fun _ h9 => h9) rfl dM_control_213 ?_
        refine lv_iload_n hx hb dM_control_216 rfl (lv_at hl 2 rfl) ?_
        refine lv_iconst (v := 1) hx hb dM_control_217 (by decide) ?_
        refine tkst_27 hx hb hK hP hD hS (hq h1_) (x' := 1) rfl dM_control_218 (fun H locs hP hD hS => ?_)
        have hP : va_P D vwCl (WM hm ad cI cZ (tk_up (tk_up (tk_up (tk_up (tk_up (tk_up (tk_up (tk_up (tk_up (tk_up (tk_up g 21 (upd (g 21) (x0 >>> ((6 : Int32) &&& 31)).toNatClampNeg ((x0 >>> ((4 : Int32) &&& 31)) &&& 3))) 20 (upd (g 20) (x0 >>> ((6 : Int32) &&& 31)).toNatClampNeg (tkM_control_v14 g x0))) 22 (upd (g 22) (x0 >>> ((6 : Int32) &&& 31)).toNatClampNeg 0)) 24 (upd (g 24) (x0 >>> ((6 : Int32) &&& 31)).toNatClampNeg 0)) 25 (upd (g 25) (x0 >>> ((6 : Int32) &&& 31)).toNatClampNeg 0)) 26 (upd (g 26) (x0 >>> ((6 : Int32) &&& 31)).toNatClampNeg 0)) 31 (upd (g 31) (x0 >>> ((6 : Int32) &&& 31)).toNatClampNeg (-1))) 32 (upd (g 32) (x0 >>> ((6 : Int32) &&& 31)).toNatClampNeg (-1))) 28 (upd (g 28) (x0 >>> ((6 : Int32) &&& 31)).toNatClampNeg 0)) 30 (upd (g 30) (x0 >>> ((6 : Int32) &&& 31)).toNatClampNeg 0)) 27 (upd (g 27) (x0 >>> ((6 : Int32) &&& 31)).toNatClampNeg 1))) H := hP
        have hD : va_D A (WM hm ad cI cZ (tk_up (tk_up (tk_up (tk_up (tk_up (tk_up (tk_up (tk_up (tk_up (tk_up (tk_up g 21 (upd (g 21) (x0 >>> ((6 : Int32) &&& 31)).toNatClampNeg ((x0 >>> ((4 : Int32) &&& 31)) &&& 3))) 20 (upd (g 20) (x0 >>> ((6 : Int32) &&& 31)).toNatClampNeg (tkM_control_v14 g x0))) 22 (upd (g 22) (x0 >>> ((6 : Int32) &&& 31)).toNatClampNeg 0)) 24 (upd (g 24) (x0 >>> ((6 : Int32) &&& 31)).toNatClampNeg 0)) 25 (upd (g 25) (x0 >>> ((6 : Int32) &&& 31)).toNatClampNeg 0)) 26 (upd (g 26) (x0 >>> ((6 : Int32) &&& 31)).toNatClampNeg 0)) 31 (upd (g 31) (x0 >>> ((6 : Int32) &&& 31)).toNatClampNeg (-1))) 32 (upd (g 32) (x0 >>> ((6 : Int32) &&& 31)).toNatClampNeg (-1))) 28 (upd (g 28) (x0 >>> ((6 : Int32) &&& 31)).toNatClampNeg 0)) 30 (upd (g 30) (x0 >>> ((6 : Int32) &&& 31)).toNatClampNeg 0)) 27 (upd (g 27) (x0 >>> ((6 : Int32) &&& 31)).toNatClampNeg 1))) := hD
        refine lv_aload_n hx hb dM_control_219 rfl (lv_at hl 3 rfl) ?_
        refine va_get (D := D) (ci := 3) (v := .ref (ad 19)) (C := RM) (T := TM) (N := 33) hx hb hw inM hown hK hP 0 rfl rfl 19 (by decide) f65 (fun _ h9 => h9) rfl dM_control_220 ?_
        refine lv_iload_n hx hb dM_control_223 rfl (lv_at hl 2 rfl) ?_
        refine lv_aload_n hx hb dM_control_224 rfl (lv_at hl 3 rfl) ?_
        refine va_get (D := D) (ci := 3) (v := .ref (ad 20)) (C := RM) (T := TM) (N := 33) hx hb hw inM hown hK hP 0 rfl rfl 20 (by decide) f68 (fun _ h9 => h9) rfl dM_control_225 ?_
        refine lv_iload_n hx hb dM_control_228 rfl (lv_at hl 2 rfl) ?_
        refine tkld_20 hx hb hK hP (hq h1_) dM_control_229 ?_
        refine tk_top (tk_us (g 20) ((x0 >>> ((6 : Int32) &&& 31)).toNatClampNeg) (tkM_control_v14 g x0)) ?_
        refine tk_mrg (D := D) (ws1 := (WM hm ad cI cZ (tk_up (tk_up (tk_up (tk_up (tk_up (tk_up (tk_up (tk_up (tk_up (tk_up (tk_up g 21 (upd (g 21) (x0 >>> ((6 : Int32) &&& 31)).toNatClampNeg ((x0 >>> ((4 : Int32) &&& 31)) &&& 3))) 20 (upd (g 20) (x0 >>> ((6 : Int32) &&& 31)).toNatClampNeg (tkM_control_v14 g x0))) 22 (upd (g 22) (x0 >>> ((6 : Int32) &&& 31)).toNatClampNeg 0)) 24 (upd (g 24) (x0 >>> ((6 : Int32) &&& 31)).toNatClampNeg 0)) 25 (upd (g 25) (x0 >>> ((6 : Int32) &&& 31)).toNatClampNeg 0)) 26 (upd (g 26) (x0 >>> ((6 : Int32) &&& 31)).toNatClampNeg 0)) 31 (upd (g 31) (x0 >>> ((6 : Int32) &&& 31)).toNatClampNeg (-1))) 32 (upd (g 32) (x0 >>> ((6 : Int32) &&& 31)).toNatClampNeg (-1))) 28 (upd (g 28) (x0 >>> ((6 : Int32) &&& 31)).toNatClampNeg 0)) 30 (upd (g 30) (x0 >>> ((6 : Int32) &&& 31)).toNatClampNeg 0)) 27 (upd (g 27) (x0 >>> ((6 : Int32) &&& 31)).toNatClampNeg 1)))) (g2 := F0 m 238 ls [.int (tkM_control_v15 g x0), .int (x0 >>> ((6 : Int32) &&& 31)), .ref (ad 19)]) hD hS (fun key => ?_) (fun H locs hP hD hS => ?_)
        · refine lv_if_eq (tgt := 237) hx hb dM_control_230 (by decide) (fun (h4_ : tkM_control_v14 g x0 = 0) => ?_) (fun (h4_ : ¬ (tkM_control_v14 g x0 = 0)) => ?_)
          · refine lv_iconst (v := 0) hx hb dM_control_237 (by decide) ?_
            exact tk_top (by unfold tkM_control_v15; rw [if_pos h4_]) (key H locs hP hD hS)
          · refine lv_iconst (v := 1) hx hb dM_control_233 (by decide) ?_
            refine lv_goto (tgt := 238) hx hb dM_control_234 (by decide) ?_
            exact tk_top (by unfold tkM_control_v15; rw [if_neg h4_]) (key H locs hP hD hS)
        · refine tkst_19 hx hb hK hP hD hS (hq h1_) rfl dM_control_238 (fun H locs hP hD hS => ?_)
          have hP : va_P D vwCl (WM hm ad cI cZ (tk_up (tk_up (tk_up (tk_up (tk_up (tk_up (tk_up (tk_up (tk_up (tk_up (tk_up (tk_up g 21 (upd (g 21) (x0 >>> ((6 : Int32) &&& 31)).toNatClampNeg ((x0 >>> ((4 : Int32) &&& 31)) &&& 3))) 20 (upd (g 20) (x0 >>> ((6 : Int32) &&& 31)).toNatClampNeg (tkM_control_v14 g x0))) 22 (upd (g 22) (x0 >>> ((6 : Int32) &&& 31)).toNatClampNeg 0)) 24 (upd (g 24) (x0 >>> ((6 : Int32) &&& 31)).toNatClampNeg 0)) 25 (upd (g 25) (x0 >>> ((6 : Int32) &&& 31)).toNatClampNeg 0)) 26 (upd (g 26) (x0 >>> ((6 : Int32) &&& 31)).toNatClampNeg 0)) 31 (upd (g 31) (x0 >>> ((6 : Int32) &&& 31)).toNatClampNeg (-1))) 32 (upd (g 32) (x0 >>> ((6 : Int32) &&& 31)).toNatClampNeg (-1))) 28 (upd (g 28) (x0 >>> ((6 : Int32) &&& 31)).toNatClampNeg 0)) 30 (upd (g 30) (x0 >>> ((6 : Int32) &&& 31)).toNatClampNeg 0)) 27 (upd (g 27) (x0 >>> ((6 : Int32) &&& 31)).toNatClampNeg 1)) 19 (upd (g 19) (x0 >>> ((6 : Int32) &&& 31)).toNatClampNeg (vp_nar .boolean (tkM_control_v15 g x0))))) H := hP
          have hD : va_D A (WM hm ad cI cZ (tk_up (tk_up (tk_up (tk_up (tk_up (tk_up (tk_up (tk_up (tk_up (tk_up (tk_up (tk_up g 21 (upd (g 21) (x0 >>> ((6 : Int32) &&& 31)).toNatClampNeg ((x0 >>> ((4 : Int32) &&& 31)) &&& 3))) 20 (upd (g 20) (x0 >>> ((6 : Int32) &&& 31)).toNatClampNeg (tkM_control_v14 g x0))) 22 (upd (g 22) (x0 >>> ((6 : Int32) &&& 31)).toNatClampNeg 0)) 24 (upd (g 24) (x0 >>> ((6 : Int32) &&& 31)).toNatClampNeg 0)) 25 (upd (g 25) (x0 >>> ((6 : Int32) &&& 31)).toNatClampNeg 0)) 26 (upd (g 26) (x0 >>> ((6 : Int32) &&& 31)).toNatClampNeg 0)) 31 (upd (g 31) (x0 >>> ((6 : Int32) &&& 31)).toNatClampNeg (-1))) 32 (upd (g 32) (x0 >>> ((6 : Int32) &&& 31)).toNatClampNeg (-1))) 28 (upd (g 28) (x0 >>> ((6 : Int32) &&& 31)).toNatClampNeg 0)) 30 (upd (g 30) (x0 >>> ((6 : Int32) &&& 31)).toNatClampNeg 0)) 27 (upd (g 27) (x0 >>> ((6 : Int32) &&& 31)).toNatClampNeg 1)) 19 (upd (g 19) (x0 >>> ((6 : Int32) &&& 31)).toNatClampNeg (vp_nar .boolean (tkM_control_v15 g x0))))) := hD
          exact tk_vret hx hb hr hlk hP hD hS dM_control_239 (congrArg (WM hm ad cI cZ) (by unfold tkM_control_s; rw [if_neg h1_, if_neg h2_]))
    · refine lv_aload_n hx hb dM_control_103 rfl (lv_at hl 2 rfl) ?_
      refine va_get (D := D) (ci := 3) (v := .ref (ad 20)) (C := RM) (T := TM) (N := 33) hx hb hw inM hown hK hP 0 rfl rfl 20 (by decide) f68 (fun _ h9 => h9) rfl dM_control_104 ?_
      refine lv_iload_n hx hb dM_control_107 rfl (lv_at hl 1 rfl) ?_
      refine tkld_20 hx hb hK hP (hq h1_) dM_control_108 ?_
      refine tk_mrg (D := D) (ws1 := (WM hm ad cI cZ (tkM_control_w16 g x0))) (g2 := F0 m 239 ls []) hD hS (fun key => ?_) (fun H locs hP hD hS => ?_)
      · refine lv_if_lt (tgt := 239) hx hb dM_control_109 (by decide) (fun (h5_ : g 20 (x0 >>> ((6 : Int32) &&& 31)).toNatClampNeg < 0) => ?_) (fun (h5_ : ¬ (g 20 (x0 >>> ((6 : Int32) &&& 31)).toNatClampNeg < 0)) => ?_)
        · exact key H locs (tk_Pw (congrArg (WM hm ad cI cZ) (by unfold tkM_control_w16; rw [if_pos h5_])) hP) (tk_Dw (congrArg (WM hm ad cI cZ) (by unfold tkM_control_w16; rw [if_pos h5_])) hD) hS
        · refine lv_aload_n hx hb dM_control_112 rfl (lv_at hl 2 rfl) ?_
          refine lv_iload_n hx hb dM_control_113 rfl (lv_at hl 1 rfl) ?_
          refine tk_callA hD hS hA (va_runV (As := [.int (x0 >>> ((6 : Int32) &&& 31))]) (rest := []) ⟨hx, hb, hml, hown, hw⟩ (kM_latch l D hm ad cI cZ g (x0 >>> ((6 : Int32) &&& 31)) (hq h1_) H.size) (cwV 1 hw (tk_gV tkWM_good wM_M_139 wI_M_latch wS_M_latch wZ_M wC_M_latch) rfl rfl rfl (by decide +kernel) ⟨Nat.le_of_ble_eq_true rfl, Nat.le_of_ble_eq_true rfl⟩) (tk_preM hK hN hP hD) rfl rfl hl.1 rfl (lv_room (Nat.le_of_ble_eq_true rfl)) dM_control_114 ⟨Nat.zero_le _, Nat.zero_le _⟩) (fun H locs hP hD hS => ?_)
          refine W.eq (g2 := F0 m 117 ls []) rfl ?_
          refine lv_goto (tgt := 239) hx hb dM_control_117 (by decide) ?_
          exact key H locs (tk_Pw (congrArg (WM hm ad cI cZ) (by unfold tkM_control_w16; rw [if_neg h5_])) hP) (tk_Dw (congrArg (WM hm ad cI cZ) (by unfold tkM_control_w16; rw [if_neg h5_])) hD) hS
      · exact tk_vret hx hb hr hlk hP hD hS dM_control_239 (congrArg (WM hm ad cI cZ) (by unfold tkM_control_s; rw [if_neg h1_, if_pos h2_]))
  · refine lv_iconst (v := 0) hx hb dM_control_16 (by decide) ?_
    refine lv_istore hx hb dM_control_17 hl (by decide) rfl (fun ls hl => ?_)
    have hl : lv_has ls 6 [(4, .int 0), (3, .int ((x0 >>> ((4 : Int32) &&& 31)) &&& 3)), (2, .int (x0 >>> ((6 : Int32) &&& 31))), (0, .ref hm), (1, .int x0)] := hl
    refine lv_iload hx hb dM_control_19 (lv_at hl 0 rfl) ?_
    refine lv_iconst (v := 3) hx hb dM_control_21 (by decide) ?_
    refine lv_icmp_ge (tgt := 96) hx hb dM_control_22 (by decide) (fun h => absurd h (by decide)) (fun _ => ?_)
    refine lv_iload_n hx hb dM_control_25 rfl (lv_at hl 4 rfl) ?_
    refine lv_iconst (v := 1) hx hb dM_control_26 (by decide) ?_
    refine lv_iload hx hb dM_control_27 (lv_at hl 0 rfl) ?_
    refine lv_iadd hx hb dM_control_29 ?_
    refine lv_ishr hx hb dM_control_30 ?_
    refine lv_iconst (v := 1) hx hb dM_control_31 (by decide) ?_
    refine lv_iand hx hb dM_control_32 ?_
    refine lv_iconst (v := 1) hx hb dM_control_33 (by decide) ?_
    refine tk_mrg (D := D) (ws1 := (WM hm ad cI cZ g)) (g2 := F0 m 52 ls [.int (tkM_control_v17 g x0)]) hD hS (fun key => ?_) (fun H locs hP hD hS => ?_)
    · refine lv_icmp_ne (tgt := 51) hx hb dM_control_34 (by decide) (fun (h6_ : ¬ ((x0 >>> ((1 + 0) &&& 31)) &&& 1 = 1)) => ?_) (fun (h6_ : (x0 >>> ((1 + 0) &&& 31)) &&& 1 = 1) => ?_)
      · refine lv_iconst (v := 0) hx hb dM_control_51 (by decide) ?_
        exact tk_top (by unfold tkM_control_v17; rw [if_neg h6_]) (key H locs hP hD hS)
      · refine lv_aload_n hx hb dM_control_37 rfl (lv_at hl 3 rfl) ?_
        refine va_get (D := D) (ci := 3) (v := .ref (ad 20)) (C := RM) (T := TM) (N := 33) hx hb hw inM hown hK hP 0 rfl rfl 20 (by decide) f68 (fun _ h9 => h9) rfl dM_control_38 ?_
        refine lv_iload hx hb dM_control_41 (lv_at hl 0 rfl) ?_
        refine tkld_20 hx hb hK hP (by unfold vp_in; decide) dM_control_43 ?_
        refine lv_if_lt (tgt := 51) hx hb dM_control_44 (by decide) (fun (h7_ : g 20 (0 : Int32).toNatClampNeg < 0) => ?_) (fun (h7_ : ¬ (g 20 (0 : Int32).toNatClampNeg < 0)) => ?_)
        · refine lv_iconst (v := 0) hx hb dM_control_51 (by decide) ?_
          exact tk_top (by unfold tkM_control_v17; rw [if_pos h6_, if_pos h7_]) (key H locs hP hD hS)
        · refine lv_iconst (v := 1) hx hb dM_control_47 (by decide) ?_
          refine lv_goto (tgt := 52) hx hb dM_control_48 (by decide) ?_
          exact tk_top (by unfold tkM_control_v17; rw [if_pos h6_, if_neg h7_]) (key H locs hP hD hS)
    · refine lv_istore hx hb dM_control_52 hl (by decide) rfl (fun ls hl => ?_)
      have hl : lv_has ls 6 [(5, .int (tkM_control_v17 g x0)), (4, .int 0), (3, .int ((x0 >>> ((4 : Int32) &&& 31)) &&& 3)), (2, .int (x0 >>> ((6 : Int32) &&& 31))), (0, .ref hm), (1, .int x0)] := hl
      refine lv_iload hx hb dM_control_54 (lv_at hl 0 rfl) ?_
      refine tk_mrg (D := D) (ws1 := (WM hm ad cI cZ (tkM_control_w18 g x0))) (g2 := F0 m 72 ls []) hD hS (fun key => ?_) (fun H locs hP hD hS => ?_)
      · refine lv_if_eq (tgt := 72) hx hb dM_control_56 (by decide) (fun (h8_ : tkM_control_v17 g x0 = 0) => ?_) (fun (h8_ : ¬ (tkM_control_v17 g x0 = 0)) => ?_)
        · exact key H locs (tk_Pw (congrArg (WM hm ad cI cZ) (by unfold tkM_control_w18; rw [if_pos h8_])) hP) (tk_Dw (congrArg (WM hm ad cI cZ) (by unfold tkM_control_w18; rw [if_pos h8_])) hD) hS
        · refine lv_iload_n hx hb dM_control_59 rfl (lv_at hl 5 rfl) ?_
          refine lv_bipush (v := 32) hx hb dM_control_60 (by decide) ?_
          refine lv_iand hx hb dM_control_62 ?_
          refine lv_if_ne (tgt := 72) hx hb dM_control_63 (by decide) (fun (h9_ : ¬ (x0 &&& 32 = 0)) => ?_) (fun (h9_ : x0 &&& 32 = 0) => ?_)
          · exact key H locs (tk_Pw (congrArg (WM hm ad cI cZ) (by unfold tkM_control_w18; rw [if_neg h8_, if_neg h9_])) hP) (tk_Dw (congrArg (WM hm ad cI cZ) (by unfold tkM_control_w18; rw [if_neg h8_, if_neg h9_])) hD) hS
          · refine lv_aload_n hx hb dM_control_66 rfl (lv_at hl 4 rfl) ?_
            refine lv_iload hx hb dM_control_67 (lv_at hl 1 rfl) ?_
            refine tk_callA hD hS hA (va_runV (As := [.int 0]) (rest := []) ⟨hx, hb, hml, hown, hw⟩ (kM_latch l D hm ad cI cZ g 0 (by unfold vp_in; decide) H.size) (cwV 1 hw (tk_gV tkWM_good wM_M_139 wI_M_latch wS_M_latch wZ_M wC_M_latch) rfl rfl rfl (by decide +kernel) ⟨Nat.le_of_ble_eq_true rfl, Nat.le_of_ble_eq_true rfl⟩) (tk_preM hK hN hP hD) rfl rfl hl.1 rfl (lv_room (Nat.le_of_ble_eq_true rfl)) dM_control_69 ⟨Nat.zero_le _, Nat.zero_le _⟩) (fun H locs hP hD hS => ?_)
            refine W.eq (g2 := F0 m 72 ls []) rfl ?_
            exact key H locs (tk_Pw (congrArg (WM hm ad cI cZ) (by unfold tkM_control_w18; rw [if_neg h8_, if_pos h9_])) hP) (tk_Dw (congrArg (WM hm ad cI cZ) (by unfold tkM_control_w18; rw [if_neg h8_, if_pos h9_])) hD) hS
      · refine lv_iload hx hb dM_control_72 (lv_at hl 0 rfl) ?_
        refine tk_mrg (D := D) (ws1 := (WM hm ad cI cZ (tkM_control_w19 g x0))) (g2 := F0 m 90 ls []) hD hS (fun key => ?_) (fun H locs hP hD hS => ?_)
        · refine lv_if_eq (tgt := 90) hx hb dM_control_74 (by decide) (fun (h10_ : tkM_control_v17 g x0 = 0) => ?_) (fun (h10_ : ¬ (tkM_control_v17 g x0 = 0)) => ?_)
          · exact key H locs (tk_Pw (congrArg (WM hm ad cI cZ) (by unfold tkM_control_w19; rw [if_pos h10_])) hP) (tk_Dw (congrArg (WM hm ad cI cZ) (by unfold tkM_control_w19; rw [if_pos h10_])) hD) hS
          · refine lv_iload_n hx hb dM_control_77 rfl (lv_at hl 5 rfl) ?_
            refine lv_bipush (v := 16) hx hb dM_control_78 (by decide) ?_
            refine lv_iand hx hb dM_control_80 ?_
            refine lv_if_ne (tgt := 90) hx hb dM_control_81 (by decide) (fun (h11_ : ¬ (x0 &&& 16 = 0)) => ?_) (fun (h11_ : x0 &&& 16 = 0) => ?_)
            · exact key H locs (tk_Pw (congrArg (WM hm ad cI cZ) (by unfold tkM_control_w19; rw [if_neg h10_, if_neg h11_])) hP) (tk_Dw (congrArg (WM hm ad cI cZ) (by unfold tkM_control_w19; rw [if_neg h10_, if_neg h11_])) hD) hS
            · refine lv_aload_n hx hb dM_control_84 rfl (lv_at hl 4 rfl) ?_
              refine lv_iload hx hb dM_control_85 (lv_at hl 1 rfl) ?_
              refine tk_callA hD hS hA (va_runV (As := [.int 0]) (rest := []) ⟨hx, hb, hml, hown, hw⟩ (kM_latchStatus l D hm ad cI cZ (tkM_control_w18 g x0) 0 (by unfold vp_in; decide) H.size) (cwV 1 hw (tk_gV tkWM_good wM_M_143 wI_M_latchStatus wS_M_latchStatus wZ_M wC_M_latchStatus) rfl rfl rfl (by decide +kernel) ⟨Nat.le_of_ble_eq_true rfl, Nat.le_of_ble_eq_true rfl⟩) (tk_preM hK hN hP hD) rfl rfl hl.1 rfl (lv_room (Nat.le_of_ble_eq_true rfl)) dM_control_87 ⟨Nat.zero_le _, Nat.zero_le _⟩) (fun H locs hP hD hS => ?_)
              refine W.eq (g2 := F0 m 90 ls []) rfl ?_
              exact key H locs (tk_Pw (congrArg (WM hm ad cI cZ) (by unfold tkM_control_w19; rw [if_neg h10_, if_pos h11_])) hP) (tk_Dw (congrArg (WM hm ad cI cZ) (by unfold tkM_control_w19; rw [if_neg h10_, if_pos h11_])) hD) hS
        · refine lv_iinc (k := 1) (v := 1) hx hb dM_control_90 hl rfl (by decide) (by decide) rfl (fun ls hl => ?_)
          have hl : lv_has ls 6 [(4, .int 1), (5, .int (tkM_control_v17 g x0)), (3, .int ((x0 >>> ((4 : Int32) &&& 31)) &&& 3)), (2, .int (x0 >>> ((6 : Int32) &&& 31))), (0, .ref hm), (1, .int x0)] := hl
          refine lv_goto (tgt := 19) hx hb dM_control_93 (by decide) ?_
          refine lv_iload hx hb dM_control_19 (lv_at hl 0 rfl) ?_
          refine lv_iconst (v := 3) hx hb dM_control_21 (by decide) ?_
          refine lv_icmp_ge (tgt := 96) hx hb dM_control_22 (by decide) (fun h => absurd h (by decide)) (fun _ => ?_)
          refine lv_iload_n hx hb dM_control_25 rfl (lv_at hl 5 rfl) ?_
          refine lv_iconst (v := 1) hx hb dM_control_26 (by decide) ?_
          refine lv_iload hx hb dM_control_27 (lv_at hl 0 rfl) ?_
          refine lv_iadd hx hb dM_control_29 ?_
          refine lv_ishr hx hb dM_control_30 ?_
          refine lv_iconst (v := 1) hx hb dM_control_31 (by decide) ?_
          refine lv_iand hx hb dM_control_32 ?_
          refine lv_iconst (v := 1) hx hb dM_control_33 (by decide) ?_
          refine tk_mrg (D := D) (ws1 := (WM hm ad cI cZ (tkM_control_w19 g x0))) (g2 := F0 m 52 ls [.int (tkM_control_v20 g x0)]) hD hS (fun key => ?_) (fun H locs hP hD hS => ?_)
          · refine lv_icmp_ne (tgt := 51) hx hb dM_control_34 (by decide) (fun (h12_ : ¬ ((x0 >>> ((1 + 1) &&& 31)) &&& 1 = 1)) => ?_) (fun (h12_ : (x0 >>> ((1 + 1) &&& 31)) &&& 1 = 1) => ?_)
            · refine lv_iconst (v := 0) hx hb dM_control_51 (by decide) ?_
              exact tk_top (by unfold tkM_control_v20; rw [if_neg h12_]) (key H locs hP hD hS)
            · refine lv_aload_n hx hb dM_control_37 rfl (lv_at hl 4 rfl) ?_
              refine va_get (D := D) (ci := 3) (v := .ref (ad 20)) (C := RM) (T := TM) (N := 33) hx hb hw inM hown hK hP 0 rfl rfl 20 (by decide) f68 (fun _ h9 => h9) rfl dM_control_38 ?_
              refine lv_iload hx hb dM_control_41 (lv_at hl 0 rfl) ?_
              refine tkld_20 hx hb hK hP (by unfold vp_in; decide) dM_control_43 ?_
              refine lv_if_lt (tgt := 51) hx hb dM_control_44 (by decide) (fun (h13_ : ((tkM_control_w19 g x0) 20) (1 : Int32).toNatClampNeg < 0) => ?_) (fun (h13_ : ¬ (((tkM_control_w19 g x0) 20) (1 : Int32).toNatClampNeg < 0)) => ?_)
              · refine lv_iconst (v := 0) hx hb dM_control_51 (by decide) ?_
                exact tk_top (by unfold tkM_control_v20; rw [if_pos h12_, if_pos h13_]) (key H locs hP hD hS)
              · refine lv_iconst (v := 1) hx hb dM_control_47 (by decide) ?_
                refine lv_goto (tgt := 52) hx hb dM_control_48 (by decide) ?_
                exact tk_top (by unfold tkM_control_v20; rw [if_pos h12_, if_neg h13_]) (key H locs hP hD hS)
          · refine lv_istore hx hb dM_control_52 hl (by decide) rfl (fun ls hl => ?_)
            have hl : lv_has ls 6 [(5, .int (tkM_control_v20 g x0)), (4, .int 1), (3, .int ((x0 >>> ((4 : Int32) &&& 31)) &&& 3)), (2, .int (x0 >>> ((6 : Int32) &&& 31))), (0, .ref hm), (1, .int x0)] := hl
            refine lv_iload hx hb dM_control_54 (lv_at hl 0 rfl) ?_
            refine tk_mrg (D := D) (ws1 := (WM hm ad cI cZ (tkM_control_w21 g x0))) (g2 := F0 m 72 ls []) hD hS (fun key => ?_) (fun H locs hP hD hS => ?_)
            · refine lv_if_eq (tgt := 72) hx hb dM_control_56 (by decide) (fun (h14_ : tkM_control_v20 g x0 = 0) => ?_) (fun (h14_ : ¬ (tkM_control_v20 g x0 = 0)) => ?_)
              · exact key H locs (tk_Pw (congrArg (WM hm ad cI cZ) (by unfold tkM_control_w21; rw [if_pos h14_])) hP) (tk_Dw (congrArg (WM hm ad cI cZ) (by unfold tkM_control_w21; rw [if_pos h14_])) hD) hS
              · refine lv_iload_n hx hb dM_control_59 rfl (lv_at hl 5 rfl) ?_
                refine lv_bipush (v := 32) hx hb dM_control_60 (by decide) ?_
                refine lv_iand hx hb dM_control_62 ?_
                refine lv_if_ne (tgt := 72) hx hb dM_control_63 (by decide) (fun (h15_ : ¬ (x0 &&& 32 = 0)) => ?_) (fun (h15_ : x0 &&& 32 = 0) => ?_)
                · exact key H locs (tk_Pw (congrArg (WM hm ad cI cZ) (by unfold tkM_control_w21; rw [if_neg h14_, if_neg h15_])) hP) (tk_Dw (congrArg (WM hm ad cI cZ) (by unfold tkM_control_w21; rw [if_neg h14_, if_neg h15_])) hD) hS
                · refine lv_aload_n hx hb dM_control_66 rfl (lv_at hl 4 rfl) ?_
                  refine lv_iload hx hb dM_control_67 (lv_at hl 1 rfl) ?_
                  refine tk_callA hD hS hA (va_runV (As := [.int 1]) (rest := []) ⟨hx, hb, hml, hown, hw⟩ (kM_latch l D hm ad cI cZ (tkM_control_w19 g x0) 1 (by unfold vp_in; decide) H.size) (cwV 1 hw (tk_gV tkWM_good wM_M_139 wI_M_latch wS_M_latch wZ_M wC_M_latch) rfl rfl rfl (by decide +kernel) ⟨Nat.le_of_ble_eq_true rfl, Nat.le_of_ble_eq_true rfl⟩) (tk_preM hK hN hP hD) rfl rfl hl.1 rfl (lv_room (Nat.le_of_ble_eq_true rfl)) dM_control_69 ⟨Nat.zero_le _, Nat.zero_le _⟩) (fun H locs hP hD hS => ?_)
                  refine W.eq (g2 := F0 m 72 ls []) rfl ?_
                  exact key H locs (tk_Pw (congrArg (WM hm ad cI cZ) (by unfold tkM_control_w21; rw [if_neg h14_, if_pos h15_])) hP) (tk_Dw (congrArg (WM hm ad cI cZ) (by unfold tkM_control_w21; rw [if_neg h14_, if_pos h15_])) hD) hS
            · refine lv_iload hx hb dM_control_72 (lv_at hl 0 rfl) ?_
              refine tk_mrg (D := D) (ws1 := (WM hm ad cI cZ (tkM_control_w22 g x0))) (g2 := F0 m 90 ls []) hD hS (fun key => ?_) (fun H locs hP hD hS => ?_)
              · refine lv_if_eq (tgt := 90) hx hb dM_control_74 (by decide) (fun (h16_ : tkM_control_v20 g x0 = 0) => ?_) (fun (h16_ : ¬ (tkM_control_v20 g x0 = 0)) => ?_)
                · exact key H locs (tk_Pw (congrArg (WM hm ad cI cZ) (by unfold tkM_control_w22; rw [if_pos h16_])) hP) (tk_Dw (congrArg (WM hm ad cI cZ) (by unfold tkM_control_w22; rw [if_pos h16_])) hD) hS
                · refine lv_iload_n hx hb dM_control_77 rfl (lv_at hl 5 rfl) ?_
                  refine lv_bipush (v := 16) hx hb dM_control_78 (by decide) ?_
                  refine lv_iand hx hb dM_control_80 ?_
                  refine lv_if_ne (tgt := 90) hx hb dM_control_81 (by decide) (fun (h17_ : ¬ (x0 &&& 16 = 0)) => ?_) (fun (h17_ : x0 &&& 16 = 0) => ?_)
                  · exact key H locs (tk_Pw (congrArg (WM hm ad cI cZ) (by unfold tkM_control_w22; rw [if_neg h16_, if_neg h17_])) hP) (tk_Dw (congrArg (WM hm ad cI cZ) (by unfold tkM_control_w22; rw [if_neg h16_, if_neg h17_])) hD) hS
                  · refine lv_aload_n hx hb dM_control_84 rfl (lv_at hl 4 rfl) ?_
                    refine lv_iload hx hb dM_control_85 (lv_at hl 1 rfl) ?_
                    refine tk_callA hD hS hA (va_runV (As := [.int 1]) (rest := []) ⟨hx, hb, hml, hown, hw⟩ (kM_latchStatus l D hm ad cI cZ (tkM_control_w21 g x0) 1 (by unfold vp_in; decide) H.size) (cwV 1 hw (tk_gV tkWM_good wM_M_143 wI_M_latchStatus wS_M_latchStatus wZ_M wC_M_latchStatus) rfl rfl rfl (by decide +kernel) ⟨Nat.le_of_ble_eq_true rfl, Nat.le_of_ble_eq_true rfl⟩) (tk_preM hK hN hP hD) rfl rfl hl.1 rfl (lv_room (Nat.le_of_ble_eq_true rfl)) dM_control_87 ⟨Nat.zero_le _, Nat.zero_le _⟩) (fun H locs hP hD hS => ?_)
                    refine W.eq (g2 := F0 m 90 ls []) rfl ?_
                    exact key H locs (tk_Pw (congrArg (WM hm ad cI cZ) (by unfold tkM_control_w22; rw [if_neg h16_, if_pos h17_])) hP) (tk_Dw (congrArg (WM hm ad cI cZ) (by unfold tkM_control_w22; rw [if_neg h16_, if_pos h17_])) hD) hS
              · refine lv_iinc (k := 1) (v := 2) hx hb dM_control_90 hl rfl (by decide) (by decide) rfl (fun ls hl => ?_)
                have hl : lv_has ls 6 [(4, .int 2), (5, .int (tkM_control_v20 g x0)), (3, .int ((x0 >>> ((4 : Int32) &&& 31)) &&& 3)), (2, .int (x0 >>> ((6 : Int32) &&& 31))), (0, .ref hm), (1, .int x0)] := hl
                refine lv_goto (tgt := 19) hx hb dM_control_93 (by decide) ?_
                refine lv_iload hx hb dM_control_19 (lv_at hl 0 rfl) ?_
                refine lv_iconst (v := 3) hx hb dM_control_21 (by decide) ?_
                refine lv_icmp_ge (tgt := 96) hx hb dM_control_22 (by decide) (fun h => absurd h (by decide)) (fun _ => ?_)
                refine lv_iload_n hx hb dM_control_25 rfl (lv_at hl 5 rfl) ?_
                refine lv_iconst (v := 1) hx hb dM_control_26 (by decide) ?_
                refine lv_iload hx hb dM_control_27 (lv_at hl 0 rfl) ?_
                refine lv_iadd hx hb dM_control_29 ?_
                refine lv_ishr hx hb dM_control_30 ?_
                refine lv_iconst (v := 1) hx hb dM_control_31 (by decide) ?_
                refine lv_iand hx hb dM_control_32 ?_
                refine lv_iconst (v := 1) hx hb dM_control_33 (by decide) ?_
                refine tk_mrg (D := D) (ws1 := (WM hm ad cI cZ (tkM_control_w22 g x0))) (g2 := F0 m 52 ls [.int (tkM_control_v23 g x0)]) hD hS (fun key => ?_) (fun H locs hP hD hS => ?_)
                · refine lv_icmp_ne (tgt := 51) hx hb dM_control_34 (by decide) (fun (h18_ : ¬ ((x0 >>> ((1 + 2) &&& 31)) &&& 1 = 1)) => ?_) (fun (h18_ : (x0 >>> ((1 + 2) &&& 31)) &&& 1 = 1) => ?_)
                  · refine lv_iconst (v := 0) hx hb dM_control_51 (by decide) ?_
                    exact tk_top (by unfold tkM_control_v23; rw [if_neg h18_]) (key H locs hP hD hS)
                  · refine lv_aload_n hx hb dM_control_37 rfl (lv_at hl 4 rfl) ?_
                    refine va_get (D := D) (ci := 3) (v := .ref (ad 20)) (C := RM) (T := TM) (N := 33) hx hb hw inM hown hK hP 0 rfl rfl 20 (by decide) f68 (fun _ h9 => h9) rfl dM_control_38 ?_
                    refine lv_iload hx hb dM_control_41 (lv_at hl 0 rfl) ?_
                    refine tkld_20 hx hb hK hP (by unfold vp_in; decide) dM_control_43 ?_
                    refine lv_if_lt (tgt := 51) hx hb dM_control_44 (by decide) (fun (h19_ : ((tkM_control_w22 g x0) 20) (2 : Int32).toNatClampNeg < 0) => ?_) (fun (h19_ : ¬ (((tkM_control_w22 g x0) 20) (2 : Int32).toNatClampNeg < 0)) => ?_)
                    · refine lv_iconst (v := 0) hx hb dM_control_51 (by decide) ?_
                      exact tk_top (by unfold tkM_control_v23; rw [if_pos h18_, if_pos h19_]) (key H locs hP hD hS)
                    · refine lv_iconst (v := 1) hx hb dM_control_47 (by decide) ?_
                      refine lv_goto (tgt := 52) hx hb dM_control_48 (by decide) ?_
                      exact tk_top (by unfold tkM_control_v23; rw [if_pos h18_, if_neg h19_]) (key H locs hP hD hS)
                · refine lv_istore hx hb dM_control_52 hl (by decide) rfl (fun ls hl => ?_)
                  have hl : lv_has ls 6 [(5, .int (tkM_control_v23 g x0)), (4, .int 2), (3, .int ((x0 >>> ((4 : Int32) &&& 31)) &&& 3)), (2, .int (x0 >>> ((6 : Int32) &&& 31))), (0, .ref hm), (1, .int x0)] := hl
                  refine lv_iload hx hb dM_control_54 (lv_at hl 0 rfl) ?_
                  refine tk_mrg (D := D) (ws1 := (WM hm ad cI cZ (tkM_control_w24 g x0))) (g2 := F0 m 72 ls []) hD hS (fun key => ?_) (fun H locs hP hD hS => ?_)
                  · refine lv_if_eq (tgt := 72) hx hb dM_control_56 (by decide) (fun (h20_ : tkM_control_v23 g x0 = 0) => ?_) (fun (h20_ : ¬ (tkM_control_v23 g x0 = 0)) => ?_)
                    · exact key H locs (tk_Pw (congrArg (WM hm ad cI cZ) (by unfold tkM_control_w24; rw [if_pos h20_])) hP) (tk_Dw (congrArg (WM hm ad cI cZ) (by unfold tkM_control_w24; rw [if_pos h20_])) hD) hS
                    · refine lv_iload_n hx hb dM_control_59 rfl (lv_at hl 5 rfl) ?_
                      refine lv_bipush (v := 32) hx hb dM_control_60 (by decide) ?_
                      refine lv_iand hx hb dM_control_62 ?_
                      refine lv_if_ne (tgt := 72) hx hb dM_control_63 (by decide) (fun (h21_ : ¬ (x0 &&& 32 = 0)) => ?_) (fun (h21_ : x0 &&& 32 = 0) => ?_)
                      · exact key H locs (tk_Pw (congrArg (WM hm ad cI cZ) (by unfold tkM_control_w24; rw [if_neg h20_, if_neg h21_])) hP) (tk_Dw (congrArg (WM hm ad cI cZ) (by unfold tkM_control_w24; rw [if_neg h20_, if_neg h21_])) hD) hS
                      · refine lv_aload_n hx hb dM_control_66 rfl (lv_at hl 4 rfl) ?_
                        refine lv_iload hx hb dM_control_67 (lv_at hl 1 rfl) ?_
                        refine tk_callA hD hS hA (va_runV (As := [.int 2]) (rest := []) ⟨hx, hb, hml, hown, hw⟩ (kM_latch l D hm ad cI cZ (tkM_control_w22 g x0) 2 (by unfold vp_in; decide) H.size) (cwV 1 hw (tk_gV tkWM_good wM_M_139 wI_M_latch wS_M_latch wZ_M wC_M_latch) rfl rfl rfl (by decide +kernel) ⟨Nat.le_of_ble_eq_true rfl, Nat.le_of_ble_eq_true rfl⟩) (tk_preM hK hN hP hD) rfl rfl hl.1 rfl (lv_room (Nat.le_of_ble_eq_true rfl)) dM_control_69 ⟨Nat.zero_le _, Nat.zero_le _⟩) (fun H locs hP hD hS => ?_)
                        refine W.eq (g2 := F0 m 72 ls []) rfl ?_
                        exact key H locs (tk_Pw (congrArg (WM hm ad cI cZ) (by unfold tkM_control_w24; rw [if_neg h20_, if_pos h21_])) hP) (tk_Dw (congrArg (WM hm ad cI cZ) (by unfold tkM_control_w24; rw [if_neg h20_, if_pos h21_])) hD) hS
                  · refine lv_iload hx hb dM_control_72 (lv_at hl 0 rfl) ?_
                    refine tk_mrg (D := D) (ws1 := (WM hm ad cI cZ (tkM_control_w25 g x0))) (g2 := F0 m 90 ls []) hD hS (fun key => ?_) (fun H locs hP hD hS => ?_)
                    · refine lv_if_eq (tgt := 90) hx hb dM_control_74 (by decide) (fun (h22_ : tkM_control_v23 g x0 = 0) => ?_) (fun (h22_ : ¬ (tkM_control_v23 g x0 = 0)) => ?_)
                      · exact key H locs (tk_Pw (congrArg (WM hm ad cI cZ) (by unfold tkM_control_w25; rw [if_pos h22_])) hP) (tk_Dw (congrArg (WM hm ad cI cZ) (by unfold tkM_control_w25; rw [if_pos h22_])) hD) hS
                      · refine lv_iload_n hx hb dM_control_77 rfl (lv_at hl 5 rfl) ?_
                        refine lv_bipush (v := 16) hx hb dM_control_78 (by decide) ?_
                        refine lv_iand hx hb dM_control_80 ?_
                        refine lv_if_ne (tgt := 90) hx hb dM_control_81 (by decide) (fun (h23_ : ¬ (x0 &&& 16 = 0)) => ?_) (fun (h23_ : x0 &&& 16 = 0) => ?_)
                        · exact key H locs (tk_Pw (congrArg (WM hm ad cI cZ) (by unfold tkM_control_w25; rw [if_neg h22_, if_neg h23_])) hP) (tk_Dw (congrArg (WM hm ad cI cZ) (by unfold tkM_control_w25; rw [if_neg h22_, if_neg h23_])) hD) hS
                        · refine lv_aload_n hx hb dM_control_84 rfl (lv_at hl 4 rfl) ?_
                          refine lv_iload hx hb dM_control_85 (lv_at hl 1 rfl) ?_
                          refine tk_callA hD hS hA (va_runV (As := [.int 2]) (rest := []) ⟨hx, hb, hml, hown, hw⟩ (kM_latchStatus l D hm ad cI cZ (tkM_control_w24 g x0) 2 (by unfold vp_in; decide) H.size) (cwV 1 hw (tk_gV tkWM_good wM_M_143 wI_M_latchStatus wS_M_latchStatus wZ_M wC_M_latchStatus) rfl rfl rfl (by decide +kernel) ⟨Nat.le_of_ble_eq_true rfl, Nat.le_of_ble_eq_true rfl⟩) (tk_preM hK hN hP hD) rfl rfl hl.1 rfl (lv_room (Nat.le_of_ble_eq_true rfl)) dM_control_87 ⟨Nat.zero_le _, Nat.zero_le _⟩) (fun H locs hP hD hS => ?_)
                          refine W.eq (g2 := F0 m 90 ls []) rfl ?_
                          exact key H locs (tk_Pw (congrArg (WM hm ad cI cZ) (by unfold tkM_control_w25; rw [if_neg h22_, if_pos h23_])) hP) (tk_Dw (congrArg (WM hm ad cI cZ) (by unfold tkM_control_w25; rw [if_neg h22_, if_pos h23_])) hD) hS
                    · refine lv_iinc (k := 1) (v := 3) hx hb dM_control_90 hl rfl (by decide) (by decide) rfl (fun ls hl => ?_)
                      have hl : lv_has ls 6 [(4, .int 3), (5, .int (tkM_control_v23 g x0)), (3, .int ((x0 >>> ((4 : Int32) &&& 31)) &&& 3)), (2, .int (x0 >>> ((6 : Int32) &&& 31))), (0, .ref hm), (1, .int x0)] := hl
                      refine lv_goto (tgt := 19) hx hb dM_control_93 (by decide) ?_
                      refine lv_iload hx hb dM_control_19 (lv_at hl 0 rfl) ?_
                      refine lv_iconst (v := 3) hx hb dM_control_21 (by decide) ?_
                      refine lv_icmp_ge (tgt := 96) hx hb dM_control_22 (by decide) (fun _ => ?_) (fun h => absurd (by decide) h)
                      refine lv_goto (tgt := 239) hx hb dM_control_96 (by decide) ?_
                      exact tk_vret hx hb hr hlk hP hD hS dM_control_239 (congrArg (WM hm ad cI cZ) (by unfold tkM_control_s; rw [if_pos h1_]))
def tkM_writeCounter_v1 (g : Nat → Nat → Int32) (x0 x1 : Int32) : Int32 :=
  if g 21 x0.toNatClampNeg = 1 then x1
  else if g 21 x0.toNatClampNeg = 2 then 256 * x1
    else (256 * x1) + (g 29 x0.toNatClampNeg)
def tkM_writeCounter_v2 (g : Nat → Nat → Int32) (x0 x1 : Int32) : Int32 :=
  if g 22 x0.toNatClampNeg = 0 then 1
  else 0
def tkM_writeCounter_v3 (g : Nat → Nat → Int32) (x0 x1 : Int32) : Int32 :=
  if tkM_writeCounter_v1 g x0 x1 = 0 then 65536
  else tkM_writeCounter_v1 g x0 x1
def tkM_writeCounter_v4 (g : Nat → Nat → Int32) (x0 x1 : Int32) : Int32 :=
  if g 25 x0.toNatClampNeg = 0 then (if g 20 x0.toNatClampNeg = 0 then 1
    else if g 20 x0.toNatClampNeg = 4 then 1
      else if g 20 x0.toNatClampNeg = 2 then (if tkM_writeCounter_v2 g x0 x1 = 0 then 0
          else 1)
        else if g 20 x0.toNatClampNeg = 3 then (if tkM_writeCounter_v2 g x0 x1 = 0 then 0
            else 1)
          else 0)
  else 1
def tkM_writeCounter_v5 (g : Nat → Nat → Int32) (x0 x1 : Int32) : Int32 :=
  if g 20 x0.toNatClampNeg = 0 then 0
  else if g 19 x0.toNatClampNeg = 0 then 0
    else 1
def tkM_writeCounter_v6 (g : Nat → Nat → Int32) (x0 x1 : Int32) : Int32 :=
  if g 22 x0.toNatClampNeg = 0 then 1
  else 0
def tkM_writeCounter_v7 (g : Nat → Nat → Int32) (x0 x1 : Int32) : Int32 :=
  if (256 * x1) + (g 29 x0.toNatClampNeg) = 0 then 65536
  else (256 * x1) + (g 29 x0.toNatClampNeg)
def tkM_writeCounter_v8 (g : Nat → Nat → Int32) (x0 x1 : Int32) : Int32 :=
  if g 25 x0.toNatClampNeg = 0 then (if g 20 x0.toNatClampNeg = 0 then 1
    else if g 20 x0.toNatClampNeg = 4 then 1
      else if g 20 x0.toNatClampNeg = 2 then (if tkM_writeCounter_v6 g x0 x1 = 0 then 0
          else 1)
        else if g 20 x0.toNatClampNeg = 3 then (if tkM_writeCounter_v6 g x0 x1 = 0 then 0
            else 1)
          else 0)
  else 1
def tkM_writeCounter_v9 (g : Nat → Nat → Int32) (x0 x1 : Int32) : Int32 :=
  if g 20 x0.toNatClampNeg = 0 then 0
  else if g 19 x0.toNatClampNeg = 0 then 0
    else 1
def tkM_writeCounter_v10 (g : Nat → Nat → Int32) (x0 x1 : Int32) : Int32 :=
  if g 20 x0.toNatClampNeg = 0 then 1
  else 0
def tkM_writeCounter_s (g : Nat → Nat → Int32) (x0 x1 : Int32) : Nat → Nat → Int32 :=
  if g 21 x0.toNatClampNeg = 3 then (if g 28 x0.toNatClampNeg = 0 then tk_up (tk_up (tk_up g 28 (upd (g 28) x0.toNatClampNeg 1)) 29 (upd (g 29) x0.toNatClampNeg x1)) 26 (upd (g 26) x0.toNatClampNeg (vp_nar .boolean (tkM_writeCounter_v10 g x0 x1)))
    else tk_up (tk_up (tk_up (tk_up (tk_up (tk_up g 28 (upd (g 28) x0.toNatClampNeg 0)) 26 (upd (g 26) x0.toNatClampNeg 0)) 22 (upd (g 22) x0.toNatClampNeg (tkM_writeCounter_v7 g x0 x1))) 27 (upd (g 27) x0.toNatClampNeg 1)) 25 (upd (g 25) x0.toNatClampNeg (vp_nar .boolean (tkM_writeCounter_v8 g x0 x1)))) 19 (upd (g 19) x0.toNatClampNeg (vp_nar .boolean (tkM_writeCounter_v9 g x0 x1))))
  else tk_up (tk_up (tk_up (tk_up (tk_up (tk_up g 28 (upd (g 28) x0.toNatClampNeg 0)) 26 (upd (g 26) x0.toNatClampNeg 0)) 22 (upd (g 22) x0.toNatClampNeg (tkM_writeCounter_v3 g x0 x1))) 27 (upd (g 27) x0.toNatClampNeg 1)) 25 (upd (g 25) x0.toNatClampNeg (vp_nar .boolean (tkM_writeCounter_v4 g x0 x1)))) 19 (upd (g 19) x0.toNatClampNeg (vp_nar .boolean (tkM_writeCounter_v5 g x0 x1)))
set_option maxHeartbeats 1000000 in
set_option maxRecDepth 100000 in
theorem kM_writeCounter (l : Launch) (D : va_G) (hm : Nat) (ad : Nat → Nat) (cI cZ : ClassId) (g : Nat → Nat → Int32) (x0 x1 : Int32) (hi0 : vp_in x0 3) : tk_M l yM_writeCounter wsM_writeCounter { frames := 0, cells := 0, slots := 0, locals := 0 } D [(cI, .int), (cZ, .boolean)] [.ref hm, .int x0, .int x1] (WM hm ad cI cZ g) (WM hm ad cI cZ (tkM_writeCounter_s g x0 x1)) none := by
  refine tk_M.of (cc := cM_writeCounter) (maxL := 6) (ret := none) (by decide) rfl (Nat.le_of_ble_eq_true rfl) ?_
  intro p e s m below meth co A H locs ls hB hK hN hA hP hD hS hl
  obtain ⟨hx, hb, hr, hml, hown, hlk, hnm, hts⟩ := hB
  have hown : s.vm.findClass RM = some m.cls := hown
  have hl : lv_has ls 6 [(0, .ref hm), (1, .int x0), (2, .int x1)] := hl
  have hw : ∀ w ∈ tkWM, w.before _ s = true := fun w h => hts w (List.mem_cons_of_mem _ h)
  have f71 := hw _ wF_M_71
  have f95 := hw _ wF_M_95
  have f92 := hw _ wF_M_92
  have f86 := hw _ wF_M_86
  have f74 := hw _ wF_M_74
  have f89 := hw _ wF_M_89
  have f68 := hw _ wF_M_68
  have f83 := hw _ wF_M_83
  have f65 := hw _ wF_M_65
  refine lv_aload_n hx hb dM_writeCounter_0 rfl (lv_at hl 0 rfl) ?_
  refine va_get (D := D) (ci := 3) (v := .ref (ad 21)) (C := RM) (T := TM) (N := 33) hx hb hw inM hown hK hP 0 rfl rfl 21 (by decide) f71 (fun _ h9 => h9) rfl dM_writeCounter_1 ?_
  refine lv_iload_n hx hb dM_writeCounter_4 rfl (lv_at hl 1 rfl) ?_
  refine tkld_21 hx hb hK hP hi0 dM_writeCounter_5 ?_
  refine lv_iconst (v := 3) hx hb dM_writeCounter_6 (by decide) ?_
  refine lv_icmp_ne (tgt := 54) hx hb dM_writeCounter_7 (by decide) (fun (h1_ : ¬ (g 21 x0.toNatClampNeg = 3)) => ?_) (fun (h1_ : g 21 x0.toNatClampNeg = 3) => ?_)
  · refine lv_aload_n hx hb dM_writeCounter_54 rfl (lv_at hl 0 rfl) ?_
    refine va_get (D := D) (ci := 3) (v := .ref (ad 21)) (C := RM) (T := TM) (N := 33) hx hb hw inM hown hK hP 0 rfl rfl 21 (by decide) f71 (fun _ h9 => h9) rfl dM_writeCounter_55 ?_
    refine lv_iload_n hx hb dM_writeCounter_58 rfl (lv_at hl 1 rfl) ?_
    refine tkld_21 hx hb hK hP hi0 dM_writeCounter_59 ?_
    refine lv_iconst (v := 1) hx hb dM_writeCounter_60 (by decide) ?_
    refine tk_mrg (D := D) (ws1 := (WM hm ad cI cZ g)) (g2 := F0 m 98 ls [.int (tkM_writeCounter_v1 g x0 x1)]) hD hS (fun key => ?_) (fun H locs hP hD hS => ?_)
    · refine lv_icmp_ne (tgt := 68) hx hb dM_writeCounter_61 (by decide) (fun (h2_ : ¬ (g 21 x0.toNatClampNeg = 1)) => ?_) (fun (h2_ : g 21 x0.toNatClampNeg = 1) => ?_)
      · refine lv_aload_n hx hb dM_writeCounter_68 rfl (lv_at hl 0 rfl) ?_
        refine va_get (D := D) (ci := 3) (v := .ref (ad 21)) (C := RM) (T := TM) (N := 33) hx hb hw inM hown hK hP 0 rfl rfl 21 (by decide) f71 (fun _ h9 => h9) rfl dM_writeCounter_69 ?_
        refine lv_iload_n hx hb dM_writeCounter_72 rfl (lv_at hl 1 rfl) ?_
        refine tkld_21 hx hb hK hP hi0 dM_writeCounter_73 ?_
        refine lv_iconst (v := 2) hx hb dM_writeCounter_74 (by decide) ?_
        refine lv_icmp_ne (tgt := 86) hx hb dM_writeCounter_75 (by decide) (fun (h3_ : ¬ (g 21 x0.toNatClampNeg = 2)) => ?_) (fun (h3_ : g 21 x0.toNatClampNeg = 2) => ?_)
        · refine lv_sipush (v := 256) hx hb dM_writeCounter_86 (by decide) ?_
          refine lv_iload_n hx hb dM_writeCounter_89 rfl (lv_at hl 2 rfl) ?_
          refine lv_imul hx hb dM_writeCounter_90 ?_
          refine lv_aload_n hx hb dM_writeCounter_91 rfl (lv_at hl 0 rfl) ?_
          refine va_get (D := D) (ci := 3) (v := .ref (ad 29)) (C := RM) (T := TM) (N := 33) hx hb hw inM hown hK hP 0 rfl rfl 29 (by decide) f95 (fun _ h9 => h9) rfl dM_writeCounter_92 ?_
          refine lv_iload_n hx hb dM_writeCounter_95 rfl (lv_at hl 1 rfl) ?_
          refine tkld_29 hx hb hK hP hi0 dM_writeCounter_96 ?_
          refine lv_iadd hx hb dM_writeCounter_97 ?_
          exact tk_top (by unfold tkM_writeCounter_v1; rw [if_neg h2_, if_neg h3_]) (key H locs hP hD hS)
        · refine lv_sipush (v := 256) hx hb dM_writeCounter_78 (by decide) ?_
          refine lv_iload_n hx hb dM_writeCounter_81 rfl (lv_at hl 2 rfl) ?_
          refine lv_imul hx hb dM_writeCounter_82 ?_
          refine lv_goto (tgt := 98) hx hb dM_writeCounter_83 (by decide) ?_
          exact tk_top (by unfold tkM_writeCounter_v1; rw [if_neg h2_, if_pos h3_]) (key H locs hP hD hS)
      · refine lv_iload_n hx hb dM_writeCounter_64 rfl (lv_at hl 2 rfl) ?_
        refine lv_goto (tgt := 98) hx hb dM_writeCounter_65 (by decide) ?_
        exact tk_top (by unfold tkM_writeCounter_v1; rw [if_pos h2_]) (key H locs hP hD hS)
    · refine lv_istore_n hx hb dM_writeCounter_98 rfl hl (by decide) rfl (fun ls hl => ?_)
      have hl : lv_has ls 6 [(3, .int (tkM_writeCounter_v1 g x0 x1)), (0, .ref hm), (1, .int x0), (2, .int x1)] := hl
      refine lv_aload_n hx hb dM_writeCounter_99 rfl (lv_at hl 1 rfl) ?_
      refine va_get (D := D) (ci := 3) (v := .ref (ad 28)) (C := RM) (T := TM) (N := 33) hx hb hw inM hown hK hP 0 rfl rfl 28 (by decide) f92 (fun _ h9 => h9) rfl dM_writeCounter_100 ?_
      refine lv_iload_n hx hb dM_writeCounter_103 rfl (lv_at hl 2 rfl) ?_
      refine lv_iconst (v := 0) hx hb dM_writeCounter_104 (by decide) ?_
      refine tkst_28 hx hb hK hP hD hS hi0 (x' := 0) rfl dM_writeCounter_105 (fun H locs hP hD hS => ?_)
      have hP : va_P D vwCl (WM hm ad cI cZ (tk_up g 28 (upd (g 28) x0.toNatClampNeg 0))) H := hP
      have hD : va_D A (WM hm ad cI cZ (tk_up g 28 (upd (g 28) x0.toNatClampNeg 0))) := hD
      refine lv_aload_n hx hb dM_writeCounter_106 rfl (lv_at hl 1 rfl) ?_
      refine va_get (D := D) (ci := 3) (v := .ref (ad 26)) (C := RM) (T := TM) (N := 33) hx hb hw inM hown hK hP 0 rfl rfl 26 (by decide) f86 (fun _ h9 => h9) rfl dM_writeCounter_107 ?_
      refine lv_iload_n hx hb dM_writeCounter_110 rfl (lv_at hl 2 rfl) ?_
      refine lv_iconst (v := 0) hx hb dM_writeCounter_111 (by decide) ?_
      refine tkst_26 hx hb hK hP hD hS hi0 (x' := 0) rfl dM_writeCounter_112 (fun H locs hP hD hS => ?_)
      have hP : va_P D vwCl (WM hm ad cI cZ (tk_up (tk_up g 28 (upd (g 28) x0.toNatClampNeg 0)) 26 (upd (g 26) x0.toNatClampNeg 0))) H := hP
      have hD : va_D A (WM hm ad cI cZ (tk_up (tk_up g 28 (upd (g 28) x0.toNatClampNeg 0)) 26 (upd (g 26) x0.toNatClampNeg 0))) := hD
      refine lv_aload_n hx hb dM_writeCounter_113 rfl (lv_at hl 1 rfl) ?_
      refine va_get (D := D) (ci := 3) (v := .ref (ad 22)) (C := RM) (T := TM) (N := 33) hx hb hw inM hown hK hP 0 rfl rfl 22 (by decide) f74 (fun _ h9 => h9) rfl dM_writeCounter_114 ?_
      refine lv_iload_n hx hb dM_writeCounter_117 rfl (lv_at hl 2 rfl) ?_
      refine tkld_22 hx hb hK hP hi0 dM_writeCounter_118 ?_
      refine tk_mrg (D := D) (ws1 := (WM hm ad cI cZ (tk_up (tk_up g 28 (upd (g 28) x0.toNatClampNeg 0)) 26 (upd (g 26) x0.toNatClampNeg 0)))) (g2 := F0 m 127 ls [.int (tkM_writeCounter_v2 g x0 x1)]) hD hS (fun key => ?_) (fun H locs hP hD hS => ?_)
      · refine lv_if_ne (tgt := 126) hx hb dM_writeCounter_119 (by decide) (fun (h4_ : ¬ (g 22 x0.toNatClampNeg = 0)) => ?_) (fun (h4_ : g 22 x0.toNatClampNeg = 0) => ?_)
        · refine lv_iconst (v := 0) hx hb dM_writeCounter_126 (by decide) ?_
          exact tk_top (by unfold tkM_writeCounter_v2; rw [if_neg h4_]) (key H locs hP hD hS)
        · refine lv_iconst (v := 1) hx hb dM_writeCounter_122 (by decide) ?_
          refine lv_goto (tgt := 127) hx hb dM_writeCounter_123 (by decide) ?_
          exact tk_top (by unfold tkM_writeCounter_v2; rw [if_pos h4_]) (key H locs hP hD hS)
      · refine lv_istore hx hb dM_writeCounter_127 hl (by decide) rfl (fun ls hl => ?_)
        have hl : lv_has ls 6 [(4, .int (tkM_writeCounter_v2 g x0 x1)), (3, .int (tkM_writeCounter_v1 g x0 x1)), (0, .ref hm), (1, .int x0), (2, .int x1)] := hl
        refine lv_aload_n hx hb dM_writeCounter_129 rfl (lv_at hl 2 rfl) ?_
        refine va_get (D := D) (ci := 3) (v := .ref (ad 22)) (C := RM) (T := TM) (N := 33) hx hb hw inM hown hK hP 0 rfl rfl 22 (by decide) f74 (fun _ h9 => h9) rfl dM_writeCounter_130 ?_
        refine lv_iload_n hx hb dM_writeCounter_133 rfl (lv_at hl 3 rfl) ?_
        refine lv_iload_n hx hb dM_writeCounter_134 rfl (lv_at hl 1 rfl) ?_
        refine tk_mrg (D := D) (ws1 := (WM hm ad cI cZ (tk_up (tk_up g 28 (upd (g 28) x0.toNatClampNeg 0)) 26 (upd (g 26) x0.toNatClampNeg 0)))) (g2 := F0 m 144 ls [.int (tkM_writeCounter_v3 g x0 x1), .int x0, .ref (ad 22)]) hD hS (fun key => ?_) (fun H locs hP hD hS => ?_)
        · refine lv_if_ne (tgt := 143) hx hb dM_writeCounter_135 (by decide) (fun (h5_ : ¬ (tkM_writeCounter_v1 g x0 x1 = 0)) => ?_) (fun (h5_ : tkM_writeCounter_v1 g x0 x1 = 0) => ?_)
          · refine lv_iload_n hx hb dM_writeCounter_143 rfl (lv_at hl 1 rfl) ?_
            exact tk_top (by unfold tkM_writeCounter_v3; rw [if_neg h5_]) (key H locs hP hD hS)
          · refine lv_ldc (v := 65536) hx hb hown (hw _ wK_M_146) dM_writeCounter_138 ?_
            refine lv_goto (tgt := 144) hx hb dM_writeCounter_140 (by decide) ?_
            exact tk_top (by unfold tkM_writeCounter_v3; rw [if_pos h5_]) (key H locs hP hD hS)
        · refine tkst_22 hx hb hK hP hD hS hi0 dM_writeCounter_144 (fun H locs hP hD hS => ?_)
          have hP : va_P D vwCl (WM hm ad cI cZ (tk_up (tk_up (tk_up g 28 (upd (g 28) x0.toNatClampNeg 0)) 26 (upd (g 26) x0.toNatClampNeg 0)) 22 (upd (g 22) x0.toNatClampNeg (tkM_writeCounter_v3 g x0 x1)))) H := hP
          have hD : va_D A (WM hm ad cI cZ (tk_up (tk_up (tk_up g 28 (upd (g 28) x0.toNatClampNeg 0)) 26 (upd (g 26) x0.toNatClampNeg 0)) 22 (upd (g 22) x0.toNatClampNeg (tkM_writeCounter_v3 g x0 x1)))) := hD
          refine lv_aload_n hx hb dM_writeCounter_145 rfl (lv_at hl 2 rfl) ?_
          refine va_get (D := D) (ci := 3) (v := .ref (ad 27)) (C := RM) (T := TM) (N := 33) hx hb hw inM hown hK hP 0 rfl rfl 27 (by decide) f89 (fun _ h9 => h9) rfl dM_writeCounter_146 ?_
          refine lv_iload_n hx hb dM_writeCounter_149 rfl (lv_at hl 3 rfl) ?_
          refine lv_iconst (v := 1) hx hb dM_writeCounter_150 (by decide) ?_
          refine tkst_27 hx hb hK hP hD hS hi0 (x' := 1) rfl dM_writeCounter_151 (fun H locs hP hD hS => ?_)
          have hP : va_P D vwCl (WM hm ad cI cZ (tk_up (tk_up (tk_up (tk_up g 28 (upd (g 28) x0.toNatClampNeg 0)) 26 (upd (g 26) x0.toNatClampNeg 0)) 22 (upd (g 22) x0.toNatClampNeg (tkM_writeCounter_v3 g x0 x1))) 27 (upd (g 27) x0.toNatClampNeg 1))) H := hP
          have hD : va_D A (WM hm ad cI cZ (tk_up (tk_up (tk_up (tk_up g 28 (upd (g 28) x0.toNatClampNeg 0)) 26 (upd (g 26) x0.toNatClampNeg 0)) 22 (upd (g 22) x0.toNatClampNeg (tkM_writeCounter_v3 g x0 x1))) 27 (upd (g 27) x0.toNatClampNeg 1))) := hD
          refine lv_aload_n hx hb dM_writeCounter_152 rfl (lv_at hl 2 rfl) ?_
          refine va_get (D := D) (ci := 3) (v := .ref (ad 20)) (C := RM) (T := TM) (N := 33) hx hb hw inM hown hK hP 0 rfl rfl 20 (by decide) f68 (fun _ h9 => h9) rfl dM_writeCounter_153 ?_
          refine lv_iload_n hx hb dM_writeCounter_156 rfl (lv_at hl 3 rfl) ?_
          refine tkld_20 hx hb hK hP hi0 dM_writeCounter_157 ?_
          refine lv_istore hx hb dM_writeCounter_158 hl (by decide) rfl (fun ls hl => ?_)
          have hl : lv_has ls 6 [(5, .int (g 20 x0.toNatClampNeg)), (4, .int (tkM_writeCounter_v2 g x0 x1)), (3, .int (tkM_writeCounter_v1 g x0 x1)), (0, .ref hm), (1, .int x0), (2, .int x1)] := hl
          refine lv_aload_n hx hb dM_writeCounter_160 rfl (lv_at hl 3 rfl) ?_
          refine va_get (D := D) (ci := 3) (v := .ref (ad 25)) (C := RM) (T := TM) (N := 33) hx hb hw inM hown hK hP 0 rfl rfl 25 (by decide) f83 (fun _ h9 => h9) rfl dM_writeCounter_161 ?_
          refine lv_iload_n hx hb dM_writeCounter_164 rfl (lv_at hl 4 rfl) ?_
          refine lv_aload_n hx hb dM_writeCounter_165 rfl (lv_at hl 3 rfl) ?_
          refine va_get (D := D) (ci := 3) (v := .ref (ad 25)) (C := RM) (T := TM) (N := 33) hx hb hw inM hown hK hP 0 rfl rfl 25 (by decide) f83 (fun _ h9 => h9) rfl dM_writeCounter_166 ?_
          refine lv_iload_n hx hb dM_writeCounter_169 rfl (lv_at hl 4 rfl) ?_
          refine tkld_25 hx hb hK hP hi0 dM_writeCounter_170 ?_
          refine tk_mrg (D := D) (ws1 := (WM hm ad cI cZ (tk_up (tk_up (tk_up (tk_up g 28 (upd (g 28) x0.toNatClampNeg 0)) 26 (upd (g 26) x0.toNatClampNeg 0)) 22 (upd (g 22) x0.toNatClampNeg (tkM_writeCounter_v3 g x0 x1))) 27 (upd (g 27) x0.toNatClampNeg 1)))) (g2 := F0 m 207 ls [.int (tkM_writeCounter_v4 g x0 x1), .int x0, .ref (ad 25)]) hD hS (fun key => ?_) (fun H locs hP hD hS => ?_)
          · refine lv_if_ne (tgt := 202) hx hb dM_writeCounter_171 (by decide) (fun (h6_ : ¬ (g 25 x0.toNatClampNeg = 0)) => ?_) (fun (h6_ : g 25 x0.toNatClampNeg = 0) => ?_)
            · refine lv_iconst (v := 1) hx hb dM_writeCounter_202 (by decide) ?_
              refine lv_goto (tgt := 207) hx hb dM_writeCounter_203 (by decide) ?_
              exact tk_top (by unfold tkM_writeCounter_v4; rw [if_neg h6_]) (key H locs hP hD hS)
            · refine lv_iload hx hb dM_writeCounter_174 (lv_at hl 0 rfl) ?_
              refine lv_if_eq (tgt := 202) hx hb dM_writeCounter_176 (by decide) (fun (h7_ : g 20 x0.toNatClampNeg = 0) => ?_) (fun (h7_ : ¬ (g 20 x0.toNatClampNeg = 0)) => ?_)
              · refine lv_iconst (v := 1) hx hb dM_writeCounter_202 (by decide) ?_
                refine lv_goto (tgt := 207) hx hb dM_writeCounter_203 (by decide) ?_
                exact tk_top (by unfold tkM_writeCounter_v4; rw [if_pos h6_, if_pos h7_]) (key H locs hP hD hS)
              · refine lv_iload hx hb dM_writeCounter_179 (lv_at hl 0 rfl) ?_
                refine lv_iconst (v := 4) hx hb dM_writeCounter_181 (by decide) ?_
                refine lv_icmp_eq (tgt := 202) hx hb dM_writeCounter_182 (by decide) (fun (h8_ : g 20 x0.toNatClampNeg = 4) => ?_) (fun (h8_ : ¬ (g 20 x0.toNatClampNeg = 4)) => ?_)
                · refine lv_iconst (v := 1) hx hb dM_writeCounter_202 (by decide) ?_
                  refine lv_goto (tgt := 207) hx hb dM_writeCounter_203 (by decide) ?_
                  exact tk_top (by unfold tkM_writeCounter_v4; rw [if_pos h6_, if_neg h7_, if_pos h8_]) (key H locs hP hD hS)
                · refine lv_iload hx hb dM_writeCounter_185 (lv_at hl 0 rfl) ?_
                  refine lv_iconst (v := 2) hx hb dM_writeCounter_187 (by decide) ?_
                  refine lv_icmp_eq (tgt := 197) hx hb dM_writeCounter_188 (by decide) (fun (h9_ : g 20 x0.toNatClampNeg = 2) => ?_) (fun (h9_ : ¬ (g 20 x0.toNatClampNeg = 2)) => ?_)
                  · refine lv_iload hx hb dM_writeCounter_197 (lv_at hl 1 rfl) ?_
                    refine lv_if_eq (tgt := 206) hx hb dM_writeCounter_199 (by decide) (fun (h10_ : tkM_writeCounter_v2 g x0 x1 = 0) => ?_) (fun (h10_ : ¬ (tkM_writeCounter_v2 g x0 x1 = 0)) => ?_)
                    · refine lv_iconst (v := 0) hx hb dM_writeCounter_206 (by decide) ?_
                      exact tk_top (by unfold tkM_writeCounter_v4; rw [if_pos h6_, if_neg h7_, if_neg h8_, if_pos h9_, if_pos h10_]) (key H locs hP hD hS)
                    · refine lv_iconst (v := 1) hx hb dM_writeCounter_202 (by decide) ?_
                      refine lv_goto (tgt := 207) hx hb dM_writeCounter_203 (by decide) ?_
                      exact tk_top (by unfold tkM_writeCounter_v4; rw [if_pos h6_, if_neg h7_, if_neg h8_, if_pos h9_, if_neg h10_]) (key H locs hP hD hS)
                  · refine lv_iload hx hb dM_writeCounter_191 (lv_at hl 0 rfl) ?_
                    refine lv_iconst (v := 3) hx hb dM_writeCounter_193 (by decide) ?_
                    refine lv_icmp_ne (tgt := 206) hx hb dM_writeCounter_194 (by decide) (fun (h11_ : ¬ (g 20 x0.toNatClampNeg = 3)) => ?_) (fun (h11_ : g 20 x0.toNatClampNeg = 3) => ?_)
                    · refine lv_iconst (v := 0) hx hb dM_writeCounter_206 (by decide) ?_
                      exact tk_top (by unfold tkM_writeCounter_v4; rw [if_pos h6_, if_neg h7_, if_neg h8_, if_neg h9_, if_neg h11_]) (key H locs hP hD hS)
                    · refine lv_iload hx hb dM_writeCounter_197 (lv_at hl 1 rfl) ?_
                      refine lv_if_eq (tgt := 206) hx hb dM_writeCounter_199 (by decide) (fun (h12_ : tkM_writeCounter_v2 g x0 x1 = 0) => ?_) (fun (h12_ : ¬ (tkM_writeCounter_v2 g x0 x1 = 0)) => ?_)
                      · refine lv_iconst (v := 0) hx hb dM_writeCounter_206 (by decide) ?_
                        exact tk_top (by unfold tkM_writeCounter_v4; rw [if_pos h6_, if_neg h7_, if_neg h8_, if_neg h9_, if_pos h11_, if_pos h12_]) (key H locs hP hD hS)
                      · refine lv_iconst (v := 1) hx hb dM_writeCounter_202 (by decide) ?_
                        refine lv_goto (tgt := 207) hx hb dM_writeCounter_203 (by decide) ?_
                        exact tk_top (by unfold tkM_writeCounter_v4; rw [if_pos h6_, if_neg h7_, if_neg h8_, if_neg h9_, if_pos h11_, if_neg h12_]) (key H locs hP hD hS)
          · refine tkst_25 hx hb hK hP hD hS hi0 rfl dM_writeCounter_207 (fun H locs hP hD hS => ?_)
            have hP : va_P D vwCl (WM hm ad cI cZ (tk_up (tk_up (tk_up (tk_up (tk_up g 28 (upd (g 28) x0.toNatClampNeg 0)) 26 (upd (g 26) x0.toNatClampNeg 0)) 22 (upd (g 22) x0.toNatClampNeg (tkM_writeCounter_v3 g x0 x1))) 27 (upd (g 27) x0.toNatClampNeg 1)) 25 (upd (g 25) x0.toNatClampNeg (vp_nar .boolean (tkM_writeCounter_v4 g x0 x1))))) H := hP
            have hD : va_D A (WM hm ad cI cZ (tk_up (tk_up (tk_up (tk_up (tk_up g 28 (upd (g 28) x0.toNatClampNeg 0)) 26 (upd (g 26) x0.toNatClampNeg 0)) 22 (upd (g 22) x0.toNatClampNeg (tkM_writeCounter_v3 g x0 x1))) 27 (upd (g 27) x0.toNatClampNeg 1)) 25 (upd (g 25) x0.toNatClampNeg (vp_nar .boolean (tkM_writeCounter_v4 g x0 x1))))) := hD
            refine lv_aload_n hx hb dM_writeCounter_208 rfl (lv_at hl 3 rfl) ?_
            refine va_get (D := D) (ci := 3) (v := .ref (ad 19)) (C := RM) (T := TM) (N := 33) hx hb hw inM hown hK hP 0 rfl rfl 19 (by decide) f65 (fun _ h9 => h9) rfl dM_writeCounter_209 ?_
            refine lv_iload_n hx hb dM_writeCounter_212 rfl (lv_at hl 4 rfl) ?_
            refine lv_iload hx hb dM_writeCounter_213 (lv_at hl 0 rfl) ?_
            refine tk_mrg (D := D) (ws1 := (WM hm ad cI cZ (tk_up (tk_up (tk_up (tk_up (tk_up g 28 (upd (g 28) x0.toNatClampNeg 0)) 26 (upd (g 26) x0.toNatClampNeg 0)) 22 (upd (g 22) x0.toNatClampNeg (tkM_writeCounter_v3 g x0 x1))) 27 (upd (g 27) x0.toNatClampNeg 1)) 25 (upd (g 25) x0.toNatClampNeg (vp_nar .boolean (tkM_writeCounter_v4 g x0 x1)))))) (g2 := F0 m 232 ls [.int (tkM_writeCounter_v5 g x0 x1), .int x0, .ref (ad 19)]) hD hS (fun key => ?_) (fun H locs hP hD hS => ?_)
            · refine lv_if_eq (tgt := 231) hx hb dM_writeCounter_215 (by decide) (fun (h13_ : g 20 x0.toNatClampNeg = 0) => ?_) (fun (h13_ : ¬ (g 20 x0.toNatClampNeg = 0)) => ?_)
              · refine lv_iconst (v := 0) hx hb dM_writeCounter_231 (by decide) ?_
                exact tk_top (by unfold tkM_writeCounter_v5; rw [if_pos h13_]) (key H locs hP hD hS)
              · refine lv_aload_n hx hb dM_writeCounter_218 rfl (lv_at hl 3 rfl) ?_
                refine va_get (D := D) (ci := 3) (v := .ref (ad 19)) (C := RM) (T := TM) (N := 33) hx hb hw inM hown hK hP 0 rfl rfl 19 (by decide) f65 (fun _ h9 => h9) rfl dM_writeCounter_219 ?_
                refine lv_iload_n hx hb dM_writeCounter_222 rfl (lv_at hl 4 rfl) ?_
                refine tkld_19 hx hb hK hP hi0 dM_writeCounter_223 ?_
                refine lv_if_eq (tgt := 231) hx hb dM_writeCounter_224 (by decide) (fun (h14_ : g 19 x0.toNatClampNeg = 0) => ?_) (fun (h14_ : ¬ (g 19 x0.toNatClampNeg = 0)) => ?_)
                · refine lv_iconst (v := 0) hx hb dM_writeCounter_231 (by decide) ?_
                  exact tk_top (by unfold tkM_writeCounter_v5; rw [if_neg h13_, if_pos h14_]) (key H locs hP hD hS)
                · refine lv_iconst (v := 1) hx hb dM_writeCounter_227 (by decide) ?_
                  refine lv_goto (tgt := 232) hx hb dM_writeCounter_228 (by decide) ?_
                  exact tk_top (by unfold tkM_writeCounter_v5; rw [if_neg h13_, if_neg h14_]) (key H locs hP hD hS)
            · refine tkst_19 hx hb hK hP hD hS hi0 rfl dM_writeCounter_232 (fun H locs hP hD hS => ?_)
              have hP : va_P D vwCl (WM hm ad cI cZ (tk_up (tk_up (tk_up (tk_up (tk_up (tk_up g 28 (upd (g 28) x0.toNatClampNeg 0)) 26 (upd (g 26) x0.toNatClampNeg 0)) 22 (upd (g 22) x0.toNatClampNeg (tkM_writeCounter_v3 g x0 x1))) 27 (upd (g 27) x0.toNatClampNeg 1)) 25 (upd (g 25) x0.toNatClampNeg (vp_nar .boolean (tkM_writeCounter_v4 g x0 x1)))) 19 (upd (g 19) x0.toNatClampNeg (vp_nar .boolean (tkM_writeCounter_v5 g x0 x1))))) H := hP
              have hD : va_D A (WM hm ad cI cZ (tk_up (tk_up (tk_up (tk_up (tk_up (tk_up g 28 (upd (g 28) x0.toNatClampNeg 0)) 26 (upd (g 26) x0.toNatClampNeg 0)) 22 (upd (g 22) x0.toNatClampNeg (tkM_writeCounter_v3 g x0 x1))) 27 (upd (g 27) x0.toNatClampNeg 1)) 25 (upd (g 25) x0.toNatClampNeg (vp_nar .boolean (tkM_writeCounter_v4 g x0 x1)))) 19 (upd (g 19) x0.toNatClampNeg (vp_nar .boolean (tkM_writeCounter_v5 g x0 x1))))) := hD
              exact tk_vret hx hb hr hlk hP hD hS dM_writeCounter_233 (congrArg (WM hm ad cI cZ) (by unfold tkM_writeCounter_s; rw [if_neg h1_]))
  · refine lv_aload_n hx hb dM_writeCounter_10 rfl (lv_at hl 0 rfl) ?_
    refine va_get (D := D) (ci := 3) (v := .ref (ad 28)) (C := RM) (T := TM) (N := 33) hx hb hw inM hown hK hP 0 rfl rfl 28 (by decide) f92 (fun _ h9 => h9) rfl dM_writeCounter_11 ?_
    refine lv_iload_n hx hb dM_writeCounter_14 rfl (lv_at hl 1 rfl) ?_
    refine tkld_28 hx hb hK hP hi0 dM_writeCounter_15 ?_
    refine lv_if_ne (tgt := 54) hx hb dM_writeCounter_16 (by decide) (fun (h15_ : ¬ (g 28 x0.toNatClampNeg = 0)) => ?_) (fun (h15_ : g 28 x0.toNatClampNeg = 0) => ?_)
    · refine lv_aload_n hx hb dM_writeCounter_54 rfl (lv_at hl 0 rfl) ?_
      refine va_get (D := D) (ci := 3) (v := .ref (ad 21)) (C := RM) (T := TM) (N := 33) hx hb hw inM hown hK hP 0 rfl rfl 21 (by decide) f71 (fun _ h9 => h9) rfl dM_writeCounter_55 ?_
      refine lv_iload_n hx hb dM_writeCounter_58 rfl (lv_at hl 1 rfl) ?_
      refine tkld_21 hx hb hK hP hi0 dM_writeCounter_59 ?_
      refine lv_iconst (v := 1) hx hb dM_writeCounter_60 (by decide) ?_
      refine lv_icmp_ne (tgt := 68) hx hb dM_writeCounter_61 (by decide) (fun _ => ?_) (fun h => absurd (h.symm.trans h1_) (by decide))
      refine lv_aload_n hx hb dM_writeCounter_68 rfl (lv_at hl 0 rfl) ?_
      refine va_get (D := D) (ci := 3) (v := .ref (ad 21)) (C := RM) (T := TM) (N := 33) hx hb hw inM hown hK hP 0 rfl rfl 21 (by decide) f71 (fun _ h9 => h9) rfl dM_writeCounter_69 ?_
      refine lv_iload_n hx hb dM_writeCounter_72 rfl (lv_at hl 1 rfl) ?_
      refine tkld_21 hx hb hK hP hi0 dM_writeCounter_73 ?_
      refine lv_iconst (v := 2) hx hb dM_writeCounter_74 (by decide) ?_
      refine lv_icmp_ne (tgt := 86) hx hb dM_writeCounter_75 (by decide) (fun _ => ?_) (fun h => absurd (h.symm.trans h1_) (by decide))
      refine lv_sipush (v := 256) hx hb dM_writeCounter_86 (by decide) ?_
      refine lv_iload_n hx hb dM_writeCounter_89 rfl (lv_at hl 2 rfl) ?_
      refine lv_imul hx hb dM_writeCounter_90 ?_
      refine lv_aload_n hx hb dM_writeCounter_91 rfl (lv_at hl 0 rfl) ?_
      refine va_get (D := D) (ci := 3) (v := .ref (ad 29)) (C := RM) (T := TM) (N := 33) hx hb hw inM hown hK hP 0 rfl rfl 29 (by decide) f95 (fun _ h9 => h9) rfl dM_writeCounter_92 ?_
      refine lv_iload_n hx hb dM_writeCounter_95 rfl (lv_at hl 1 rfl) ?_
      refine tkld_29 hx hb hK hP hi0 dM_writeCounter_96 ?_
      refine lv_iadd hx hb dM_writeCounter_97 ?_
      refine lv_istore_n hx hb dM_writeCounter_98 rfl hl (by decide) rfl (fun ls hl => ?_)
      have hl : lv_has ls 6 [(3, .int ((256 * x1) + (g 29 x0.toNatClampNeg))), (0, .ref hm), (1, .int x0), (2, .int x1)] := hl
      refine lv_aload_n hx hb dM_writeCounter_99 rfl (lv_at hl 1 rfl) ?_
      refine va_get (D := D) (ci := 3) (v := .ref (ad 28)) (C := RM) (T := TM) (N := 33) hx hb hw inM hown hK hP 0 rfl rfl 28 (by decide) f92 (fun _ h9 => h9) rfl dM_writeCounter_100 ?_
      refine lv_iload_n hx hb dM_writeCounter_103 rfl (lv_at hl 2 rfl) ?_
      refine lv_iconst (v := 0) hx hb dM_writeCounter_104 (by decide) ?_
      refine tkst_28 hx hb hK hP hD hS hi0 (x' := 0) rfl dM_writeCounter_105 (fun H locs hP hD hS => ?_)
      have hP : va_P D vwCl (WM hm ad cI cZ (tk_up g 28 (upd (g 28) x0.toNatClampNeg 0))) H := hP
      have hD : va_D A (WM hm ad cI cZ (tk_up g 28 (upd (g 28) x0.toNatClampNeg 0))) := hD
      refine lv_aload_n hx hb dM_writeCounter_106 rfl (lv_at hl 1 rfl) ?_
      refine va_get (D := D) (ci := 3) (v := .ref (ad 26)) (C := RM) (T := TM) (N := 33) hx hb hw inM hown hK hP 0 rfl rfl 26 (by decide) f86 (fun _ h9 => h9) rfl dM_writeCounter_107 ?_
      refine lv_iload_n hx hb dM_writeCounter_110 rfl (lv_at hl 2 rfl) ?_
      refine lv_iconst (v := 0) hx hb dM_writeCounter_111 (by decide) ?_
      refine tkst_26 hx hb hK hP hD hS hi0 (x' := 0) rfl dM_writeCounter_112 (fun H locs hP hD hS => ?_)
      have hP : va_P D vwCl (WM hm ad cI cZ (tk_up (tk_up g 28 (upd (g 28) x0.toNatClampNeg 0)) 26 (upd (g 26) x0.toNatClampNeg 0))) H := hP
      have hD : va_D A (WM hm ad cI cZ (tk_up (tk_up g 28 (upd (g 28) x0.toNatClampNeg 0)) 26 (upd (g 26) x0.toNatClampNeg 0))) := hD
      refine lv_aload_n hx hb dM_writeCounter_113 rfl (lv_at hl 1 rfl) ?_
      refine va_get (D := D) (ci := 3) (v := .ref (ad 22)) (C := RM) (T := TM) (N := 33) hx hb hw inM hown hK hP 0 rfl rfl 22 (by decide) f74 (fun _ h9 => h9) rfl dM_writeCounter_114 ?_
      refine lv_iload_n hx hb dM_writeCounter_117 rfl (lv_at hl 2 rfl) ?_
      refine tkld_22 hx hb hK hP hi0 dM_writeCounter_118 ?_
      refine tk_mrg (D := D) (ws1 := (WM hm ad cI cZ (tk_up (tk_up g 28 (upd (g 28) x0.toNatClampNeg 0)) 26 (upd (g 26) x0.toNatClampNeg 0)))) (g2 := F0 m 127 ls [.int (tkM_writeCounter_v6 g x0 x1)]) hD hS (fun key => ?_) (fun H locs hP hD hS => ?_)
      · refine lv_if_ne (tgt := 126) hx hb dM_writeCounter_119 (by decide) (fun (h16_ : ¬ (g 22 x0.toNatClampNeg = 0)) => ?_) (fun (h16_ : g 22 x0.toNatClampNeg = 0) => ?_)
        · refine lv_iconst (v := 0) hx hb dM_writeCounter_126 (by decide) ?_
          exact tk_top (by unfold tkM_writeCounter_v6; rw [if_neg h16_]) (key H locs hP hD hS)
        · refine lv_iconst (v := 1) hx hb dM_writeCounter_122 (by decide) ?_
          refine lv_goto (tgt := 127) hx hb dM_writeCounter_123 (by decide) ?_
          exact tk_top (by unfold tkM_writeCounter_v6; rw [if_pos h16_]) (key H locs hP hD hS)
      · refine lv_istore hx hb dM_writeCounter_127 hl (by decide) rfl (fun ls hl => ?_)
        have hl : lv_has ls 6 [(4, .int (tkM_writeCounter_v6 g x0 x1)), (3, .int ((256 * x1) + (g 29 x0.toNatClampNeg))), (0, .ref hm), (1, .int x0), (2, .int x1)] := hl
        refine lv_aload_n hx hb dM_writeCounter_129 rfl (lv_at hl 2 rfl) ?_
        refine va_get (D := D) (ci := 3) (v := .ref (ad 22)) (C := RM) (T := TM) (N := 33) hx hb hw inM hown hK hP 0 rfl rfl 22 (by decide) f74 (fun _ h9 => h9) rfl dM_writeCounter_130 ?_
        refine lv_iload_n hx hb dM_writeCounter_133 rfl (lv_at hl 3 rfl) ?_
        refine lv_iload_n hx hb dM_writeCounter_134 rfl (lv_at hl 1 rfl) ?_
        refine tk_mrg (D := D) (ws1 := (WM hm ad cI cZ (tk_up (tk_up g 28 (upd (g 28) x0.toNatClampNeg 0)) 26 (upd (g 26) x0.toNatClampNeg 0)))) (g2 := F0 m 144 ls [.int (tkM_writeCounter_v7 g x0 x1), .int x0, .ref (ad 22)]) hD hS (fun key => ?_) (fun H locs hP hD hS => ?_)
        · refine lv_if_ne (tgt := 143) hx hb dM_writeCounter_135 (by decide) (fun (h17_ : ¬ ((256 * x1) + (g 29 x0.toNatClampNeg) = 0)) => ?_) (fun (h17_ : (256 * x1) + (g 29 x0.toNatClampNeg) = 0) => ?_)
          · refine lv_iload_n hx hb dM_writeCounter_143 rfl (lv_at hl 1 rfl) ?_
            exact tk_top (by unfold tkM_writeCounter_v7; rw [if_neg h17_]) (key H locs hP hD hS)
          · refine lv_ldc (v := 65536) hx hb hown (hw _ wK_M_146) dM_writeCounter_138 ?_
            refine lv_goto (tgt := 144) hx hb dM_writeCounter_140 (by decide) ?_
            exact tk_top (by unfold tkM_writeCounter_v7; rw [if_pos h17_]) (key H locs hP hD hS)
        · refine tkst_22 hx hb hK hP hD hS hi0 dM_writeCounter_144 (fun H locs hP hD hS => ?_)
          have hP : va_P D vwCl (WM hm ad cI cZ (tk_up (tk_up (tk_up g 28 (upd (g 28) x0.toNatClampNeg 0)) 26 (upd (g 26) x0.toNatClampNeg 0)) 22 (upd (g 22) x0.toNatClampNeg (tkM_writeCounter_v7 g x0 x1)))) H := hP
          have hD : va_D A (WM hm ad cI cZ (tk_up (tk_up (tk_up g 28 (upd (g 28) x0.toNatClampNeg 0)) 26 (upd (g 26) x0.toNatClampNeg 0)) 22 (upd (g 22) x0.toNatClampNeg (tkM_writeCounter_v7 g x0 x1)))) := hD
          refine lv_aload_n hx hb dM_writeCounter_145 rfl (lv_at hl 2 rfl) ?_
          refine va_get (D := D) (ci := 3) (v := .ref (ad 27)) (C := RM) (T := TM) (N := 33) hx hb hw inM hown hK hP 0 rfl rfl 27 (by decide) f89 (fun _ h9 => h9) rfl dM_writeCounter_146 ?_
          refine lv_iload_n hx hb dM_writeCounter_149 rfl (lv_at hl 3 rfl) ?_
          refine lv_iconst (v := 1) hx hb dM_writeCounter_150 (by decide) ?_
          refine tkst_27 hx hb hK hP hD hS hi0 (x' := 1) rfl dM_writeCounter_151 (fun H locs hP hD hS => ?_)
          have hP : va_P D vwCl (WM hm ad cI cZ (tk_up (tk_up (tk_up (tk_up g 28 (upd (g 28) x0.toNatClampNeg 0)) 26 (upd (g 26) x0.toNatClampNeg 0)) 22 (upd (g 22) x0.toNatClampNeg (tkM_writeCounter_v7 g x0 x1))) 27 (upd (g 27) x0.toNatClampNeg 1))) H := hP
          have hD : va_D A (WM hm ad cI cZ (tk_up (tk_up (tk_up (tk_up g 28 (upd (g 28) x0.toNatClampNeg 0)) 26 (upd (g 26) x0.toNatClampNeg 0)) 22 (upd (g 22) x0.toNatClampNeg (tkM_writeCounter_v7 g x0 x1))) 27 (upd (g 27) x0.toNatClampNeg 1))) := hD
          refine lv_aload_n hx hb dM_writeCounter_152 rfl (lv_at hl 2 rfl) ?_
          refine va_get (D := D) (ci := 3) (v := .ref (ad 20)) (C := RM) (T := TM) (N := 33) hx hb hw inM hown hK hP 0 rfl rfl 20 (by decide) f68 (fun _ h9 => h9) rfl dM_writeCounter_153 ?_
          refine lv_iload_n hx hb dM_writeCounter_156 rfl (lv_at hl 3 rfl) ?_
          refine tkld_20 hx hb hK hP hi0 dM_writeCounter_157 ?_
          refine lv_istore hx hb dM_writeCounter_158 hl (by decide) rfl (fun ls hl => ?_)
          have hl : lv_has ls 6 [(5, .int (g 20 x0.toNatClampNeg)), (4, .int (tkM_writeCounter_v6 g x0 x1)), (3, .int ((256 * x1) + (g 29 x0.toNatClampNeg))), (0, .ref hm), (1, .int x0), (2, .int x1)] := hl
          refine lv_aload_n hx hb dM_writeCounter_160 rfl (lv_at hl 3 rfl) ?_
          refine va_get (D := D) (ci := 3) (v := .ref (ad 25)) (C := RM) (T := TM) (N := 33) hx hb hw inM hown hK hP 0 rfl rfl 25 (by decide) f83 (fun _ h9 => h9) rfl dM_writeCounter_161 ?_
          refine lv_iload_n hx hb dM_writeCounter_164 rfl (lv_at hl 4 rfl) ?_
          refine lv_aload_n hx hb dM_writeCounter_165 rfl (lv_at hl 3 rfl) ?_
          refine va_get (D := D) (ci := 3) (v := .ref (ad 25)) (C := RM) (T := TM) (N := 33) hx hb hw inM hown hK hP 0 rfl rfl 25 (by decide) f83 (fun _ h9 => h9) rfl dM_writeCounter_166 ?_
          refine lv_iload_n hx hb dM_writeCounter_169 rfl (lv_at hl 4 rfl) ?_
          refine tkld_25 hx hb hK hP hi0 dM_writeCounter_170 ?_
          refine tk_mrg (D := D) (ws1 := (WM hm ad cI cZ (tk_up (tk_up (tk_up (tk_up g 28 (upd (g 28) x0.toNatClampNeg 0)) 26 (upd (g 26) x0.toNatClampNeg 0)) 22 (upd (g 22) x0.toNatClampNeg (tkM_writeCounter_v7 g x0 x1))) 27 (upd (g 27) x0.toNatClampNeg 1)))) (g2 := F0 m 207 ls [.int (tkM_writeCounter_v8 g x0 x1), .int x0, .ref (ad 25)]) hD hS (fun key => ?_) (fun H locs hP hD hS => ?_)
          · refine lv_if_ne (tgt := 202) hx hb dM_writeCounter_171 (by decide) (fun (h18_ : ¬ (g 25 x0.toNatClampNeg = 0)) => ?_) (fun (h18_ : g 25 x0.toNatClampNeg = 0) => ?_)
            · refine lv_iconst (v := 1) hx hb dM_writeCounter_202 (by decide) ?_
              refine lv_goto (tgt := 207) hx hb dM_writeCounter_203 (by decide) ?_
              exact tk_top (by unfold tkM_writeCounter_v8; rw [if_neg h18_]) (key H locs hP hD hS)
            · refine lv_iload hx hb dM_writeCounter_174 (lv_at hl 0 rfl) ?_
              refine lv_if_eq (tgt := 202) hx hb dM_writeCounter_176 (by decide) (fun (h19_ : g 20 x0.toNatClampNeg = 0) => ?_) (fun (h19_ : ¬ (g 20 x0.toNatClampNeg = 0)) => ?_)
              · refine lv_iconst (v := 1) hx hb dM_writeCounter_202 (by decide) ?_
                refine lv_goto (tgt := 207) hx hb dM_writeCounter_203 (by decide) ?_
                exact tk_top (by unfold tkM_writeCounter_v8; rw [if_pos h18_, if_pos h19_]) (key H locs hP hD hS)
              · refine lv_iload hx hb dM_writeCounter_179 (lv_at hl 0 rfl) ?_
                refine lv_iconst (v := 4) hx hb dM_writeCounter_181 (by decide) ?_
                refine lv_icmp_eq (tgt := 202) hx hb dM_writeCounter_182 (by decide) (fun (h20_ : g 20 x0.toNatClampNeg = 4) => ?_) (fun (h20_ : ¬ (g 20 x0.toNatClampNeg = 4)) => ?_)
                · refine lv_iconst (v := 1) hx hb dM_writeCounter_202 (by decide) ?_
                  refine lv_goto (tgt := 207) hx hb dM_writeCounter_203 (by decide) ?_
                  exact tk_top (by unfold tkM_writeCounter_v8; rw [if_pos h18_, if_neg h19_, if_pos h20_]) (key H locs hP hD hS)
                · refine lv_iload hx hb dM_writeCounter_185 (lv_at hl 0 rfl) ?_
                  refine lv_iconst (v := 2) hx hb dM_writeCounter_187 (by decide) ?_
                  refine lv_icmp_eq (tgt := 197) hx hb dM_writeCounter_188 (by decide) (fun (h21_ : g 20 x0.toNatClampNeg = 2) => ?_) (fun (h21_ : ¬ (g 20 x0.toNatClampNeg = 2)) => ?_)
                  · refine lv_iload hx hb dM_writeCounter_197 (lv_at hl 1 rfl) ?_
                    refine lv_if_eq (tgt := 206) hx hb dM_writeCounter_199 (by decide) (fun (h22_ : tkM_writeCounter_v6 g x0 x1 = 0) => ?_) (fun (h22_ : ¬ (tkM_writeCounter_v6 g x0 x1 = 0)) => ?_)
                    · refine lv_iconst (v := 0) hx hb dM_writeCounter_206 (by decide) ?_
                      exact tk_top (by unfold tkM_writeCounter_v8; rw [if_pos h18_, if_neg h19_, if_neg h20_, if_pos h21_, if_pos h22_]) (key H locs hP hD hS)
                    · refine lv_iconst (v := 1) hx hb dM_writeCounter_202 (by decide) ?_
                      refine lv_goto (tgt := 207) hx hb dM_writeCounter_203 (by decide) ?_
                      exact tk_top (by unfold tkM_writeCounter_v8; rw [if_pos h18_, if_neg h19_, if_neg h20_, if_pos h21_, if_neg h22_]) (key H locs hP hD hS)
                  · refine lv_iload hx hb dM_writeCounter_191 (lv_at hl 0 rfl) ?_
                    refine lv_iconst (v := 3) hx hb dM_writeCounter_193 (by decide) ?_
                    refine lv_icmp_ne (tgt := 206) hx hb dM_writeCounter_194 (by decide) (fun (h23_ : ¬ (g 20 x0.toNatClampNeg = 3)) => ?_) (fun (h23_ : g 20 x0.toNatClampNeg = 3) => ?_)
                    · refine lv_iconst (v := 0) hx hb dM_writeCounter_206 (by decide) ?_
                      exact tk_top (by unfold tkM_writeCounter_v8; rw [if_pos h18_, if_neg h19_, if_neg h20_, if_neg h21_, if_neg h23_]) (key H locs hP hD hS)
                    · refine lv_iload hx hb dM_writeCounter_197 (lv_at hl 1 rfl) ?_
                      refine lv_if_eq (tgt := 206) hx hb dM_writeCounter_199 (by decide) (fun (h24_ : tkM_writeCounter_v6 g x0 x1 = 0) => ?_) (fun (h24_ : ¬ (tkM_writeCounter_v6 g x0 x1 = 0)) => ?_)
                      · refine lv_iconst (v := 0) hx hb dM_writeCounter_206 (by decide) ?_
                        exact tk_top (by unfold tkM_writeCounter_v8; rw [if_pos h18_, if_neg h19_, if_neg h20_, if_neg h21_, if_pos h23_, if_pos h24_]) (key H locs hP hD hS)
                      · refine lv_iconst (v := 1) hx hb dM_writeCounter_202 (by decide) ?_
                        refine lv_goto (tgt := 207) hx hb dM_writeCounter_203 (by decide) ?_
                        exact tk_top (by unfold tkM_writeCounter_v8; rw [if_pos h18_, if_neg h19_, if_neg h20_, if_neg h21_, if_pos h23_, if_neg h24_]) (key H locs hP hD hS)
          · refine tkst_25 hx hb hK hP hD hS hi0 rfl dM_writeCounter_207 (fun H locs hP hD hS => ?_)
            have hP : va_P D vwCl (WM hm ad cI cZ (tk_up (tk_up (tk_up (tk_up (tk_up g 28 (upd (g 28) x0.toNatClampNeg 0)) 26 (upd (g 26) x0.toNatClampNeg 0)) 22 (upd (g 22) x0.toNatClampNeg (tkM_writeCounter_v7 g x0 x1))) 27 (upd (g 27) x0.toNatClampNeg 1)) 25 (upd (g 25) x0.toNatClampNeg (vp_nar .boolean (tkM_writeCounter_v8 g x0 x1))))) H := hP
            have hD : va_D A (WM hm ad cI cZ (tk_up (tk_up (tk_up (tk_up (tk_up g 28 (upd (g 28) x0.toNatClampNeg 0)) 26 (upd (g 26) x0.toNatClampNeg 0)) 22 (upd (g 22) x0.toNatClampNeg (tkM_writeCounter_v7 g x0 x1))) 27 (upd (g 27) x0.toNatClampNeg 1)) 25 (upd (g 25) x0.toNatClampNeg (vp_nar .boolean (tkM_writeCounter_v8 g x0 x1))))) := hD
            refine lv_aload_n hx hb dM_writeCounter_208 rfl (lv_at hl 3 rfl) ?_
            refine va_get (D := D) (ci := 3) (v := .ref (ad 19)) (C := RM) (T := TM) (N := 33) hx hb hw inM hown hK hP 0 rfl rfl 19 (by decide) f65 (fun _ h9 => h9) rfl dM_writeCounter_209 ?_
            refine lv_iload_n hx hb dM_writeCounter_212 rfl (lv_at hl 4 rfl) ?_
            refine lv_iload hx hb dM_writeCounter_213 (lv_at hl 0 rfl) ?_
            refine tk_mrg (D := D) (ws1 := (WM hm ad cI cZ (tk_up (tk_up (tk_up (tk_up (tk_up g 28 (upd (g 28) x0.toNatClampNeg 0)) 26 (upd (g 26) x0.toNatClampNeg 0)) 22 (upd (g 22) x0.toNatClampNeg (tkM_writeCounter_v7 g x0 x1))) 27 (upd (g 27) x0.toNatClampNeg 1)) 25 (upd (g 25) x0.toNatClampNeg (vp_nar .boolean (tkM_writeCounter_v8 g x0 x1)))))) (g2 := F0 m 232 ls [.int (tkM_writeCounter_v9 g x0 x1), .int x0, .ref (ad 19)]) hD hS (fun key => ?_) (fun H locs hP hD hS => ?_)
            · refine lv_if_eq (tgt := 231) hx hb dM_writeCounter_215 (by decide) (fun (h25_ : g 20 x0.toNatClampNeg = 0) => ?_) (fun (h25_ : ¬ (g 20 x0.toNatClampNeg = 0)) => ?_)
              · refine lv_iconst (v := 0) hx hb dM_writeCounter_231 (by decide) ?_
                exact tk_top (by unfold tkM_writeCounter_v9; rw [if_pos h25_]) (key H locs hP hD hS)
              · refine lv_aload_n hx hb dM_writeCounter_218 rfl (lv_at hl 3 rfl) ?_
                refine va_get (D := D) (ci := 3) (v := .ref (ad 19)) (C := RM) (T := TM) (N := 33) hx hb hw inM hown hK hP 0 rfl rfl 19 (by decide) f65 (fun _ h9 => h9) rfl dM_writeCounter_219 ?_
                refine lv_iload_n hx hb dM_writeCounter_222 rfl (lv_at hl 4 rfl) ?_
                refine tkld_19 hx hb hK hP hi0 dM_writeCounter_223 ?_
                refine lv_if_eq (tgt := 231) hx hb dM_writeCounter_224 (by decide) (fun (h26_ : g 19 x0.toNatClampNeg = 0) => ?_) (fun (h26_ : ¬ (g 19 x0.toNatClampNeg = 0)) => ?_)
                · refine lv_iconst (v := 0) hx hb dM_writeCounter_231 (by decide) ?_
                  exact tk_top (by unfold tkM_writeCounter_v9; rw [if_neg h25_, if_pos h26_]) (key H locs hP hD hS)
                · refine lv_iconst (v := 1) hx hb dM_writeCounter_227 (by decide) ?_
                  refine lv_goto (tgt := 232) hx hb dM_writeCounter_228 (by decide) ?_
                  exact tk_top (by unfold tkM_writeCounter_v9; rw [if_neg h25_, if_neg h26_]) (key H locs hP hD hS)
            · refine tkst_19 hx hb hK hP hD hS hi0 rfl dM_writeCounter_232 (fun H locs hP hD hS => ?_)
              have hP : va_P D vwCl (WM hm ad cI cZ (tk_up (tk_up (tk_up (tk_up (tk_up (tk_up g 28 (upd (g 28) x0.toNatClampNeg 0)) 26 (upd (g 26) x0.toNatClampNeg 0)) 22 (upd (g 22) x0.toNatClampNeg (tkM_writeCounter_v7 g x0 x1))) 27 (upd (g 27) x0.toNatClampNeg 1)) 25 (upd (g 25) x0.toNatClampNeg (vp_nar .boolean (tkM_writeCounter_v8 g x0 x1)))) 19 (upd (g 19) x0.toNatClampNeg (vp_nar .boolean (tkM_writeCounter_v9 g x0 x1))))) H := hP
              have hD : va_D A (WM hm ad cI cZ (tk_up (tk_up (tk_up (tk_up (tk_up (tk_up g 28 (upd (g 28) x0.toNatClampNeg 0)) 26 (upd (g 26) x0.toNatClampNeg 0)) 22 (upd (g 22) x0.toNatClampNeg (tkM_writeCounter_v7 g x0 x1))) 27 (upd (g 27) x0.toNatClampNeg 1)) 25 (upd (g 25) x0.toNatClampNeg (vp_nar .boolean (tkM_writeCounter_v8 g x0 x1)))) 19 (upd (g 19) x0.toNatClampNeg (vp_nar .boolean (tkM_writeCounter_v9 g x0 x1))))) := hD
              exact tk_vret hx hb hr hlk hP hD hS dM_writeCounter_233 (congrArg (WM hm ad cI cZ) (by unfold tkM_writeCounter_s; rw [if_pos h1_, if_neg h15_]))
    · refine lv_aload_n hx hb dM_writeCounter_19 rfl (lv_at hl 0 rfl) ?_
      refine va_get (D := D) (ci := 3) (v := .ref (ad 28)) (C := RM) (T := TM) (N := 33) hx hb hw inM hown hK hP 0 rfl rfl 28 (by decide) f92 (fun _ h9 => h9) rfl dM_writeCounter_20 ?_
      refine lv_iload_n hx hb dM_writeCounter_23 rfl (lv_at hl 1 rfl) ?_
      refine lv_iconst (v := 1) hx hb dM_writeCounter_24 (by decide) ?_
      refine tkst_28 hx hb hK hP hD hS hi0 (x' := 1) rfl dM_writeCounter_25 (fun H locs hP hD hS => ?_)
      have hP : va_P D vwCl (WM hm ad cI cZ (tk_up g 28 (upd (g 28) x0.toNatClampNeg 1))) H := hP
      have hD : va_D A (WM hm ad cI cZ (tk_up g 28 (upd (g 28) x0.toNatClampNeg 1))) := hD
      refine lv_aload_n hx hb dM_writeCounter_26 rfl (lv_at hl 0 rfl) ?_
      refine va_get (D := D) (ci := 3) (v := .ref (ad 29)) (C := RM) (T := TM) (N := 33) hx hb hw inM hown hK hP 0 rfl rfl 29 (by decide) f95 (fun _ h9 => h9) rfl dM_writeCounter_27 ?_
      refine lv_iload_n hx hb dM_writeCounter_30 rfl (lv_at hl 1 rfl) ?_
      refine lv_iload_n hx hb dM_writeCounter_31 rfl (lv_at hl 2 rfl) ?_
      refine tkst_29 hx hb hK hP hD hS hi0 dM_writeCounter_32 (fun H locs hP hD hS => ?_)
      have hP : va_P D vwCl (WM hm ad cI cZ (tk_up (tk_up g 28 (upd (g 28) x0.toNatClampNeg 1)) 29 (upd (g 29) x0.toNatClampNeg x1))) H := hP
      have hD : va_D A (WM hm ad cI cZ (tk_up (tk_up g 28 (upd (g 28) x0.toNatClampNeg 1)) 29 (upd (g 29) x0.toNatClampNeg x1))) := hD
      refine lv_aload_n hx hb dM_writeCounter_33 rfl (lv_at hl 0 rfl) ?_
      refine va_get (D := D) (ci := 3) (v := .ref (ad 26)) (C := RM) (T := TM) (N := 33) hx hb hw inM hown hK hP 0 rfl rfl 26 (by decide) f86 (fun _ h9 => h9) rfl dM_writeCounter_34 ?_
      refine lv_iload_n hx hb dM_writeCounter_37 rfl (lv_at hl 1 rfl) ?_
      refine lv_aload_n hx hb dM_writeCounter_38 rfl (lv_at hl 0 rfl) ?_
      refine va_get (D := D) (ci := 3) (v := .ref (ad 20)) (C := RM) (T := TM) (N := 33) hx hb hw inM hown hK hP 0 rfl rfl 20 (by decide) f68 (fun _ h9 => h9) rfl dM_writeCounter_39 ?_
      refine lv_iload_n hx hb dM_writeCounter_42 rfl (lv_at hl 1 rfl) ?_
      refine tkld_20 hx hb hK hP hi0 dM_writeCounter_43 ?_
      refine tk_mrg (D := D) (ws1 := (WM hm ad cI cZ (tk_up (tk_up g 28 (upd (g 28) x0.toNatClampNeg 1)) 29 (upd (g 29) x0.toNatClampNeg x1)))) (g2 := F0 m 52 ls [.int (tkM_writeCounter_v10 g x0 x1), .int x0, .ref (ad 26)]) hD hS (fun key => ?_) (fun H locs hP hD hS => ?_)
      · refine lv_if_ne (tgt := 51) hx hb dM_writeCounter_44 (by decide) (fun (h27_ : ¬ (g 20 x0.toNatClampNeg = 0)) => ?_) (fun (h27_ : g 20 x0.toNatClampNeg = 0) => ?_)
        · refine lv_iconst (v := 0) hx hb dM_writeCounter_51 (by decide) ?_
          exact tk_top (by unfold tkM_writeCounter_v10; rw [if_neg h27_]) (key H locs hP hD hS)
        · refine lv_iconst (v := 1) hx hb dM_writeCounter_47 (by decide) ?_
          refine lv_goto (tgt := 52) hx hb dM_writeCounter_48 (by decide) ?_
          exact tk_top (by unfold tkM_writeCounter_v10; rw [if_pos h27_]) (key H locs hP hD hS)
      · refine tkst_26 hx hb hK hP hD hS hi0 rfl dM_writeCounter_52 (fun H locs hP hD hS => ?_)
        have hP : va_P D vwCl (WM hm ad cI cZ (tk_up (tk_up (tk_up g 28 (upd (g 28) x0.toNatClampNeg 1)) 29 (upd (g 29) x0.toNatClampNeg x1)) 26 (upd (g 26) x0.toNatClampNeg (vp_nar .boolean (tkM_writeCounter_v10 g x0 x1))))) H := hP
        have hD : va_D A (WM hm ad cI cZ (tk_up (tk_up (tk_up g 28 (upd (g 28) x0.toNatClampNeg 1)) 29 (upd (g 29) x0.toNatClampNeg x1)) 26 (upd (g 26) x0.toNatClampNeg (vp_nar .boolean (tkM_writeCounter_v10 g x0 x1))))) := hD
        exact tk_vret hx hb hr hlk hP hD hS dM_writeCounter_53 (congrArg (WM hm ad cI cZ) (by unfold tkM_writeCounter_s; rw [if_pos h1_, if_pos h15_]))
def tkM_readCounter_r (g : Nat → Nat → Int32) (x0 : Int32) : Int32 :=
  if g 32 x0.toNatClampNeg < 0 then (if 0 ≤ g 31 x0.toNatClampNeg then (if g 21 x0.toNatClampNeg = 2 then (g 31 x0.toNatClampNeg) / 256
      else if g 21 x0.toNatClampNeg = 3 then (if g 30 x0.toNatClampNeg = 0 then (g 31 x0.toNatClampNeg) - (g 31 x0.toNatClampNeg) / 256 * 256
          else (g 31 x0.toNatClampNeg) / 256)
        else (g 31 x0.toNatClampNeg) - (g 31 x0.toNatClampNeg) / 256 * 256)
    else if g 21 x0.toNatClampNeg = 2 then (g 23 x0.toNatClampNeg) / 256
      else if g 21 x0.toNatClampNeg = 3 then (if g 30 x0.toNatClampNeg = 0 then (g 23 x0.toNatClampNeg) - (g 23 x0.toNatClampNeg) / 256 * 256
          else (g 23 x0.toNatClampNeg) / 256)
        else (g 23 x0.toNatClampNeg) - (g 23 x0.toNatClampNeg) / 256 * 256)
  else g 32 x0.toNatClampNeg
def tkM_readCounter_s (g : Nat → Nat → Int32) (x0 : Int32) : Nat → Nat → Int32 :=
  if g 32 x0.toNatClampNeg < 0 then (if g 21 x0.toNatClampNeg = 2 then tk_up (tk_up g 30 (upd (g 30) x0.toNatClampNeg 0)) 31 (upd (g 31) x0.toNatClampNeg (-1))
    else if g 21 x0.toNatClampNeg = 3 then (if g 30 x0.toNatClampNeg = 0 then tk_up (tk_up g 30 (upd (g 30) x0.toNatClampNeg 1)) 31 (upd (g 31) x0.toNatClampNeg (g 31 x0.toNatClampNeg))
        else tk_up (tk_up g 30 (upd (g 30) x0.toNatClampNeg 0)) 31 (upd (g 31) x0.toNatClampNeg (-1)))
      else tk_up (tk_up g 30 (upd (g 30) x0.toNatClampNeg 0)) 31 (upd (g 31) x0.toNatClampNeg (-1)))
  else tk_up g 32 (upd (g 32) x0.toNatClampNeg (-1))
set_option maxHeartbeats 1000000 in
set_option maxRecDepth 100000 in
theorem kM_readCounter (l : Launch) (D : va_G) (hm : Nat) (ad : Nat → Nat) (cI cZ : ClassId) (g : Nat → Nat → Int32) (x0 : Int32) (hi0 : vp_in x0 3) : tk_M l yM_readCounter wsM_readCounter { frames := 0, cells := 0, slots := 0, locals := 0 } D [(cI, .int), (cZ, .boolean)] [.ref hm, .int x0] (WM hm ad cI cZ g) (WM hm ad cI cZ (tkM_readCounter_s g x0)) (some (.int (tkM_readCounter_r g x0))) := by
  refine tk_M.of (cc := cM_readCounter) (maxL := 5) (ret := (some .int)) (by decide) rfl (Nat.le_of_ble_eq_true rfl) ?_
  intro p e s m below meth co A H locs ls hB hK hN hA hP hD hS hl
  obtain ⟨hx, hb, hr, hml, hown, hlk, hnm, hts⟩ := hB
  have hown : s.vm.findClass RM = some m.cls := hown
  have hl : lv_has ls 5 [(0, .ref hm), (1, .int x0)] := hl
  have hw : ∀ w ∈ tkWM, w.before _ s = true := fun w h => hts w (List.mem_cons_of_mem _ h)
  have f104 := hw _ wF_M_104
  have f101 := hw _ wF_M_101
  have f71 := hw _ wF_M_71
  have f98 := hw _ wF_M_98
  have f77 := hw _ wF_M_77
  refine lv_aload_n hx hb dM_readCounter_0 rfl (lv_at hl 0 rfl) ?_
  refine va_get (D := D) (ci := 3) (v := .ref (ad 32)) (C := RM) (T := TM) (N := 33) hx hb hw inM hown hK hP 0 rfl rfl 32 (by decide) f104 (fun _ h9 => h9) rfl dM_readCounter_1 ?_
  refine lv_iload_n hx hb dM_readCounter_4 rfl (lv_at hl 1 rfl) ?_
  refine tkld_32 hx hb hK hP hi0 dM_readCounter_5 ?_
  refine lv_if_lt (tgt := 25) hx hb dM_readCounter_6 (by decide) (fun (h1_ : g 32 x0.toNatClampNeg < 0) => ?_) (fun (h1_ : ¬ (g 32 x0.toNatClampNeg < 0)) => ?_)
  · refine lv_aload_n hx hb dM_readCounter_25 rfl (lv_at hl 0 rfl) ?_
    refine va_get (D := D) (ci := 3) (v := .ref (ad 31)) (C := RM) (T := TM) (N := 33) hx hb hw inM hown hK hP 0 rfl rfl 31 (by decide) f101 (fun _ h9 => h9) rfl dM_readCounter_26 ?_
    refine lv_iload_n hx hb dM_readCounter_29 rfl (lv_at hl 1 rfl) ?_
    refine tkld_31 hx hb hK hP hi0 dM_readCounter_30 ?_
    refine lv_if_ge (tgt := 43) hx hb dM_readCounter_31 (by decide) (fun (h2_ : 0 ≤ g 31 x0.toNatClampNeg) => ?_) (fun (h2_ : ¬ (0 ≤ g 31 x0.toNatClampNeg)) => ?_)
    · refine lv_aload_n hx hb dM_readCounter_43 rfl (lv_at hl 0 rfl) ?_
      refine va_get (D := D) (ci := 3) (v := .ref (ad 31)) (C := RM) (T := TM) (N := 33) hx hb hw inM hown hK hP 0 rfl rfl 31 (by decide) f101 (fun _ h9 => h9) rfl dM_readCounter_44 ?_
      refine lv_iload_n hx hb dM_readCounter_47 rfl (lv_at hl 1 rfl) ?_
      refine tkld_31 hx hb hK hP hi0 dM_readCounter_48 ?_
      refine lv_istore_n hx hb dM_readCounter_49 rfl hl (by decide) rfl (fun ls hl => ?_)
      have hl : lv_has ls 5 [(2, .int (g 31 x0.toNatClampNeg)), (0, .ref hm), (1, .int x0)] := hl
      refine lv_aload_n hx hb dM_readCounter_50 rfl (lv_at hl 1 rfl) ?_
      refine va_get (D := D) (ci := 3) (v := .ref (ad 21)) (C := RM) (T := TM) (N := 33) hx hb hw inM hown hK hP 0 rfl rfl 21 (by decide) f71 (fun _ h9 => h9) rfl dM_readCounter_51 ?_
      refine lv_iload_n hx hb dM_readCounter_54 rfl (lv_at hl 2 rfl) ?_
      refine tkld_21 hx hb hK hP hi0 dM_readCounter_55 ?_
      refine lv_iconst (v := 2) hx hb dM_readCounter_56 (by decide) ?_
      refine lv_icmp_eq (tgt := 79) hx hb dM_readCounter_57 (by decide) (fun (h3_ : g 21 x0.toNatClampNeg = 2) => ?_) (fun (h3_ : ¬ (g 21 x0.toNatClampNeg = 2)) => ?_)
      · refine lv_iconst (v := 1) hx hb dM_readCounter_79 (by decide) ?_
        refine lv_goto (tgt := 84) hx hb dM_readCounter_80 (by decide) ?_
        refine lv_istore_n hx hb dM_readCounter_84 rfl hl (by decide) rfl (fun ls hl => ?_)
        have hl : lv_has ls 5 [(3, .int 1), (2, .int (g 31 x0.toNatClampNeg)), (0, .ref hm), (1, .int x0)] := hl
        refine lv_aload_n hx hb dM_readCounter_85 rfl (lv_at hl 2 rfl) ?_
        refine va_get (D := D) (ci := 3) (v := .ref (ad 21)) (C := RM) (T := TM) (N := 33) hx hb hw inM hown hK hP 0 rfl rfl 21 (by decide) f71 (fun _ h9 => h9) rfl dM_readCounter_86 ?_
        refine lv_iload_n hx hb dM_readCounter_89 rfl (lv_at hl 3 rfl) ?_
        refine tkld_21 hx hb hK hP hi0 dM_readCounter_90 ?_
        refine lv_iconst (v := 3) hx hb dM_readCounter_91 (by decide) ?_
        refine lv_icmp_ne (tgt := 104) hx hb dM_readCounter_92 (by decide) (fun _ => ?_) (fun h => absurd (h.symm.trans h3_) (by decide))
        refine lv_iconst (v := 1) hx hb dM_readCounter_104 (by decide) ?_
        refine lv_goto (tgt := 109) hx hb dM_readCounter_105 (by decide) ?_
        refine lv_istore hx hb dM_readCounter_109 hl (by decide) rfl (fun ls hl => ?_)
        have hl : lv_has ls 5 [(4, .int 1), (3, .int 1), (2, .int (g 31 x0.toNatClampNeg)), (0, .ref hm), (1, .int x0)] := hl
        refine lv_aload_n hx hb dM_readCounter_111 rfl (lv_at hl 3 rfl) ?_
        refine va_get (D := D) (ci := 3) (v := .ref (ad 30)) (C := RM) (T := TM) (N := 33) hx hb hw inM hown hK hP 0 rfl rfl 30 (by decide) f98 (fun _ h9 => h9) rfl dM_readCounter_112 ?_
        refine lv_iload_n hx hb dM_readCounter_115 rfl (lv_at hl 4 rfl) ?_
        refine lv_aload_n hx hb dM_readCounter_116 rfl (lv_at hl 3 rfl) ?_
        refine va_get (D := D) (ci := 3) (v := .ref (ad 21)) (C := RM) (T := TM) (N := 33) hx hb hw inM hown hK hP 0 rfl rfl 21 (by decide) f71 (fun _ h9 => h9) rfl dM_readCounter_117 ?_
        refine lv_iload_n hx hb dM_readCounter_120 rfl (lv_at hl 4 rfl) ?_
        refine tkld_21 hx hb hK hP hi0 dM_readCounter_121 ?_
        refine lv_iconst (v := 3) hx hb dM_readCounter_122 (by decide) ?_
        refine lv_icmp_ne (tgt := 139) hx hb dM_readCounter_123 (by decide) (fun _ => ?_) (fun h => absurd (h.symm.trans h3_) (by decide))
        refine lv_iconst (v := 0) hx hb dM_readCounter_139 (by decide) ?_
        refine tkst_30 hx hb hK hP hD hS hi0 (x' := 0) rfl dM_readCounter_140 (fun H locs hP hD hS => ?_)
        have hP : va_P D vwCl (WM hm ad cI cZ (tk_up g 30 (upd (g 30) x0.toNatClampNeg 0))) H := hP
        have hD : va_D A (WM hm ad cI cZ (tk_up g 30 (upd (g 30) x0.toNatClampNeg 0))) := hD
        refine lv_aload_n hx hb dM_readCounter_141 rfl (lv_at hl 3 rfl) ?_
        refine va_get (D := D) (ci := 3) (v := .ref (ad 31)) (C := RM) (T := TM) (N := 33) hx hb hw inM hown hK hP 0 rfl rfl 31 (by decide) f101 (fun _ h9 => h9) rfl dM_readCounter_142 ?_
        refine lv_iload_n hx hb dM_readCounter_145 rfl (lv_at hl 4 rfl) ?_
        refine lv_iload hx hb dM_readCounter_146 (lv_at hl 0 rfl) ?_
        refine lv_if_eq (tgt := 155) hx hb dM_readCounter_148 (by decide) (fun h => absurd h (by decide)) (fun _ => ?_)
        refine lv_iconst (v := -1) hx hb dM_readCounter_151 (by decide) ?_
        refine lv_goto (tgt := 161) hx hb dM_readCounter_152 (by decide) ?_
        refine tkst_31 hx hb hK hP hD hS hi0 dM_readCounter_161 (fun H locs hP hD hS => ?_)
        have hP : va_P D vwCl (WM hm ad cI cZ (tk_up (tk_up g 30 (upd (g 30) x0.toNatClampNeg 0)) 31 (upd (g 31) x0.toNatClampNeg (-1)))) H := hP
        have hD : va_D A (WM hm ad cI cZ (tk_up (tk_up g 30 (upd (g 30) x0.toNatClampNeg 0)) 31 (upd (g 31) x0.toNatClampNeg (-1)))) := hD
        refine lv_iload_n hx hb dM_readCounter_162 rfl (lv_at hl 1 rfl) ?_
        refine lv_if_eq (tgt := 174) hx hb dM_readCounter_163 (by decide) (fun h => absurd h (by decide)) (fun _ => ?_)
        refine lv_iload_n hx hb dM_readCounter_166 rfl (lv_at hl 2 rfl) ?_
        refine lv_sipush (v := 256) hx hb dM_readCounter_167 (by decide) ?_
        refine lv_idiv hx hb dM_readCounter_170 (by decide) ?_
        refine lv_goto (tgt := 179) hx hb dM_readCounter_171 (by decide) ?_
        exact tk_iret hx hb hr hlk hP hD hS dM_readCounter_179 (by unfold tkM_readCounter_r; rw [if_pos h1_, if_pos h2_, if_pos h3_]) (congrArg (WM hm ad cI cZ) (by unfold tkM_readCounter_s; rw [if_pos h1_, if_pos h3_]))
      · refine lv_aload_n hx hb dM_readCounter_60 rfl (lv_at hl 1 rfl) ?_
        refine va_get (D := D) (ci := 3) (v := .ref (ad 21)) (C := RM) (T := TM) (N := 33) hx hb hw inM hown hK hP 0 rfl rfl 21 (by decide) f71 (fun _ h9 => h9) rfl dM_readCounter_61 ?_
        refine lv_iload_n hx hb dM_readCounter_64 rfl (lv_at hl 2 rfl) ?_
        refine tkld_21 hx hb hK hP hi0 dM_readCounter_65 ?_
        refine lv_iconst (v := 3) hx hb dM_readCounter_66 (by decide) ?_
        refine lv_icmp_ne (tgt := 83) hx hb dM_readCounter_67 (by decide) (fun (h4_ : ¬ (g 21 x0.toNatClampNeg = 3)) => ?_) (fun (h4_ : g 21 x0.toNatClampNeg = 3) => ?_)
        · refine lv_iconst (v := 0) hx hb dM_readCounter_83 (by decide) ?_
          refine lv_istore_n hx hb dM_readCounter_84 rfl hl (by decide) rfl (fun ls hl => ?_)
          have hl : lv_has ls 5 [(3, .int 0), (2, .int (g 31 x0.toNatClampNeg)), (0, .ref hm), (1, .int x0)] := hl
          refine lv_aload_n hx hb dM_readCounter_85 rfl (lv_at hl 2 rfl) ?_
          refine va_get (D := D) (ci := 3) (v := .ref (ad 21)) (C := RM) (T := TM) (N := 33) hx hb hw inM hown hK hP 0 rfl rfl 21 (by decide) f71 (fun _ h9 => h9) rfl dM_readCounter_86 ?_
          refine lv_iload_n hx hb dM_readCounter_89 rfl (lv_at hl 3 rfl) ?_
          refine tkld_21 hx hb hK hP hi0 dM_readCounter_90 ?_
          refine lv_iconst (v := 3) hx hb dM_readCounter_91 (by decide) ?_
          refine lv_icmp_ne (tgt := 104) hx hb dM_readCounter_92 (by decide) (fun _ => ?_) (fun h => absurd h h4_)
          refine lv_iconst (v := 1) hx hb dM_readCounter_104 (by decide) ?_
          refine lv_goto (tgt := 109) hx hb dM_readCounter_105 (by decide) ?_
          refine lv_istore hx hb dM_readCounter_109 hl (by decide) rfl (fun ls hl => ?_)
          have hl : lv_has ls 5 [(4, .int 1), (3, .int 0), (2, .int (g 31 x0.toNatClampNeg)), (0, .ref hm), (1, .int x0)] := hl
          refine lv_aload_n hx hb dM_readCounter_111 rfl (lv_at hl 3 rfl) ?_
          refine va_get (D := D) (ci := 3) (v := .ref (ad 30)) (C := RM) (T := TM) (N := 33) hx hb hw inM hown hK hP 0 rfl rfl 30 (by decide) f98 (fun _ h9 => h9) rfl dM_readCounter_112 ?_
          refine lv_iload_n hx hb dM_readCounter_115 rfl (lv_at hl 4 rfl) ?_
          refine lv_aload_n hx hb dM_readCounter_116 rfl (lv_at hl 3 rfl) ?_
          refine va_get (D := D) (ci := 3) (v := .ref (ad 21)) (C := RM) (T := TM) (N := 33) hx hb hw inM hown hK hP 0 rfl rfl 21 (by decide) f71 (fun _ h9 => h9) rfl dM_readCounter_117 ?_
          refine lv_iload_n hx hb dM_readCounter_120 rfl (lv_at hl 4 rfl) ?_
          refine tkld_21 hx hb hK hP hi0 dM_readCounter_121 ?_
          refine lv_iconst (v := 3) hx hb dM_readCounter_122 (by decide) ?_
          refine lv_icmp_ne (tgt := 139) hx hb dM_readCounter_123 (by decide) (fun _ => ?_) (fun h => absurd h h4_)
          refine lv_iconst (v := 0) hx hb dM_readCounter_139 (by decide) ?_
          refine tkst_30 hx hb hK hP hD hS hi0 (x' := 0) rfl dM_readCounter_140 (fun H locs hP hD hS => ?_)
          have hP : va_P D vwCl (WM hm ad cI cZ (tk_up g 30 (upd (g 30) x0.toNatClampNeg 0))) H := hP
          have hD : va_D A (WM hm ad cI cZ (tk_up g 30 (upd (g 30) x0.toNatClampNeg 0))) := hD
          refine lv_aload_n hx hb dM_readCounter_141 rfl (lv_at hl 3 rfl) ?_
          refine va_get (D := D) (ci := 3) (v := .ref (ad 31)) (C := RM) (T := TM) (N := 33) hx hb hw inM hown hK hP 0 rfl rfl 31 (by decide) f101 (fun _ h9 => h9) rfl dM_readCounter_142 ?_
          refine lv_iload_n hx hb dM_readCounter_145 rfl (lv_at hl 4 rfl) ?_
          refine lv_iload hx hb dM_readCounter_146 (lv_at hl 0 rfl) ?_
          refine lv_if_eq (tgt := 155) hx hb dM_readCounter_148 (by decide) (fun h => absurd h (by decide)) (fun _ => ?_)
          refine lv_iconst (v := -1) hx hb dM_readCounter_151 (by decide) ?_
          refine lv_goto (tgt := 161) hx hb dM_readCounter_152 (by decide) ?_
          refine tkst_31 hx hb hK hP hD hS hi0 dM_readCounter_161 (fun H locs hP hD hS => ?_)
          have hP : va_P D vwCl (WM hm ad cI cZ (tk_up (tk_up g 30 (upd (g 30) x0.toNatClampNeg 0)) 31 (upd (g 31) x0.toNatClampNeg (-1)))) H := hP
          have hD : va_D A (WM hm ad cI cZ (tk_up (tk_up g 30 (upd (g 30) x0.toNatClampNeg 0)) 31 (upd (g 31) x0.toNatClampNeg (-1)))) := hD
          refine lv_iload_n hx hb dM_readCounter_162 rfl (lv_at hl 1 rfl) ?_
          refine lv_if_eq (tgt := 174) hx hb dM_readCounter_163 (by decide) (fun _ => ?_) (fun h => absurd (by decide) h)
          refine lv_iload_n hx hb dM_readCounter_174 rfl (lv_at hl 2 rfl) ?_
          refine lv_sipush (v := 256) hx hb dM_readCounter_175 (by decide) ?_
          refine lv_irem hx hb dM_readCounter_178 (by decide) ?_
          exact tk_iret hx hb hr hlk hP hD hS dM_readCounter_179 (by unfold tkM_readCounter_r; rw [if_pos h1_, if_pos h2_, if_neg h3_, if_neg h4_]) (congrArg (WM hm ad cI cZ) (by unfold tkM_readCounter_s; rw [if_pos h1_, if_neg h3_, if_neg h4_]))
        · refine lv_aload_n hx hb dM_readCounter_70 rfl (lv_at hl 1 rfl) ?_
          refine va_get (D := D) (ci := 3) (v := .ref (ad 30)) (C := RM) (T := TM) (N := 33) hx hb hw inM hown hK hP 0 rfl rfl 30 (by decide) f98 (fun _ h9 => h9) rfl dM_readCounter_71 ?_
          refine lv_iload_n hx hb dM_readCounter_74 rfl (lv_at hl 2 rfl) ?_
          refine tkld_30 hx hb hK hP hi0 dM_readCounter_75 ?_
          refine lv_if_eq (tgt := 83) hx hb dM_readCounter_76 (by decide) (fun (h5_ : g 30 x0.toNatClampNeg = 0) => ?_) (fun (h5_ : ¬ (g 30 x0.toNatClampNeg = 0)) => ?_)
          · refine lv_iconst (v := 0) hx hb dM_readCounter_83 (by decide) ?_
            refine lv_istore_n hx hb dM_readCounter_84 rfl hl (by decide) rfl (fun ls hl => ?_)
            have hl : lv_has ls 5 [(3, .int 0), (2, .int (g 31 x0.toNatClampNeg)), (0, .ref hm), (1, .int x0)] := hl
            refine lv_aload_n hx hb dM_readCounter_85 rfl (lv_at hl 2 rfl) ?_
            refine va_get (D := D) (ci := 3) (v := .ref (ad 21)) (C := RM) (T := TM) (N := 33) hx hb hw inM hown hK hP 0 rfl rfl 21 (by decide) f71 (fun _ h9 => h9) rfl dM_readCounter_86 ?_
            refine lv_iload_n hx hb dM_readCounter_89 rfl (lv_at hl 3 rfl) ?_
            refine tkld_21 hx hb hK hP hi0 dM_readCounter_90 ?_
            refine lv_iconst (v := 3) hx hb dM_readCounter_91 (by decide) ?_
            refine lv_icmp_ne (tgt := 104) hx hb dM_readCounter_92 (by decide) (fun h => absurd h4_ h) (fun _ => ?_)
            refine lv_aload_n hx hb dM_readCounter_95 rfl (lv_at hl 2 rfl) ?_
            refine va_get (D := D) (ci := 3) (v := .ref (ad 30)) (C := RM) (T := TM) (N := 33) hx hb hw inM hown hK hP 0 rfl rfl 30 (by decide) f98 (fun _ h9 => h9) rfl dM_readCounter_96 ?_
            refine lv_iload_n hx hb dM_readCounter_99 rfl (lv_at hl 3 rfl) ?_
            refine tkld_30 hx hb hK hP hi0 dM_readCounter_100 ?_
            refine lv_if_eq (tgt := 108) hx hb dM_readCounter_101 (by decide) (fun _ => ?_) (fun h => absurd h5_ h)
            refine lv_iconst (v := 0) hx hb dM_readCounter_108 (by decide) ?_
            refine lv_istore hx hb dM_readCounter_109 hl (by decide) rfl (fun ls hl => ?_)
            have hl : lv_has ls 5 [(4, .int 0), (3, .int 0), (2, .int (g 31 x0.toNatClampNeg)), (0, .ref hm), (1, .int x0)] := hl
            refine lv_aload_n hx hb dM_readCounter_111 rfl (lv_at hl 3 rfl) ?_
            refine va_get (D := D) (ci := 3) (v := .ref (ad 30)) (C := RM) (T := TM) (N := 33) hx hb hw inM hown hK hP 0 rfl rfl 30 (by decide) f98 (fun _ h9 => h9) rfl dM_readCounter_112 ?_
            refine lv_iload_n hx hb dM_readCounter_115 rfl (lv_at hl 4 rfl) ?_
            refine lv_aload_n hx hb dM_readCounter_116 rfl (lv_at hl 3 rfl) ?_
            refine va_get (D := D) (ci := 3) (v := .ref (ad 21)) (C := RM) (T := TM) (N := 33) hx hb hw inM hown hK hP 0 rfl rfl 21 (by decide) f71 (fun _ h9 => h9) rfl dM_readCounter_117 ?_
            refine lv_iload_n hx hb dM_readCounter_120 rfl (lv_at hl 4 rfl) ?_
            refine tkld_21 hx hb hK hP hi0 dM_readCounter_121 ?_
            refine lv_iconst (v := 3) hx hb dM_readCounter_122 (by decide) ?_
            refine lv_icmp_ne (tgt := 139) hx hb dM_readCounter_123 (by decide) (fun h => absurd h4_ h) (fun _ => ?_)
            refine lv_aload_n hx hb dM_readCounter_126 rfl (lv_at hl 3 rfl) ?_
            refine va_get (D := D) (ci := 3) (v := .ref (ad 30)) (C := RM) (T := TM) (N := 33) hx hb hw inM hown hK hP 0 rfl rfl 30 (by decide) f98 (fun _ h9 => h9) rfl dM_readCounter_127 ?_
            refine lv_iload_n hx hb dM_readCounter_130 rfl (lv_at hl 4 rfl) ?_
            refine tkld_30 hx hb hK hP hi0 dM_readCounter_131 ?_
            refine lv_if_ne (tgt := 139) hx hb dM_readCounter_132 (by decide) (fun h => absurd h5_ h) (fun _ => ?_)
            refine lv_iconst (v := 1) hx hb dM_readCounter_135 (by decide) ?_
            refine lv_goto (tgt := 140) hx hb dM_readCounter_136 (by decide) ?_
            refine tkst_30 hx hb hK hP hD hS hi0 (x' := 1) rfl dM_readCounter_140 (fun H locs hP hD hS => ?_)
            have hP : va_P D vwCl (WM hm ad cI cZ (tk_up g 30 (upd (g 30) x0.toNatClampNeg 1))) H := hP
            have hD : va_D A (WM hm ad cI cZ (tk_up g 30 (upd (g 30) x0.toNatClampNeg 1))) := hD
            refine lv_aload_n hx hb dM_readCounter_141 rfl (lv_at hl 3 rfl) ?_
            refine va_get (D := D) (ci := 3) (v := .ref (ad 31)) (C := RM) (T := TM) (N := 33) hx hb hw inM hown hK hP 0 rfl rfl 31 (by decide) f101 (fun _ h9 => h9) rfl dM_readCounter_142 ?_
            refine lv_iload_n hx hb dM_readCounter_145 rfl (lv_at hl 4 rfl) ?_
            refine lv_iload hx hb dM_readCounter_146 (lv_at hl 0 rfl) ?_
            refine lv_if_eq (tgt := 155) hx hb dM_readCounter_148 (by decide) (fun _ => ?_) (fun h => absurd (by decide) h)
            refine lv_aload_n hx hb dM_readCounter_155 rfl (lv_at hl 3 rfl) ?_
            refine va_get (D := D) (ci := 3) (v := .ref (ad 31)) (C := RM) (T := TM) (N := 33) hx hb hw inM hown hK hP 0 rfl rfl 31 (by decide) f101 (fun _ h9 => h9) rfl dM_readCounter_156 ?_
            refine lv_iload_n hx hb dM_readCounter_159 rfl (lv_at hl 4 rfl) ?_
            refine tkld_31 hx hb hK hP hi0 dM_readCounter_160 ?_
            refine tkst_31 hx hb hK hP hD hS hi0 dM_readCounter_161 (fun H locs hP hD hS => ?_)
            have hP : va_P D vwCl (WM hm ad cI cZ (tk_up (tk_up g 30 (upd (g 30) x0.toNatClampNeg 1)) 31 (upd (g 31) x0.toNatClampNeg (g 31 x0.toNatClampNeg)))) H := hP
            have hD : va_D A (WM hm ad cI cZ (tk_up (tk_up g 30 (upd (g 30) x0.toNatClampNeg 1)) 31 (upd (g 31) x0.toNatClampNeg (g 31 x0.toNatClampNeg)))) := hD
            refine lv_iload_n hx hb dM_readCounter_162 rfl (lv_at hl 1 rfl) ?_
            refine lv_if_eq (tgt := 174) hx hb dM_readCounter_163 (by decide) (fun _ => ?_) (fun h => absurd (by decide) h)
            refine lv_iload_n hx hb dM_readCounter_174 rfl (lv_at hl 2 rfl) ?_
            refine lv_sipush (v := 256) hx hb dM_readCounter_175 (by decide) ?_
            refine lv_irem hx hb dM_readCounter_178 (by decide) ?_
            exact tk_iret hx hb hr hlk hP hD hS dM_readCounter_179 (by unfold tkM_readCounter_r; rw [if_pos h1_, if_pos h2_, if_neg h3_, if_pos h4_, if_pos h5_]) (congrArg (WM hm ad cI cZ) (by unfold tkM_readCounter_s; rw [if_pos h1_, if_neg h3_, if_pos h4_, if_pos h5_]))
          · refine lv_iconst (v := 1) hx hb dM_readCounter_79 (by decide) ?_
            refine lv_goto (tgt := 84) hx hb dM_readCounter_80 (by decide) ?_
            refine lv_istore_n hx hb dM_readCounter_84 rfl hl (by decide) rfl (fun ls hl => ?_)
            have hl : lv_has ls 5 [(3, .int 1), (2, .int (g 31 x0.toNatClampNeg)), (0, .ref hm), (1, .int x0)] := hl
            refine lv_aload_n hx hb dM_readCounter_85 rfl (lv_at hl 2 rfl) ?_
            refine va_get (D := D) (ci := 3) (v := .ref (ad 21)) (C := RM) (T := TM) (N := 33) hx hb hw inM hown hK hP 0 rfl rfl 21 (by decide) f71 (fun _ h9 => h9) rfl dM_readCounter_86 ?_
            refine lv_iload_n hx hb dM_readCounter_89 rfl (lv_at hl 3 rfl) ?_
            refine tkld_21 hx hb hK hP hi0 dM_readCounter_90 ?_
            refine lv_iconst (v := 3) hx hb dM_readCounter_91 (by decide) ?_
            refine lv_icmp_ne (tgt := 104) hx hb dM_readCounter_92 (by decide) (fun h => absurd h4_ h) (fun _ => ?_)
            refine lv_aload_n hx hb dM_readCounter_95 rfl (lv_at hl 2 rfl) ?_
            refine va_get (D := D) (ci := 3) (v := .ref (ad 30)) (C := RM) (T := TM) (N := 33) hx hb hw inM hown hK hP 0 rfl rfl 30 (by decide) f98 (fun _ h9 => h9) rfl dM_readCounter_96 ?_
            refine lv_iload_n hx hb dM_readCounter_99 rfl (lv_at hl 3 rfl) ?_
            refine tkld_30 hx hb hK hP hi0 dM_readCounter_100 ?_
            refine lv_if_eq (tgt := 108) hx hb dM_readCounter_101 (by decide) (fun h => absurd h h5_) (fun _ => ?_)
            refine lv_iconst (v := 1) hx hb dM_readCounter_104 (by decide) ?_
            refine lv_goto (tgt := 109) hx hb dM_readCounter_105 (by decide) ?_
            refine lv_istore hx hb dM_readCounter_109 hl (by decide) rfl (fun ls hl => ?_)
            have hl : lv_has ls 5 [(4, .int 1), (3, .int 1), (2, .int (g 31 x0.toNatClampNeg)), (0, .ref hm), (1, .int x0)] := hl
            refine lv_aload_n hx hb dM_readCounter_111 rfl (lv_at hl 3 rfl) ?_
            refine va_get (D := D) (ci := 3) (v := .ref (ad 30)) (C := RM) (T := TM) (N := 33) hx hb hw inM hown hK hP 0 rfl rfl 30 (by decide) f98 (fun _ h9 => h9) rfl dM_readCounter_112 ?_
            refine lv_iload_n hx hb dM_readCounter_115 rfl (lv_at hl 4 rfl) ?_
            refine lv_aload_n hx hb dM_readCounter_116 rfl (lv_at hl 3 rfl) ?_
            refine va_get (D := D) (ci := 3) (v := .ref (ad 21)) (C := RM) (T := TM) (N := 33) hx hb hw inM hown hK hP 0 rfl rfl 21 (by decide) f71 (fun _ h9 => h9) rfl dM_readCounter_117 ?_
            refine lv_iload_n hx hb dM_readCounter_120 rfl (lv_at hl 4 rfl) ?_
            refine tkld_21 hx hb hK hP hi0 dM_readCounter_121 ?_
            refine lv_iconst (v := 3) hx hb dM_readCounter_122 (by decide) ?_
            refine lv_icmp_ne (tgt := 139) hx hb dM_readCounter_123 (by decide) (fun h => absurd h4_ h) (fun _ => ?_)
            refine lv_aload_n hx hb dM_readCounter_126 rfl (lv_at hl 3 rfl) ?_
            refine va_get (D := D) (ci := 3) (v := .ref (ad 30)) (C := RM) (T := TM) (N := 33) hx hb hw inM hown hK hP 0 rfl rfl 30 (by decide) f98 (fun _ h9 => h9) rfl dM_readCounter_127 ?_
            refine lv_iload_n hx hb dM_readCounter_130 rfl (lv_at hl 4 rfl) ?_
            refine tkld_30 hx hb hK hP hi0 dM_readCounter_131 ?_
            refine lv_if_ne (tgt := 139) hx hb dM_readCounter_132 (by decide) (fun _ => ?_) (fun h => absurd h h5_)
            refine lv_iconst (v := 0) hx hb dM_readCounter_139 (by decide) ?_
            refine tkst_30 hx hb hK hP hD hS hi0 (x' := 0) rfl dM_readCounter_140 (fun H locs hP hD hS => ?_)
            have hP : va_P D vwCl (WM hm ad cI cZ (tk_up g 30 (upd (g 30) x0.toNatClampNeg 0))) H := hP
            have hD : va_D A (WM hm ad cI cZ (tk_up g 30 (upd (g 30) x0.toNatClampNeg 0))) := hD
            refine lv_aload_n hx hb dM_readCounter_141 rfl (lv_at hl 3 rfl) ?_
            refine va_get (D := D) (ci := 3) (v := .ref (ad 31)) (C := RM) (T := TM) (N := 33) hx hb hw inM hown hK hP 0 rfl rfl 31 (by decide) f101 (fun _ h9 => h9) rfl dM_readCounter_142 ?_
            refine lv_iload_n hx hb dM_readCounter_145 rfl (lv_at hl 4 rfl) ?_
            refine lv_iload hx hb dM_readCounter_146 (lv_at hl 0 rfl) ?_
            refine lv_if_eq (tgt := 155) hx hb dM_readCounter_148 (by decide) (fun h => absurd h (by decide)) (fun _ => ?_)
            refine lv_iconst (v := -1) hx hb dM_readCounter_151 (by decide) ?_
            refine lv_goto (tgt := 161) hx hb dM_readCounter_152 (by decide) ?_
            refine tkst_31 hx hb hK hP hD hS hi0 dM_readCounter_161 (fun H locs hP hD hS => ?_)
            have hP : va_P D vwCl (WM hm ad cI cZ (tk_up (tk_up g 30 (upd (g 30) x0.toNatClampNeg 0)) 31 (upd (g 31) x0.toNatClampNeg (-1)))) H := hP
            have hD : va_D A (WM hm ad cI cZ (tk_up (tk_up g 30 (upd (g 30) x0.toNatClampNeg 0)) 31 (upd (g 31) x0.toNatClampNeg (-1)))) := hD
            refine lv_iload_n hx hb dM_readCounter_162 rfl (lv_at hl 1 rfl) ?_
            refine lv_if_eq (tgt := 174) hx hb dM_readCounter_163 (by decide) (fun h => absurd h (by decide)) (fun _ => ?_)
            refine lv_iload_n hx hb dM_readCounter_166 rfl (lv_at hl 2 rfl) ?_
            refine lv_sipush (v := 256) hx hb dM_readCounter_167 (by decide) ?_
            refine lv_idiv hx hb dM_readCounter_170 (by decide) ?_
            refine lv_goto (tgt := 179) hx hb dM_readCounter_171 (by decide) ?_
            exact tk_iret hx hb hr hlk hP hD hS dM_readCounter_179 (by unfold tkM_readCounter_r; rw [if_pos h1_, if_pos h2_, if_neg h3_, if_pos h4_, if_neg h5_]) (congrArg (WM hm ad cI cZ) (by unfold tkM_readCounter_s; rw [if_pos h1_, if_neg h3_, if_pos h4_, if_neg h5_]))
    · refine lv_aload_n hx hb dM_readCounter_34 rfl (lv_at hl 0 rfl) ?_
      refine va_get (D := D) (ci := 3) (v := .ref (ad 23)) (C := RM) (T := TM) (N := 33) hx hb hw inM hown hK hP 0 rfl rfl 23 (by decide) f77 (fun _ h9 => h9) rfl dM_readCounter_35 ?_
      refine lv_iload_n hx hb dM_readCounter_38 rfl (lv_at hl 1 rfl) ?_
      refine tkld_23 hx hb hK hP hi0 dM_readCounter_39 ?_
      refine lv_goto (tgt := 49) hx hb dM_readCounter_40 (by decide) ?_
      refine lv_istore_n hx hb dM_readCounter_49 rfl hl (by decide) rfl (fun ls hl => ?_)
      have hl : lv_has ls 5 [(2, .int (g 23 x0.toNatClampNeg)), (0, .ref hm), (1, .int x0)] := hl
      refine lv_aload_n hx hb dM_readCounter_50 rfl (lv_at hl 1 rfl) ?_
      refine va_get (D := D) (ci := 3) (v := .ref (ad 21)) (C := RM) (T := TM) (N := 33) hx hb hw inM hown hK hP 0 rfl rfl 21 (by decide) f71 (fun _ h9 => h9) rfl dM_readCounter_51 ?_
      refine lv_iload_n hx hb dM_readCounter_54 rfl (lv_at hl 2 rfl) ?_
      refine tkld_21 hx hb hK hP hi0 dM_readCounter_55 ?_
      refine lv_iconst (v := 2) hx hb dM_readCounter_56 (by decide) ?_
      refine lv_icmp_eq (tgt := 79) hx hb dM_readCounter_57 (by decide) (fun (h6_ : g 21 x0.toNatClampNeg = 2) => ?_) (fun (h6_ : ¬ (g 21 x0.toNatClampNeg = 2)) => ?_)
      · refine lv_iconst (v := 1) hx hb dM_readCounter_79 (by decide) ?_
        refine lv_goto (tgt := 84) hx hb dM_readCounter_80 (by decide) ?_
        refine lv_istore_n hx hb dM_readCounter_84 rfl hl (by decide) rfl (fun ls hl => ?_)
        have hl : lv_has ls 5 [(3, .int 1), (2, .int (g 23 x0.toNatClampNeg)), (0, .ref hm), (1, .int x0)] := hl
        refine lv_aload_n hx hb dM_readCounter_85 rfl (lv_at hl 2 rfl) ?_
        refine va_get (D := D) (ci := 3) (v := .ref (ad 21)) (C := RM) (T := TM) (N := 33) hx hb hw inM hown hK hP 0 rfl rfl 21 (by decide) f71 (fun _ h9 => h9) rfl dM_readCounter_86 ?_
        refine lv_iload_n hx hb dM_readCounter_89 rfl (lv_at hl 3 rfl) ?_
        refine tkld_21 hx hb hK hP hi0 dM_readCounter_90 ?_
        refine lv_iconst (v := 3) hx hb dM_readCounter_91 (by decide) ?_
        refine lv_icmp_ne (tgt := 104) hx hb dM_readCounter_92 (by decide) (fun _ => ?_) (fun h => absurd (h.symm.trans h6_) (by decide))
        refine lv_iconst (v := 1) hx hb dM_readCounter_104 (by decide) ?_
        refine lv_goto (tgt := 109) hx hb dM_readCounter_105 (by decide) ?_
        refine lv_istore hx hb dM_readCounter_109 hl (by decide) rfl (fun ls hl => ?_)
        have hl : lv_has ls 5 [(4, .int 1), (3, .int 1), (2, .int (g 23 x0.toNatClampNeg)), (0, .ref hm), (1, .int x0)] := hl
        refine lv_aload_n hx hb dM_readCounter_111 rfl (lv_at hl 3 rfl) ?_
        refine va_get (D := D) (ci := 3) (v := .ref (ad 30)) (C := RM) (T := TM) (N := 33) hx hb hw inM hown hK hP 0 rfl rfl 30 (by decide) f98 (fun _ h9 => h9) rfl dM_readCounter_112 ?_
        refine lv_iload_n hx hb dM_readCounter_115 rfl (lv_at hl 4 rfl) ?_
        refine lv_aload_n hx hb dM_readCounter_116 rfl (lv_at hl 3 rfl) ?_
        refine va_get (D := D) (ci := 3) (v := .ref (ad 21)) (C := RM) (T := TM) (N := 33) hx hb hw inM hown hK hP 0 rfl rfl 21 (by decide) f71 (fun _ h9 => h9) rfl dM_readCounter_117 ?_
        refine lv_iload_n hx hb dM_readCounter_120 rfl (lv_at hl 4 rfl) ?_
        refine tkld_21 hx hb hK hP hi0 dM_readCounter_121 ?_
        refine lv_iconst (v := 3) hx hb dM_readCounter_122 (by decide) ?_
        refine lv_icmp_ne (tgt := 139) hx hb dM_readCounter_123 (by decide) (fun _ => ?_) (fun h => absurd (h.symm.trans h6_) (by decide))
        refine lv_iconst (v := 0) hx hb dM_readCounter_139 (by decide) ?_
        refine tkst_30 hx hb hK hP hD hS hi0 (x' := 0) rfl dM_readCounter_140 (fun H locs hP hD hS => ?_)
        have hP : va_P D vwCl (WM hm ad cI cZ (tk_up g 30 (upd (g 30) x0.toNatClampNeg 0))) H := hP
        have hD : va_D A (WM hm ad cI cZ (tk_up g 30 (upd (g 30) x0.toNatClampNeg 0))) := hD
        refine lv_aload_n hx hb dM_readCounter_141 rfl (lv_at hl 3 rfl) ?_
        refine va_get (D := D) (ci := 3) (v := .ref (ad 31)) (C := RM) (T := TM) (N := 33) hx hb hw inM hown hK hP 0 rfl rfl 31 (by decide) f101 (fun _ h9 => h9) rfl dM_readCounter_142 ?_
        refine lv_iload_n hx hb dM_readCounter_145 rfl (lv_at hl 4 rfl) ?_
        refine lv_iload hx hb dM_readCounter_146 (lv_at hl 0 rfl) ?_
        refine lv_if_eq (tgt := 155) hx hb dM_readCounter_148 (by decide) (fun h => absurd h (by decide)) (fun _ => ?_)
        refine lv_iconst (v := -1) hx hb dM_readCounter_151 (by decide) ?_
        refine lv_goto (tgt := 161) hx hb dM_readCounter_152 (by decide) ?_
        refine tkst_31 hx hb hK hP hD hS hi0 dM_readCounter_161 (fun H locs hP hD hS => ?_)
        have hP : va_P D vwCl (WM hm ad cI cZ (tk_up (tk_up g 30 (upd (g 30) x0.toNatClampNeg 0)) 31 (upd (g 31) x0.toNatClampNeg (-1)))) H := hP
        have hD : va_D A (WM hm ad cI cZ (tk_up (tk_up g 30 (upd (g 30) x0.toNatClampNeg 0)) 31 (upd (g 31) x0.toNatClampNeg (-1)))) := hD
        refine lv_iload_n hx hb dM_readCounter_162 rfl (lv_at hl 1 rfl) ?_
        refine lv_if_eq (tgt := 174) hx hb dM_readCounter_163 (by decide) (fun h => absurd h (by decide)) (fun _ => ?_)
        refine lv_iload_n hx hb dM_readCounter_166 rfl (lv_at hl 2 rfl) ?_
        refine lv_sipush (v := 256) hx hb dM_readCounter_167 (by decide) ?_
        refine lv_idiv hx hb dM_readCounter_170 (by decide) ?_
        refine lv_goto (tgt := 179) hx hb dM_readCounter_171 (by decide) ?_
        exact tk_iret hx hb hr hlk hP hD hS dM_readCounter_179 (by unfold tkM_readCounter_r; rw [if_pos h1_, if_neg h2_, if_pos h6_]) (congrArg (WM hm ad cI cZ) (by unfold tkM_readCounter_s; rw [if_pos h1_, if_pos h6_]))
      · refine lv_aload_n hx hb dM_readCounter_60 rfl (lv_at hl 1 rfl) ?_
        refine va_get (D := D) (ci := 3) (v := .ref (ad 21)) (C := RM) (T := TM) (N := 33) hx hb hw inM hown hK hP 0 rfl rfl 21 (by decide) f71 (fun _ h9 => h9) rfl dM_readCounter_61 ?_
        refine lv_iload_n hx hb dM_readCounter_64 rfl (lv_at hl 2 rfl) ?_
        refine tkld_21 hx hb hK hP hi0 dM_readCounter_65 ?_
        refine lv_iconst (v := 3) hx hb dM_readCounter_66 (by decide) ?_
        refine lv_icmp_ne (tgt := 83) hx hb dM_readCounter_67 (by decide) (fun (h7_ : ¬ (g 21 x0.toNatClampNeg = 3)) => ?_) (fun (h7_ : g 21 x0.toNatClampNeg = 3) => ?_)
        · refine lv_iconst (v := 0) hx hb dM_readCounter_83 (by decide) ?_
          refine lv_istore_n hx hb dM_readCounter_84 rfl hl (by decide) rfl (fun ls hl => ?_)
          have hl : lv_has ls 5 [(3, .int 0), (2, .int (g 23 x0.toNatClampNeg)), (0, .ref hm), (1, .int x0)] := hl
          refine lv_aload_n hx hb dM_readCounter_85 rfl (lv_at hl 2 rfl) ?_
          refine va_get (D := D) (ci := 3) (v := .ref (ad 21)) (C := RM) (T := TM) (N := 33) hx hb hw inM hown hK hP 0 rfl rfl 21 (by decide) f71 (fun _ h9 => h9) rfl dM_readCounter_86 ?_
          refine lv_iload_n hx hb dM_readCounter_89 rfl (lv_at hl 3 rfl) ?_
          refine tkld_21 hx hb hK hP hi0 dM_readCounter_90 ?_
          refine lv_iconst (v := 3) hx hb dM_readCounter_91 (by decide) ?_
          refine lv_icmp_ne (tgt := 104) hx hb dM_readCounter_92 (by decide) (fun _ => ?_) (fun h => absurd h h7_)
          refine lv_iconst (v := 1) hx hb dM_readCounter_104 (by decide) ?_
          refine lv_goto (tgt := 109) hx hb dM_readCounter_105 (by decide) ?_
          refine lv_istore hx hb dM_readCounter_109 hl (by decide) rfl (fun ls hl => ?_)
          have hl : lv_has ls 5 [(4, .int 1), (3, .int 0), (2, .int (g 23 x0.toNatClampNeg)), (0, .ref hm), (1, .int x0)] := hl
          refine lv_aload_n hx hb dM_readCounter_111 rfl (lv_at hl 3 rfl) ?_
          refine va_get (D := D) (ci := 3) (v := .ref (ad 30)) (C := RM) (T := TM) (N := 33) hx hb hw inM hown hK hP 0 rfl rfl 30 (by decide) f98 (fun _ h9 => h9) rfl dM_readCounter_112 ?_
          refine lv_iload_n hx hb dM_readCounter_115 rfl (lv_at hl 4 rfl) ?_
          refine lv_aload_n hx hb dM_readCounter_116 rfl (lv_at hl 3 rfl) ?_
          refine va_get (D := D) (ci := 3) (v := .ref (ad 21)) (C := RM) (T := TM) (N := 33) hx hb hw inM hown hK hP 0 rfl rfl 21 (by decide) f71 (fun _ h9 => h9) rfl dM_readCounter_117 ?_
          refine lv_iload_n hx hb dM_readCounter_120 rfl (lv_at hl 4 rfl) ?_
          refine tkld_21 hx hb hK hP hi0 dM_readCounter_121 ?_
          refine lv_iconst (v := 3) hx hb dM_readCounter_122 (by decide) ?_
          refine lv_icmp_ne (tgt := 139) hx hb dM_readCounter_123 (by decide) (fun _ => ?_) (fun h => absurd h h7_)
          refine lv_iconst (v := 0) hx hb dM_readCounter_139 (by decide) ?_
          refine tkst_30 hx hb hK hP hD hS hi0 (x' := 0) rfl dM_readCounter_140 (fun H locs hP hD hS => ?_)
          have hP : va_P D vwCl (WM hm ad cI cZ (tk_up g 30 (upd (g 30) x0.toNatClampNeg 0))) H := hP
          have hD : va_D A (WM hm ad cI cZ (tk_up g 30 (upd (g 30) x0.toNatClampNeg 0))) := hD
          refine lv_aload_n hx hb dM_readCounter_141 rfl (lv_at hl 3 rfl) ?_
          refine va_get (D := D) (ci := 3) (v := .ref (ad 31)) (C := RM) (T := TM) (N := 33) hx hb hw inM hown hK hP 0 rfl rfl 31 (by decide) f101 (fun _ h9 => h9) rfl dM_readCounter_142 ?_
          refine lv_iload_n hx hb dM_readCounter_145 rfl (lv_at hl 4 rfl) ?_
          refine lv_iload hx hb dM_readCounter_146 (lv_at hl 0 rfl) ?_
          refine lv_if_eq (tgt := 155) hx hb dM_readCounter_148 (by decide) (fun h => absurd h (by decide)) (fun _ => ?_)
          refine lv_iconst (v := -1) hx hb dM_readCounter_151 (by decide) ?_
          refine lv_goto (tgt := 161) hx hb dM_readCounter_152 (by decide) ?_
          refine tkst_31 hx hb hK hP hD hS hi0 dM_readCounter_161 (fun H locs hP hD hS => ?_)
          have hP : va_P D vwCl (WM hm ad cI cZ (tk_up (tk_up g 30 (upd (g 30) x0.toNatClampNeg 0)) 31 (upd (g 31) x0.toNatClampNeg (-1)))) H := hP
          have hD : va_D A (WM hm ad cI cZ (tk_up (tk_up g 30 (upd (g 30) x0.toNatClampNeg 0)) 31 (upd (g 31) x0.toNatClampNeg (-1)))) := hD
          refine lv_iload_n hx hb dM_readCounter_162 rfl (lv_at hl 1 rfl) ?_
          refine lv_if_eq (tgt := 174) hx hb dM_readCounter_163 (by decide) (fun _ => ?_) (fun h => absurd (by decide) h)
          refine lv_iload_n hx hb dM_readCounter_174 rfl (lv_at hl 2 rfl) ?_
          refine lv_sipush (v := 256) hx hb dM_readCounter_175 (by decide) ?_
          refine lv_irem hx hb dM_readCounter_178 (by decide) ?_
          exact tk_iret hx hb hr hlk hP hD hS dM_readCounter_179 (by unfold tkM_readCounter_r; rw [if_pos h1_, if_neg h2_, if_neg h6_, if_neg h7_]) (congrArg (WM hm ad cI cZ) (by unfold tkM_readCounter_s; rw [if_pos h1_, if_neg h6_, if_neg h7_]))
        · refine lv_aload_n hx hb dM_readCounter_70 rfl (lv_at hl 1 rfl) ?_
          refine va_get (D := D) (ci := 3) (v := .ref (ad 30)) (C := RM) (T := TM) (N := 33) hx hb hw inM hown hK hP 0 rfl rfl 30 (by decide) f98 (fun _ h9 => h9) rfl dM_readCounter_71 ?_
          refine lv_iload_n hx hb dM_readCounter_74 rfl (lv_at hl 2 rfl) ?_
          refine tkld_30 hx hb hK hP hi0 dM_readCounter_75 ?_
          refine lv_if_eq (tgt := 83) hx hb dM_readCounter_76 (by decide) (fun (h8_ : g 30 x0.toNatClampNeg = 0) => ?_) (fun (h8_ : ¬ (g 30 x0.toNatClampNeg = 0)) => ?_)
          · refine lv_iconst (v := 0) hx hb dM_readCounter_83 (by decide) ?_
            refine lv_istore_n hx hb dM_readCounter_84 rfl hl (by decide) rfl (fun ls hl => ?_)
            have hl : lv_has ls 5 [(3, .int 0), (2, .int (g 23 x0.toNatClampNeg)), (0, .ref hm), (1, .int x0)] := hl
            refine lv_aload_n hx hb dM_readCounter_85 rfl (lv_at hl 2 rfl) ?_
            refine va_get (D := D) (ci := 3) (v := .ref (ad 21)) (C := RM) (T := TM) (N := 33) hx hb hw inM hown hK hP 0 rfl rfl 21 (by decide) f71 (fun _ h9 => h9) rfl dM_readCounter_86 ?_
            refine lv_iload_n hx hb dM_readCounter_89 rfl (lv_at hl 3 rfl) ?_
            refine tkld_21 hx hb hK hP hi0 dM_readCounter_90 ?_
            refine lv_iconst (v := 3) hx hb dM_readCounter_91 (by decide) ?_
            refine lv_icmp_ne (tgt := 104) hx hb dM_readCounter_92 (by decide) (fun h => absurd h7_ h) (fun _ => ?_)
            refine lv_aload_n hx hb dM_readCounter_95 rfl (lv_at hl 2 rfl) ?_
            refine va_get (D := D) (ci := 3) (v := .ref (ad 30)) (C := RM) (T := TM) (N := 33) hx hb hw inM hown hK hP 0 rfl rfl 30 (by decide) f98 (fun _ h9 => h9) rfl dM_readCounter_96 ?_
            refine lv_iload_n hx hb dM_readCounter_99 rfl (lv_at hl 3 rfl) ?_
            refine tkld_30 hx hb hK hP hi0 dM_readCounter_100 ?_
            refine lv_if_eq (tgt := 108) hx hb dM_readCounter_101 (by decide) (fun _ => ?_) (fun h => absurd h8_ h)
            refine lv_iconst (v := 0) hx hb dM_readCounter_108 (by decide) ?_
            refine lv_istore hx hb dM_readCounter_109 hl (by decide) rfl (fun ls hl => ?_)
            have hl : lv_has ls 5 [(4, .int 0), (3, .int 0), (2, .int (g 23 x0.toNatClampNeg)), (0, .ref hm), (1, .int x0)] := hl
            refine lv_aload_n hx hb dM_readCounter_111 rfl (lv_at hl 3 rfl) ?_
            refine va_get (D := D) (ci := 3) (v := .ref (ad 30)) (C := RM) (T := TM) (N := 33) hx hb hw inM hown hK hP 0 rfl rfl 30 (by decide) f98 (fun _ h9 => h9) rfl dM_readCounter_112 ?_
            refine lv_iload_n hx hb dM_readCounter_115 rfl (lv_at hl 4 rfl) ?_
            refine lv_aload_n hx hb dM_readCounter_116 rfl (lv_at hl 3 rfl) ?_
            refine va_get (D := D) (ci := 3) (v := .ref (ad 21)) (C := RM) (T := TM) (N := 33) hx hb hw inM hown hK hP 0 rfl rfl 21 (by decide) f71 (fun _ h9 => h9) rfl dM_readCounter_117 ?_
            refine lv_iload_n hx hb dM_readCounter_120 rfl (lv_at hl 4 rfl) ?_
            refine tkld_21 hx hb hK hP hi0 dM_readCounter_121 ?_
            refine lv_iconst (v := 3) hx hb dM_readCounter_122 (by decide) ?_
            refine lv_icmp_ne (tgt := 139) hx hb dM_readCounter_123 (by decide) (fun h => absurd h7_ h) (fun _ => ?_)
            refine lv_aload_n hx hb dM_readCounter_126 rfl (lv_at hl 3 rfl) ?_
            refine va_get (D := D) (ci := 3) (v := .ref (ad 30)) (C := RM) (T := TM) (N := 33) hx hb hw inM hown hK hP 0 rfl rfl 30 (by decide) f98 (fun _ h9 => h9) rfl dM_readCounter_127 ?_
            refine lv_iload_n hx hb dM_readCounter_130 rfl (lv_at hl 4 rfl) ?_
            refine tkld_30 hx hb hK hP hi0 dM_readCounter_131 ?_
            refine lv_if_ne (tgt := 139) hx hb dM_readCounter_132 (by decide) (fun h => absurd h8_ h) (fun _ => ?_)
            refine lv_iconst (v := 1) hx hb dM_readCounter_135 (by decide) ?_
            refine lv_goto (tgt := 140) hx hb dM_readCounter_136 (by decide) ?_
            refine tkst_30 hx hb hK hP hD hS hi0 (x' := 1) rfl dM_readCounter_140 (fun H locs hP hD hS => ?_)
            have hP : va_P D vwCl (WM hm ad cI cZ (tk_up g 30 (upd (g 30) x0.toNatClampNeg 1))) H := hP
            have hD : va_D A (WM hm ad cI cZ (tk_up g 30 (upd (g 30) x0.toNatClampNeg 1))) := hD
            refine lv_aload_n hx hb dM_readCounter_141 rfl (lv_at hl 3 rfl) ?_
            refine va_get (D := D) (ci := 3) (v := .ref (ad 31)) (C := RM) (T := TM) (N := 33) hx hb hw inM hown hK hP 0 rfl rfl 31 (by decide) f101 (fun _ h9 => h9) rfl dM_readCounter_142 ?_
            refine lv_iload_n hx hb dM_readCounter_145 rfl (lv_at hl 4 rfl) ?_
            refine lv_iload hx hb dM_readCounter_146 (lv_at hl 0 rfl) ?_
            refine lv_if_eq (tgt := 155) hx hb dM_readCounter_148 (by decide) (fun _ => ?_) (fun h => absurd (by decide) h)
            refine lv_aload_n hx hb dM_readCounter_155 rfl (lv_at hl 3 rfl) ?_
            refine va_get (D := D) (ci := 3) (v := .ref (ad 31)) (C := RM) (T := TM) (N := 33) hx hb hw inM hown hK hP 0 rfl rfl 31 (by decide) f101 (fun _ h9 => h9) rfl dM_readCounter_156 ?_
            refine lv_iload_n hx hb dM_readCounter_159 rfl (lv_at hl 4 rfl) ?_
            refine tkld_31 hx hb hK hP hi0 dM_readCounter_160 ?_
            refine tkst_31 hx hb hK hP hD hS hi0 dM_readCounter_161 (fun H locs hP hD hS => ?_)
            have hP : va_P D vwCl (WM hm ad cI cZ (tk_up (tk_up g 30 (upd (g 30) x0.toNatClampNeg 1)) 31 (upd (g 31) x0.toNatClampNeg (g 31 x0.toNatClampNeg)))) H := hP
            have hD : va_D A (WM hm ad cI cZ (tk_up (tk_up g 30 (upd (g 30) x0.toNatClampNeg 1)) 31 (upd (g 31) x0.toNatClampNeg (g 31 x0.toNatClampNeg)))) := hD
            refine lv_iload_n hx hb dM_readCounter_162 rfl (lv_at hl 1 rfl) ?_
            refine lv_if_eq (tgt := 174) hx hb dM_readCounter_163 (by decide) (fun _ => ?_) (fun h => absurd (by decide) h)
            refine lv_iload_n hx hb dM_readCounter_174 rfl (lv_at hl 2 rfl) ?_
            refine lv_sipush (v := 256) hx hb dM_readCounter_175 (by decide) ?_
            refine lv_irem hx hb dM_readCounter_178 (by decide) ?_
            exact tk_iret hx hb hr hlk hP hD hS dM_readCounter_179 (by unfold tkM_readCounter_r; rw [if_pos h1_, if_neg h2_, if_neg h6_, if_pos h7_, if_pos h8_]) (congrArg (WM hm ad cI cZ) (by unfold tkM_readCounter_s; rw [if_pos h1_, if_neg h6_, if_pos h7_, if_pos h8_]))
          · refine lv_iconst (v := 1) hx hb dM_readCounter_79 (by decide) ?_
            refine lv_goto (tgt := 84) hx hb dM_readCounter_80 (by decide) ?_
            refine lv_istore_n hx hb dM_readCounter_84 rfl hl (by decide) rfl (fun ls hl => ?_)
            have hl : lv_has ls 5 [(3, .int 1), (2, .int (g 23 x0.toNatClampNeg)), (0, .ref hm), (1, .int x0)] := hl
            refine lv_aload_n hx hb dM_readCounter_85 rfl (lv_at hl 2 rfl) ?_
            refine va_get (D := D) (ci := 3) (v := .ref (ad 21)) (C := RM) (T := TM) (N := 33) hx hb hw inM hown hK hP 0 rfl rfl 21 (by decide) f71 (fun _ h9 => h9) rfl dM_readCounter_86 ?_
            refine lv_iload_n hx hb dM_readCounter_89 rfl (lv_at hl 3 rfl) ?_
            refine tkld_21 hx hb hK hP hi0 dM_readCounter_90 ?_
            refine lv_iconst (v := 3) hx hb dM_readCounter_91 (by decide) ?_
            refine lv_icmp_ne (tgt := 104) hx hb dM_readCounter_92 (by decide) (fun h => absurd h7_ h) (fun _ => ?_)
            refine lv_aload_n hx hb dM_readCounter_95 rfl (lv_at hl 2 rfl) ?_
            refine va_get (D := D) (ci := 3) (v := .ref (ad 30)) (C := RM) (T := TM) (N := 33) hx hb hw inM hown hK hP 0 rfl rfl 30 (by decide) f98 (fun _ h9 => h9) rfl dM_readCounter_96 ?_
            refine lv_iload_n hx hb dM_readCounter_99 rfl (lv_at hl 3 rfl) ?_
            refine tkld_30 hx hb hK hP hi0 dM_readCounter_100 ?_
            refine lv_if_eq (tgt := 108) hx hb dM_readCounter_101 (by decide) (fun h => absurd h h8_) (fun _ => ?_)
            refine lv_iconst (v := 1) hx hb dM_readCounter_104 (by decide) ?_
            refine lv_goto (tgt := 109) hx hb dM_readCounter_105 (by decide) ?_
            refine lv_istore hx hb dM_readCounter_109 hl (by decide) rfl (fun ls hl => ?_)
            have hl : lv_has ls 5 [(4, .int 1), (3, .int 1), (2, .int (g 23 x0.toNatClampNeg)), (0, .ref hm), (1, .int x0)] := hl
            refine lv_aload_n hx hb dM_readCounter_111 rfl (lv_at hl 3 rfl) ?_
            refine va_get (D := D) (ci := 3) (v := .ref (ad 30)) (C := RM) (T := TM) (N := 33) hx hb hw inM hown hK hP 0 rfl rfl 30 (by decide) f98 (fun _ h9 => h9) rfl dM_readCounter_112 ?_
            refine lv_iload_n hx hb dM_readCounter_115 rfl (lv_at hl 4 rfl) ?_
            refine lv_aload_n hx hb dM_readCounter_116 rfl (lv_at hl 3 rfl) ?_
            refine va_get (D := D) (ci := 3) (v := .ref (ad 21)) (C := RM) (T := TM) (N := 33) hx hb hw inM hown hK hP 0 rfl rfl 21 (by decide) f71 (fun _ h9 => h9) rfl dM_readCounter_117 ?_
            refine lv_iload_n hx hb dM_readCounter_120 rfl (lv_at hl 4 rfl) ?_
            refine tkld_21 hx hb hK hP hi0 dM_readCounter_121 ?_
            refine lv_iconst (v := 3) hx hb dM_readCounter_122 (by decide) ?_
            refine lv_icmp_ne (tgt := 139) hx hb dM_readCounter_123 (by decide) (fun h => absurd h7_ h) (fun _ => ?_)
            refine lv_aload_n hx hb dM_readCounter_126 rfl (lv_at hl 3 rfl) ?_
            refine va_get (D := D) (ci := 3) (v := .ref (ad 30)) (C := RM) (T := TM) (N := 33) hx hb hw inM hown hK hP 0 rfl rfl 30 (by decide) f98 (fun _ h9 => h9) rfl dM_readCounter_127 ?_
            refine lv_iload_n hx hb dM_readCounter_130 rfl (lv_at hl 4 rfl) ?_
            refine tkld_30 hx hb hK hP hi0 dM_readCounter_131 ?_
            refine lv_if_ne (tgt := 139) hx hb dM_readCounter_132 (by decide) (fun _ => ?_) (fun h => absurd h h8_)
            refine lv_iconst (v := 0) hx hb dM_readCounter_139 (by decide) ?_
            refine tkst_30 hx hb hK hP hD hS hi0 (x' := 0) rfl dM_readCounter_140 (fun H locs hP hD hS => ?_)
            have hP : va_P D vwCl (WM hm ad cI cZ (tk_up g 30 (upd (g 30) x0.toNatClampNeg 0))) H := hP
            have hD : va_D A (WM hm ad cI cZ (tk_up g 30 (upd (g 30) x0.toNatClampNeg 0))) := hD
            refine lv_aload_n hx hb dM_readCounter_141 rfl (lv_at hl 3 rfl) ?_
            refine va_get (D := D) (ci := 3) (v := .ref (ad 31)) (C := RM) (T := TM) (N := 33) hx hb hw inM hown hK hP 0 rfl rfl 31 (by decide) f101 (fun _ h9 => h9) rfl dM_readCounter_142 ?_
            refine lv_iload_n hx hb dM_readCounter_145 rfl (lv_at hl 4 rfl) ?_
            refine lv_iload hx hb dM_readCounter_146 (lv_at hl 0 rfl) ?_
            refine lv_if_eq (tgt := 155) hx hb dM_readCounter_148 (by decide) (fun h => absurd h (by decide)) (fun _ => ?_)
            refine lv_iconst (v := -1) hx hb dM_readCounter_151 (by decide) ?_
            refine lv_goto (tgt := 161) hx hb dM_readCounter_152 (by decide) ?_
            refine tkst_31 hx hb hK hP hD hS hi0 dM_readCounter_161 (fun H locs hP hD hS => ?_)
            have hP : va_P D vwCl (WM hm ad cI cZ (tk_up (tk_up g 30 (upd (g 30) x0.toNatClampNeg 0)) 31 (upd (g 31) x0.toNatClampNeg (-1)))) H := hP
            have hD : va_D A (WM hm ad cI cZ (tk_up (tk_up g 30 (upd (g 30) x0.toNatClampNeg 0)) 31 (upd (g 31) x0.toNatClampNeg (-1)))) := hD
            refine lv_iload_n hx hb dM_readCounter_162 rfl (lv_at hl 1 rfl) ?_
            refine lv_if_eq (tgt := 174) hx hb dM_readCounter_163 (by decide) (fun h => absurd h (by decide)) (fun _ => ?_)
            refine lv_iload_n hx hb dM_readCounter_166 rfl (lv_at hl 2 rfl) ?_
            refine lv_sipush (v := 256) hx hb dM_readCounter_167 (by decide) ?_
            refine lv_idiv hx hb dM_readCounter_170 (by decide) ?_
            refine lv_goto (tgt := 179) hx hb dM_readCounter_171 (by decide) ?_
            exact tk_iret hx hb hr hlk hP hD hS dM_readCounter_179 (by unfold tkM_readCounter_r; rw [if_pos h1_, if_neg h2_, if_neg h6_, if_pos h7_, if_neg h8_]) (congrArg (WM hm ad cI cZ) (by unfold tkM_readCounter_s; rw [if_pos h1_, if_neg h6_, if_pos h7_, if_neg h8_]))
  · refine lv_aload_n hx hb dM_readCounter_9 rfl (lv_at hl 0 rfl) ?_
    refine va_get (D := D) (ci := 3) (v := .ref (ad 32)) (C := RM) (T := TM) (N := 33) hx hb hw inM hown hK hP 0 rfl rfl 32 (by decide) f104 (fun _ h9 => h9) rfl dM_readCounter_10 ?_
    refine lv_iload_n hx hb dM_readCounter_13 rfl (lv_at hl 1 rfl) ?_
    refine tkld_32 hx hb hK hP hi0 dM_readCounter_14 ?_
    refine lv_istore_n hx hb dM_readCounter_15 rfl hl (by decide) rfl (fun ls hl => ?_)
    have hl : lv_has ls 5 [(2, .int (g 32 x0.toNatClampNeg)), (0, .ref hm), (1, .int x0)] := hl
    refine lv_aload_n hx hb dM_readCounter_16 rfl (lv_at hl 1 rfl) ?_
    refine va_get (D := D) (ci := 3) (v := .ref (ad 32)) (C := RM) (T := TM) (N := 33) hx hb hw inM hown hK hP 0 rfl rfl 32 (by decide) f104 (fun _ h9 => h9) rfl dM_readCounter_17 ?_
    refine lv_iload_n hx hb dM_readCounter_20 rfl (lv_at hl 2 rfl) ?_
    refine lv_iconst (v := -1) hx hb dM_readCounter_21 (by decide) ?_
    refine tkst_32 hx hb hK hP hD hS hi0 dM_readCounter_22 (fun H locs hP hD hS => ?_)
    have hP : va_P D vwCl (WM hm ad cI cZ (tk_up g 32 (upd (g 32) x0.toNatClampNeg (-1)))) H := hP
    have hD : va_D A (WM hm ad cI cZ (tk_up g 32 (upd (g 32) x0.toNatClampNeg (-1)))) := hD
    refine lv_iload_n hx hb dM_readCounter_23 rfl (lv_at hl 0 rfl) ?_
    exact tk_iret hx hb hr hlk hP hD hS dM_readCounter_24 (by unfold tkM_readCounter_r; rw [if_neg h1_]) (congrArg (WM hm ad cI cZ) (by unfold tkM_readCounter_s; rw [if_neg h1_]))
def tkM_turn_s (g : Nat → Nat → Int32) (x0 : Int32) : Nat → Nat → Int32 :=
  if g 19 x0.toNatClampNeg = 0 then (if ((g 22 x0.toNatClampNeg) + 1) / 2 = 0 then tk_up (tkM_put_s (tk_up g 19 (upd (upd (g 19) x0.toNatClampNeg 1) x0.toNatClampNeg 0)) x0 (2 * (((g 22 x0.toNatClampNeg) + 1) / 2))) 27 (upd ((tkM_put_s (tk_up g 19 (upd (upd (g 19) x0.toNatClampNeg 1) x0.toNatClampNeg 0)) x0 (2 * (((g 22 x0.toNatClampNeg) + 1) / 2))) 27) x0.toNatClampNeg 0)
    else tk_up (tkM_put_s (tk_up g 19 (upd (g 19) x0.toNatClampNeg 1)) x0 (2 * (((g 22 x0.toNatClampNeg) + 1) / 2))) 27 (upd ((tkM_put_s (tk_up g 19 (upd (g 19) x0.toNatClampNeg 1)) x0 (2 * (((g 22 x0.toNatClampNeg) + 1) / 2))) 27) x0.toNatClampNeg 0))
  else if (g 22 x0.toNatClampNeg) / 2 = 0 then tk_up (tkM_put_s (tk_up g 19 (upd (upd (g 19) x0.toNatClampNeg 0) x0.toNatClampNeg 1)) x0 (2 * (((g 22 x0.toNatClampNeg) + 1) / 2))) 27 (upd ((tkM_put_s (tk_up g 19 (upd (upd (g 19) x0.toNatClampNeg 0) x0.toNatClampNeg 1)) x0 (2 * (((g 22 x0.toNatClampNeg) + 1) / 2))) 27) x0.toNatClampNeg 0)
    else tk_up (tkM_put_s (tk_up g 19 (upd (g 19) x0.toNatClampNeg 0)) x0 (2 * ((g 22 x0.toNatClampNeg) / 2))) 27 (upd ((tkM_put_s (tk_up g 19 (upd (g 19) x0.toNatClampNeg 0)) x0 (2 * ((g 22 x0.toNatClampNeg) / 2))) 27) x0.toNatClampNeg 0)
set_option maxHeartbeats 1000000 in
set_option maxRecDepth 100000 in
theorem kM_turn (l : Launch) (D : va_G) (hm : Nat) (ad : Nat → Nat) (cI cZ : ClassId) (g : Nat → Nat → Int32) (x0 : Int32) (hi0 : vp_in x0 3) : tk_M l yM_turn wsM_turn { frames := 1, cells := 0, slots := 0, locals := 22 } D [(cI, .int), (cZ, .boolean)] [.ref hm, .int x0] (WM hm ad cI cZ g) (WM hm ad cI cZ (tkM_turn_s g x0)) none := by
  refine tk_M.of (cc := cM_turn) (maxL := 3) (ret := none) (by decide) rfl (Nat.le_of_ble_eq_true rfl) ?_
  intro p e s m below meth co A H locs ls hB hK hN hA hP hD hS hl
  obtain ⟨hx, hb, hr, hml, hown, hlk, hnm, hts⟩ := hB
  have hown : s.vm.findClass RM = some m.cls := hown
  have hl : lv_has ls 3 [(0, .ref hm), (1, .int x0)] := hl
  have hw : ∀ w ∈ tkWM, w.before _ s = true := fun w h => hts w (List.mem_cons_of_mem _ h)
  have f65 := hw _ wF_M_65
  have f74 := hw _ wF_M_74
  have f89 := hw _ wF_M_89
  refine lv_aload_n hx hb dM_turn_0 rfl (lv_at hl 0 rfl) ?_
  refine va_get (D := D) (ci := 3) (v := .ref (ad 19)) (C := RM) (T := TM) (N := 33) hx hb hw inM hown hK hP 0 rfl rfl 19 (by decide) f65 (fun _ h9 => h9) rfl dM_turn_1 ?_
  refine lv_iload_n hx hb dM_turn_4 rfl (lv_at hl 1 rfl) ?_
  refine lv_aload_n hx hb dM_turn_5 rfl (lv_at hl 0 rfl) ?_
  refine va_get (D := D) (ci := 3) (v := .ref (ad 19)) (C := RM) (T := TM) (N := 33) hx hb hw inM hown hK hP 0 rfl rfl 19 (by decide) f65 (fun _ h9 => h9) rfl dM_turn_6 ?_
  refine lv_iload_n hx hb dM_turn_9 rfl (lv_at hl 1 rfl) ?_
  refine tkld_19 hx hb hK hP hi0 dM_turn_10 ?_
  refine lv_if_ne (tgt := 18) hx hb dM_turn_11 (by decide) (fun (h1_ : ¬ (g 19 x0.toNatClampNeg = 0)) => ?_) (fun (h1_ : g 19 x0.toNatClampNeg = 0) => ?_)
  · refine lv_iconst (v := 0) hx hb dM_turn_18 (by decide) ?_
    refine tkst_19 hx hb hK hP hD hS hi0 (x' := 0) rfl dM_turn_19 (fun H locs hP hD hS => ?_)
    have hP : va_P D vwCl (WM hm ad cI cZ (tk_up g 19 (upd (g 19) x0.toNatClampNeg 0))) H := hP
    have hD : va_D A (WM hm ad cI cZ (tk_up g 19 (upd (g 19) x0.toNatClampNeg 0))) := hD
    refine lv_aload_n hx hb dM_turn_20 rfl (lv_at hl 0 rfl) ?_
    refine va_get (D := D) (ci := 3) (v := .ref (ad 19)) (C := RM) (T := TM) (N := 33) hx hb hw inM hown hK hP 0 rfl rfl 19 (by decide) f65 (fun _ h9 => h9) rfl dM_turn_21 ?_
    refine lv_iload_n hx hb dM_turn_24 rfl (lv_at hl 1 rfl) ?_
    refine tkld_19 hx hb hK hP hi0 dM_turn_25 ?_
    refine tk_top (tk_us (g 19) x0.toNatClampNeg 0) ?_
    refine lv_if_eq (tgt := 42) hx hb dM_turn_26 (by decide) (fun _ => ?_) (fun h => absurd (by decide) h)
    refine lv_aload_n hx hb dM_turn_42 rfl (lv_at hl 0 rfl) ?_
    refine va_get (D := D) (ci := 3) (v := .ref (ad 22)) (C := RM) (T := TM) (N := 33) hx hb hw inM hown hK hP 0 rfl rfl 22 (by decide) f74 (fun _ h9 => h9) rfl dM_turn_43 ?_
    refine lv_iload_n hx hb dM_turn_46 rfl (lv_at hl 1 rfl) ?_
    refine tkld_22 hx hb hK hP hi0 dM_turn_47 ?_
    refine lv_iconst (v := 2) hx hb dM_turn_48 (by decide) ?_
    refine lv_idiv hx hb dM_turn_49 (by decide) ?_
    refine lv_istore_n hx hb dM_turn_50 rfl hl (by decide) rfl (fun ls hl => ?_)
    have hl : lv_has ls 3 [(2, .int ((g 22 x0.toNatClampNeg) / 2)), (0, .ref hm), (1, .int x0)] := hl
    refine lv_iload_n hx hb dM_turn_51 rfl (lv_at hl 0 rfl) ?_
    refine lv_if_ne (tgt := 86) hx hb dM_turn_52 (by decide) (fun (h2_ : ¬ ((g 22 x0.toNatClampNeg) / 2 = 0)) => ?_) (fun (h2_ : (g 22 x0.toNatClampNeg) / 2 = 0) => ?_)
    · refine lv_aload_n hx hb dM_turn_86 rfl (lv_at hl 1 rfl) ?_
      refine lv_iload_n hx hb dM_turn_87 rfl (lv_at hl 2 rfl) ?_
      refine lv_iconst (v := 2) hx hb dM_turn_88 (by decide) ?_
      refine lv_iload_n hx hb dM_turn_89 rfl (lv_at hl 0 rfl) ?_
      refine lv_imul hx hb dM_turn_90 ?_
      refine tk_callA hD hS hA (va_runV (As := [.int x0, .int (2 * ((g 22 x0.toNatClampNeg) / 2))]) (rest := []) ⟨hx, hb, hml, hown, hw⟩ (kM_put l D hm ad cI cZ (tk_up g 19 (upd (g 19) x0.toNatClampNeg 0)) x0 (2 * ((g 22 x0.toNatClampNeg) / 2)) hi0 H.size) (cwV 2 hw (tk_gV tkWM_good wM_M_148 wI_M_put wS_M_put wZ_M wC_M_put) rfl rfl rfl (by decide +kernel) ⟨Nat.le_of_ble_eq_true rfl, Nat.le_of_ble_eq_true rfl⟩) (tk_preM hK hN hP hD) rfl rfl hl.1 rfl (lv_room (Nat.le_of_ble_eq_true rfl)) dM_turn_91 ⟨Nat.zero_le _, Nat.zero_le _⟩) (fun H locs hP hD hS => ?_)
      refine W.eq (g2 := F0 m 94 ls []) rfl ?_
      refine lv_aload_n hx hb dM_turn_94 rfl (lv_at hl 1 rfl) ?_
      refine va_get (D := D) (ci := 3) (v := .ref (ad 27)) (C := RM) (T := TM) (N := 33) hx hb hw inM hown hK hP 0 rfl rfl 27 (by decide) f89 (fun _ h9 => h9) rfl dM_turn_95 ?_
      refine lv_iload_n hx hb dM_turn_98 rfl (lv_at hl 2 rfl) ?_
      refine lv_iconst (v := 0) hx hb dM_turn_99 (by decide) ?_
      refine tkst_27 hx hb hK hP hD hS hi0 (x' := 0) rfl dM_turn_100 (fun H locs hP hD hS => ?_)
      have hP : va_P D vwCl (WM hm ad cI cZ (tk_up (tkM_put_s (tk_up g 19 (upd (g 19) x0.toNatClampNeg 0)) x0 (2 * ((g 22 x0.toNatClampNeg) / 2))) 27 (upd ((tkM_put_s (tk_up g 19 (upd (g 19) x0.toNatClampNeg 0)) x0 (2 * ((g 22 x0.toNatClampNeg) / 2))) 27) x0.toNatClampNeg 0))) H := hP
      have hD : va_D A (WM hm ad cI cZ (tk_up (tkM_put_s (tk_up g 19 (upd (g 19) x0.toNatClampNeg 0)) x0 (2 * ((g 22 x0.toNatClampNeg) / 2))) 27 (upd ((tkM_put_s (tk_up g 19 (upd (g 19) x0.toNatClampNeg 0)) x0 (2 * ((g 22 x0.toNatClampNeg) / 2))) 27) x0.toNatClampNeg 0))) := hD
      exact tk_vret hx hb hr hlk hP hD hS dM_turn_101 (congrArg (WM hm ad cI cZ) (by unfold tkM_turn_s; rw [if_neg h1_, if_neg h2_]))
    · refine lv_aload_n hx hb dM_turn_55 rfl (lv_at hl 1 rfl) ?_
      refine va_get (D := D) (ci := 3) (v := .ref (ad 19)) (C := RM) (T := TM) (N := 33) hx hb hw inM hown hK hP 0 rfl rfl 19 (by decide) f65 (fun _ h9 => h9) rfl dM_turn_56 ?_
      refine lv_iload_n hx hb dM_turn_59 rfl (lv_at hl 2 rfl) ?_
      refine lv_aload_n hx hb dM_turn_60 rfl (lv_at hl 1 rfl) ?_
      refine va_get (D := D) (ci := 3) (v := .ref (ad 19)) (C := RM) (T := TM) (N := 33) hx hb hw inM hown hK hP 0 rfl rfl 19 (by decide) f65 (fun _ h9 => h9) rfl dM_turn_61 ?_
      refine lv_iload_n hx hb dM_turn_64 rfl (lv_at hl 2 rfl) ?_
      refine tkld_19 hx hb hK hP hi0 dM_turn_65 ?_
      refine tk_top (tk_us (g 19) x0.toNatClampNeg 0) ?_
      refine lv_if_ne (tgt := 73) hx hb dM_turn_66 (by decide) (fun h => absurd (by decide) h) (fun _ => ?_)
      refine lv_iconst (v := 1) hx hb dM_turn_69 (by decide) ?_
      refine lv_goto (tgt := 74) hx hb dM_turn_70 (by decide) ?_
      refine tkst_19 hx hb hK hP hD hS hi0 (x' := 1) rfl dM_turn_74 (fun H locs hP hD hS => ?_)
      have hP : va_P D vwCl (WM hm ad cI cZ (tk_up g 19 (upd (upd (g 19) x0.toNatClampNeg 0) x0.toNatClampNeg 1))) H := hP
      have hD : va_D A (WM hm ad cI cZ (tk_up g 19 (upd (upd (g 19) x0.toNatClampNeg 0) x0.toNatClampNeg 1))) := hD
      refine lv_aload_n hx hb dM_turn_75 rfl (lv_at hl 1 rfl) ?_
      refine va_get (D := D) (ci := 3) (v := .ref (ad 22)) (C := RM) (T := TM) (N := 33) hx hb hw inM hown hK hP 0 rfl rfl 22 (by decide) f74 (fun _ h9 => h9) rfl dM_turn_76 ?_
      refine lv_iload_n hx hb dM_turn_79 rfl (lv_at hl 2 rfl) ?_
      refine tkld_22 hx hb hK hP hi0 dM_turn_80 ?_
      refine lv_iconst (v := 1) hx hb dM_turn_81 (by decide) ?_
      refine lv_iadd hx hb dM_turn_82 ?_
      refine lv_iconst (v := 2) hx hb dM_turn_83 (by decide) ?_
      refine lv_idiv hx hb dM_turn_84 (by decide) ?_
      refine lv_istore_n hx hb dM_turn_85 rfl hl (by decide) rfl (fun ls hl => ?_)
      have hl : lv_has ls 3 [(2, .int (((g 22 x0.toNatClampNeg) + 1) / 2)), (0, .ref hm), (1, .int x0)] := hl
      refine lv_aload_n hx hb dM_turn_86 rfl (lv_at hl 1 rfl) ?_
      refine lv_iload_n hx hb dM_turn_87 rfl (lv_at hl 2 rfl) ?_
      refine lv_iconst (v := 2) hx hb dM_turn_88 (by decide) ?_
      refine lv_iload_n hx hb dM_turn_89 rfl (lv_at hl 0 rfl) ?_
      refine lv_imul hx hb dM_turn_90 ?_
      refine tk_callA hD hS hA (va_runV (As := [.int x0, .int (2 * (((g 22 x0.toNatClampNeg) + 1) / 2))]) (rest := []) ⟨hx, hb, hml, hown, hw⟩ (kM_put l D hm ad cI cZ (tk_up g 19 (upd (upd (g 19) x0.toNatClampNeg 0) x0.toNatClampNeg 1)) x0 (2 * (((g 22 x0.toNatClampNeg) + 1) / 2)) hi0 H.size) (cwV 2 hw (tk_gV tkWM_good wM_M_148 wI_M_put wS_M_put wZ_M wC_M_put) rfl rfl rfl (by decide +kernel) ⟨Nat.le_of_ble_eq_true rfl, Nat.le_of_ble_eq_true rfl⟩) (tk_preM hK hN hP hD) rfl rfl hl.1 rfl (lv_room (Nat.le_of_ble_eq_true rfl)) dM_turn_91 ⟨Nat.zero_le _, Nat.zero_le _⟩) (fun H locs hP hD hS => ?_)
      refine W.eq (g2 := F0 m 94 ls []) rfl ?_
      refine lv_aload_n hx hb dM_turn_94 rfl (lv_at hl 1 rfl) ?_
      refine va_get (D := D) (ci := 3) (v := .ref (ad 27)) (C := RM) (T := TM) (N := 33) hx hb hw inM hown hK hP 0 rfl rfl 27 (by decide) f89 (fun _ h9 => h9) rfl dM_turn_95 ?_
      refine lv_iload_n hx hb dM_turn_98 rfl (lv_at hl 2 rfl) ?_
      refine lv_iconst (v := 0) hx hb dM_turn_99 (by decide) ?_
      refine tkst_27 hx hb hK hP hD hS hi0 (x' := 0) rfl dM_turn_100 (fun H locs hP hD hS => ?_)
      have hP : va_P D vwCl (WM hm ad cI cZ (tk_up (tkM_put_s (tk_up g 19 (upd (upd (g 19) x0.toNatClampNeg 0) x0.toNatClampNeg 1)) x0 (2 * (((g 22 x0.toNatClampNeg) + 1) / 2))) 27 (upd ((tkM_put_s (tk_up g 19 (upd (upd (g 19) x0.toNatClampNeg 0) x0.toNatClampNeg 1)) x0 (2 * (((g 22 x0.toNatClampNeg) + 1) / 2))) 27) x0.toNatClampNeg 0))) H := hP
      have hD : va_D A (WM hm ad cI cZ (tk_up (tkM_put_s (tk_up g 19 (upd (upd (g 19) x0.toNatClampNeg 0) x0.toNatClampNeg 1)) x0 (2 * (((g 22 x0.toNatClampNeg) + 1) / 2))) 27 (upd ((tkM_put_s (tk_up g 19 (upd (upd (g 19) x0.toNatClampNeg 0) x0.toNatClampNeg 1)) x0 (2 * (((g 22 x0.toNatClampNeg) + 1) / 2))) 27) x0.toNatClampNeg 0))) := hD
      exact tk_vret hx hb hr hlk hP hD hS dM_turn_101 (congrArg (WM hm ad cI cZ) (by unfold tkM_turn_s; rw [if_neg h1_, if_pos h2_]))
  · refine lv_iconst (v := 1) hx hb dM_turn_14 (by decide) ?_
    refine lv_goto (tgt := 19) hx hb dM_turn_15 (by decide) ?_
    refine tkst_19 hx hb hK hP hD hS hi0 (x' := 1) rfl dM_turn_19 (fun H locs hP hD hS => ?_)
    have hP : va_P D vwCl (WM hm ad cI cZ (tk_up g 19 (upd (g 19) x0.toNatClampNeg 1))) H := hP
    have hD : va_D A (WM hm ad cI cZ (tk_up g 19 (upd (g 19) x0.toNatClampNeg 1))) := hD
    refine lv_aload_n hx hb dM_turn_20 rfl (lv_at hl 0 rfl) ?_
    refine va_get (D := D) (ci := 3) (v := .ref (ad 19)) (C := RM) (T := TM) (N := 33) hx hb hw inM hown hK hP 0 rfl rfl 19 (by decide) f65 (fun _ h9 => h9) rfl dM_turn_21 ?_
    refine lv_iload_n hx hb dM_turn_24 rfl (lv_at hl 1 rfl) ?_
    refine tkld_19 hx hb hK hP hi0 dM_turn_25 ?_
    refine tk_top (tk_us (g 19) x0.toNatClampNeg 1) ?_
    refine lv_if_eq (tgt := 42) hx hb dM_turn_26 (by decide) (fun h => absurd h (by decide)) (fun _ => ?_)
    refine lv_aload_n hx hb dM_turn_29 rfl (lv_at hl 0 rfl) ?_
    refine va_get (D := D) (ci := 3) (v := .ref (ad 22)) (C := RM) (T := TM) (N := 33) hx hb hw inM hown hK hP 0 rfl rfl 22 (by decide) f74 (fun _ h9 => h9) rfl dM_turn_30 ?_
    refine lv_iload_n hx hb dM_turn_33 rfl (lv_at hl 1 rfl) ?_
    refine tkld_22 hx hb hK hP hi0 dM_turn_34 ?_
    refine lv_iconst (v := 1) hx hb dM_turn_35 (by decide) ?_
    refine lv_iadd hx hb dM_turn_36 ?_
    refine lv_iconst (v := 2) hx hb dM_turn_37 (by decide) ?_
    refine lv_idiv hx hb dM_turn_38 (by decide) ?_
    refine lv_goto (tgt := 50) hx hb dM_turn_39 (by decide) ?_
    refine lv_istore_n hx hb dM_turn_50 rfl hl (by decide) rfl (fun ls hl => ?_)
    have hl : lv_has ls 3 [(2, .int (((g 22 x0.toNatClampNeg) + 1) / 2)), (0, .ref hm), (1, .int x0)] := hl
    refine lv_iload_n hx hb dM_turn_51 rfl (lv_at hl 0 rfl) ?_
    refine lv_if_ne (tgt := 86) hx hb dM_turn_52 (by decide) (fun (h3_ : ¬ (((g 22 x0.toNatClampNeg) + 1) / 2 = 0)) => ?_) (fun (h3_ : ((g 22 x0.toNatClampNeg) + 1) / 2 = 0) => ?_)
    · refine lv_aload_n hx hb dM_turn_86 rfl (lv_at hl 1 rfl) ?_
      refine lv_iload_n hx hb dM_turn_87 rfl (lv_at hl 2 rfl) ?_
      refine lv_iconst (v := 2) hx hb dM_turn_88 (by decide) ?_
      refine lv_iload_n hx hb dM_turn_89 rfl (lv_at hl 0 rfl) ?_
      refine lv_imul hx hb dM_turn_90 ?_
      refine tk_callA hD hS hA (va_runV (As := [.int x0, .int (2 * (((g 22 x0.toNatClampNeg) + 1) / 2))]) (rest := []) ⟨hx, hb, hml, hown, hw⟩ (kM_put l D hm ad cI cZ (tk_up g 19 (upd (g 19) x0.toNatClampNeg 1)) x0 (2 * (((g 22 x0.toNatClampNeg) + 1) / 2)) hi0 H.size) (cwV 2 hw (tk_gV tkWM_good wM_M_148 wI_M_put wS_M_put wZ_M wC_M_put) rfl rfl rfl (by decide +kernel) ⟨Nat.le_of_ble_eq_true rfl, Nat.le_of_ble_eq_true rfl⟩) (tk_preM hK hN hP hD) rfl rfl hl.1 rfl (lv_room (Nat.le_of_ble_eq_true rfl)) dM_turn_91 ⟨Nat.zero_le _, Nat.zero_le _⟩) (fun H locs hP hD hS => ?_)
      refine W.eq (g2 := F0 m 94 ls []) rfl ?_
      refine lv_aload_n hx hb dM_turn_94 rfl (lv_at hl 1 rfl) ?_
      refine va_get (D := D) (ci := 3) (v := .ref (ad 27)) (C := RM) (T := TM) (N := 33) hx hb hw inM hown hK hP 0 rfl rfl 27 (by decide) f89 (fun _ h9 => h9) rfl dM_turn_95 ?_
      refine lv_iload_n hx hb dM_turn_98 rfl (lv_at hl 2 rfl) ?_
      refine lv_iconst (v := 0) hx hb dM_turn_99 (by decide) ?_
      refine tkst_27 hx hb hK hP hD hS hi0 (x' := 0) rfl dM_turn_100 (fun H locs hP hD hS => ?_)
      have hP : va_P D vwCl (WM hm ad cI cZ (tk_up (tkM_put_s (tk_up g 19 (upd (g 19) x0.toNatClampNeg 1)) x0 (2 * (((g 22 x0.toNatClampNeg) + 1) / 2))) 27 (upd ((tkM_put_s (tk_up g 19 (upd (g 19) x0.toNatClampNeg 1)) x0 (2 * (((g 22 x0.toNatClampNeg) + 1) / 2))) 27) x0.toNatClampNeg 0))) H := hP
      have hD : va_D A (WM hm ad cI cZ (tk_up (tkM_put_s (tk_up g 19 (upd (g 19) x0.toNatClampNeg 1)) x0 (2 * (((g 22 x0.toNatClampNeg) + 1) / 2))) 27 (upd ((tkM_put_s (tk_up g 19 (upd (g 19) x0.toNatClampNeg 1)) x0 (2 * (((g 22 x0.toNatClampNeg) + 1) / 2))) 27) x0.toNatClampNeg 0))) := hD
      exact tk_vret hx hb hr hlk hP hD hS dM_turn_101 (congrArg (WM hm ad cI cZ) (by unfold tkM_turn_s; rw [if_pos h1_, if_neg h3_]))
    · refine lv_aload_n hx hb dM_turn_55 rfl (lv_at hl 1 rfl) ?_
      refine va_get (D := D) (ci := 3) (v := .ref (ad 19)) (C := RM) (T := TM) (N := 33) hx hb hw inM hown hK hP 0 rfl rfl 19 (by decide) f65 (fun _ h9 => h9) rfl dM_turn_56 ?_
      refine lv_iload_n hx hb dM_turn_59 rfl (lv_at hl 2 rfl) ?_
      refine lv_aload_n hx hb dM_turn_60 rfl (lv_at hl 1 rfl) ?_
      refine va_get (D := D) (ci := 3) (v := .ref (ad 19)) (C := RM) (T := TM) (N := 33) hx hb hw inM hown hK hP 0 rfl rfl 19 (by decide) f65 (fun _ h9 => h9) rfl dM_turn_61 ?_
      refine lv_iload_n hx hb dM_turn_64 rfl (lv_at hl 2 rfl) ?_
      refine tkld_19 hx hb hK hP hi0 dM_turn_65 ?_
      refine tk_top (tk_us (g 19) x0.toNatClampNeg 1) ?_
      refine lv_if_ne (tgt := 73) hx hb dM_turn_66 (by decide) (fun _ => ?_) (fun h => absurd h (by decide))
      refine lv_iconst (v := 0) hx hb dM_turn_73 (by decide) ?_
      refine tkst_19 hx hb hK hP hD hS hi0 (x' := 0) rfl dM_turn_74 (fun H locs hP hD hS => ?_)
      have hP : va_P D vwCl (WM hm ad cI cZ (tk_up g 19 (upd (upd (g 19) x0.toNatClampNeg 1) x0.toNatClampNeg 0))) H := hP
      have hD : va_D A (WM hm ad cI cZ (tk_up g 19 (upd (upd (g 19) x0.toNatClampNeg 1) x0.toNatClampNeg 0))) := hD
      refine lv_aload_n hx hb dM_turn_75 rfl (lv_at hl 1 rfl) ?_
      refine va_get (D := D) (ci := 3) (v := .ref (ad 22)) (C := RM) (T := TM) (N := 33) hx hb hw inM hown hK hP 0 rfl rfl 22 (by decide) f74 (fun _ h9 => h9) rfl dM_turn_76 ?_
      refine lv_iload_n hx hb dM_turn_79 rfl (lv_at hl 2 rfl) ?_
      refine tkld_22 hx hb hK hP hi0 dM_turn_80 ?_
      refine lv_iconst (v := 1) hx hb dM_turn_81 (by decide) ?_
      refine lv_iadd hx hb dM_turn_82 ?_
      refine lv_iconst (v := 2) hx hb dM_turn_83 (by decide) ?_
      refine lv_idiv hx hb dM_turn_84 (by decide) ?_
      refine lv_istore_n hx hb dM_turn_85 rfl hl (by decide) rfl (fun ls hl => ?_)
      have hl : lv_has ls 3 [(2, .int (((g 22 x0.toNatClampNeg) + 1) / 2)), (0, .ref hm), (1, .int x0)] := hl
      refine lv_aload_n hx hb dM_turn_86 rfl (lv_at hl 1 rfl) ?_
      refine lv_iload_n hx hb dM_turn_87 rfl (lv_at hl 2 rfl) ?_
      refine lv_iconst (v := 2) hx hb dM_turn_88 (by decide) ?_
      refine lv_iload_n hx hb dM_turn_89 rfl (lv_at hl 0 rfl) ?_
      refine lv_imul hx hb dM_turn_90 ?_
      refine tk_callA hD hS hA (va_runV (As := [.int x0, .int (2 * (((g 22 x0.toNatClampNeg) + 1) / 2))]) (rest := []) ⟨hx, hb, hml, hown, hw⟩ (kM_put l D hm ad cI cZ (tk_up g 19 (upd (upd (g 19) x0.toNatClampNeg 1) x0.toNatClampNeg 0)) x0 (2 * (((g 22 x0.toNatClampNeg) + 1) / 2)) hi0 H.size) (cwV 2 hw (tk_gV tkWM_good wM_M_148 wI_M_put wS_M_put wZ_M wC_M_put) rfl rfl rfl (by decide +kernel) ⟨Nat.le_of_ble_eq_true rfl, Nat.le_of_ble_eq_true rfl⟩) (tk_preM hK hN hP hD) rfl rfl hl.1 rfl (lv_room (Nat.le_of_ble_eq_true rfl)) dM_turn_91 ⟨Nat.zero_le _, Nat.zero_le _⟩) (fun H locs hP hD hS => ?_)
      refine W.eq (g2 := F0 m 94 ls []) rfl ?_
      refine lv_aload_n hx hb dM_turn_94 rfl (lv_at hl 1 rfl) ?_
      refine va_get (D := D) (ci := 3) (v := .ref (ad 27)) (C := RM) (T := TM) (N := 33) hx hb hw inM hown hK hP 0 rfl rfl 27 (by decide) f89 (fun _ h9 => h9) rfl dM_turn_95 ?_
      refine lv_iload_n hx hb dM_turn_98 rfl (lv_at hl 2 rfl) ?_
      refine lv_iconst (v := 0) hx hb dM_turn_99 (by decide) ?_
      refine tkst_27 hx hb hK hP hD hS hi0 (x' := 0) rfl dM_turn_100 (fun H locs hP hD hS => ?_)
      have hP : va_P D vwCl (WM hm ad cI cZ (tk_up (tkM_put_s (tk_up g 19 (upd (upd (g 19) x0.toNatClampNeg 1) x0.toNatClampNeg 0)) x0 (2 * (((g 22 x0.toNatClampNeg) + 1) / 2))) 27 (upd ((tkM_put_s (tk_up g 19 (upd (upd (g 19) x0.toNatClampNeg 1) x0.toNatClampNeg 0)) x0 (2 * (((g 22 x0.toNatClampNeg) + 1) / 2))) 27) x0.toNatClampNeg 0))) H := hP
      have hD : va_D A (WM hm ad cI cZ (tk_up (tkM_put_s (tk_up g 19 (upd (upd (g 19) x0.toNatClampNeg 1) x0.toNatClampNeg 0)) x0 (2 * (((g 22 x0.toNatClampNeg) + 1) / 2))) 27 (upd ((tkM_put_s (tk_up g 19 (upd (upd (g 19) x0.toNatClampNeg 1) x0.toNatClampNeg 0)) x0 (2 * (((g 22 x0.toNatClampNeg) + 1) / 2))) 27) x0.toNatClampNeg 0))) := hD
      exact tk_vret hx hb hr hlk hP hD hS dM_turn_101 (congrArg (WM hm ad cI cZ) (by unfold tkM_turn_s; rw [if_pos h1_, if_pos h3_]))
def tkM_step_s (g : Nat → Nat → Int32) (x0 : Int32) : Nat → Nat → Int32 :=
  if 2 ≤ g 20 x0.toNatClampNeg then (if g 20 x0.toNatClampNeg = 2 then (if g 23 x0.toNatClampNeg = 1 then (if ((tkM_put_s g x0 (g 22 x0.toNatClampNeg)) 23) x0.toNatClampNeg = 1 then tk_up (tk_up (tkM_put_s g x0 (g 22 x0.toNatClampNeg)) 27 (upd ((tkM_put_s g x0 (g 22 x0.toNatClampNeg)) 27) x0.toNatClampNeg 0)) 19 (upd (upd ((tkM_put_s g x0 (g 22 x0.toNatClampNeg)) 19) x0.toNatClampNeg 1) x0.toNatClampNeg 0)
        else tk_up (tk_up (tkM_put_s g x0 (g 22 x0.toNatClampNeg)) 27 (upd ((tkM_put_s g x0 (g 22 x0.toNatClampNeg)) 27) x0.toNatClampNeg 0)) 19 (upd (upd ((tkM_put_s g x0 (g 22 x0.toNatClampNeg)) 19) x0.toNatClampNeg 1) x0.toNatClampNeg 1))
      else if ((tkM_put_s g x0 ((g 23 x0.toNatClampNeg) - 1)) 19) x0.toNatClampNeg = 0 then tk_up (tkM_put_s g x0 ((g 23 x0.toNatClampNeg) - 1)) 19 (upd ((tkM_put_s g x0 ((g 23 x0.toNatClampNeg) - 1)) 19) x0.toNatClampNeg 0)
        else if ((tkM_put_s g x0 ((g 23 x0.toNatClampNeg) - 1)) 23) x0.toNatClampNeg = 1 then tk_up (tkM_put_s g x0 ((g 23 x0.toNatClampNeg) - 1)) 19 (upd ((tkM_put_s g x0 ((g 23 x0.toNatClampNeg) - 1)) 19) x0.toNatClampNeg 0)
          else tk_up (tkM_put_s g x0 ((g 23 x0.toNatClampNeg) - 1)) 19 (upd ((tkM_put_s g x0 ((g 23 x0.toNatClampNeg) - 1)) 19) x0.toNatClampNeg 1))
    else if g 20 x0.toNatClampNeg = 3 then (if ((tkM_put_s g x0 ((g 23 x0.toNatClampNeg) - 2)) 23) x0.toNatClampNeg = 0 then tkM_turn_s (tkM_put_s g x0 ((g 23 x0.toNatClampNeg) - 2)) x0
        else tkM_put_s g x0 ((g 23 x0.toNatClampNeg) - 2))
      else if ((tkM_put_s g x0 ((g 23 x0.toNatClampNeg) - 1)) 23) x0.toNatClampNeg = 0 then tk_up (tkM_put_s g x0 ((g 23 x0.toNatClampNeg) - 1)) 19 (upd ((tkM_put_s g x0 ((g 23 x0.toNatClampNeg) - 1)) 19) x0.toNatClampNeg 0)
        else tk_up (tkM_put_s g x0 ((g 23 x0.toNatClampNeg) - 1)) 19 (upd ((tkM_put_s g x0 ((g 23 x0.toNatClampNeg) - 1)) 19) x0.toNatClampNeg 1))
  else if ((tkM_put_s g x0 ((g 23 x0.toNatClampNeg) - 1)) 19) x0.toNatClampNeg = 0 then (if ((tkM_put_s g x0 ((g 23 x0.toNatClampNeg) - 1)) 23) x0.toNatClampNeg = 0 then tk_up (tkM_put_s g x0 ((g 23 x0.toNatClampNeg) - 1)) 19 (upd ((tkM_put_s g x0 ((g 23 x0.toNatClampNeg) - 1)) 19) x0.toNatClampNeg 1)
      else tk_up (tkM_put_s g x0 ((g 23 x0.toNatClampNeg) - 1)) 19 (upd ((tkM_put_s g x0 ((g 23 x0.toNatClampNeg) - 1)) 19) x0.toNatClampNeg 0))
    else tk_up (tkM_put_s g x0 ((g 23 x0.toNatClampNeg) - 1)) 19 (upd ((tkM_put_s g x0 ((g 23 x0.toNatClampNeg) - 1)) 19) x0.toNatClampNeg 1)
set_option maxHeartbeats 1000000 in
set_option maxRecDepth 100000 in
theorem kM_step (l : Launch) (D : va_G) (hm : Nat) (ad : Nat → Nat) (cI cZ : ClassId) (g : Nat → Nat → Int32) (x0 : Int32) (hi0 : vp_in x0 3) : tk_M l yM_step wsM_step { frames := 2, cells := 0, slots := 0, locals := 44 } D [(cI, .int), (cZ, .boolean)] [.ref hm, .int x0] (WM hm ad cI cZ g) (WM hm ad cI cZ (tkM_step_s g x0)) none := by
  refine tk_M.of (cc := cM_step) (maxL := 3) (ret := none) (by decide) rfl (Nat.le_of_ble_eq_true rfl) ?_
  intro p e s m below meth co A H locs ls hB hK hN hA hP hD hS hl
  obtain ⟨hx, hb, hr, hml, hown, hlk, hnm, hts⟩ := hB
  have hown : s.vm.findClass RM = some m.cls := hown
  have hl : lv_has ls 3 [(0, .ref hm), (1, .int x0)] := hl
  have hw : ∀ w ∈ tkWM, w.before _ s = true := fun w h => hts w (List.mem_cons_of_mem _ h)
  have f68 := hw _ wF_M_68
  have f77 := hw _ wF_M_77
  have f65 := hw _ wF_M_65
  have f74 := hw _ wF_M_74
  have f89 := hw _ wF_M_89
  refine lv_aload_n hx hb dM_step_0 rfl (lv_at hl 0 rfl) ?_
  refine va_get (D := D) (ci := 3) (v := .ref (ad 20)) (C := RM) (T := TM) (N := 33) hx hb hw inM hown hK hP 0 rfl rfl 20 (by decide) f68 (fun _ h9 => h9) rfl dM_step_1 ?_
  refine lv_iload_n hx hb dM_step_4 rfl (lv_at hl 1 rfl) ?_
  refine tkld_20 hx hb hK hP hi0 dM_step_5 ?_
  refine lv_istore_n hx hb dM_step_6 rfl hl (by decide) rfl (fun ls hl => ?_)
  have hl : lv_has ls 3 [(2, .int (g 20 x0.toNatClampNeg)), (0, .ref hm), (1, .int x0)] := hl
  refine lv_iload_n hx hb dM_step_7 rfl (lv_at hl 0 rfl) ?_
  refine lv_iconst (v := 2) hx hb dM_step_8 (by decide) ?_
  refine lv_icmp_ge (tgt := 57) hx hb dM_step_9 (by decide) (fun (h1_ : 2 ≤ g 20 x0.toNatClampNeg) => ?_) (fun (h1_ : ¬ (2 ≤ g 20 x0.toNatClampNeg)) => ?_)
  · refine lv_iload_n hx hb dM_step_57 rfl (lv_at hl 0 rfl) ?_
    refine lv_iconst (v := 2) hx hb dM_step_58 (by decide) ?_
    refine lv_icmp_ne (tgt := 146) hx hb dM_step_59 (by decide) (fun (h2_ : ¬ (g 20 x0.toNatClampNeg = 2)) => ?_) (fun (h2_ : g 20 x0.toNatClampNeg = 2) => ?_)
    · refine lv_iload_n hx hb dM_step_146 rfl (lv_at hl 0 rfl) ?_
      refine lv_iconst (v := 3) hx hb dM_step_147 (by decide) ?_
      refine lv_icmp_ne (tgt := 181) hx hb dM_step_148 (by decide) (fun (h3_ : ¬ (g 20 x0.toNatClampNeg = 3)) => ?_) (fun (h3_ : g 20 x0.toNatClampNeg = 3) => ?_)
      · refine lv_aload_n hx hb dM_step_181 rfl (lv_at hl 1 rfl) ?_
        refine lv_iload_n hx hb dM_step_182 rfl (lv_at hl 2 rfl) ?_
        refine lv_aload_n hx hb dM_step_183 rfl (lv_at hl 1 rfl) ?_
        refine va_get (D := D) (ci := 3) (v := .ref (ad 23)) (C := RM) (T := TM) (N := 33) hx hb hw inM hown hK hP 0 rfl rfl 23 (by decide) f77 (fun _ h9 => h9) rfl dM_step_184 ?_
        refine lv_iload_n hx hb dM_step_187 rfl (lv_at hl 2 rfl) ?_
        refine tkld_23 hx hb hK hP hi0 dM_step_188 ?_
        refine lv_iconst (v := 1) hx hb dM_step_189 (by decide) ?_
        refine lv_isub hx hb dM_step_190 ?_
        refine tk_callA hD hS hA (va_runV (As := [.int x0, .int ((g 23 x0.toNatClampNeg) - 1)]) (rest := []) ⟨hx, hb, hml, hown, hw⟩ (kM_put l D hm ad cI cZ g x0 ((g 23 x0.toNatClampNeg) - 1) hi0 H.size) (cwV 2 hw (tk_gV tkWM_good wM_M_148 wI_M_put wS_M_put wZ_M wC_M_put) rfl rfl rfl (by decide +kernel) ⟨Nat.le_of_ble_eq_true rfl, Nat.le_of_ble_eq_true rfl⟩) (tk_preM hK hN hP hD) rfl rfl hl.1 rfl (lv_room (Nat.le_of_ble_eq_true rfl)) dM_step_191 ⟨Nat.zero_le _, Nat.zero_le _⟩) (fun H locs hP hD hS => ?_)
        refine W.eq (g2 := F0 m 194 ls []) rfl ?_
        refine lv_aload_n hx hb dM_step_194 rfl (lv_at hl 1 rfl) ?_
        refine va_get (D := D) (ci := 3) (v := .ref (ad 19)) (C := RM) (T := TM) (N := 33) hx hb hw inM hown hK hP 0 rfl rfl 19 (by decide) f65 (fun _ h9 => h9) rfl dM_step_195 ?_
        refine lv_iload_n hx hb dM_step_198 rfl (lv_at hl 2 rfl) ?_
        refine lv_aload_n hx hb dM_step_199 rfl (lv_at hl 1 rfl) ?_
        refine va_get (D := D) (ci := 3) (v := .ref (ad 23)) (C := RM) (T := TM) (N := 33) hx hb hw inM hown hK hP 0 rfl rfl 23 (by decide) f77 (fun _ h9 => h9) rfl dM_step_200 ?_
        refine lv_iload_n hx hb dM_step_203 rfl (lv_at hl 2 rfl) ?_
        refine tkld_23 hx hb hK hP hi0 dM_step_204 ?_
        refine lv_if_eq (tgt := 212) hx hb dM_step_205 (by decide) (fun (h4_ : ((tkM_put_s g x0 ((g 23 x0.toNatClampNeg) - 1)) 23) x0.toNatClampNeg = 0) => ?_) (fun (h4_ : ¬ (((tkM_put_s g x0 ((g 23 x0.toNatClampNeg) - 1)) 23) x0.toNatClampNeg = 0)) => ?_)
        · refine lv_iconst (v := 0) hx hb dM_step_212 (by decide) ?_
          refine tkst_19 hx hb hK hP hD hS hi0 (x' := 0) rfl dM_step_213 (fun H locs hP hD hS => ?_)
          have hP : va_P D vwCl (WM hm ad cI cZ (tk_up (tkM_put_s g x0 ((g 23 x0.toNatClampNeg) - 1)) 19 (upd ((tkM_put_s g x0 ((g 23 x0.toNatClampNeg) - 1)) 19) x0.toNatClampNeg 0))) H := hP
          have hD : va_D A (WM hm ad cI cZ (tk_up (tkM_put_s g x0 ((g 23 x0.toNatClampNeg) - 1)) 19 (upd ((tkM_put_s g x0 ((g 23 x0.toNatClampNeg) - 1)) 19) x0.toNatClampNeg 0))) := hD
          exact tk_vret hx hb hr hlk hP hD hS dM_step_214 (congrArg (WM hm ad cI cZ) (by unfold tkM_step_s; rw [if_pos h1_, if_neg h2_, if_neg h3_, if_pos h4_]))
        · refine lv_iconst (v := 1) hx hb dM_step_208 (by decide) ?_
          refine lv_goto (tgt := 213) hx hb dM_step_209 (by decide) ?_
          refine tkst_19 hx hb hK hP hD hS hi0 (x' := 1) rfl dM_step_213 (fun H locs hP hD hS => ?_)
          have hP : va_P D vwCl (WM hm ad cI cZ (tk_up (tkM_put_s g x0 ((g 23 x0.toNatClampNeg) - 1)) 19 (upd ((tkM_put_s g x0 ((g 23 x0.toNatClampNeg) - 1)) 19) x0.toNatClampNeg 1))) H := hP
          have hD : va_D A (WM hm ad cI cZ (tk_up (tkM_put_s g x0 ((g 23 x0.toNatClampNeg) - 1)) 19 (upd ((tkM_put_s g x0 ((g 23 x0.toNatClampNeg) - 1)) 19) x0.toNatClampNeg 1))) := hD
          exact tk_vret hx hb hr hlk hP hD hS dM_step_214 (congrArg (WM hm ad cI cZ) (by unfold tkM_step_s; rw [if_pos h1_, if_neg h2_, if_neg h3_, if_neg h4_]))
      · refine lv_aload_n hx hb dM_step_151 rfl (lv_at hl 1 rfl) ?_
        refine lv_iload_n hx hb dM_step_152 rfl (lv_at hl 2 rfl) ?_
        refine lv_aload_n hx hb dM_step_153 rfl (lv_at hl 1 rfl) ?_
        refine va_get (D := D) (ci := 3) (v := .ref (ad 23)) (C := RM) (T := TM) (N := 33) hx hb hw inM hown hK hP 0 rfl rfl 23 (by decide) f77 (fun _ h9 => h9) rfl dM_step_154 ?_
        refine lv_iload_n hx hb dM_step_157 rfl (lv_at hl 2 rfl) ?_
        refine tkld_23 hx hb hK hP hi0 dM_step_158 ?_
        refine lv_iconst (v := 2) hx hb dM_step_159 (by decide) ?_
        refine lv_isub hx hb dM_step_160 ?_
        refine tk_callA hD hS hA (va_runV (As := [.int x0, .int ((g 23 x0.toNatClampNeg) - 2)]) (rest := []) ⟨hx, hb, hml, hown, hw⟩ (kM_put l D hm ad cI cZ g x0 ((g 23 x0.toNatClampNeg) - 2) hi0 H.size) (cwV 2 hw (tk_gV tkWM_good wM_M_148 wI_M_put wS_M_put wZ_M wC_M_put) rfl rfl rfl (by decide +kernel) ⟨Nat.le_of_ble_eq_true rfl, Nat.le_of_ble_eq_true rfl⟩) (tk_preM hK hN hP hD) rfl rfl hl.1 rfl (lv_room (Nat.le_of_ble_eq_true rfl)) dM_step_161 ⟨Nat.zero_le _, Nat.zero_le _⟩) (fun H locs hP hD hS => ?_)
        refine W.eq (g2 := F0 m 164 ls []) rfl ?_
        refine lv_aload_n hx hb dM_step_164 rfl (lv_at hl 1 rfl) ?_
        refine va_get (D := D) (ci := 3) (v := .ref (ad 23)) (C := RM) (T := TM) (N := 33) hx hb hw inM hown hK hP 0 rfl rfl 23 (by decide) f77 (fun _ h9 => h9) rfl dM_step_165 ?_
        refine lv_iload_n hx hb dM_step_168 rfl (lv_at hl 2 rfl) ?_
        refine tkld_23 hx hb hK hP hi0 dM_step_169 ?_
        refine lv_if_ne (tgt := 214) hx hb dM_step_170 (by decide) (fun (h5_ : ¬ (((tkM_put_s g x0 ((g 23 x0.toNatClampNeg) - 2)) 23) x0.toNatClampNeg = 0)) => ?_) (fun (h5_ : ((tkM_put_s g x0 ((g 23 x0.toNatClampNeg) - 2)) 23) x0.toNatClampNeg = 0) => ?_)
        · exact tk_vret hx hb hr hlk hP hD hS dM_step_214 (congrArg (WM hm ad cI cZ) (by unfold tkM_step_s; rw [if_pos h1_, if_neg h2_, if_pos h3_, if_neg h5_]))
        · refine lv_aload_n hx hb dM_step_173 rfl (lv_at hl 1 rfl) ?_
          refine lv_iload_n hx hb dM_step_174 rfl (lv_at hl 2 rfl) ?_
          refine tk_callA hD hS hA (va_runV (As := [.int x0]) (rest := []) ⟨hx, hb, hml, hown, hw⟩ (kM_turn l D hm ad cI cZ (tkM_put_s g x0 ((g 23 x0.toNatClampNeg) - 2)) x0 hi0 H.size) (cwV 1 hw (tk_gV tkWM_good wM_M_151 wI_M_turn wS_M_turn wZ_M wC_M_turn) rfl rfl rfl (by decide +kernel) ⟨Nat.le_of_ble_eq_true rfl, Nat.le_of_ble_eq_true rfl⟩) (tk_preM hK hN hP hD) rfl rfl hl.1 rfl (lv_room (Nat.le_of_ble_eq_true rfl)) dM_step_175 ⟨Nat.zero_le _, Nat.zero_le _⟩) (fun H locs hP hD hS => ?_)
          refine W.eq (g2 := F0 m 178 ls []) rfl ?_
          refine lv_goto (tgt := 214) hx hb dM_step_178 (by decide) ?_
          exact tk_vret hx hb hr hlk hP hD hS dM_step_214 (congrArg (WM hm ad cI cZ) (by unfold tkM_step_s; rw [if_pos h1_, if_neg h2_, if_pos h3_, if_pos h5_]))
    · refine lv_aload_n hx hb dM_step_62 rfl (lv_at hl 1 rfl) ?_
      refine va_get (D := D) (ci := 3) (v := .ref (ad 23)) (C := RM) (T := TM) (N := 33) hx hb hw inM hown hK hP 0 rfl rfl 23 (by decide) f77 (fun _ h9 => h9) rfl dM_step_63 ?_
      refine lv_iload_n hx hb dM_step_66 rfl (lv_at hl 2 rfl) ?_
      refine tkld_23 hx hb hK hP hi0 dM_step_67 ?_
      refine lv_iconst (v := 1) hx hb dM_step_68 (by decide) ?_
      refine lv_icmp_ne (tgt := 100) hx hb dM_step_69 (by decide) (fun (h6_ : ¬ (g 23 x0.toNatClampNeg = 1)) => ?_) (fun (h6_ : g 23 x0.toNatClampNeg = 1) => ?_)
      · refine lv_aload_n hx hb dM_step_100 rfl (lv_at hl 1 rfl) ?_
        refine lv_iload_n hx hb dM_step_101 rfl (lv_at hl 2 rfl) ?_
        refine lv_aload_n hx hb dM_step_102 rfl (lv_at hl 1 rfl) ?_
        refine va_get (D := D) (ci := 3) (v := .ref (ad 23)) (C := RM) (T := TM) (N := 33) hx hb hw inM hown hK hP 0 rfl rfl 23 (by decide) f77 (fun _ h9 => h9) rfl dM_step_103 ?_
        refine lv_iload_n hx hb dM_step_106 rfl (lv_at hl 2 rfl) ?_
        refine tkld_23 hx hb hK hP hi0 dM_step_107 ?_
        refine lv_iconst (v := 1) hx hb dM_step_108 (by decide) ?_
        refine lv_isub hx hb dM_step_109 ?_
        refine tk_callA hD hS hA (va_runV (As := [.int x0, .int ((g 23 x0.toNatClampNeg) - 1)]) (rest := []) ⟨hx, hb, hml, hown, hw⟩ (kM_put l D hm ad cI cZ g x0 ((g 23 x0.toNatClampNeg) - 1) hi0 H.size) (cwV 2 hw (tk_gV tkWM_good wM_M_148 wI_M_put wS_M_put wZ_M wC_M_put) rfl rfl rfl (by decide +kernel) ⟨Nat.le_of_ble_eq_true rfl, Nat.le_of_ble_eq_true rfl⟩) (tk_preM hK hN hP hD) rfl rfl hl.1 rfl (lv_room (Nat.le_of_ble_eq_true rfl)) dM_step_110 ⟨Nat.zero_le _, Nat.zero_le _⟩) (fun H locs hP hD hS => ?_)
        refine W.eq (g2 := F0 m 113 ls []) rfl ?_
        refine lv_aload_n hx hb dM_step_113 rfl (lv_at hl 1 rfl) ?_
        refine va_get (D := D) (ci := 3) (v := .ref (ad 19)) (C := RM) (T := TM) (N := 33) hx hb hw inM hown hK hP 0 rfl rfl 19 (by decide) f65 (fun _ h9 => h9) rfl dM_step_114 ?_
        refine lv_iload_n hx hb dM_step_117 rfl (lv_at hl 2 rfl) ?_
        refine lv_aload_n hx hb dM_step_118 rfl (lv_at hl 1 rfl) ?_
        refine va_get (D := D) (ci := 3) (v := .ref (ad 19)) (C := RM) (T := TM) (N := 33) hx hb hw inM hown hK hP 0 rfl rfl 19 (by decide) f65 (fun _ h9 => h9) rfl dM_step_119 ?_
        refine lv_iload_n hx hb dM_step_122 rfl (lv_at hl 2 rfl) ?_
        refine tkld_19 hx hb hK hP hi0 dM_step_123 ?_
        refine lv_if_eq (tgt := 141) hx hb dM_step_124 (by decide) (fun (h7_ : ((tkM_put_s g x0 ((g 23 x0.toNatClampNeg) - 1)) 19) x0.toNatClampNeg = 0) => ?_) (fun (h7_ : ¬ (((tkM_put_s g x0 ((g 23 x0.toNatClampNeg) - 1)) 19) x0.toNatClampNeg = 0)) => ?_)
        · refine lv_iconst (v := 0) hx hb dM_step_141 (by decide) ?_
          refine tkst_19 hx hb hK hP hD hS hi0 (x' := 0) rfl dM_step_142 (fun H locs hP hD hS => ?_)
          have hP : va_P D vwCl (WM hm ad cI cZ (tk_up (tkM_put_s g x0 ((g 23 x0.toNatClampNeg) - 1)) 19 (upd ((tkM_put_s g x0 ((g 23 x0.toNatClampNeg) - 1)) 19) x0.toNatClampNeg 0))) H := hP
          have hD : va_D A (WM hm ad cI cZ (tk_up (tkM_put_s g x0 ((g 23 x0.toNatClampNeg) - 1)) 19 (upd ((tkM_put_s g x0 ((g 23 x0.toNatClampNeg) - 1)) 19) x0.toNatClampNeg 0))) := hD
          refine lv_goto (tgt := 214) hx hb dM_step_143 (by decide) ?_
          exact tk_vret hx hb hr hlk hP hD hS dM_step_214 (congrArg (WM hm ad cI cZ) (by unfold tkM_step_s; rw [if_pos h1_, if_pos h2_, if_neg h6_, if_pos h7_]))
        · refine lv_aload_n hx hb dM_step_127 rfl (lv_at hl 1 rfl) ?_
          refine va_get (D := D) (ci := 3) (v := .ref (ad 23)) (C := RM) (T := TM) (N := 33) hx hb hw inM hown hK hP 0 rfl rfl 23 (by decide) f77 (fun _ h9 => h9) rfl dM_step_128 ?_
          refine lv_iload_n hx hb dM_step_131 rfl (lv_at hl 2 rfl) ?_
          refine tkld_23 hx hb hK hP hi0 dM_step_132 ?_
          refine lv_iconst (v := 1) hx hb dM_step_133 (by decide) ?_
          refine lv_icmp_eq (tgt := 141) hx hb dM_step_134 (by decide) (fun (h8_ : ((tkM_put_s g x0 ((g 23 x0.toNatClampNeg) - 1)) 23) x0.toNatClampNeg = 1) => ?_) (fun (h8_ : ¬ (((tkM_put_s g x0 ((g 23 x0.toNatClampNeg) - 1)) 23) x0.toNatClampNeg = 1)) => ?_)
          · refine lv_iconst (v := 0) hx hb dM_step_141 (by decide) ?_
            refine tkst_19 hx hb hK hP hD hS hi0 (x' := 0) rfl dM_step_142 (fun H locs hP hD hS => ?_)
            have hP : va_P D vwCl (WM hm ad cI cZ (tk_up (tkM_put_s g x0 ((g 23 x0.toNatClampNeg) - 1)) 19 (upd ((tkM_put_s g x0 ((g 23 x0.toNatClampNeg) - 1)) 19) x0.toNatClampNeg 0))) H := hP
            have hD : va_D A (WM hm ad cI cZ (tk_up (tkM_put_s g x0 ((g 23 x0.toNatClampNeg) - 1)) 19 (upd ((tkM_put_s g x0 ((g 23 x0.toNatClampNeg) - 1)) 19) x0.toNatClampNeg 0))) := hD
            refine lv_goto (tgt := 214) hx hb dM_step_143 (by decide) ?_
            exact tk_vret hx hb hr hlk hP hD hS dM_step_214 (congrArg (WM hm ad cI cZ) (by unfold tkM_step_s; rw [if_pos h1_, if_pos h2_, if_neg h6_, if_neg h7_, if_pos h8_]))
          · refine lv_iconst (v := 1) hx hb dM_step_137 (by decide) ?_
            refine lv_goto (tgt := 142) hx hb dM_step_138 (by decide) ?_
            refine tkst_19 hx hb hK hP hD hS hi0 (x' := 1) rfl dM_step_142 (fun H locs hP hD hS => ?_)
            have hP : va_P D vwCl (WM hm ad cI cZ (tk_up (tkM_put_s g x0 ((g 23 x0.toNatClampNeg) - 1)) 19 (upd ((tkM_put_s g x0 ((g 23 x0.toNatClampNeg) - 1)) 19) x0.toNatClampNeg 1))) H := hP
            have hD : va_D A (WM hm ad cI cZ (tk_up (tkM_put_s g x0 ((g 23 x0.toNatClampNeg) - 1)) 19 (upd ((tkM_put_s g x0 ((g 23 x0.toNatClampNeg) - 1)) 19) x0.toNatClampNeg 1))) := hD
            refine lv_goto (tgt := 214) hx hb dM_step_143 (by decide) ?_
            exact tk_vret hx hb hr hlk hP hD hS dM_step_214 (congrArg (WM hm ad cI cZ) (by unfold tkM_step_s; rw [if_pos h1_, if_pos h2_, if_neg h6_, if_neg h7_, if_neg h8_]))
      · refine lv_aload_n hx hb dM_step_72 rfl (lv_at hl 1 rfl) ?_
        refine lv_iload_n hx hb dM_step_73 rfl (lv_at hl 2 rfl) ?_
        refine lv_aload_n hx hb dM_step_74 rfl (lv_at hl 1 rfl) ?_
        refine va_get (D := D) (ci := 3) (v := .ref (ad 22)) (C := RM) (T := TM) (N := 33) hx hb hw inM hown hK hP 0 rfl rfl 22 (by decide) f74 (fun _ h9 => h9) rfl dM_step_75 ?_
        refine lv_iload_n hx hb dM_step_78 rfl (lv_at hl 2 rfl) ?_
        refine tkld_22 hx hb hK hP hi0 dM_step_79 ?_
        refine tk_callA hD hS hA (va_runV (As := [.int x0, .int (g 22 x0.toNatClampNeg)]) (rest := []) ⟨hx, hb, hml, hown, hw⟩ (kM_put l D hm ad cI cZ g x0 (g 22 x0.toNatClampNeg) hi0 H.size) (cwV 2 hw (tk_gV tkWM_good wM_M_148 wI_M_put wS_M_put wZ_M wC_M_put) rfl rfl rfl (by decide +kernel) ⟨Nat.le_of_ble_eq_true rfl, Nat.le_of_ble_eq_true rfl⟩) (tk_preM hK hN hP hD) rfl rfl hl.1 rfl (lv_room (Nat.le_of_ble_eq_true rfl)) dM_step_80 ⟨Nat.zero_le _, Nat.zero_le _⟩) (fun H locs hP hD hS => ?_)
        refine W.eq (g2 := F0 m 83 ls []) rfl ?_
        refine lv_aload_n hx hb dM_step_83 rfl (lv_at hl 1 rfl) ?_
        refine va_get (D := D) (ci := 3) (v := .ref (ad 27)) (C := RM) (T := TM) (N := 33) hx hb hw inM hown hK hP 0 rfl rfl 27 (by decide) f89 (fun _ h9 => h9) rfl dM_step_84 ?_
        refine lv_iload_n hx hb dM_step_87 rfl (lv_at hl 2 rfl) ?_
        refine lv_iconst (v := 0) hx hb dM_step_88 (by decide) ?_
        refine tkst_27 hx hb hK hP hD hS hi0 (x' := 0) rfl dM_step_89 (fun H locs hP hD hS => ?_)
        have hP : va_P D vwCl (WM hm ad cI cZ (tk_up (tkM_put_s g x0 (g 22 x0.toNatClampNeg)) 27 (upd ((tkM_put_s g x0 (g 22 x0.toNatClampNeg)) 27) x0.toNatClampNeg 0))) H := hP
        have hD : va_D A (WM hm ad cI cZ (tk_up (tkM_put_s g x0 (g 22 x0.toNatClampNeg)) 27 (upd ((tkM_put_s g x0 (g 22 x0.toNatClampNeg)) 27) x0.toNatClampNeg 0))) := hD
        refine lv_aload_n hx hb dM_step_90 rfl (lv_at hl 1 rfl) ?_
        refine va_get (D := D) (ci := 3) (v := .ref (ad 19)) (C := RM) (T := TM) (N := 33) hx hb hw inM hown hK hP 0 rfl rfl 19 (by decide) f65 (fun _ h9 => h9) rfl dM_step_91 ?_
        refine lv_iload_n hx hb dM_step_94 rfl (lv_at hl 2 rfl) ?_
        refine lv_iconst (v := 1) hx hb dM_step_95 (by decide) ?_
        refine tkst_19 hx hb hK hP hD hS hi0 (x' := 1) rfl dM_step_96 (fun H locs hP hD hS => ?_)
        have hP : va_P D vwCl (WM hm ad cI cZ (tk_up (tk_up (tkM_put_s g x0 (g 22 x0.toNatClampNeg)) 27 (upd ((tkM_put_s g x0 (g 22 x0.toNatClampNeg)) 27) x0.toNatClampNeg 0)) 19 (upd ((tkM_put_s g x0 (g 22 x0.toNatClampNeg)) 19) x0.toNatClampNeg 1))) H := hP
        have hD : va_D A (WM hm ad cI cZ (tk_up (tk_up (tkM_put_s g x0 (g 22 x0.toNatClampNeg)) 27 (upd ((tkM_put_s g x0 (g 22 x0.toNatClampNeg)) 27) x0.toNatClampNeg 0)) 19 (upd ((tkM_put_s g x0 (g 22 x0.toNatClampNeg)) 19) x0.toNatClampNeg 1))) := hD
        refine lv_goto (tgt := 113) hx hb dM_step_97 (by decide) ?_
        refine lv_aload_n hx hb dM_step_113 rfl (lv_at hl 1 rfl) ?_
        refine va_get (D := D) (ci := 3) (v := .ref (ad 19)) (C := RM) (T := TM) (N := 33) hx hb hw inM hown hK hP 0 rfl rfl 19 (by decide) f65 (fun _ h9 => h9) rfl dM_step_114 ?_
        refine lv_iload_n hx hb dM_step_117 rfl (lv_at hl 2 rfl) ?_
        refine lv_aload_n hx hb dM_step_118 rfl (lv_at hl 1 rfl) ?_
        refine va_get (D := D) (ci := 3) (v := .ref (ad 19)) (C := RM) (T := TM) (N := 33) hx hb hw inM hown hK hP 0 rfl rfl 19 (by decide) f65 (fun _ h9 => h9) rfl dM_step_119 ?_
        refine lv_iload_n hx hb dM_step_122 rfl (lv_at hl 2 rfl) ?_
        refine tkld_19 hx hb hK hP hi0 dM_step_123 ?_
        refine tk_top (tk_us ((tkM_put_s g x0 (g 22 x0.toNatClampNeg)) 19) x0.toNatClampNeg 1) ?_
        refine lv_if_eq (tgt := 141) hx hb dM_step_124 (by decide) (fun h => absurd h (by decide)) (fun _ => ?_)
        refine lv_aload_n hx hb dM_step_127 rfl (lv_at hl 1 rfl) ?_
        refine va_get (D := D) (ci := 3) (v := .ref (ad 23)) (C := RM) (T := TM) (N := 33) hx hb hw inM hown hK hP 0 rfl rfl 23 (by decide) f77 (fun _ h9 => h9) rfl dM_step_128 ?_
        refine lv_iload_n hx hb dM_step_131 rfl (lv_at hl 2 rfl) ?_
        refine tkld_23 hx hb hK hP hi0 dM_step_132 ?_
        refine lv_iconst (v := 1) hx hb dM_step_133 (by decide) ?_
        refine lv_icmp_eq (tgt := 141) hx hb dM_step_134 (by decide) (fun (h9_ : ((tkM_put_s g x0 (g 22 x0.toNatClampNeg)) 23) x0.toNatClampNeg = 1) => ?_) (fun (h9_ : ¬ (((tkM_put_s g x0 (g 22 x0.toNatClampNeg)) 23) x0.toNatClampNeg = 1)) => ?_)
        · refine lv_iconst (v := 0) hx hb dM_step_141 (by decide) ?_
          refine tkst_19 hx hb hK hP hD hS hi0 (x' := 0) rfl dM_step_142 (fun H locs hP hD hS => ?_)
          have hP : va_P D vwCl (WM hm ad cI cZ (tk_up (tk_up (tkM_put_s g x0 (g 22 x0.toNatClampNeg)) 27 (upd ((tkM_put_s g x0 (g 22 x0.toNatClampNeg)) 27) x0.toNatClampNeg 0)) 19 (upd (upd ((tkM_put_s g x0 (g 22 x0.toNatClampNeg)) 19) x0.toNatClampNeg 1) x0.toNatClampNeg 0))) H := hP
          have hD : va_D A (WM hm ad cI cZ (tk_up (tk_up (tkM_put_s g x0 (g 22 x0.toNatClampNeg)) 27 (upd ((tkM_put_s g x0 (g 22 x0.toNatClampNeg)) 27) x0.toNatClampNeg 0)) 19 (upd (upd ((tkM_put_s g x0 (g 22 x0.toNatClampNeg)) 19) x0.toNatClampNeg 1) x0.toNatClampNeg 0))) := hD
          refine lv_goto (tgt := 214) hx hb dM_step_143 (by decide) ?_
          exact tk_vret hx hb hr hlk hP hD hS dM_step_214 (congrArg (WM hm ad cI cZ) (by unfold tkM_step_s; rw [if_pos h1_, if_pos h2_, if_pos h6_, if_pos h9_]))
        · refine lv_iconst (v := 1) hx hb dM_step_137 (by decide) ?_
          refine lv_goto (tgt := 142) hx hb dM_step_138 (by decide) ?_
          refine tkst_19 hx hb hK hP hD hS hi0 (x' := 1) rfl dM_step_142 (fun H locs hP hD hS => ?_)
          have hP : va_P D vwCl (WM hm ad cI cZ (tk_up (tk_up (tkM_put_s g x0 (g 22 x0.toNatClampNeg)) 27 (upd ((tkM_put_s g x0 (g 22 x0.toNatClampNeg)) 27) x0.toNatClampNeg 0)) 19 (upd (upd ((tkM_put_s g x0 (g 22 x0.toNatClampNeg)) 19) x0.toNatClampNeg 1) x0.toNatClampNeg 1))) H := hP
          have hD : va_D A (WM hm ad cI cZ (tk_up (tk_up (tkM_put_s g x0 (g 22 x0.toNatClampNeg)) 27 (upd ((tkM_put_s g x0 (g 22 x0.toNatClampNeg)) 27) x0.toNatClampNeg 0)) 19 (upd (upd ((tkM_put_s g x0 (g 22 x0.toNatClampNeg)) 19) x0.toNatClampNeg 1) x0.toNatClampNeg 1))) := hD
          refine lv_goto (tgt := 214) hx hb dM_step_143 (by decide) ?_
          exact tk_vret hx hb hr hlk hP hD hS dM_step_214 (congrArg (WM hm ad cI cZ) (by unfold tkM_step_s; rw [if_pos h1_, if_pos h2_, if_pos h6_, if_neg h9_]))
  · refine lv_aload_n hx hb dM_step_12 rfl (lv_at hl 1 rfl) ?_
    refine lv_iload_n hx hb dM_step_13 rfl (lv_at hl 2 rfl) ?_
    refine lv_aload_n hx hb dM_step_14 rfl (lv_at hl 1 rfl) ?_
    refine va_get (D := D) (ci := 3) (v := .ref (ad 23)) (C := RM) (T := TM) (N := 33) hx hb hw inM hown hK hP 0 rfl rfl 23 (by decide) f77 (fun _ h9 => h9) rfl dM_step_15 ?_
    refine lv_iload_n hx hb dM_step_18 rfl (lv_at hl 2 rfl) ?_
    refine tkld_23 hx hb hK hP hi0 dM_step_19 ?_
    refine lv_iconst (v := 1) hx hb dM_step_20 (by decide) ?_
    refine lv_isub hx hb dM_step_21 ?_
    refine tk_callA hD hS hA (va_runV (As := [.int x0, .int ((g 23 x0.toNatClampNeg) - 1)]) (rest := []) ⟨hx, hb, hml, hown, hw⟩ (kM_put l D hm ad cI cZ g x0 ((g 23 x0.toNatClampNeg) - 1) hi0 H.size) (cwV 2 hw (tk_gV tkWM_good wM_M_148 wI_M_put wS_M_put wZ_M wC_M_put) rfl rfl rfl (by decide +kernel) ⟨Nat.le_of_ble_eq_true rfl, Nat.le_of_ble_eq_true rfl⟩) (tk_preM hK hN hP hD) rfl rfl hl.1 rfl (lv_room (Nat.le_of_ble_eq_true rfl)) dM_step_22 ⟨Nat.zero_le _, Nat.zero_le _⟩) (fun H locs hP hD hS => ?_)
    refine W.eq (g2 := F0 m 25 ls []) rfl ?_
    refine lv_aload_n hx hb dM_step_25 rfl (lv_at hl 1 rfl) ?_
    refine va_get (D := D) (ci := 3) (v := .ref (ad 19)) (C := RM) (T := TM) (N := 33) hx hb hw inM hown hK hP 0 rfl rfl 19 (by decide) f65 (fun _ h9 => h9) rfl dM_step_26 ?_
    refine lv_iload_n hx hb dM_step_29 rfl (lv_at hl 2 rfl) ?_
    refine lv_aload_n hx hb dM_step_30 rfl (lv_at hl 1 rfl) ?_
    refine va_get (D := D) (ci := 3) (v := .ref (ad 19)) (C := RM) (T := TM) (N := 33) hx hb hw inM hown hK hP 0 rfl rfl 19 (by decide) f65 (fun _ h9 => h9) rfl dM_step_31 ?_
    refine lv_iload_n hx hb dM_step_34 rfl (lv_at hl 2 rfl) ?_
    refine tkld_19 hx hb hK hP hi0 dM_step_35 ?_
    refine lv_if_ne (tgt := 48) hx hb dM_step_36 (by decide) (fun (h10_ : ¬ (((tkM_put_s g x0 ((g 23 x0.toNatClampNeg) - 1)) 19) x0.toNatClampNeg = 0)) => ?_) (fun (h10_ : ((tkM_put_s g x0 ((g 23 x0.toNatClampNeg) - 1)) 19) x0.toNatClampNeg = 0) => ?_)
    · refine lv_iconst (v := 1) hx hb dM_step_48 (by decide) ?_
      refine lv_goto (tgt := 53) hx hb dM_step_49 (by decide) ?_
      refine tkst_19 hx hb hK hP hD hS hi0 (x' := 1) rfl dM_step_53 (fun H locs hP hD hS => ?_)
      have hP : va_P D vwCl (WM hm ad cI cZ (tk_up (tkM_put_s g x0 ((g 23 x0.toNatClampNeg) - 1)) 19 (upd ((tkM_put_s g x0 ((g 23 x0.toNatClampNeg) - 1)) 19) x0.toNatClampNeg 1))) H := hP
      have hD : va_D A (WM hm ad cI cZ (tk_up (tkM_put_s g x0 ((g 23 x0.toNatClampNeg) - 1)) 19 (upd ((tkM_put_s g x0 ((g 23 x0.toNatClampNeg) - 1)) 19) x0.toNatClampNeg 1))) := hD
      refine lv_goto (tgt := 214) hx hb dM_step_54 (by decide) ?_
      exact tk_vret hx hb hr hlk hP hD hS dM_step_214 (congrArg (WM hm ad cI cZ) (by unfold tkM_step_s; rw [if_neg h1_, if_neg h10_]))
    · refine lv_aload_n hx hb dM_step_39 rfl (lv_at hl 1 rfl) ?_
      refine va_get (D := D) (ci := 3) (v := .ref (ad 23)) (C := RM) (T := TM) (N := 33) hx hb hw inM hown hK hP 0 rfl rfl 23 (by decide) f77 (fun _ h9 => h9) rfl dM_step_40 ?_
      refine lv_iload_n hx hb dM_step_43 rfl (lv_at hl 2 rfl) ?_
      refine tkld_23 hx hb hK hP hi0 dM_step_44 ?_
      refine lv_if_ne (tgt := 52) hx hb dM_step_45 (by decide) (fun (h11_ : ¬ (((tkM_put_s g x0 ((g 23 x0.toNatClampNeg) - 1)) 23) x0.toNatClampNeg = 0)) => ?_) (fun (h11_ : ((tkM_put_s g x0 ((g 23 x0.toNatClampNeg) - 1)) 23) x0.toNatClampNeg = 0) => ?_)
      · refine lv_iconst (v := 0) hx hb dM_step_52 (by decide) ?_
        refine tkst_19 hx hb hK hP hD hS hi0 (x' := 0) rfl dM_step_53 (fun H locs hP hD hS => ?_)
        have hP : va_P D vwCl (WM hm ad cI cZ (tk_up (tkM_put_s g x0 ((g 23 x0.toNatClampNeg) - 1)) 19 (upd ((tkM_put_s g x0 ((g 23 x0.toNatClampNeg) - 1)) 19) x0.toNatClampNeg 0))) H := hP
        have hD : va_D A (WM hm ad cI cZ (tk_up (tkM_put_s g x0 ((g 23 x0.toNatClampNeg) - 1)) 19 (upd ((tkM_put_s g x0 ((g 23 x0.toNatClampNeg) - 1)) 19) x0.toNatClampNeg 0))) := hD
        refine lv_goto (tgt := 214) hx hb dM_step_54 (by decide) ?_
        exact tk_vret hx hb hr hlk hP hD hS dM_step_214 (congrArg (WM hm ad cI cZ) (by unfold tkM_step_s; rw [if_neg h1_, if_pos h10_, if_neg h11_]))
      · refine lv_iconst (v := 1) hx hb dM_step_48 (by decide) ?_
        refine lv_goto (tgt := 53) hx hb dM_step_49 (by decide) ?_
        refine tkst_19 hx hb hK hP hD hS hi0 (x' := 1) rfl dM_step_53 (fun H locs hP hD hS => ?_)
        have hP : va_P D vwCl (WM hm ad cI cZ (tk_up (tkM_put_s g x0 ((g 23 x0.toNatClampNeg) - 1)) 19 (upd ((tkM_put_s g x0 ((g 23 x0.toNatClampNeg) - 1)) 19) x0.toNatClampNeg 1))) H := hP
        have hD : va_D A (WM hm ad cI cZ (tk_up (tkM_put_s g x0 ((g 23 x0.toNatClampNeg) - 1)) 19 (upd ((tkM_put_s g x0 ((g 23 x0.toNatClampNeg) - 1)) 19) x0.toNatClampNeg 1))) := hD
        refine lv_goto (tgt := 214) hx hb dM_step_54 (by decide) ?_
        exact tk_vret hx hb hr hlk hP hD hS dM_step_214 (congrArg (WM hm ad cI cZ) (by unfold tkM_step_s; rw [if_neg h1_, if_pos h10_, if_pos h11_]))
def tkM_tickOne_s (g : Nat → Nat → Int32) (x0 : Int32) : Nat → Nat → Int32 :=
  if g 20 x0.toNatClampNeg < 0 then g
  else if g 22 x0.toNatClampNeg = 0 then g
    else if g 26 x0.toNatClampNeg = 0 then (if g 25 x0.toNatClampNeg = 0 then (if g 24 x0.toNatClampNeg = 0 then g
          else if g 18 x0.toNatClampNeg = 0 then (if g 20 x0.toNatClampNeg = 1 then tkM_step_s g x0
              else if g 20 x0.toNatClampNeg = 5 then tkM_step_s g x0
                else g)
            else tkM_step_s g x0)
        else if g 20 x0.toNatClampNeg = 3 then tk_up (tk_up (tk_up (tk_up (tkM_put_s g x0 (2 * (((g 22 x0.toNatClampNeg) + 1) / 2))) 25 (upd ((tkM_put_s g x0 (2 * (((g 22 x0.toNatClampNeg) + 1) / 2))) 25) x0.toNatClampNeg 0)) 24 (upd ((tkM_put_s g x0 (2 * (((g 22 x0.toNatClampNeg) + 1) / 2))) 24) x0.toNatClampNeg 1)) 27 (upd ((tkM_put_s g x0 (2 * (((g 22 x0.toNatClampNeg) + 1) / 2))) 27) x0.toNatClampNeg 0)) 19 (upd ((tkM_put_s g x0 (2 * (((g 22 x0.toNatClampNeg) + 1) / 2))) 19) x0.toNatClampNeg 1)
          else if g 20 x0.toNatClampNeg = 2 then tk_up (tk_up (tk_up (tk_up (tkM_put_s g x0 (g 22 x0.toNatClampNeg)) 25 (upd ((tkM_put_s g x0 (g 22 x0.toNatClampNeg)) 25) x0.toNatClampNeg 0)) 24 (upd ((tkM_put_s g x0 (g 22 x0.toNatClampNeg)) 24) x0.toNatClampNeg 1)) 27 (upd ((tkM_put_s g x0 (g 22 x0.toNatClampNeg)) 27) x0.toNatClampNeg 0)) 19 (upd ((tkM_put_s g x0 (g 22 x0.toNatClampNeg)) 19) x0.toNatClampNeg 1)
            else if g 20 x0.toNatClampNeg = 1 then tk_up (tk_up (tk_up (tk_up (tkM_put_s g x0 (g 22 x0.toNatClampNeg)) 25 (upd ((tkM_put_s g x0 (g 22 x0.toNatClampNeg)) 25) x0.toNatClampNeg 0)) 24 (upd ((tkM_put_s g x0 (g 22 x0.toNatClampNeg)) 24) x0.toNatClampNeg 1)) 27 (upd ((tkM_put_s g x0 (g 22 x0.toNatClampNeg)) 27) x0.toNatClampNeg 0)) 19 (upd ((tkM_put_s g x0 (g 22 x0.toNatClampNeg)) 19) x0.toNatClampNeg 0)
              else if ((tkM_put_s g x0 (g 22 x0.toNatClampNeg)) 19) x0.toNatClampNeg = 0 then tk_up (tk_up (tk_up (tk_up (tkM_put_s g x0 (g 22 x0.toNatClampNeg)) 25 (upd ((tkM_put_s g x0 (g 22 x0.toNatClampNeg)) 25) x0.toNatClampNeg 0)) 24 (upd ((tkM_put_s g x0 (g 22 x0.toNatClampNeg)) 24) x0.toNatClampNeg 1)) 27 (upd ((tkM_put_s g x0 (g 22 x0.toNatClampNeg)) 27) x0.toNatClampNeg 0)) 19 (upd ((tkM_put_s g x0 (g 22 x0.toNatClampNeg)) 19) x0.toNatClampNeg 0)
                else tk_up (tk_up (tk_up (tk_up (tkM_put_s g x0 (g 22 x0.toNatClampNeg)) 25 (upd ((tkM_put_s g x0 (g 22 x0.toNatClampNeg)) 25) x0.toNatClampNeg 0)) 24 (upd ((tkM_put_s g x0 (g 22 x0.toNatClampNeg)) 24) x0.toNatClampNeg 1)) 27 (upd ((tkM_put_s g x0 (g 22 x0.toNatClampNeg)) 27) x0.toNatClampNeg 0)) 19 (upd ((tkM_put_s g x0 (g 22 x0.toNatClampNeg)) 19) x0.toNatClampNeg 1))
      else g
set_option maxHeartbeats 1000000 in
set_option maxRecDepth 100000 in
theorem kM_tickOne (l : Launch) (D : va_G) (hm : Nat) (ad : Nat → Nat) (cI cZ : ClassId) (g : Nat → Nat → Int32) (x0 : Int32) (hi0 : vp_in x0 3) : tk_M l yM_tickOne wsM_tickOne { frames := 3, cells := 0, slots := 0, locals := 66 } D [(cI, .int), (cZ, .boolean)] [.ref hm, .int x0] (WM hm ad cI cZ g) (WM hm ad cI cZ (tkM_tickOne_s g x0)) none := by
  refine tk_M.of (cc := cM_tickOne) (maxL := 3) (ret := none) (by decide) rfl (Nat.le_of_ble_eq_true rfl) ?_
  intro p e s m below meth co A H locs ls hB hK hN hA hP hD hS hl
  obtain ⟨hx, hb, hr, hml, hown, hlk, hnm, hts⟩ := hB
  have hown : s.vm.findClass RM = some m.cls := hown
  have hl : lv_has ls 3 [(0, .ref hm), (1, .int x0)] := hl
  have hw : ∀ w ∈ tkWM, w.before _ s = true := fun w h => hts w (List.mem_cons_of_mem _ h)
  have f68 := hw _ wF_M_68
  have f74 := hw _ wF_M_74
  have f86 := hw _ wF_M_86
  have f83 := hw _ wF_M_83
  have f80 := hw _ wF_M_80
  have f62 := hw _ wF_M_62
  have f89 := hw _ wF_M_89
  have f65 := hw _ wF_M_65
  refine lv_aload_n hx hb dM_tickOne_0 rfl (lv_at hl 0 rfl) ?_
  refine va_get (D := D) (ci := 3) (v := .ref (ad 20)) (C := RM) (T := TM) (N := 33) hx hb hw inM hown hK hP 0 rfl rfl 20 (by decide) f68 (fun _ h9 => h9) rfl dM_tickOne_1 ?_
  refine lv_iload_n hx hb dM_tickOne_4 rfl (lv_at hl 1 rfl) ?_
  refine tkld_20 hx hb hK hP hi0 dM_tickOne_5 ?_
  refine lv_istore_n hx hb dM_tickOne_6 rfl hl (by decide) rfl (fun ls hl => ?_)
  have hl : lv_has ls 3 [(2, .int (g 20 x0.toNatClampNeg)), (0, .ref hm), (1, .int x0)] := hl
  refine lv_iload_n hx hb dM_tickOne_7 rfl (lv_at hl 0 rfl) ?_
  refine lv_if_lt (tgt := 29) hx hb dM_tickOne_8 (by decide) (fun (h1_ : g 20 x0.toNatClampNeg < 0) => ?_) (fun (h1_ : ¬ (g 20 x0.toNatClampNeg < 0)) => ?_)
  · exact tk_vret hx hb hr hlk hP hD hS dM_tickOne_29 (congrArg (WM hm ad cI cZ) (by unfold tkM_tickOne_s; rw [if_pos h1_]))
  · refine lv_aload_n hx hb dM_tickOne_11 rfl (lv_at hl 1 rfl) ?_
    refine va_get (D := D) (ci := 3) (v := .ref (ad 22)) (C := RM) (T := TM) (N := 33) hx hb hw inM hown hK hP 0 rfl rfl 22 (by decide) f74 (fun _ h9 => h9) rfl dM_tickOne_12 ?_
    refine lv_iload_n hx hb dM_tickOne_15 rfl (lv_at hl 2 rfl) ?_
    refine tkld_22 hx hb hK hP hi0 dM_tickOne_16 ?_
    refine lv_if_eq (tgt := 29) hx hb dM_tickOne_17 (by decide) (fun (h2_ : g 22 x0.toNatClampNeg = 0) => ?_) (fun (h2_ : ¬ (g 22 x0.toNatClampNeg = 0)) => ?_)
    · exact tk_vret hx hb hr hlk hP hD hS dM_tickOne_29 (congrArg (WM hm ad cI cZ) (by unfold tkM_tickOne_s; rw [if_neg h1_, if_pos h2_]))
    · refine lv_aload_n hx hb dM_tickOne_20 rfl (lv_at hl 1 rfl) ?_
      refine va_get (D := D) (ci := 3) (v := .ref (ad 26)) (C := RM) (T := TM) (N := 33) hx hb hw inM hown hK hP 0 rfl rfl 26 (by decide) f86 (fun _ h9 => h9) rfl dM_tickOne_21 ?_
      refine lv_iload_n hx hb dM_tickOne_24 rfl (lv_at hl 2 rfl) ?_
      refine tkld_26 hx hb hK hP hi0 dM_tickOne_25 ?_
      refine lv_if_eq (tgt := 30) hx hb dM_tickOne_26 (by decide) (fun (h3_ : g 26 x0.toNatClampNeg = 0) => ?_) (fun (h3_ : ¬ (g 26 x0.toNatClampNeg = 0)) => ?_)
      · refine lv_aload_n hx hb dM_tickOne_30 rfl (lv_at hl 1 rfl) ?_
        refine va_get (D := D) (ci := 3) (v := .ref (ad 25)) (C := RM) (T := TM) (N := 33) hx hb hw inM hown hK hP 0 rfl rfl 25 (by decide) f83 (fun _ h9 => h9) rfl dM_tickOne_31 ?_
        refine lv_iload_n hx hb dM_tickOne_34 rfl (lv_at hl 2 rfl) ?_
        refine tkld_25 hx hb hK hP hi0 dM_tickOne_35 ?_
        refine lv_if_eq (tgt := 129) hx hb dM_tickOne_36 (by decide) (fun (h4_ : g 25 x0.toNatClampNeg = 0) => ?_) (fun (h4_ : ¬ (g 25 x0.toNatClampNeg = 0)) => ?_)
        · refine lv_aload_n hx hb dM_tickOne_129 rfl (lv_at hl 1 rfl) ?_
          refine va_get (D := D) (ci := 3) (v := .ref (ad 24)) (C := RM) (T := TM) (N := 33) hx hb hw inM hown hK hP 0 rfl rfl 24 (by decide) f80 (fun _ h9 => h9) rfl dM_tickOne_130 ?_
          refine lv_iload_n hx hb dM_tickOne_133 rfl (lv_at hl 2 rfl) ?_
          refine tkld_24 hx hb hK hP hi0 dM_tickOne_134 ?_
          refine lv_if_eq (tgt := 162) hx hb dM_tickOne_135 (by decide) (fun (h5_ : g 24 x0.toNatClampNeg = 0) => ?_) (fun (h5_ : ¬ (g 24 x0.toNatClampNeg = 0)) => ?_)
          · exact tk_vret hx hb hr hlk hP hD hS dM_tickOne_162 (congrArg (WM hm ad cI cZ) (by unfold tkM_tickOne_s; rw [if_neg h1_, if_neg h2_, if_pos h3_, if_pos h4_, if_pos h5_]))
          · refine lv_aload_n hx hb dM_tickOne_138 rfl (lv_at hl 1 rfl) ?_
            refine va_get (D := D) (ci := 3) (v := .ref (ad 18)) (C := RM) (T := TM) (N := 33) hx hb hw inM hown hK hP 0 rfl rfl 18 (by decide) f62 (fun _ h9 => h9) rfl dM_tickOne_139 ?_
            refine lv_iload_n hx hb dM_tickOne_142 rfl (lv_at hl 2 rfl) ?_
            refine tkld_18 hx hb hK hP hi0 dM_tickOne_143 ?_
            refine lv_if_ne (tgt := 157) hx hb dM_tickOne_144 (by decide) (fun (h6_ : ¬ (g 18 x0.toNatClampNeg = 0)) => ?_) (fun (h6_ : g 18 x0.toNatClampNeg = 0) => ?_)
            · refine lv_aload_n hx hb dM_tickOne_157 rfl (lv_at hl 1 rfl) ?_
              refine lv_iload_n hx hb dM_tickOne_158 rfl (lv_at hl 2 rfl) ?_
              refine tk_callA hD hS hA (va_runV (As := [.int x0]) (rest := []) ⟨hx, hb, hml, hown, hw⟩ (kM_step l D hm ad cI cZ g x0 hi0 H.size) (cwV 1 hw (tk_gV tkWM_good wM_M_154 wI_M_step wS_M_step wZ_M wC_M_step) rfl rfl rfl (by decide +kernel) ⟨Nat.le_of_ble_eq_true rfl, Nat.le_of_ble_eq_true rfl⟩) (tk_preM hK hN hP hD) rfl rfl hl.1 rfl (lv_room (Nat.le_of_ble_eq_true rfl)) dM_tickOne_159 ⟨Nat.zero_le _, Nat.zero_le _⟩) (fun H locs hP hD hS => ?_)
              refine W.eq (g2 := F0 m 162 ls []) rfl ?_
              exact tk_vret hx hb hr hlk hP hD hS dM_tickOne_162 (congrArg (WM hm ad cI cZ) (by unfold tkM_tickOne_s; rw [if_neg h1_, if_neg h2_, if_pos h3_, if_pos h4_, if_neg h5_, if_neg h6_]))
            · refine lv_iload_n hx hb dM_tickOne_147 rfl (lv_at hl 0 rfl) ?_
              refine lv_iconst (v := 1) hx hb dM_tickOne_148 (by decide) ?_
              refine lv_icmp_eq (tgt := 157) hx hb dM_tickOne_149 (by decide) (fun (h7_ : g 20 x0.toNatClampNeg = 1) => ?_) (fun (h7_ : ¬ (g 20 x0.toNatClampNeg = 1)) => ?_)
              · refine lv_aload_n hx hb dM_tickOne_157 rfl (lv_at hl 1 rfl) ?_
                refine lv_iload_n hx hb dM_tickOne_158 rfl (lv_at hl 2 rfl) ?_
                refine tk_callA hD hS hA (va_runV (As := [.int x0]) (rest := []) ⟨hx, hb, hml, hown, hw⟩ (kM_step l D hm ad cI cZ g x0 hi0 H.size) (cwV 1 hw (tk_gV tkWM_good wM_M_154 wI_M_step wS_M_step wZ_M wC_M_step) rfl rfl rfl (by decide +kernel) ⟨Nat.le_of_ble_eq_true rfl, Nat.le_of_ble_eq_true rfl⟩) (tk_preM hK hN hP hD) rfl rfl hl.1 rfl (lv_room (Nat.le_of_ble_eq_true rfl)) dM_tickOne_159 ⟨Nat.zero_le _, Nat.zero_le _⟩) (fun H locs hP hD hS => ?_)
                refine W.eq (g2 := F0 m 162 ls []) rfl ?_
                exact tk_vret hx hb hr hlk hP hD hS dM_tickOne_162 (congrArg (WM hm ad cI cZ) (by unfold tkM_tickOne_s; rw [if_neg h1_, if_neg h2_, if_pos h3_, if_pos h4_, if_neg h5_, if_pos h6_, if_pos h7_]))
              · refine lv_iload_n hx hb dM_tickOne_152 rfl (lv_at hl 0 rfl) ?_
                refine lv_iconst (v := 5) hx hb dM_tickOne_153 (by decide) ?_
                refine lv_icmp_ne (tgt := 162) hx hb dM_tickOne_154 (by decide) (fun (h8_ : ¬ (g 20 x0.toNatClampNeg = 5)) => ?_) (fun (h8_ : g 20 x0.toNatClampNeg = 5) => ?_)
                · exact tk_vret hx hb hr hlk hP hD hS dM_tickOne_162 (congrArg (WM hm ad cI cZ) (by unfold tkM_tickOne_s; rw [if_neg h1_, if_neg h2_, if_pos h3_, if_pos h4_, if_neg h5_, if_pos h6_, if_neg h7_, if_neg h8_]))
                · refine lv_aload_n hx hb dM_tickOne_157 rfl (lv_at hl 1 rfl) ?_
                  refine lv_iload_n hx hb dM_tickOne_158 rfl (lv_at hl 2 rfl) ?_
                  refine tk_callA hD hS hA (va_runV (As := [.int x0]) (rest := []) ⟨hx, hb, hml, hown, hw⟩ (kM_step l D hm ad cI cZ g x0 hi0 H.size) (cwV 1 hw (tk_gV tkWM_good wM_M_154 wI_M_step wS_M_step wZ_M wC_M_step) rfl rfl rfl (by decide +kernel) ⟨Nat.le_of_ble_eq_true rfl, Nat.le_of_ble_eq_true rfl⟩) (tk_preM hK hN hP hD) rfl rfl hl.1 rfl (lv_room (Nat.le_of_ble_eq_true rfl)) dM_tickOne_159 ⟨Nat.zero_le _, Nat.zero_le _⟩) (fun H locs hP hD hS => ?_)
                  refine W.eq (g2 := F0 m 162 ls []) rfl ?_
                  exact tk_vret hx hb hr hlk hP hD hS dM_tickOne_162 (congrArg (WM hm ad cI cZ) (by unfold tkM_tickOne_s; rw [if_neg h1_, if_neg h2_, if_pos h3_, if_pos h4_, if_neg h5_, if_pos h6_, if_neg h7_, if_pos h8_]))
        · refine lv_aload_n hx hb dM_tickOne_39 rfl (lv_at hl 1 rfl) ?_
          refine lv_iload_n hx hb dM_tickOne_40 rfl (lv_at hl 2 rfl) ?_
          refine lv_iload_n hx hb dM_tickOne_41 rfl (lv_at hl 0 rfl) ?_
          refine lv_iconst (v := 3) hx hb dM_tickOne_42 (by decide) ?_
          refine lv_icmp_ne (tgt := 61) hx hb dM_tickOne_43 (by decide) (fun (h9_ : ¬ (g 20 x0.toNatClampNeg = 3)) => ?_) (fun (h9_ : g 20 x0.toNatClampNeg = 3) => ?_)
          · refine lv_aload_n hx hb dM_tickOne_61 rfl (lv_at hl 1 rfl) ?_
            refine va_get (D := D) (ci := 3) (v := .ref (ad 22)) (C := RM) (T := TM) (N := 33) hx hb hw inM hown hK hP 0 rfl rfl 22 (by decide) f74 (fun _ h9 => h9) rfl dM_tickOne_62 ?_
            refine lv_iload_n hx hb dM_tickOne_65 rfl (lv_at hl 2 rfl) ?_
            refine tkld_22 hx hb hK hP hi0 dM_tickOne_66 ?_
            refine tk_callA hD hS hA (va_runV (As := [.int x0, .int (g 22 x0.toNatClampNeg)]) (rest := []) ⟨hx, hb, hml, hown, hw⟩ (kM_put l D hm ad cI cZ g x0 (g 22 x0.toNatClampNeg) hi0 H.size) (cwV 2 hw (tk_gV tkWM_good wM_M_148 wI_M_put wS_M_put wZ_M wC_M_put) rfl rfl rfl (by decide +kernel) ⟨Nat.le_of_ble_eq_true rfl, Nat.le_of_ble_eq_true rfl⟩) (tk_preM hK hN hP hD) rfl rfl hl.1 rfl (lv_room (Nat.le_of_ble_eq_true rfl)) dM_tickOne_67 ⟨Nat.zero_le _, Nat.zero_le _⟩) (fun H locs hP hD hS => ?_)
            refine W.eq (g2 := F0 m 70 ls []) rfl ?_
            refine lv_aload_n hx hb dM_tickOne_70 rfl (lv_at hl 1 rfl) ?_
            refine va_get (D := D) (ci := 3) (v := .ref (ad 25)) (C := RM) (T := TM) (N := 33) hx hb hw inM hown hK hP 0 rfl rfl 25 (by decide) f83 (fun _ h9 => h9) rfl dM_tickOne_71 ?_
            refine lv_iload_n hx hb dM_tickOne_74 rfl (lv_at hl 2 rfl) ?_
            refine lv_iconst (v := 0) hx hb dM_tickOne_75 (by decide) ?_
            refine tkst_25 hx hb hK hP hD hS hi0 (x' := 0) rfl dM_tickOne_76 (fun H locs hP hD hS => ?_)
            have hP : va_P D vwCl (WM hm ad cI cZ (tk_up (tkM_put_s g x0 (g 22 x0.toNatClampNeg)) 25 (upd ((tkM_put_s g x0 (g 22 x0.toNatClampNeg)) 25) x0.toNatClampNeg 0))) H := hP
            have hD : va_D A (WM hm ad cI cZ (tk_up (tkM_put_s g x0 (g 22 x0.toNatClampNeg)) 25 (upd ((tkM_put_s g x0 (g 22 x0.toNatClampNeg)) 25) x0.toNatClampNeg 0))) := hD
            refine lv_aload_n hx hb dM_tickOne_77 rfl (lv_at hl 1 rfl) ?_
            refine va_get (D := D) (ci := 3) (v := .ref (ad 24)) (C := RM) (T := TM) (N := 33) hx hb hw inM hown hK hP 0 rfl rfl 24 (by decide) f80 (fun _ h9 => h9) rfl dM_tickOne_78 ?_
            refine lv_iload_n hx hb dM_tickOne_81 rfl (lv_at hl 2 rfl) ?_
            refine lv_iconst (v := 1) hx hb dM_tickOne_82 (by decide) ?_
            refine tkst_24 hx hb hK hP hD hS hi0 (x' := 1) rfl dM_tickOne_83 (fun H locs hP hD hS => ?_)
            have hP : va_P D vwCl (WM hm ad cI cZ (tk_up (tk_up (tkM_put_s g x0 (g 22 x0.toNatClampNeg)) 25 (upd ((tkM_put_s g x0 (g 22 x0.toNatClampNeg)) 25) x0.toNatClampNeg 0)) 24 (upd ((tkM_put_s g x0 (g 22 x0.toNatClampNeg)) 24) x0.toNatClampNeg 1))) H := hP
            have hD : va_D A (WM hm ad cI cZ (tk_up (tk_up (tkM_put_s g x0 (g 22 x0.toNatClampNeg)) 25 (upd ((tkM_put_s g x0 (g 22 x0.toNatClampNeg)) 25) x0.toNatClampNeg 0)) 24 (upd ((tkM_put_s g x0 (g 22 x0.toNatClampNeg)) 24) x0.toNatClampNeg 1))) := hD
            refine lv_aload_n hx hb dM_tickOne_84 rfl (lv_at hl 1 rfl) ?_
            refine va_get (D := D) (ci := 3) (v := .ref (ad 27)) (C := RM) (T := TM) (N := 33) hx hb hw inM hown hK hP 0 rfl rfl 27 (by decide) f89 (fun _ h9 => h9) rfl dM_tickOne_85 ?_
            refine lv_iload_n hx hb dM_tickOne_88 rfl (lv_at hl 2 rfl) ?_
            refine lv_iconst (v := 0) hx hb dM_tickOne_89 (by decide) ?_
            refine tkst_27 hx hb hK hP hD hS hi0 (x' := 0) rfl dM_tickOne_90 (fun H locs hP hD hS => ?_)
            have hP : va_P D vwCl (WM hm ad cI cZ (tk_up (tk_up (tk_up (tkM_put_s g x0 (g 22 x0.toNatClampNeg)) 25 (upd ((tkM_put_s g x0 (g 22 x0.toNatClampNeg)) 25) x0.toNatClampNeg 0)) 24 (upd ((tkM_put_s g x0 (g 22 x0.toNatClampNeg)) 24) x0.toNatClampNeg 1)) 27 (upd ((tkM_put_s g x0 (g 22 x0.toNatClampNeg)) 27) x0.toNatClampNeg 0))) H := hP
            have hD : va_D A (WM hm ad cI cZ (tk_up (tk_up (tk_up (tkM_put_s g x0 (g 22 x0.toNatClampNeg)) 25 (upd ((tkM_put_s g x0 (g 22 x0.toNatClampNeg)) 25) x0.toNatClampNeg 0)) 24 (upd ((tkM_put_s g x0 (g 22 x0.toNatClampNeg)) 24) x0.toNatClampNeg 1)) 27 (upd ((tkM_put_s g x0 (g 22 x0.toNatClampNeg)) 27) x0.toNatClampNeg 0))) := hD
            refine lv_aload_n hx hb dM_tickOne_91 rfl (lv_at hl 1 rfl) ?_
            refine va_get (D := D) (ci := 3) (v := .ref (ad 19)) (C := RM) (T := TM) (N := 33) hx hb hw inM hown hK hP 0 rfl rfl 19 (by decide) f65 (fun _ h9 => h9) rfl dM_tickOne_92 ?_
            refine lv_iload_n hx hb dM_tickOne_95 rfl (lv_at hl 2 rfl) ?_
            refine lv_iload_n hx hb dM_tickOne_96 rfl (lv_at hl 0 rfl) ?_
            refine lv_iconst (v := 2) hx hb dM_tickOne_97 (by decide) ?_
            refine lv_icmp_eq (tgt := 120) hx hb dM_tickOne_98 (by decide) (fun (h10_ : g 20 x0.toNatClampNeg = 2) => ?_) (fun (h10_ : ¬ (g 20 x0.toNatClampNeg = 2)) => ?_)
            · refine lv_iconst (v := 1) hx hb dM_tickOne_120 (by decide) ?_
              refine lv_goto (tgt := 125) hx hb dM_tickOne_121 (by decide) ?_
              refine tkst_19 hx hb hK hP hD hS hi0 (x' := 1) rfl dM_tickOne_125 (fun H locs hP hD hS => ?_)
              have hP : va_P D vwCl (WM hm ad cI cZ (tk_up (tk_up (tk_up (tk_up (tkM_put_s g x0 (g 22 x0.toNatClampNeg)) 25 (upd ((tkM_put_s g x0 (g 22 x0.toNatClampNeg)) 25) x0.toNatClampNeg 0)) 24 (upd ((tkM_put_s g x0 (g 22 x0.toNatClampNeg)) 24) x0.toNatClampNeg 1)) 27 (upd ((tkM_put_s g x0 (g 22 x0.toNatClampNeg)) 27) x0.toNatClampNeg 0)) 19 (upd ((tkM_put_s g x0 (g 22 x0.toNatClampNeg)) 19) x0.toNatClampNeg 1))) H := hP
              have hD : va_D A (WM hm ad cI cZ (tk_up (tk_up (tk_up (tk_up (tkM_put_s g x0 (g 22 x0.toNatClampNeg)) 25 (upd ((tkM_put_s g x0 (g 22 x0.toNatClampNeg)) 25) x0.toNatClampNeg 0)) 24 (upd ((tkM_put_s g x0 (g 22 x0.toNatClampNeg)) 24) x0.toNatClampNeg 1)) 27 (upd ((tkM_put_s g x0 (g 22 x0.toNatClampNeg)) 27) x0.toNatClampNeg 0)) 19 (upd ((tkM_put_s g x0 (g 22 x0.toNatClampNeg)) 19) x0.toNatClampNeg 1))) := hD
              refine lv_goto (tgt := 162) hx hb dM_tickOne_126 (by decide) ?_
              exact tk_vret hx hb hr hlk hP hD hS dM_tickOne_162 (congrArg (WM hm ad cI cZ) (by unfold tkM_tickOne_s; rw [if_neg h1_, if_neg h2_, if_pos h3_, if_neg h4_, if_neg h9_, if_pos h10_]))
            · refine lv_iload_n hx hb dM_tickOne_101 rfl (lv_at hl 0 rfl) ?_
              refine lv_iconst (v := 3) hx hb dM_tickOne_102 (by decide) ?_
              refine lv_icmp_eq (tgt := 120) hx hb dM_tickOne_103 (by decide) (fun h => absurd h h9_) (fun _ => ?_)
              refine lv_iload_n hx hb dM_tickOne_106 rfl (lv_at hl 0 rfl) ?_
              refine lv_iconst (v := 1) hx hb dM_tickOne_107 (by decide) ?_
              refine lv_icmp_eq (tgt := 124) hx hb dM_tickOne_108 (by decide) (fun (h11_ : g 20 x0.toNatClampNeg = 1) => ?_) (fun (h11_ : ¬ (g 20 x0.toNatClampNeg = 1)) => ?_)
              · refine lv_iconst (v := 0) hx hb dM_tickOne_124 (by decide) ?_
                refine tkst_19 hx hb hK hP hD hS hi0 (x' := 0) rfl dM_tickOne_125 (fun H locs hP hD hS => ?_)
                have hP : va_P D vwCl (WM hm ad cI cZ (tk_up (tk_up (tk_up (tk_up (tkM_put_s g x0 (g 22 x0.toNatClampNeg)) 25 (upd ((tkM_put_s g x0 (g 22 x0.toNatClampNeg)) 25) x0.toNatClampNeg 0)) 24 (upd ((tkM_put_s g x0 (g 22 x0.toNatClampNeg)) 24) x0.toNatClampNeg 1)) 27 (upd ((tkM_put_s g x0 (g 22 x0.toNatClampNeg)) 27) x0.toNatClampNeg 0)) 19 (upd ((tkM_put_s g x0 (g 22 x0.toNatClampNeg)) 19) x0.toNatClampNeg 0))) H := hP
                have hD : va_D A (WM hm ad cI cZ (tk_up (tk_up (tk_up (tk_up (tkM_put_s g x0 (g 22 x0.toNatClampNeg)) 25 (upd ((tkM_put_s g x0 (g 22 x0.toNatClampNeg)) 25) x0.toNatClampNeg 0)) 24 (upd ((tkM_put_s g x0 (g 22 x0.toNatClampNeg)) 24) x0.toNatClampNeg 1)) 27 (upd ((tkM_put_s g x0 (g 22 x0.toNatClampNeg)) 27) x0.toNatClampNeg 0)) 19 (upd ((tkM_put_s g x0 (g 22 x0.toNatClampNeg)) 19) x0.toNatClampNeg 0))) := hD
                refine lv_goto (tgt := 162) hx hb dM_tickOne_126 (by decide) ?_
                exact tk_vret hx hb hr hlk hP hD hS dM_tickOne_162 (congrArg (WM hm ad cI cZ) (by unfold tkM_tickOne_s; rw [if_neg h1_, if_neg h2_, if_pos h3_, if_neg h4_, if_neg h9_, if_neg h10_, if_pos h11_]))
              · refine lv_aload_n hx hb dM_tickOne_111 rfl (lv_at hl 1 rfl) ?_
                refine va_get (D := D) (ci := 3) (v := .ref (ad 19)) (C := RM) (T := TM) (N := 33) hx hb hw inM hown hK hP 0 rfl rfl 19 (by decide) f65 (fun _ h9 => h9) rfl dM_tickOne_112 ?_
                refine lv_iload_n hx hb dM_tickOne_115 rfl (lv_at hl 2 rfl) ?_
                refine tkld_19 hx hb hK hP hi0 dM_tickOne_116 ?_
                refine lv_if_eq (tgt := 124) hx hb dM_tickOne_117 (by decide) (fun (h12_ : ((tkM_put_s g x0 (g 22 x0.toNatClampNeg)) 19) x0.toNatClampNeg = 0) => ?_) (fun (h12_ : ¬ (((tkM_put_s g x0 (g 22 x0.toNatClampNeg)) 19) x0.toNatClampNeg = 0)) => ?_)
                · refine lv_iconst (v := 0) hx hb dM_tickOne_124 (by decide) ?_
                  refine tkst_19 hx hb hK hP hD hS hi0 (x' := 0) rfl dM_tickOne_125 (fun H locs hP hD hS => ?_)
                  have hP : va_P D vwCl (WM hm ad cI cZ (tk_up (tk_up (tk_up (tk_up (tkM_put_s g x0 (g 22 x0.toNatClampNeg)) 25 (upd ((tkM_put_s g x0 (g 22 x0.toNatClampNeg)) 25) x0.toNatClampNeg 0)) 24 (upd ((tkM_put_s g x0 (g 22 x0.toNatClampNeg)) 24) x0.toNatClampNeg 1)) 27 (upd ((tkM_put_s g x0 (g 22 x0.toNatClampNeg)) 27) x0.toNatClampNeg 0)) 19 (upd ((tkM_put_s g x0 (g 22 x0.toNatClampNeg)) 19) x0.toNatClampNeg 0))) H := hP
                  have hD : va_D A (WM hm ad cI cZ (tk_up (tk_up (tk_up (tk_up (tkM_put_s g x0 (g 22 x0.toNatClampNeg)) 25 (upd ((tkM_put_s g x0 (g 22 x0.toNatClampNeg)) 25) x0.toNatClampNeg 0)) 24 (upd ((tkM_put_s g x0 (g 22 x0.toNatClampNeg)) 24) x0.toNatClampNeg 1)) 27 (upd ((tkM_put_s g x0 (g 22 x0.toNatClampNeg)) 27) x0.toNatClampNeg 0)) 19 (upd ((tkM_put_s g x0 (g 22 x0.toNatClampNeg)) 19) x0.toNatClampNeg 0))) := hD
                  refine lv_goto (tgt := 162) hx hb dM_tickOne_126 (by decide) ?_
                  exact tk_vret hx hb hr hlk hP hD hS dM_tickOne_162 (congrArg (WM hm ad cI cZ) (by unfold tkM_tickOne_s; rw [if_neg h1_, if_neg h2_, if_pos h3_, if_neg h4_, if_neg h9_, if_neg h10_, if_neg h11_, if_pos h12_]))
                · refine lv_iconst (v := 1) hx hb dM_tickOne_120 (by decide) ?_
                  refine lv_goto (tgt := 125) hx hb dM_tickOne_121 (by decide) ?_
                  refine tkst_19 hx hb hK hP hD hS hi0 (x' := 1) rfl dM_tickOne_125 (fun H locs hP hD hS => ?_)
                  have hP : va_P D vwCl (WM hm ad cI cZ (tk_up (tk_up (tk_up (tk_up (tkM_put_s g x0 (g 22 x0.toNatClampNeg)) 25 (upd ((tkM_put_s g x0 (g 22 x0.toNatClampNeg)) 25) x0.toNatClampNeg 0)) 24 (upd ((tkM_put_s g x0 (g 22 x0.toNatClampNeg)) 24) x0.toNatClampNeg 1)) 27 (upd ((tkM_put_s g x0 (g 22 x0.toNatClampNeg)) 27) x0.toNatClampNeg 0)) 19 (upd ((tkM_put_s g x0 (g 22 x0.toNatClampNeg)) 19) x0.toNatClampNeg 1))) H := hP
                  have hD : va_D A (WM hm ad cI cZ (tk_up (tk_up (tk_up (tk_up (tkM_put_s g x0 (g 22 x0.toNatClampNeg)) 25 (upd ((tkM_put_s g x0 (g 22 x0.toNatClampNeg)) 25) x0.toNatClampNeg 0)) 24 (upd ((tkM_put_s g x0 (g 22 x0.toNatClampNeg)) 24) x0.toNatClampNeg 1)) 27 (upd ((tkM_put_s g x0 (g 22 x0.toNatClampNeg)) 27) x0.toNatClampNeg 0)) 19 (upd ((tkM_put_s g x0 (g 22 x0.toNatClampNeg)) 19) x0.toNatClampNeg 1))) := hD
                  refine lv_goto (tgt := 162) hx hb dM_tickOne_126 (by decide) ?_
                  exact tk_vret hx hb hr hlk hP hD hS dM_tickOne_162 (congrArg (WM hm ad cI cZ) (by unfold tkM_tickOne_s; rw [if_neg h1_, if_neg h2_, if_pos h3_, if_neg h4_, if_neg h9_, if_neg h10_, if_neg h11_, if_neg h12_]))
          · refine lv_iconst (v := 2) hx hb dM_tickOne_46 (by decide) ?_
            refine lv_aload_n hx hb dM_tickOne_47 rfl (lv_at hl 1 rfl) ?_
            refine va_get (D := D) (ci := 3) (v := .ref (ad 22)) (C := RM) (T := TM) (N := 33) hx hb hw inM hown hK hP 0 rfl rfl 22 (by decide) f74 (fun _ h9 => h9) rfl dM_tickOne_48 ?_
            refine lv_iload_n hx hb dM_tickOne_51 rfl (lv_at hl 2 rfl) ?_
            refine tkld_22 hx hb hK hP hi0 dM_tickOne_52 ?_
            refine lv_iconst (v := 1) hx hb dM_tickOne_53 (by decide) ?_
            refine lv_iadd hx hb dM_tickOne_54 ?_
            refine lv_iconst (v := 2) hx hb dM_tickOne_55 (by decide) ?_
            refine lv_idiv hx hb dM_tickOne_56 (by decide) ?_
            refine lv_imul hx hb dM_tickOne_57 ?_
            refine lv_goto (tgt := 67) hx hb dM_tickOne_58 (by decide) ?_
            refine tk_callA hD hS hA (va_runV (As := [.int x0, .int (2 * (((g 22 x0.toNatClampNeg) + 1) / 2))]) (rest := []) ⟨hx, hb, hml, hown, hw⟩ (kM_put l D hm ad cI cZ g x0 (2 * (((g 22 x0.toNatClampNeg) + 1) / 2)) hi0 H.size) (cwV 2 hw (tk_gV tkWM_good wM_M_148 wI_M_put wS_M_put wZ_M wC_M_put) rfl rfl rfl (by decide +kernel) ⟨Nat.le_of_ble_eq_true rfl, Nat.le_of_ble_eq_true rfl⟩) (tk_preM hK hN hP hD) rfl rfl hl.1 rfl (lv_room (Nat.le_of_ble_eq_true rfl)) dM_tickOne_67 ⟨Nat.zero_le _, Nat.zero_le _⟩) (fun H locs hP hD hS => ?_)
            refine W.eq (g2 := F0 m 70 ls []) rfl ?_
            refine lv_aload_n hx hb dM_tickOne_70 rfl (lv_at hl 1 rfl) ?_
            refine va_get (D := D) (ci := 3) (v := .ref (ad 25)) (C := RM) (T := TM) (N := 33) hx hb hw inM hown hK hP 0 rfl rfl 25 (by decide) f83 (fun _ h9 => h9) rfl dM_tickOne_71 ?_
            refine lv_iload_n hx hb dM_tickOne_74 rfl (lv_at hl 2 rfl) ?_
            refine lv_iconst (v := 0) hx hb dM_tickOne_75 (by decide) ?_
            refine tkst_25 hx hb hK hP hD hS hi0 (x' := 0) rfl dM_tickOne_76 (fun H locs hP hD hS => ?_)
            have hP : va_P D vwCl (WM hm ad cI cZ (tk_up (tkM_put_s g x0 (2 * (((g 22 x0.toNatClampNeg) + 1) / 2))) 25 (upd ((tkM_put_s g x0 (2 * (((g 22 x0.toNatClampNeg) + 1) / 2))) 25) x0.toNatClampNeg 0))) H := hP
            have hD : va_D A (WM hm ad cI cZ (tk_up (tkM_put_s g x0 (2 * (((g 22 x0.toNatClampNeg) + 1) / 2))) 25 (upd ((tkM_put_s g x0 (2 * (((g 22 x0.toNatClampNeg) + 1) / 2))) 25) x0.toNatClampNeg 0))) := hD
            refine lv_aload_n hx hb dM_tickOne_77 rfl (lv_at hl 1 rfl) ?_
            refine va_get (D := D) (ci := 3) (v := .ref (ad 24)) (C := RM) (T := TM) (N := 33) hx hb hw inM hown hK hP 0 rfl rfl 24 (by decide) f80 (fun _ h9 => h9) rfl dM_tickOne_78 ?_
            refine lv_iload_n hx hb dM_tickOne_81 rfl (lv_at hl 2 rfl) ?_
            refine lv_iconst (v := 1) hx hb dM_tickOne_82 (by decide) ?_
            refine tkst_24 hx hb hK hP hD hS hi0 (x' := 1) rfl dM_tickOne_83 (fun H locs hP hD hS => ?_)
            have hP : va_P D vwCl (WM hm ad cI cZ (tk_up (tk_up (tkM_put_s g x0 (2 * (((g 22 x0.toNatClampNeg) + 1) / 2))) 25 (upd ((tkM_put_s g x0 (2 * (((g 22 x0.toNatClampNeg) + 1) / 2))) 25) x0.toNatClampNeg 0)) 24 (upd ((tkM_put_s g x0 (2 * (((g 22 x0.toNatClampNeg) + 1) / 2))) 24) x0.toNatClampNeg 1))) H := hP
            have hD : va_D A (WM hm ad cI cZ (tk_up (tk_up (tkM_put_s g x0 (2 * (((g 22 x0.toNatClampNeg) + 1) / 2))) 25 (upd ((tkM_put_s g x0 (2 * (((g 22 x0.toNatClampNeg) + 1) / 2))) 25) x0.toNatClampNeg 0)) 24 (upd ((tkM_put_s g x0 (2 * (((g 22 x0.toNatClampNeg) + 1) / 2))) 24) x0.toNatClampNeg 1))) := hD
            refine lv_aload_n hx hb dM_tickOne_84 rfl (lv_at hl 1 rfl) ?_
            refine va_get (D := D) (ci := 3) (v := .ref (ad 27)) (C := RM) (T := TM) (N := 33) hx hb hw inM hown hK hP 0 rfl rfl 27 (by decide) f89 (fun _ h9 => h9) rfl dM_tickOne_85 ?_
            refine lv_iload_n hx hb dM_tickOne_88 rfl (lv_at hl 2 rfl) ?_
            refine lv_iconst (v := 0) hx hb dM_tickOne_89 (by decide) ?_
            refine tkst_27 hx hb hK hP hD hS hi0 (x' := 0) rfl dM_tickOne_90 (fun H locs hP hD hS => ?_)
            have hP : va_P D vwCl (WM hm ad cI cZ (tk_up (tk_up (tk_up (tkM_put_s g x0 (2 * (((g 22 x0.toNatClampNeg) + 1) / 2))) 25 (upd ((tkM_put_s g x0 (2 * (((g 22 x0.toNatClampNeg) + 1) / 2))) 25) x0.toNatClampNeg 0)) 24 (upd ((tkM_put_s g x0 (2 * (((g 22 x0.toNatClampNeg) + 1) / 2))) 24) x0.toNatClampNeg 1)) 27 (upd ((tkM_put_s g x0 (2 * (((g 22 x0.toNatClampNeg) + 1) / 2))) 27) x0.toNatClampNeg 0))) H := hP
            have hD : va_D A (WM hm ad cI cZ (tk_up (tk_up (tk_up (tkM_put_s g x0 (2 * (((g 22 x0.toNatClampNeg) + 1) / 2))) 25 (upd ((tkM_put_s g x0 (2 * (((g 22 x0.toNatClampNeg) + 1) / 2))) 25) x0.toNatClampNeg 0)) 24 (upd ((tkM_put_s g x0 (2 * (((g 22 x0.toNatClampNeg) + 1) / 2))) 24) x0.toNatClampNeg 1)) 27 (upd ((tkM_put_s g x0 (2 * (((g 22 x0.toNatClampNeg) + 1) / 2))) 27) x0.toNatClampNeg 0))) := hD
            refine lv_aload_n hx hb dM_tickOne_91 rfl (lv_at hl 1 rfl) ?_
            refine va_get (D := D) (ci := 3) (v := .ref (ad 19)) (C := RM) (T := TM) (N := 33) hx hb hw inM hown hK hP 0 rfl rfl 19 (by decide) f65 (fun _ h9 => h9) rfl dM_tickOne_92 ?_
            refine lv_iload_n hx hb dM_tickOne_95 rfl (lv_at hl 2 rfl) ?_
            refine lv_iload_n hx hb dM_tickOne_96 rfl (lv_at hl 0 rfl) ?_
            refine lv_iconst (v := 2) hx hb dM_tickOne_97 (by decide) ?_
            refine lv_icmp_eq (tgt := 120) hx hb dM_tickOne_98 (by decide) (fun h => absurd (h.symm.trans h9_) (by decide)) (fun _ => ?_)
            refine lv_iload_n hx hb dM_tickOne_101 rfl (lv_at hl 0 rfl) ?_
            refine lv_iconst (v := 3) hx hb dM_tickOne_102 (by decide) ?_
            refine lv_icmp_eq (tgt := 120) hx hb dM_tickOne_103 (by decide) (fun _ => ?_) (fun h => absurd h9_ h)
            refine lv_iconst (v := 1) hx hb dM_tickOne_120 (by decide) ?_
            refine lv_goto (tgt := 125) hx hb dM_tickOne_121 (by decide) ?_
            refine tkst_19 hx hb hK hP hD hS hi0 (x' := 1) rfl dM_tickOne_125 (fun H locs hP hD hS => ?_)
            have hP : va_P D vwCl (WM hm ad cI cZ (tk_up (tk_up (tk_up (tk_up (tkM_put_s g x0 (2 * (((g 22 x0.toNatClampNeg) + 1) / 2))) 25 (upd ((tkM_put_s g x0 (2 * (((g 22 x0.toNatClampNeg) + 1) / 2))) 25) x0.toNatClampNeg 0)) 24 (upd ((tkM_put_s g x0 (2 * (((g 22 x0.toNatClampNeg) + 1) / 2))) 24) x0.toNatClampNeg 1)) 27 (upd ((tkM_put_s g x0 (2 * (((g 22 x0.toNatClampNeg) + 1) / 2))) 27) x0.toNatClampNeg 0)) 19 (upd ((tkM_put_s g x0 (2 * (((g 22 x0.toNatClampNeg) + 1) / 2))) 19) x0.toNatClampNeg 1))) H := hP
            have hD : va_D A (WM hm ad cI cZ (tk_up (tk_up (tk_up (tk_up (tkM_put_s g x0 (2 * (((g 22 x0.toNatClampNeg) + 1) / 2))) 25 (upd ((tkM_put_s g x0 (2 * (((g 22 x0.toNatClampNeg) + 1) / 2))) 25) x0.toNatClampNeg 0)) 24 (upd ((tkM_put_s g x0 (2 * (((g 22 x0.toNatClampNeg) + 1) / 2))) 24) x0.toNatClampNeg 1)) 27 (upd ((tkM_put_s g x0 (2 * (((g 22 x0.toNatClampNeg) + 1) / 2))) 27) x0.toNatClampNeg 0)) 19 (upd ((tkM_put_s g x0 (2 * (((g 22 x0.toNatClampNeg) + 1) / 2))) 19) x0.toNatClampNeg 1))) := hD
            refine lv_goto (tgt := 162) hx hb dM_tickOne_126 (by decide) ?_
            exact tk_vret hx hb hr hlk hP hD hS dM_tickOne_162 (congrArg (WM hm ad cI cZ) (by unfold tkM_tickOne_s; rw [if_neg h1_, if_neg h2_, if_pos h3_, if_neg h4_, if_pos h9_]))
      · exact tk_vret hx hb hr hlk hP hD hS dM_tickOne_29 (congrArg (WM hm ad cI cZ) (by unfold tkM_tickOne_s; rw [if_neg h1_, if_neg h2_, if_neg h3_]))
