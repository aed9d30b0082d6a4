def tkM_thrown_r (g : Nat → Nat → Int32) : Int32 :=
  g 0 0
set_option maxHeartbeats 1000000 in
set_option maxRecDepth 100000 in
theorem kM_thrown (l : Launch) (D : va_G) (hm : Nat) (ad : Nat → Nat) (cI cZ : ClassId) (g : Nat → Nat → Int32) : tk_M l yM_thrown wsM_thrown { frames := 0, cells := 0, slots := 0, locals := 0 } D [(cI, .int), (cZ, .boolean)] [.ref hm] (WM hm ad cI cZ g) (WM hm ad cI cZ g) (some (.int (tkM_thrown_r g))) := by
  refine tk_M.of (cc := cM_thrown) (maxL := 1) (ret := (some .int)) (by decide) rfl (Nat.le_of_ble_eq_true rfl) ?_
  intro p e s m below meth co A H locs ls hB hK hN hA hP hD hS hl
  obtain ⟨hx, hb, hr, hml, hown, hlk, hnm, hts⟩ := hB
  have hown : s.vm.findClass RM = some m.cls := hown
  have hl : lv_has ls 1 [(0, .ref hm)] := hl
  have hw : ∀ w ∈ tkWM, w.before _ s = true := fun w h => hts w (List.mem_cons_of_mem _ h)
  have f107 := hw _ wF_M_107
  refine lv_aload_n hx hb dM_thrown_0 rfl (lv_at hl 0 rfl) ?_
  refine va_get (D := D) (ci := 3) (v := .int (g 0 0)) (C := RM) (T := TM) (N := 33) hx hb hw inM hown hK hP 0 rfl rfl 0 (by decide) f107 (fun _ h9 => h9) rfl dM_thrown_1 ?_
  exact tk_iret hx hb hr hlk hP hD hS dM_thrown_4 rfl rfl
def tkM_requests_r (g : Nat → Nat → Int32) (x0 : Int32) : Int32 :=
  if g 8 x0.toNatClampNeg = 0 then (g 1 x0.toNatClampNeg) &&& (g 2 x0.toNatClampNeg)
  else g 1 x0.toNatClampNeg
set_option maxHeartbeats 1000000 in
set_option maxRecDepth 100000 in
theorem kM_requests (l : Launch) (D : va_G) (hm : Nat) (ad : Nat → Nat) (cI cZ : ClassId) (g : Nat → Nat → Int32) (x0 : Int32) (hi0 : vp_in x0 2) : tk_M l yM_requests wsM_requests { frames := 0, cells := 0, slots := 0, locals := 0 } D [(cI, .int), (cZ, .boolean)] [.ref hm, .int x0] (WM hm ad cI cZ g) (WM hm ad cI cZ g) (some (.int (tkM_requests_r g x0))) := by
  refine tk_M.of (cc := cM_requests) (maxL := 2) (ret := (some .int)) (by decide) rfl (Nat.le_of_ble_eq_true rfl) ?_
  intro p e s m below meth co A H locs ls hB hK hN hA hP hD hS hl
  obtain ⟨hx, hb, hr, hml, hown, hlk, hnm, hts⟩ := hB
  have hown : s.vm.findClass RM = some m.cls := hown
  have hl : lv_has ls 2 [(0, .ref hm), (1, .int x0)] := hl
  have hw : ∀ w ∈ tkWM, w.before _ s = true := fun w h => hts w (List.mem_cons_of_mem _ h)
  have f32 := hw _ wF_M_32
  have f7 := hw _ wF_M_7
  have f13 := hw _ wF_M_13
  refine lv_aload_n hx hb dM_requests_0 rfl (lv_at hl 0 rfl) ?_
  refine va_get (D := D) (ci := 3) (v := .ref (ad 8)) (C := RM) (T := TM) (N := 33) hx hb hw inM hown hK hP 0 rfl rfl 8 (by decide) f32 (fun _ h9 => h9) rfl dM_requests_1 ?_
  refine lv_iload_n hx hb dM_requests_4 rfl (lv_at hl 1 rfl) ?_
  refine tkld_8 hx hb hK hP hi0 dM_requests_5 ?_
  refine lv_if_eq (tgt := 18) hx hb dM_requests_6 (by decide) (fun (h1_ : g 8 x0.toNatClampNeg = 0) => ?_) (fun (h1_ : ¬ (g 8 x0.toNatClampNeg = 0)) => ?_)
  · refine lv_aload_n hx hb dM_requests_18 rfl (lv_at hl 0 rfl) ?_
    refine va_get (D := D) (ci := 3) (v := .ref (ad 1)) (C := RM) (T := TM) (N := 33) hx hb hw inM hown hK hP 0 rfl rfl 1 (by decide) f7 (fun _ h9 => h9) rfl dM_requests_19 ?_
    refine lv_iload_n hx hb dM_requests_22 rfl (lv_at hl 1 rfl) ?_
    refine tkld_1 hx hb hK hP hi0 dM_requests_23 ?_
    refine lv_aload_n hx hb dM_requests_24 rfl (lv_at hl 0 rfl) ?_
    refine va_get (D := D) (ci := 3) (v := .ref (ad 2)) (C := RM) (T := TM) (N := 33) hx hb hw inM hown hK hP 0 rfl rfl 2 (by decide) f13 (fun _ h9 => h9) rfl dM_requests_25 ?_
    refine lv_iload_n hx hb dM_requests_28 rfl (lv_at hl 1 rfl) ?_
    refine tkld_2 hx hb hK hP hi0 dM_requests_29 ?_
    refine lv_iand hx hb dM_requests_30 ?_
    exact tk_iret hx hb hr hlk hP hD hS dM_requests_31 (by unfold tkM_requests_r; rw [if_pos h1_]) rfl
  · refine lv_aload_n hx hb dM_requests_9 rfl (lv_at hl 0 rfl) ?_
    refine va_get (D := D) (ci := 3) (v := .ref (ad 1)) (C := RM) (T := TM) (N := 33) hx hb hw inM hown hK hP 0 rfl rfl 1 (by decide) f7 (fun _ h9 => h9) rfl dM_requests_10 ?_
    refine lv_iload_n hx hb dM_requests_13 rfl (lv_at hl 1 rfl) ?_
    refine tkld_1 hx hb hK hP hi0 dM_requests_14 ?_
    refine lv_goto (tgt := 31) hx hb dM_requests_15 (by decide) ?_
    exact tk_iret hx hb hr hlk hP hD hS dM_requests_31 (by unfold tkM_requests_r; rw [if_neg h1_]) rfl
def tkM_holds_r (g : Nat → Nat → Int32) (x0 x1 : Int32) : Int32 :=
  if ((g 4 x0.toNatClampNeg) >>> (x1 &&& 31)) &&& 1 = 1 then (if g 13 x0.toNatClampNeg = 0 then 1
    else if ((g 3 x0.toNatClampNeg) >>> (x1 &&& 31)) &&& 1 = 1 then 0
      else 1)
  else 0
set_option maxHeartbeats 1000000 in
set_option maxRecDepth 100000 in
theorem kM_holds (l : Launch) (D : va_G) (hm : Nat) (ad : Nat → Nat) (cI cZ : ClassId) (g : Nat → Nat → Int32) (x0 x1 : Int32) (hi0 : vp_in x0 2) : tk_M l yM_holds wsM_holds { frames := 0, cells := 0, slots := 0, locals := 0 } D [(cI, .int), (cZ, .boolean)] [.ref hm, .int x0, .int x1] (WM hm ad cI cZ g) (WM hm ad cI cZ g) (some (.int (tkM_holds_r g x0 x1))) := by
  refine tk_M.of (cc := cM_holds) (maxL := 3) (ret := (some .boolean)) (by decide) rfl (Nat.le_of_ble_eq_true rfl) ?_
  intro p e s m below meth co A H locs ls hB hK hN hA hP hD hS hl
  obtain ⟨hx, hb, hr, hml, hown, hlk, hnm, hts⟩ := hB
  have hown : s.vm.findClass RM = some m.cls := hown
  have hl : lv_has ls 3 [(0, .ref hm), (1, .int x0), (2, .int x1)] := hl
  have hw : ∀ w ∈ tkWM, w.before _ s = true := fun w h => hts w (List.mem_cons_of_mem _ h)
  have f19 := hw _ wF_M_19
  have f47 := hw _ wF_M_47
  have f16 := hw _ wF_M_16
  refine lv_aload_n hx hb dM_holds_0 rfl (lv_at hl 0 rfl) ?_
  refine va_get (D := D) (ci := 3) (v := .ref (ad 4)) (C := RM) (T := TM) (N := 33) hx hb hw inM hown hK hP 0 rfl rfl 4 (by decide) f19 (fun _ h9 => h9) rfl dM_holds_1 ?_
  refine lv_iload_n hx hb dM_holds_4 rfl (lv_at hl 1 rfl) ?_
  refine tkld_4 hx hb hK hP hi0 dM_holds_5 ?_
  refine lv_iload_n hx hb dM_holds_6 rfl (lv_at hl 2 rfl) ?_
  refine lv_ishr hx hb dM_holds_7 ?_
  refine lv_iconst (v := 1) hx hb dM_holds_8 (by decide) ?_
  refine lv_iand hx hb dM_holds_9 ?_
  refine lv_iconst (v := 1) hx hb dM_holds_10 (by decide) ?_
  refine lv_icmp_ne (tgt := 41) hx hb dM_holds_11 (by decide) (fun (h1_ : ¬ (((g 4 x0.toNatClampNeg) >>> (x1 &&& 31)) &&& 1 = 1)) => ?_) (fun (h1_ : ((g 4 x0.toNatClampNeg) >>> (x1 &&& 31)) &&& 1 = 1) => ?_)
  · refine lv_iconst (v := 0) hx hb dM_holds_41 (by decide) ?_
    exact tk_zret hx hb hr hlk hP hD hS dM_holds_42 rfl (by unfold tkM_holds_r; rw [if_neg h1_]) rfl
  · refine lv_aload_n hx hb dM_holds_14 rfl (lv_at hl 0 rfl) ?_
    refine va_get (D := D) (ci := 3) (v := .ref (ad 13)) (C := RM) (T := TM) (N := 33) hx hb hw inM hown hK hP 0 rfl rfl 13 (by decide) f47 (fun _ h9 => h9) rfl dM_holds_15 ?_
    refine lv_iload_n hx hb dM_holds_18 rfl (lv_at hl 1 rfl) ?_
    refine tkld_13 hx hb hK hP hi0 dM_holds_19 ?_
    refine lv_if_eq (tgt := 37) hx hb dM_holds_20 (by decide) (fun (h2_ : g 13 x0.toNatClampNeg = 0) => ?_) (fun (h2_ : ¬ (g 13 x0.toNatClampNeg = 0)) => ?_)
    · refine lv_iconst (v := 1) hx hb dM_holds_37 (by decide) ?_
      refine lv_goto (tgt := 42) hx hb dM_holds_38 (by decide) ?_
      exact tk_zret hx hb hr hlk hP hD hS dM_holds_42 rfl (by unfold tkM_holds_r; rw [if_pos h1_, if_pos h2_]) rfl
    · refine lv_aload_n hx hb dM_holds_23 rfl (lv_at hl 0 rfl) ?_
      refine va_get (D := D) (ci := 3) (v := .ref (ad 3)) (C := RM) (T := TM) (N := 33) hx hb hw inM hown hK hP 0 rfl rfl 3 (by decide) f16 (fun _ h9 => h9) rfl dM_holds_24 ?_
      refine lv_iload_n hx hb dM_holds_27 rfl (lv_at hl 1 rfl) ?_
      refine tkld_3 hx hb hK hP hi0 dM_holds_28 ?_
      refine lv_iload_n hx hb dM_holds_29 rfl (lv_at hl 2 rfl) ?_
      refine lv_ishr hx hb dM_holds_30 ?_
      refine lv_iconst (v := 1) hx hb dM_holds_31 (by decide) ?_
      refine lv_iand hx hb dM_holds_32 ?_
      refine lv_iconst (v := 1) hx hb dM_holds_33 (by decide) ?_
      refine lv_icmp_eq (tgt := 41) hx hb dM_holds_34 (by decide) (fun (h3_ : ((g 3 x0.toNatClampNeg) >>> (x1 &&& 31)) &&& 1 = 1) => ?_) (fun (h3_ : ¬ (((g 3 x0.toNatClampNeg) >>> (x1 &&& 31)) &&& 1 = 1)) => ?_)
      · refine lv_iconst (v := 0) hx hb dM_holds_41 (by decide) ?_
        exact tk_zret hx hb hr hlk hP hD hS dM_holds_42 rfl (by unfold tkM_holds_r; rw [if_pos h1_, if_neg h2_, if_pos h3_]) rfl
      · refine lv_iconst (v := 1) hx hb dM_holds_37 (by decide) ?_
        refine lv_goto (tgt := 42) hx hb dM_holds_38 (by decide) ?_
        exact tk_zret hx hb hr hlk hP hD hS dM_holds_42 rfl (by unfold tkM_holds_r; rw [if_pos h1_, if_neg h2_, if_neg h3_]) rfl
def tkM_put_s (g : Nat → Nat → Int32) (x0 x1 : Int32) : Nat → Nat → Int32 :=
  tk_up g 23 (upd (g 23) x0.toNatClampNeg (x1 &&& 65535))
set_option maxHeartbeats 1000000 in
set_option maxRecDepth 100000 in
theorem kM_put (l : Launch) (D : va_G) (hm : Nat) (ad : Nat → Nat) (cI cZ : ClassId) (g : Nat → Nat → Int32) (x0 x1 : Int32) (hi0 : vp_in x0 3) : tk_M l yM_put wsM_put { frames := 0, cells := 0, slots := 0, locals := 0 } D [(cI, .int), (cZ, .boolean)] [.ref hm, .int x0, .int x1] (WM hm ad cI cZ g) (WM hm ad cI cZ (tkM_put_s g x0 x1)) none := by
  refine tk_M.of (cc := cM_put) (maxL := 3) (ret := none) (by decide) rfl (Nat.le_of_ble_eq_true rfl) ?_
  intro p e s m below meth co A H locs ls hB hK hN hA hP hD hS hl
  obtain ⟨hx, hb, hr, hml, hown, hlk, hnm, hts⟩ := hB
  have hown : s.vm.findClass RM = some m.cls := hown
  have hl : lv_has ls 3 [(0, .ref hm), (1, .int x0), (2, .int x1)] := hl
  have hw : ∀ w ∈ tkWM, w.before _ s = true := fun w h => hts w (List.mem_cons_of_mem _ h)
  have f77 := hw _ wF_M_77
  refine lv_aload_n hx hb dM_put_0 rfl (lv_at hl 0 rfl) ?_
  refine va_get (D := D) (ci := 3) (v := .ref (ad 23)) (C := RM) (T := TM) (N := 33) hx hb hw inM hown hK hP 0 rfl rfl 23 (by decide) f77 (fun _ h9 => h9) rfl dM_put_1 ?_
  refine lv_iload_n hx hb dM_put_4 rfl (lv_at hl 1 rfl) ?_
  refine lv_iload_n hx hb dM_put_5 rfl (lv_at hl 2 rfl) ?_
  refine lv_ldc (v := 65535) hx hb hown (hw _ wK_M_147) dM_put_6 ?_
  refine lv_iand hx hb dM_put_8 ?_
  refine tkst_23 hx hb hK hP hD hS hi0 dM_put_9 (fun H locs hP hD hS => ?_)
  have hP : va_P D vwCl (WM hm ad cI cZ (tk_up g 23 (upd (g 23) x0.toNatClampNeg (x1 &&& 65535)))) H := hP
  have hD : va_D A (WM hm ad cI cZ (tk_up g 23 (upd (g 23) x0.toNatClampNeg (x1 &&& 65535)))) := hD
  exact tk_vret hx hb hr hlk hP hD hS dM_put_10 (congrArg (WM hm ad cI cZ) rfl)
def tkM_latch_s (g : Nat → Nat → Int32) (x0 : Int32) : Nat → Nat → Int32 :=
  if 0 ≤ g 31 x0.toNatClampNeg then tk_up g 31 (upd (g 31) x0.toNatClampNeg (g 31 x0.toNatClampNeg))
  else tk_up g 31 (upd (g 31) x0.toNatClampNeg (g 23 x0.toNatClampNeg))
set_option maxHeartbeats 1000000 in
set_option maxRecDepth 100000 in
theorem kM_latch (l : Launch) (D : va_G) (hm : Nat) (ad : Nat → Nat) (cI cZ : ClassId) (g : Nat → Nat → Int32) (x0 : Int32) (hi0 : vp_in x0 3) : tk_M l yM_latch wsM_latch { frames := 0, cells := 0, slots := 0, locals := 0 } D [(cI, .int), (cZ, .boolean)] [.ref hm, .int x0] (WM hm ad cI cZ g) (WM hm ad cI cZ (tkM_latch_s g x0)) none := by
  refine tk_M.of (cc := cM_latch) (maxL := 2) (ret := none) (by decide) rfl (Nat.le_of_ble_eq_true rfl) ?_
  intro p e s m below meth co A H locs ls hB hK hN hA hP hD hS hl
  obtain ⟨hx, hb, hr, hml, hown, hlk, hnm, hts⟩ := hB
  have hown : s.vm.findClass RM = some m.cls := hown
  have hl : lv_has ls 2 [(0, .ref hm), (1, .int x0)] := hl
  have hw : ∀ w ∈ tkWM, w.before _ s = true := fun w h => hts w (List.mem_cons_of_mem _ h)
  have f101 := hw _ wF_M_101
  have f77 := hw _ wF_M_77
  refine lv_aload_n hx hb dM_latch_0 rfl (lv_at hl 0 rfl) ?_
  refine va_get (D := D) (ci := 3) (v := .ref (ad 31)) (C := RM) (T := TM) (N := 33) hx hb hw inM hown hK hP 0 rfl rfl 31 (by decide) f101 (fun _ h9 => h9) rfl dM_latch_1 ?_
  refine lv_iload_n hx hb dM_latch_4 rfl (lv_at hl 1 rfl) ?_
  refine lv_aload_n hx hb dM_latch_5 rfl (lv_at hl 0 rfl) ?_
  refine va_get (D := D) (ci := 3) (v := .ref (ad 31)) (C := RM) (T := TM) (N := 33) hx hb hw inM hown hK hP 0 rfl rfl 31 (by decide) f101 (fun _ h9 => h9) rfl dM_latch_6 ?_
  refine lv_iload_n hx hb dM_latch_9 rfl (lv_at hl 1 rfl) ?_
  refine tkld_31 hx hb hK hP hi0 dM_latch_10 ?_
  refine lv_if_ge (tgt := 23) hx hb dM_latch_11 (by decide) (fun (h1_ : 0 ≤ g 31 x0.toNatClampNeg) => ?_) (fun (h1_ : ¬ (0 ≤ g 31 x0.toNatClampNeg)) => ?_)
  · refine lv_aload_n hx hb dM_latch_23 rfl (lv_at hl 0 rfl) ?_
    refine va_get (D := D) (ci := 3) (v := .ref (ad 31)) (C := RM) (T := TM) (N := 33) hx hb hw inM hown hK hP 0 rfl rfl 31 (by decide) f101 (fun _ h9 => h9) rfl dM_latch_24 ?_
    refine lv_iload_n hx hb dM_latch_27 rfl (lv_at hl 1 rfl) ?_
    refine tkld_31 hx hb hK hP hi0 dM_latch_28 ?_
    refine tkst_31 hx hb hK hP hD hS hi0 dM_latch_29 (fun H locs hP hD hS => ?_)
    have hP : va_P D vwCl (WM hm ad cI cZ (tk_up g 31 (upd (g 31) x0.toNatClampNeg (g 31 x0.toNatClampNeg)))) H := hP
    have hD : va_D A (WM hm ad cI cZ (tk_up g 31 (upd (g 31) x0.toNatClampNeg (g 31 x0.toNatClampNeg)))) := hD
    exact tk_vret hx hb hr hlk hP hD hS dM_latch_30 (congrArg (WM hm ad cI cZ) (by unfold tkM_latch_s; rw [if_pos h1_]))
  · refine lv_aload_n hx hb dM_latch_14 rfl (lv_at hl 0 rfl) ?_
    refine va_get (D := D) (ci := 3) (v := .ref (ad 23)) (C := RM) (T := TM) (N := 33) hx hb hw inM hown hK hP 0 rfl rfl 23 (by decide) f77 (fun _ h9 => h9) rfl dM_latch_15 ?_
    refine lv_iload_n hx hb dM_latch_18 rfl (lv_at hl 1 rfl) ?_
    refine tkld_23 hx hb hK hP hi0 dM_latch_19 ?_
    refine lv_goto (tgt := 29) hx hb dM_latch_20 (by decide) ?_
    refine tkst_31 hx hb hK hP hD hS hi0 dM_latch_29 (fun H locs hP hD hS => ?_)
    have hP : va_P D vwCl (WM hm ad cI cZ (tk_up g 31 (upd (g 31) x0.toNatClampNeg (g 23 x0.toNatClampNeg)))) H := hP
    have hD : va_D A (WM hm ad cI cZ (tk_up g 31 (upd (g 31) x0.toNatClampNeg (g 23 x0.toNatClampNeg)))) := hD
    exact tk_vret hx hb hr hlk hP hD hS dM_latch_30 (congrArg (WM hm ad cI cZ) (by unfold tkM_latch_s; rw [if_neg h1_]))
def tkM_serve_s (g : Nat → Nat → Int32) (x0 x1 : Int32) : Nat → Nat → Int32 :=
  if g 11 x0.toNatClampNeg = 0 then tk_up (tk_up g 2 (upd (g 2) x0.toNatClampNeg ((g 2 x0.toNatClampNeg) &&& (((1 : Int32) <<< (x1 &&& 31)) ^^^ (-1))))) 4 (upd (g 4) x0.toNatClampNeg ((g 4 x0.toNatClampNeg) ||| ((1 : Int32) <<< (x1 &&& 31))))
  else if g 14 x0.toNatClampNeg = 0 then tk_up g 2 (upd (g 2) x0.toNatClampNeg ((g 2 x0.toNatClampNeg) &&& (((1 : Int32) <<< (x1 &&& 31)) ^^^ (-1))))
    else tk_up (tk_up g 2 (upd (g 2) x0.toNatClampNeg ((g 2 x0.toNatClampNeg) &&& (((1 : Int32) <<< (x1 &&& 31)) ^^^ (-1))))) 6 (upd (g 6) x0.toNatClampNeg x1)
set_option maxHeartbeats 1000000 in
set_option maxRecDepth 100000 in
theorem kM_serve (l : Launch) (D : va_G) (hm : Nat) (ad : Nat → Nat) (cI cZ : ClassId) (g : Nat → Nat → Int32) (x0 x1 : Int32) (hi0 : vp_in x0 2) : tk_M l yM_serve wsM_serve { frames := 0, cells := 0, slots := 0, locals := 0 } D [(cI, .int), (cZ, .boolean)] [.ref hm, .int x0, .int x1] (WM hm ad cI cZ g) (WM hm ad cI cZ (tkM_serve_s g x0 x1)) none := by
  refine tk_M.of (cc := cM_serve) (maxL := 3) (ret := none) (by decide) rfl (Nat.le_of_ble_eq_true rfl) ?_
  intro p e s m below meth co A H locs ls hB hK hN hA hP hD hS hl
  obtain ⟨hx, hb, hr, hml, hown, hlk, hnm, hts⟩ := hB
  have hown : s.vm.findClass RM = some m.cls := hown
  have hl : lv_has ls 3 [(0, .ref hm), (1, .int x0), (2, .int x1)] := hl
  have hw : ∀ w ∈ tkWM, w.before _ s = true := fun w h => hts w (List.mem_cons_of_mem _ h)
  have f13 := hw _ wF_M_13
  have f41 := hw _ wF_M_41
  have f50 := hw _ wF_M_50
  have f25 := hw _ wF_M_25
  have f19 := hw _ wF_M_19
  refine lv_aload_n hx hb dM_serve_0 rfl (lv_at hl 0 rfl) ?_
  refine va_get (D := D) (ci := 3) (v := .ref (ad 2)) (C := RM) (T := TM) (N := 33) hx hb hw inM hown hK hP 0 rfl rfl 2 (by decide) f13 (fun _ h9 => h9) rfl dM_serve_1 ?_
  refine lv_iload_n hx hb dM_serve_4 rfl (lv_at hl 1 rfl) ?_
  refine lv_aload_n hx hb dM_serve_5 rfl (lv_at hl 0 rfl) ?_
  refine va_get (D := D) (ci := 3) (v := .ref (ad 2)) (C := RM) (T := TM) (N := 33) hx hb hw inM hown hK hP 0 rfl rfl 2 (by decide) f13 (fun _ h9 => h9) rfl dM_serve_6 ?_
  refine lv_iload_n hx hb dM_serve_9 rfl (lv_at hl 1 rfl) ?_
  refine tkld_2 hx hb hK hP hi0 dM_serve_10 ?_
  refine lv_iconst (v := 1) hx hb dM_serve_11 (by decide) ?_
  refine lv_iload_n hx hb dM_serve_12 rfl (lv_at hl 2 rfl) ?_
  refine lv_ishl hx hb dM_serve_13 ?_
  refine lv_iconst (v := -1) hx hb dM_serve_14 (by decide) ?_
  refine lv_ixor hx hb dM_serve_15 ?_
  refine lv_iand hx hb dM_serve_16 ?_
  refine tkst_2 hx hb hK hP hD hS hi0 dM_serve_17 (fun H locs hP hD hS => ?_)
  have hP : va_P D vwCl (WM hm ad cI cZ (tk_up g 2 (upd (g 2) x0.toNatClampNeg ((g 2 x0.toNatClampNeg) &&& (((1 : Int32) <<< (x1 &&& 31)) ^^^ (-1)))))) H := hP
  have hD : va_D A (WM hm ad cI cZ (tk_up g 2 (upd (g 2) x0.toNatClampNeg ((g 2 x0.toNatClampNeg) &&& (((1 : Int32) <<< (x1 &&& 31)) ^^^ (-1)))))) := hD
  refine lv_aload_n hx hb dM_serve_18 rfl (lv_at hl 0 rfl) ?_
  refine va_get (D := D) (ci := 3) (v := .ref (ad 11)) (C := RM) (T := TM) (N := 33) hx hb hw inM hown hK hP 0 rfl rfl 11 (by decide) f41 (fun _ h9 => h9) rfl dM_serve_19 ?_
  refine lv_iload_n hx hb dM_serve_22 rfl (lv_at hl 1 rfl) ?_
  refine tkld_11 hx hb hK hP hi0 dM_serve_23 ?_
  refine lv_if_ne (tgt := 46) hx hb dM_serve_24 (by decide) (fun (h1_ : ¬ (g 11 x0.toNatClampNeg = 0)) => ?_) (fun (h1_ : g 11 x0.toNatClampNeg = 0) => ?_)
  · refine lv_aload_n hx hb dM_serve_46 rfl (lv_at hl 0 rfl) ?_
    refine va_get (D := D) (ci := 3) (v := .ref (ad 14)) (C := RM) (T := TM) (N := 33) hx hb hw inM hown hK hP 0 rfl rfl 14 (by decide) f50 (fun _ h9 => h9) rfl dM_serve_47 ?_
    refine lv_iload_n hx hb dM_serve_50 rfl (lv_at hl 1 rfl) ?_
    refine tkld_14 hx hb hK hP hi0 dM_serve_51 ?_
    refine lv_if_eq (tgt := 62) hx hb dM_serve_52 (by decide) (fun (h2_ : g 14 x0.toNatClampNeg = 0) => ?_) (fun (h2_ : ¬ (g 14 x0.toNatClampNeg = 0)) => ?_)
    · exact tk_vret hx hb hr hlk hP hD hS dM_serve_62 (congrArg (WM hm ad cI cZ) (by unfold tkM_serve_s; rw [if_neg h1_, if_pos h2_]))
    · refine lv_aload_n hx hb dM_serve_55 rfl (lv_at hl 0 rfl) ?_
      refine va_get (D := D) (ci := 3) (v := .ref (ad 6)) (C := RM) (T := TM) (N := 33) hx hb hw inM hown hK hP 0 rfl rfl 6 (by decide) f25 (fun _ h9 => h9) rfl dM_serve_56 ?_
      refine lv_iload_n hx hb dM_serve_59 rfl (lv_at hl 1 rfl) ?_
      refine lv_iload_n hx hb dM_serve_60 rfl (lv_at hl 2 rfl) ?_
      refine tkst_6 hx hb hK hP hD hS hi0 dM_serve_61 (fun H locs hP hD hS => ?_)
      have hP : va_P D vwCl (WM hm ad cI cZ (tk_up (tk_up g 2 (upd (g 2) x0.toNatClampNeg ((g 2 x0.toNatClampNeg) &&& (((1 : Int32) <<< (x1 &&& 31)) ^^^ (-1))))) 6 (upd (g 6) x0.toNatClampNeg x1))) H := hP
      have hD : va_D A (WM hm ad cI cZ (tk_up (tk_up g 2 (upd (g 2) x0.toNatClampNeg ((g 2 x0.toNatClampNeg) &&& (((1 : Int32) <<< (x1 &&& 31)) ^^^ (-1))))) 6 (upd (g 6) x0.toNatClampNeg x1))) := hD
      exact tk_vret hx hb hr hlk hP hD hS dM_serve_62 (congrArg (WM hm ad cI cZ) (by unfold tkM_serve_s; rw [if_neg h1_, if_neg h2_]))
  · refine lv_aload_n hx hb dM_serve_27 rfl (lv_at hl 0 rfl) ?_
    refine va_get (D := D) (ci := 3) (v := .ref (ad 4)) (C := RM) (T := TM) (N := 33) hx hb hw inM hown hK hP 0 rfl rfl 4 (by decide) f19 (fun _ h9 => h9) rfl dM_serve_28 ?_
    refine lv_iload_n hx hb dM_serve_31 rfl (lv_at hl 1 rfl) ?_
    refine lv_aload_n hx hb dM_serve_32 rfl (lv_at hl 0 rfl) ?_
    refine va_get (D := D) (ci := 3) (v := .ref (ad 4)) (C := RM) (T := TM) (N := 33) hx hb hw inM hown hK hP 0 rfl rfl 4 (by decide) f19 (fun _ h9 => h9) rfl dM_serve_33 ?_
    refine lv_iload_n hx hb dM_serve_36 rfl (lv_at hl 1 rfl) ?_
    refine tkld_4 hx hb hK hP hi0 dM_serve_37 ?_
    refine lv_iconst (v := 1) hx hb dM_serve_38 (by decide) ?_
    refine lv_iload_n hx hb dM_serve_39 rfl (lv_at hl 2 rfl) ?_
    refine lv_ishl hx hb dM_serve_40 ?_
    refine lv_ior hx hb dM_serve_41 ?_
    refine tkst_4 hx hb hK hP hD hS hi0 dM_serve_42 (fun H locs hP hD hS => ?_)
    have hP : va_P D vwCl (WM hm ad cI cZ (tk_up (tk_up g 2 (upd (g 2) x0.toNatClampNeg ((g 2 x0.toNatClampNeg) &&& (((1 : Int32) <<< (x1 &&& 31)) ^^^ (-1))))) 4 (upd (g 4) x0.toNatClampNeg ((g 4 x0.toNatClampNeg) ||| ((1 : Int32) <<< (x1 &&& 31)))))) H := hP
    have hD : va_D A (WM hm ad cI cZ (tk_up (tk_up g 2 (upd (g 2) x0.toNatClampNeg ((g 2 x0.toNatClampNeg) &&& (((1 : Int32) <<< (x1 &&& 31)) ^^^ (-1))))) 4 (upd (g 4) x0.toNatClampNeg ((g 4 x0.toNatClampNeg) ||| ((1 : Int32) <<< (x1 &&& 31)))))) := hD
    refine lv_goto (tgt := 62) hx hb dM_serve_43 (by decide) ?_
    exact tk_vret hx hb hr hlk hP hD hS dM_serve_62 (congrArg (WM hm ad cI cZ) (by unfold tkM_serve_s; rw [if_pos h1_]))
def tkM_set_s (g : Nat → Nat → Int32) (x0 x1 x2 : Int32) : Nat → Nat → Int32 :=
  if ((g 1 x0.toNatClampNeg) >>> (x1 &&& 31)) &&& 1 = 1 then (if x2 = 0 then tk_up g 1 (upd (g 1) x0.toNatClampNeg ((g 1 x0.toNatClampNeg) &&& (((1 : Int32) <<< (x1 &&& 31)) ^^^ (-1))))
    else tk_up g 1 (upd (g 1) x0.toNatClampNeg ((g 1 x0.toNatClampNeg) ||| ((1 : Int32) <<< (x1 &&& 31)))))
  else if x2 = 0 then tk_up g 1 (upd (g 1) x0.toNatClampNeg ((g 1 x0.toNatClampNeg) &&& (((1 : Int32) <<< (x1 &&& 31)) ^^^ (-1))))
    else tk_up (tk_up g 2 (upd (g 2) x0.toNatClampNeg ((g 2 x0.toNatClampNeg) ||| ((1 : Int32) <<< (x1 &&& 31))))) 1 (upd (g 1) x0.toNatClampNeg ((g 1 x0.toNatClampNeg) ||| ((1 : Int32) <<< (x1 &&& 31))))
set_option maxHeartbeats 1000000 in
set_option maxRecDepth 100000 in
theorem kM_set (l : Launch) (D : va_G) (hm : Nat) (ad : Nat → Nat) (cI cZ : ClassId) (g : Nat → Nat → Int32) (x0 x1 x2 : Int32) (hi0 : vp_in x0 2) : tk_M l yM_set wsM_set { frames := 0, cells := 0, slots := 0, locals := 0 } D [(cI, .int), (cZ, .boolean)] [.ref hm, .int x0, .int x1, .int x2] (WM hm ad cI cZ g) (WM hm ad cI cZ (tkM_set_s g x0 x1 x2)) none := by
  refine tk_M.of (cc := cM_set) (maxL := 5) (ret := none) (by decide) rfl (Nat.le_of_ble_eq_true rfl) ?_
  intro p e s m below meth co A H locs ls hB hK hN hA hP hD hS hl
  obtain ⟨hx, hb, hr, hml, hown, hlk, hnm, hts⟩ := hB
  have hown : s.vm.findClass RM = some m.cls := hown
  have hl : lv_has ls 5 [(0, .ref hm), (1, .int x0), (2, .int x1), (3, .int x2)] := hl
  have hw : ∀ w ∈ tkWM, w.before _ s = true := fun w h => hts w (List.mem_cons_of_mem _ h)
  have f7 := hw _ wF_M_7
  have f13 := hw _ wF_M_13
  refine lv_aload_n hx hb dM_set_0 rfl (lv_at hl 0 rfl) ?_
  refine va_get (D := D) (ci := 3) (v := .ref (ad 1)) (C := RM) (T := TM) (N := 33) hx hb hw inM hown hK hP 0 rfl rfl 1 (by decide) f7 (fun _ h9 => h9) rfl dM_set_1 ?_
  refine lv_iload_n hx hb dM_set_4 rfl (lv_at hl 1 rfl) ?_
  refine tkld_1 hx hb hK hP hi0 dM_set_5 ?_
  refine lv_iload_n hx hb dM_set_6 rfl (lv_at hl 2 rfl) ?_
  refine lv_ishr hx hb dM_set_7 ?_
  refine lv_iconst (v := 1) hx hb dM_set_8 (by decide) ?_
  refine lv_iand hx hb dM_set_9 ?_
  refine lv_iconst (v := 1) hx hb dM_set_10 (by decide) ?_
  refine lv_icmp_ne (tgt := 18) hx hb dM_set_11 (by decide) (fun (h1_ : ¬ (((g 1 x0.toNatClampNeg) >>> (x1 &&& 31)) &&& 1 = 1)) => ?_) (fun (h1_ : ((g 1 x0.toNatClampNeg) >>> (x1 &&& 31)) &&& 1 = 1) => ?_)
  · refine lv_iconst (v := 0) hx hb dM_set_18 (by decide) ?_
    refine lv_istore hx hb dM_set_19 hl (by decide) rfl (fun ls hl => ?_)
    have hl : lv_has ls 5 [(4, .int 0), (0, .ref hm), (1, .int x0), (2, .int x1), (3, .int x2)] := hl
    refine lv_iload_n hx hb dM_set_21 rfl (lv_at hl 4 rfl) ?_
    refine lv_if_eq (tgt := 46) hx hb dM_set_22 (by decide) (fun (h2_ : x2 = 0) => ?_) (fun (h2_ : ¬ (x2 = 0)) => ?_)
    · refine lv_aload_n hx hb dM_set_46 rfl (lv_at hl 1 rfl) ?_
      refine va_get (D := D) (ci := 3) (v := .ref (ad 1)) (C := RM) (T := TM) (N := 33) hx hb hw inM hown hK hP 0 rfl rfl 1 (by decide) f7 (fun _ h9 => h9) rfl dM_set_47 ?_
      refine lv_iload_n hx hb dM_set_50 rfl (lv_at hl 2 rfl) ?_
      refine lv_iload_n hx hb dM_set_51 rfl (lv_at hl 4 rfl) ?_
      refine lv_if_eq (tgt := 68) hx hb dM_set_52 (by decide) (fun _ => ?_) (fun h => absurd h2_ h)
      refine lv_aload_n hx hb dM_set_68 rfl (lv_at hl 1 rfl) ?_
      refine va_get (D := D) (ci := 3) (v := .ref (ad 1)) (C := RM) (T := TM) (N := 33) hx hb hw inM hown hK hP 0 rfl rfl 1 (by decide) f7 (fun _ h9 => h9) rfl dM_set_69 ?_
      refine lv_iload_n hx hb dM_set_72 rfl (lv_at hl 2 rfl) ?_
      refine tkld_1 hx hb hK hP hi0 dM_set_73 ?_
      refine lv_iconst (v := 1) hx hb dM_set_74 (by decide) ?_
      refine lv_iload_n hx hb dM_set_75 rfl (lv_at hl 3 rfl) ?_
      refine lv_ishl hx hb dM_set_76 ?_
      refine lv_iconst (v := -1) hx hb dM_set_77 (by decide) ?_
      refine lv_ixor hx hb dM_set_78 ?_
      refine lv_iand hx hb dM_set_79 ?_
      refine tkst_1 hx hb hK hP hD hS hi0 dM_set_80 (fun H locs hP hD hS => ?_)
      have hP : va_P D vwCl (WM hm ad cI cZ (tk_up g 1 (upd (g 1) x0.toNatClampNeg ((g 1 x0.toNatClampNeg) &&& (((1 : Int32) <<< (x1 &&& 31)) ^^^ (-1)))))) H := hP
      have hD : va_D A (WM hm ad cI cZ (tk_up g 1 (upd (g 1) x0.toNatClampNeg ((g 1 x0.toNatClampNeg) &&& (((1 : Int32) <<< (x1 &&& 31)) ^^^ (-1)))))) := hD
      exact tk_vret hx hb hr hlk hP hD hS dM_set_81 (congrArg (WM hm ad cI cZ) (by unfold tkM_set_s; rw [if_neg h1_, if_pos h2_]))
    · refine lv_iload hx hb dM_set_25 (lv_at hl 0 rfl) ?_
      refine lv_if_ne (tgt := 46) hx hb dM_set_27 (by decide) (fun h => absurd (by decide) h) (fun _ => ?_)
      refine lv_aload_n hx hb dM_set_30 rfl (lv_at hl 1 rfl) ?_
      refine va_get (D := D) (ci := 3) (v := .ref (ad 2)) (C := RM) (T := TM) (N := 33) hx hb hw inM hown hK hP 0 rfl rfl 2 (by decide) f13 (fun _ h9 => h9) rfl dM_set_31 ?_
      refine lv_iload_n hx hb dM_set_34 rfl (lv_at hl 2 rfl) ?_
      refine lv_aload_n hx hb dM_set_35 rfl (lv_at hl 1 rfl) ?_
      refine va_get (D := D) (ci := 3) (v := .ref (ad 2)) (C := RM) (T := TM) (N := 33) hx hb hw inM hown hK hP 0 rfl rfl 2 (by decide) f13 (fun _ h9 => h9) rfl dM_set_36 ?_
      refine lv_iload_n hx hb dM_set_39 rfl (lv_at hl 2 rfl) ?_
      refine tkld_2 hx hb hK hP hi0 dM_set_40 ?_
      refine lv_iconst (v := 1) hx hb dM_set_41 (by decide) ?_
      refine lv_iload_n hx hb dM_set_42 rfl (lv_at hl 3 rfl) ?_
      refine lv_ishl hx hb dM_set_43 ?_
      refine lv_ior hx hb dM_set_44 ?_
      refine tkst_2 hx hb hK hP hD hS hi0 dM_set_45 (fun H locs hP hD hS => ?_)
      have hP : va_P D vwCl (WM hm ad cI cZ (tk_up g 2 (upd (g 2) x0.toNatClampNeg ((g 2 x0.toNatClampNeg) ||| ((1 : Int32) <<< (x1 &&& 31)))))) H := hP
      have hD : va_D A (WM hm ad cI cZ (tk_up g 2 (upd (g 2) x0.toNatClampNeg ((g 2 x0.toNatClampNeg) ||| ((1 : Int32) <<< (x1 &&& 31)))))) := hD
      refine lv_aload_n hx hb dM_set_46 rfl (lv_at hl 1 rfl) ?_
      refine va_get (D := D) (ci := 3) (v := .ref (ad 1)) (C := RM) (T := TM) (N := 33) hx hb hw inM hown hK hP 0 rfl rfl 1 (by decide) f7 (fun _ h9 => h9) rfl dM_set_47 ?_
      refine lv_iload_n hx hb dM_set_50 rfl (lv_at hl 2 rfl) ?_
      refine lv_iload_n hx hb dM_set_51 rfl (lv_at hl 4 rfl) ?_
      refine lv_if_eq (tgt := 68) hx hb dM_set_52 (by decide) (fun h => absurd h h2_) (fun _ => ?_)
      refine lv_aload_n hx hb dM_set_55 rfl (lv_at hl 1 rfl) ?_
      refine va_get (D := D) (ci := 3) (v := .ref (ad 1)) (C := RM) (T := TM) (N := 33) hx hb hw inM hown hK hP 0 rfl rfl 1 (by decide) f7 (fun _ h9 => h9) rfl dM_set_56 ?_
      refine lv_iload_n hx hb dM_set_59 rfl (lv_at hl 2 rfl) ?_
      refine tkld_1 hx hb hK hP hi0 dM_set_60 ?_
      refine lv_iconst (v := 1) hx hb dM_set_61 (by decide) ?_
      refine lv_iload_n hx hb dM_set_62 rfl (lv_at hl 3 rfl) ?_
      refine lv_ishl hx hb dM_set_63 ?_
      refine lv_ior hx hb dM_set_64 ?_
      refine lv_goto (tgt := 80) hx hb dM_set_65 (by decide) ?_
      refine tkst_1 hx hb hK hP hD hS hi0 dM_set_80 (fun H locs hP hD hS => ?_)
      have hP : va_P D vwCl (WM hm ad cI cZ (tk_up (tk_up g 2 (upd (g 2) x0.toNatClampNeg ((g 2 x0.toNatClampNeg) ||| ((1 : Int32) <<< (x1 &&& 31))))) 1 (upd (g 1) x0.toNatClampNeg ((g 1 x0.toNatClampNeg) ||| ((1 : Int32) <<< (x1 &&& 31)))))) H := hP
      have hD : va_D A (WM hm ad cI cZ (tk_up (tk_up g 2 (upd (g 2) x0.toNatClampNeg ((g 2 x0.toNatClampNeg) ||| ((1 : Int32) <<< (x1 &&& 31))))) 1 (upd (g 1) x0.toNatClampNeg ((g 1 x0.toNatClampNeg) ||| ((1 : Int32) <<< (x1 &&& 31)))))) := hD
      exact tk_vret hx hb hr hlk hP hD hS dM_set_81 (congrArg (WM hm ad cI cZ) (by unfold tkM_set_s; rw [if_neg h1_, if_neg h2_]))
  · refine lv_iconst (v := 1) hx hb dM_set_14 (by decide) ?_
    refine lv_goto (tgt := 19) hx hb dM_set_15 (by decide) ?_
    refine lv_istore hx hb dM_set_19 hl (by decide) rfl (fun ls hl => ?_)
    have hl : lv_has ls 5 [(4, .int 1), (0, .ref hm), (1, .int x0), (2, .int x1), (3, .int x2)] := hl
    refine lv_iload_n hx hb dM_set_21 rfl (lv_at hl 4 rfl) ?_
    refine lv_if_eq (tgt := 46) hx hb dM_set_22 (by decide) (fun (h3_ : x2 = 0) => ?_) (fun (h3_ : ¬ (x2 = 0)) => ?_)
    · refine lv_aload_n hx hb dM_set_46 rfl (lv_at hl 1 rfl) ?_
      refine va_get (D := D) (ci := 3) (v := .ref (ad 1)) (C := RM) (T := TM) (N := 33) hx hb hw inM hown hK hP 0 rfl rfl 1 (by decide) f7 (fun _ h9 => h9) rfl dM_set_47 ?_
      refine lv_iload_n hx hb dM_set_50 rfl (lv_at hl 2 rfl) ?_
      refine lv_iload_n hx hb dM_set_51 rfl (lv_at hl 4 rfl) ?_
      refine lv_if_eq (tgt := 68) hx hb dM_set_52 (by decide) (fun _ => ?_) (fun h => absurd h3_ h)
      refine lv_aload_n hx hb dM_set_68 rfl (lv_at hl 1 rfl) ?_
      refine va_get (D := D) (ci := 3) (v := .ref (ad 1)) (C := RM) (T := TM) (N := 33) hx hb hw inM hown hK hP 0 rfl rfl 1 (by decide) f7 (fun _ h9 => h9) rfl dM_set_69 ?_
      refine lv_iload_n hx hb dM_set_72 rfl (lv_at hl 2 rfl) ?_
      refine tkld_1 hx hb hK hP hi0 dM_set_73 ?_
      refine lv_iconst (v := 1) hx hb dM_set_74 (by decide) ?_
      refine lv_iload_n hx hb dM_set_75 rfl (lv_at hl 3 rfl) ?_
      refine lv_ishl hx hb dM_set_76 ?_
      refine lv_iconst (v := -1) hx hb dM_set_77 (by decide) ?_
      refine lv_ixor hx hb dM_set_78 ?_
      refine lv_iand hx hb dM_set_79 ?_
      refine tkst_1 hx hb hK hP hD hS hi0 dM_set_80 (fun H locs hP hD hS => ?_)
      have hP : va_P D vwCl (WM hm ad cI cZ (tk_up g 1 (upd (g 1) x0.toNatClampNeg ((g 1 x0.toNatClampNeg) &&& (((1 : Int32) <<< (x1 &&& 31)) ^^^ (-1)))))) H := hP
      have hD : va_D A (WM hm ad cI cZ (tk_up g 1 (upd (g 1) x0.toNatClampNeg ((g 1 x0.toNatClampNeg) &&& (((1 : Int32) <<< (x1 &&& 31)) ^^^ (-1)))))) := hD
      exact tk_vret hx hb hr hlk hP hD hS dM_set_81 (congrArg (WM hm ad cI cZ) (by unfold tkM_set_s; rw [if_pos h1_, if_pos h3_]))
    · refine lv_iload hx hb dM_set_25 (lv_at hl 0 rfl) ?_
      refine lv_if_ne (tgt := 46) hx hb dM_set_27 (by decide) (fun _ => ?_) (fun h => absurd h (by decide))
      refine lv_aload_n hx hb dM_set_46 rfl (lv_at hl 1 rfl) ?_
      refine va_get (D := D) (ci := 3) (v := .ref (ad 1)) (C := RM) (T := TM) (N := 33) hx hb hw inM hown hK hP 0 rfl rfl 1 (by decide) f7 (fun _ h9 => h9) rfl dM_set_47 ?_
      refine lv_iload_n hx hb dM_set_50 rfl (lv_at hl 2 rfl) ?_
      refine lv_iload_n hx hb dM_set_51 rfl (lv_at hl 4 rfl) ?_
      refine lv_if_eq (tgt := 68) hx hb dM_set_52 (by decide) (fun h => absurd h h3_) (fun _ => ?_)
      refine lv_aload_n hx hb dM_set_55 rfl (lv_at hl 1 rfl) ?_
      refine va_get (D := D) (ci := 3) (v := .ref (ad 1)) (C := RM) (T := TM) (N := 33) hx hb hw inM hown hK hP 0 rfl rfl 1 (by decide) f7 (fun _ h9 => h9) rfl dM_set_56 ?_
      refine lv_iload_n hx hb dM_set_59 rfl (lv_at hl 2 rfl) ?_
      refine tkld_1 hx hb hK hP hi0 dM_set_60 ?_
      refine lv_iconst (v := 1) hx hb dM_set_61 (by decide) ?_
      refine lv_iload_n hx hb dM_set_62 rfl (lv_at hl 3 rfl) ?_
      refine lv_ishl hx hb dM_set_63 ?_
      refine lv_ior hx hb dM_set_64 ?_
      refine lv_goto (tgt := 80) hx hb dM_set_65 (by decide) ?_
      refine tkst_1 hx hb hK hP hD hS hi0 dM_set_80 (fun H locs hP hD hS => ?_)
      have hP : va_P D vwCl (WM hm ad cI cZ (tk_up g 1 (upd (g 1) x0.toNatClampNeg ((g 1 x0.toNatClampNeg) ||| ((1 : Int32) <<< (x1 &&& 31)))))) H := hP
      have hD : va_D A (WM hm ad cI cZ (tk_up g 1 (upd (g 1) x0.toNatClampNeg ((g 1 x0.toNatClampNeg) ||| ((1 : Int32) <<< (x1 &&& 31)))))) := hD
      exact tk_vret hx hb hr hlk hP hD hS dM_set_81 (congrArg (WM hm ad cI cZ) (by unfold tkM_set_s; rw [if_pos h1_, if_neg h3_]))
