theorem tk_ofG {l : Launch} {y : MethodName} {wd wd' : List Cond} {rm : Room} {D : va_G} {tys : List (ClassId × FieldType)} {av : List Value} {ws : va_W} {X : State → Prop} {Qc : (Nat → Prop) → Array Value → State → Outcome → State → Prop} {mc ms : Nat} {cc : ByteArray} {maxL : Nat} {ret : Option FieldType}
    (hy : plainName y.cls = true) (hw : wd = Cond.code y cc maxL ret :: wd') (hlen : (lg_sl av).length ≤ maxL)
    (body : ∀ (p : Program) (e : Env) (s : State) (m : MethodId) (below : List Frame) (meth : Method) (c : Code) (A : Nat → Prop) (H : Heap) (locs : List Loc) (ls : Array Slot), tk_B p s m y wd cc maxL ret meth c av.toArray → X s → va_K D vwCl tys s → tk_N s → (∀ q, s.heap.size ≤ q → A q) → va_P D vwCl ws H → va_D A ws → va_S A s.heap H locs → lv_has ls maxL (lv_args 0 av) →
      W p l e rm s m av.toArray below meth c H locs 0 0 (MQ below (Qc A) av.toArray s mc ms A) (F0 m 0 ls [])) : ∀ sz : Nat, Met l y wd rm (va_Pc av (fun U => tk_P D tys ws sz U ∧ X U)) (Qc (va_A ws sz)) mc ms (va_A ws sz) := by
  intro sz
  refine Met.ofW (cc := cc) (maxL := maxL) (ret := ret) hy hw ?_
  intro p e s m args below meth c s₁ B hml hv
  obtain ⟨rfl, ⟨hsz, hP, hK, hD0, hN⟩, hX⟩ := hv
  subst hsz
  have hts := atoms_spec (ws := wd) B.pre
  have hown : s.vm.findClass y.cls = some m.cls := findClass_of_methodNamed B.named
  have hD := hD0.self (sz := s.heap.size)
  have hl := lv_entry av (n := maxL) hlen
  rw [lg_entry_eq]
  exact body p e s m below meth c _ _ _ _ ⟨B.exec, B.bytes, B.returns, hml, hown, B.notSynchronized, (name_of_methodNamed B.named B.method).1, hts⟩ hX hK hN (fun q h => Or.inr h) hP hD va_S.rf hl
theorem tk_sameA {U : State} {c1 c2 : ClassId} {t : FieldType} (h1 : va_RA U c1 t) (h2 : va_RA U c2 t) : c1 = c2 := by
  cases t with
  | object C =>
    obtain ⟨k, x, a1, a2, a3, a4⟩ := h1
    obtain ⟨k', x', b1, b2, b3, b4⟩ := h2
    exact Option.some.inj (a4.symm.trans b4)
  | _ => exact Option.some.inj (h1.symm.trans h2)
theorem hfsC : ∀ j, j < 18 → defaultValue (tyC j) = vp_V (FC (fun _ => 0)) j := fun j hj => by
  rcases (show j = 0 ∨ j = 1 ∨ j = 2 ∨ j = 3 ∨ j = 4 ∨ j = 5 ∨ j = 6 ∨ j = 7 ∨ j = 8 ∨ j = 9 ∨ j = 10 ∨ j = 11 ∨ j = 12 ∨ j = 13 ∨ j = 14 ∨ j = 15 ∨ j = 16 ∨ j = 17 by omega) with rfl | rfl | rfl | rfl | rfl | rfl | rfl | rfl | rfl | rfl | rfl | rfl | rfl | rfl | rfl | rfl | rfl | rfl <;> rfl
theorem hfsN : ∀ j, j < 14 → defaultValue (tyN j) = vp_V (FN (fun _ => 0)) j := fun j hj => by
  rcases (show j = 0 ∨ j = 1 ∨ j = 2 ∨ j = 3 ∨ j = 4 ∨ j = 5 ∨ j = 6 ∨ j = 7 ∨ j = 8 ∨ j = 9 ∨ j = 10 ∨ j = 11 ∨ j = 12 ∨ j = 13 by omega) with rfl | rfl | rfl | rfl | rfl | rfl | rfl | rfl | rfl | rfl | rfl | rfl | rfl | rfl <;> rfl
def tkN_init_s (c : Nat → Int32) : Nat → Int32 :=
  tk_up (tk_up (tk_up (tk_up c 0 1) 2 (-1)) 12 (-1)) 13 (-1)
set_option maxHeartbeats 1000000 in
set_option maxRecDepth 100000 in
theorem kN_init (l : Launch) (D : va_G) (h0 : Nat) (c : Nat → Int32) : tk_M l yN_init wsN_init { frames := 1, cells := 0, slots := 0, locals := 12 } D [] [.ref h0] [(h0, .inr (1, FN c))] [(h0, .inr (1, FN (tkN_init_s c)))] none := by
  refine tk_M.of (cc := cN_init) (maxL := 1) (ret := none) (by decide) rfl (Nat.le_of_ble_eq_true rfl) ?_
  intro p e s m below meth co A H locs ls hB hK hN hA hP hD hS hl
  obtain ⟨hx, hb, hr, hml, hown, hlk, hnm, hts⟩ := hB
  have hown : s.vm.findClass RN = some m.cls := hown
  have hl : lv_has ls 1 [(0, .ref h0)] := hl
  have hw : ∀ w ∈ tkW, w.before _ s = true := fun w h => hts w (List.mem_cons_of_mem _ h)
  have f9 := hw _ wF_N_9
  have f15 := hw _ wF_N_15
  have f19 := hw _ wF_N_19
  have f22 := hw _ wF_N_22
  refine lv_aload_n hx hb dN_init_0 rfl (lv_at hl 0 rfl) ?_
  refine W.objInit hx hb hown (hw _ wM_N_3) (hw _ wI_obj) (hw _ wC_obj) rfl (by rw [hml]; exact hl.1) rfl dN_init_1 (Nat.le_of_ble_eq_true rfl) (Nat.le_of_ble_eq_true rfl) ?_
  refine W.eq (g2 := F0 m 4 ls []) rfl ?_
  refine lv_aload_n hx hb dN_init_4 rfl (lv_at hl 0 rfl) ?_
  refine lv_iconst (v := 1) hx hb dN_init_5 (by decide) ?_
  refine va_put (D := D) (ci := 1) (v := .int 1) (ty := .boolean) (C := RN) (T := TN) (N := 14) hx hb hw inN tyN tyN_ok nmN hown hK hP hD hS 0 rfl rfl 0 (by decide) f9 (fun _ h9 => h9) rfl (tyN_ok 0 (by decide)) rfl rfl (Nat.le_of_ble_eq_true rfl) dN_init_6 (fun H locs hP hD hS => ?_)
  have hP : va_P D vwCl [(h0, .inr (1, FN (tk_up c 0 1)))] H := hP
  have hD : va_D A [(h0, .inr (1, FN (tk_up c 0 1)))] := hD
  refine lv_aload_n hx hb dN_init_9 rfl (lv_at hl 0 rfl) ?_
  refine lv_iconst (v := -1) hx hb dN_init_10 (by decide) ?_
  refine va_put (D := D) (ci := 1) (v := .int (-1)) (ty := .int) (C := RN) (T := TN) (N := 14) hx hb hw inN tyN tyN_ok nmN hown hK hP hD hS 0 rfl rfl 2 (by decide) f15 (fun _ h9 => h9) rfl (tyN_ok 2 (by decide)) rfl rfl (Nat.le_of_ble_eq_true rfl) dN_init_11 (fun H locs hP hD hS => ?_)
  have hP : va_P D vwCl [(h0, .inr (1, FN (tk_up (tk_up c 0 1) 2 (-1))))] H := hP
  have hD : va_D A [(h0, .inr (1, FN (tk_up (tk_up c 0 1) 2 (-1))))] := hD
  refine lv_aload_n hx hb dN_init_14 rfl (lv_at hl 0 rfl) ?_
  refine lv_iconst (v := -1) hx hb dN_init_15 (by decide) ?_
  refine va_put (D := D) (ci := 1) (v := .int (-1)) (ty := .int) (C := RN) (T := TN) (N := 14) hx hb hw inN tyN tyN_ok nmN hown hK hP hD hS 0 rfl rfl 12 (by decide) f19 (fun _ h9 => h9) rfl (tyN_ok 12 (by decide)) rfl rfl (Nat.le_of_ble_eq_true rfl) dN_init_16 (fun H locs hP hD hS => ?_)
  have hP : va_P D vwCl [(h0, .inr (1, FN (tk_up (tk_up (tk_up c 0 1) 2 (-1)) 12 (-1))))] H := hP
  have hD : va_D A [(h0, .inr (1, FN (tk_up (tk_up (tk_up c 0 1) 2 (-1)) 12 (-1))))] := hD
  refine lv_aload_n hx hb dN_init_19 rfl (lv_at hl 0 rfl) ?_
  refine lv_iconst (v := -1) hx hb dN_init_20 (by decide) ?_
  refine va_put (D := D) (ci := 1) (v := .int (-1)) (ty := .int) (C := RN) (T := TN) (N := 14) hx hb hw inN tyN tyN_ok nmN hown hK hP hD hS 0 rfl rfl 13 (by decide) f22 (fun _ h9 => h9) rfl (tyN_ok 13 (by decide)) rfl rfl (Nat.le_of_ble_eq_true rfl) dN_init_21 (fun H locs hP hD hS => ?_)
  have hP : va_P D vwCl [(h0, .inr (1, FN (tk_up (tk_up (tk_up (tk_up c 0 1) 2 (-1)) 12 (-1)) 13 (-1))))] H := hP
  have hD : va_D A [(h0, .inr (1, FN (tk_up (tk_up (tk_up (tk_up c 0 1) 2 (-1)) 12 (-1)) 13 (-1))))] := hD
  exact tk_vret hx hb hr hlk hP hD hS dN_init_24 (tk_ewN rfl)
def tkC_init_s (c : Nat → Int32) (x0 : Int32) : Nat → Int32 :=
  tk_up (tk_up c 0 x0) 6 7
set_option maxHeartbeats 1000000 in
set_option maxRecDepth 100000 in
theorem kC_init (l : Launch) (D : va_G) (h0 : Nat) (c : Nat → Int32) (x0 : Int32) (hb0 : x0 = 0 ∨ x0 = 1) : tk_M l yC_init wsC_init { frames := 1, cells := 0, slots := 0, locals := 12 } D [] [.ref h0, .int x0] [(h0, .inr (0, FC c))] [(h0, .inr (0, FC (tkC_init_s c x0)))] none := by
  refine tk_M.of (cc := cC_init) (maxL := 2) (ret := none) (by decide) rfl (Nat.le_of_ble_eq_true rfl) ?_
  intro p e s m below meth co A H locs ls hB hK hN hA hP hD hS hl
  obtain ⟨hx, hb, hr, hml, hown, hlk, hnm, hts⟩ := hB
  have hown : s.vm.findClass RC = some m.cls := hown
  have hl : lv_has ls 2 [(0, .ref h0), (1, .int x0)] := hl
  have hw : ∀ w ∈ tkW, w.before _ s = true := fun w h => hts w (List.mem_cons_of_mem _ h)
  have f9 := hw _ wF_C_9
  have f15 := hw _ wF_C_15
  refine lv_aload_n hx hb dC_init_0 rfl (lv_at hl 0 rfl) ?_
  refine W.objInit hx hb hown (hw _ wM_C_3) (hw _ wI_obj) (hw _ wC_obj) rfl (by rw [hml]; exact hl.1) rfl dC_init_1 (Nat.le_of_ble_eq_true rfl) (Nat.le_of_ble_eq_true rfl) ?_
  refine W.eq (g2 := F0 m 4 ls []) rfl ?_
  refine lv_aload_n hx hb dC_init_4 rfl (lv_at hl 0 rfl) ?_
  refine lv_iload_n hx hb dC_init_5 rfl (lv_at hl 1 rfl) ?_
  refine va_putF (D := D) (ci := 0) (v := .int x0) (ty := .boolean) (C := RC) (T := TC) (N := 18) hx hb hw inC tyC tyC_ok nmC hown hK hP hD hS 0 rfl rfl 0 (by decide) f9 (fun _ h9 => h9) rfl hnm rfl (tyC_ok 0 (by decide)) (tk_nb hb0) (tk_fb hb0) (Nat.le_of_ble_eq_true rfl) dC_init_6 (fun H locs hP hD hS => ?_)
  have hP : va_P D vwCl [(h0, .inr (0, FC (tk_up c 0 x0)))] H := hP
  have hD : va_D A [(h0, .inr (0, FC (tk_up c 0 x0)))] := hD
  refine lv_aload_n hx hb dC_init_9 rfl (lv_at hl 0 rfl) ?_
  refine lv_bipush (v := 7) hx hb dC_init_10 (by decide) ?_
  refine va_put (D := D) (ci := 0) (v := .int 7) (ty := .int) (C := RC) (T := TC) (N := 18) hx hb hw inC tyC tyC_ok nmC hown hK hP hD hS 0 rfl rfl 6 (by decide) f15 (fun _ h9 => h9) rfl (tyC_ok 6 (by decide)) rfl rfl (Nat.le_of_ble_eq_true rfl) dC_init_12 (fun H locs hP hD hS => ?_)
  have hP : va_P D vwCl [(h0, .inr (0, FC (tk_up (tk_up c 0 x0) 6 7)))] H := hP
  have hD : va_D A [(h0, .inr (0, FC (tk_up (tk_up c 0 x0) 6 7)))] := hD
  exact tk_vret hx hb hr hlk hP hD hS dC_init_15 (tk_ewC rfl)
def tkG0T : Nat → Nat → Int32 := fun k => match k with
  | 1 => tkC_init_s (fun _ => 0) 1
  | 2 => tkC_init_s (fun _ => 0) 0
  | _ => tkN_init_s (fun _ => 0)
def tk_QT (D : va_G) (h0 : Nat) (A : Nat → Prop) : Array Value → State → Outcome → State → Prop := fun _ st oc t => (∃ (ad : Nat → Nat) (cA : ClassId), ad 0 = h0 ∧ oc = .returned none ∧ va_P D vwCl (WT ad cA tkG0T) t.heap ∧ va_K D vwCl [(cA, .object "TickLines$Counter")] t ∧ va_D A (WT ad cA tkG0T)) ∧ va_F A st t
set_option maxHeartbeats 2000000 in
set_option maxRecDepth 100000 in
theorem kT_init (l : Launch) (D : va_G) (h0 : Nat) : ∀ sz : Nat, Met l yT_init wsT_init { frames := 2, cells := 6, slots := 81, locals := 33 } (va_Pc [.ref h0] (fun U => tk_P D [] [(h0, .inr (2, [.null, .null, .null]))] sz U ∧ va_AO "TickLines$Counter" U)) (tk_QT D h0 (va_A [(h0, .inr (2, [.null, .null, .null]))] sz)) 6 81 (va_A [(h0, .inr (2, [.null, .null, .null]))] sz) := by
  refine tk_ofG (cc := cT_init) (maxL := 1) (ret := none) (by decide) rfl (Nat.le_of_ble_eq_true rfl) ?_
  intro p e s m below meth co A H locs ls hB hAO hK hN hA hP hD hS hl
  obtain ⟨hx, hb, hr, hml, hown, hlk, hnm, hts⟩ := hB
  have hown : s.vm.findClass RT = some m.cls := hown
  have hl : lv_has ls 1 [(0, .ref h0)] := hl
  have hw : ∀ w ∈ tkW, w.before _ s = true := fun w h => hts w (List.mem_cons_of_mem _ h)
  refine lv_aload_n hx hb dT_init_0 rfl (lv_at hl 0 rfl) ?_
  refine W.objInit hx hb hown (hw _ wM_T_1) (hw _ wI_obj) (hw _ wC_obj) rfl (by rw [hml]; exact hl.1) rfl dT_init_1 (Nat.le_of_ble_eq_true rfl) (Nat.le_of_ble_eq_true rfl) ?_
  refine W.eq (g2 := F0 m 4 ls []) rfl ?_
  refine lv_aload_n hx hb dT_init_4 rfl (lv_at hl 0 rfl) ?_
  refine va_new (ci := 0) (fs := FC (fun _ => 0)) (C := RC) (T := TC) (N := 18) hx hb hw inC tyC tyC_ok hown (hw _ wL_T_7) (hw _ wN_C) (hw _ wZ_C) hK hP hD hS hA rfl hfsC (Nat.le_of_ble_eq_true rfl) (Nat.le_of_ble_eq_true rfl) dT_init_5 (fun q5 H hP hD hS => ?_)
  have hP : va_P D vwCl [(h0, .inr (2, [.null, .null, .null])), (q5, .inr (0, FC (fun _ => 0)))] H := hP
  have hD : va_D A [(h0, .inr (2, [.null, .null, .null])), (q5, .inr (0, FC (fun _ => 0)))] := hD
  refine lv_dup hx hb dT_init_8 rfl ?_
  refine lv_iconst (v := 1) hx hb dT_init_9 (by decide) ?_
  refine tk_call1 (cell := (q5, .inr (0, FC (fun _ => 0)))) (cell' := (q5, .inr (0, FC (tkC_init_s (fun _ => 0) 1)))) 1 hP hD hS hA rfl rfl (va_runI (As := [.int 1]) (rest := [.ref q5, .ref h0]) ⟨hx, hb, hml, hown, hw⟩ (kC_init l D q5 (fun _ => 0) 1 (by decide) H.size) (cwI 1 hw (tk_g0 tkW_good wC_C_init) rfl rfl rfl (hw _ wZ_C) (hw _ wM_T_9) (hw _ wI_C_init) rfl (by decide +kernel) ⟨(Nat.le_of_ble_eq_true rfl), (Nat.le_of_ble_eq_true rfl)⟩) (tk_preS hK hN hP hD [1] [] rfl rfl rfl) rfl rfl hl.1 rfl (lv_room (Nat.le_of_ble_eq_true rfl)) dT_init_10 ⟨(Nat.le_of_ble_eq_true rfl), (Nat.le_of_ble_eq_true rfl)⟩) (fun H locs hP hD hS => ?_)
  have hP : va_P D vwCl [(h0, .inr (2, [.null, .null, .null])), (q5, .inr (0, FC (tkC_init_s (fun _ => 0) 1)))] H := hP
  have hD : va_D A [(h0, .inr (2, [.null, .null, .null])), (q5, .inr (0, FC (tkC_init_s (fun _ => 0) 1)))] := hD
  refine W.eq (g2 := F0 m 13 ls [.ref q5, .ref h0]) rfl ?_
  refine va_putF (D := D) (ci := 2) (v := .ref q5) (ty := tyT 0) (C := RT) (T := TT) (N := 3) hx hb hw inT tyT tyT_ok nmT hown hK hP hD hS 0 rfl rfl 0 (by decide) (hw _ wF_T_12) (fun _ h9 => h9) rfl hnm rfl (tyT_ok 0 (by decide)) rfl rfl (Nat.le_of_ble_eq_true rfl) dT_init_13 (fun H locs hP hD hS => ?_)
  have hP : va_P D vwCl [(h0, .inr (2, [.ref q5, .null, .null])), (q5, .inr (0, FC (tkC_init_s (fun _ => 0) 1)))] H := hP
  have hD : va_D A [(h0, .inr (2, [.ref q5, .null, .null])), (q5, .inr (0, FC (tkC_init_s (fun _ => 0) 1)))] := hD
  refine lv_aload_n hx hb dT_init_16 rfl (lv_at hl 0 rfl) ?_
  refine va_new (ci := 0) (fs := FC (fun _ => 0)) (C := RC) (T := TC) (N := 18) hx hb hw inC tyC tyC_ok hown (hw _ wL_T_7) (hw _ wN_C) (hw _ wZ_C) hK hP hD hS hA rfl hfsC (Nat.le_of_ble_eq_true rfl) (Nat.le_of_ble_eq_true rfl) dT_init_17 (fun q17 H hP hD hS => ?_)
  have hP : va_P D vwCl [(h0, .inr (2, [.ref q5, .null, .null])), (q5, .inr (0, FC (tkC_init_s (fun _ => 0) 1))), (q17, .inr (0, FC (fun _ => 0)))] H := hP
  have hD : va_D A [(h0, .inr (2, [.ref q5, .null, .null])), (q5, .inr (0, FC (tkC_init_s (fun _ => 0) 1))), (q17, .inr (0, FC (fun _ => 0)))] := hD
  refine lv_dup hx hb dT_init_20 rfl ?_
  refine lv_iconst (v := 0) hx hb dT_init_21 (by decide) ?_
  refine tk_call1 (cell := (q17, .inr (0, FC (fun _ => 0)))) (cell' := (q17, .inr (0, FC (tkC_init_s (fun _ => 0) 0)))) 2 hP hD hS hA rfl rfl (va_runI (As := [.int 0]) (rest := [.ref q17, .ref h0]) ⟨hx, hb, hml, hown, hw⟩ (kC_init l D q17 (fun _ => 0) 0 (by decide) H.size) (cwI 1 hw (tk_g0 tkW_good wC_C_init) rfl rfl rfl (hw _ wZ_C) (hw _ wM_T_9) (hw _ wI_C_init) rfl (by decide +kernel) ⟨(Nat.le_of_ble_eq_true rfl), (Nat.le_of_ble_eq_true rfl)⟩) (tk_preS hK hN hP hD [2] [] rfl rfl rfl) rfl rfl hl.1 rfl (lv_room (Nat.le_of_ble_eq_true rfl)) dT_init_22 ⟨(Nat.le_of_ble_eq_true rfl), (Nat.le_of_ble_eq_true rfl)⟩) (fun H locs hP hD hS => ?_)
  have hP : va_P D vwCl [(h0, .inr (2, [.ref q5, .null, .null])), (q5, .inr (0, FC (tkC_init_s (fun _ => 0) 1))), (q17, .inr (0, FC (tkC_init_s (fun _ => 0) 0)))] H := hP
  have hD : va_D A [(h0, .inr (2, [.ref q5, .null, .null])), (q5, .inr (0, FC (tkC_init_s (fun _ => 0) 1))), (q17, .inr (0, FC (tkC_init_s (fun _ => 0) 0)))] := hD
  refine W.eq (g2 := F0 m 25 ls [.ref q17, .ref h0]) rfl ?_
  refine va_putF (D := D) (ci := 2) (v := .ref q17) (ty := tyT 1) (C := RT) (T := TT) (N := 3) hx hb hw inT tyT tyT_ok nmT hown hK hP hD hS 0 rfl rfl 1 (by decide) (hw _ wF_T_18) (fun _ h9 => h9) rfl hnm rfl (tyT_ok 1 (by decide)) rfl rfl (Nat.le_of_ble_eq_true rfl) dT_init_25 (fun H locs hP hD hS => ?_)
  have hP : va_P D vwCl [(h0, .inr (2, [.ref q5, .ref q17, .null])), (q5, .inr (0, FC (tkC_init_s (fun _ => 0) 1))), (q17, .inr (0, FC (tkC_init_s (fun _ => 0) 0)))] H := hP
  have hD : va_D A [(h0, .inr (2, [.ref q5, .ref q17, .null])), (q5, .inr (0, FC (tkC_init_s (fun _ => 0) 1))), (q17, .inr (0, FC (tkC_init_s (fun _ => 0) 0)))] := hD
  refine lv_aload_n hx hb dT_init_28 rfl (lv_at hl 0 rfl) ?_
  refine lv_iconst (v := 3) hx hb dT_init_29 (by decide) ?_
  refine va_newq (C := "TickLines$Counter") (N' := 3) hx hb hown (hw _ wL_T_21) hAO hK hP hD hS hA (by decide) (by decide) (by decide) (Nat.le_of_ble_eq_true rfl) (Nat.le_of_ble_eq_true rfl) dT_init_30 (fun q30 cA H hK hP hD hS => ?_)
  have hK : va_K D vwCl [(cA, .object "TickLines$Counter")] s := hK
  have hP : va_P D vwCl [(h0, .inr (2, [.ref q5, .ref q17, .null])), (q5, .inr (0, FC (tkC_init_s (fun _ => 0) 1))), (q17, .inr (0, FC (tkC_init_s (fun _ => 0) 0))), (q30, .inl (cA, 3, .inr (.inr (.inr (.inr (fun _ => none))))))] H := hP
  have hD : va_D A [(h0, .inr (2, [.ref q5, .ref q17, .null])), (q5, .inr (0, FC (tkC_init_s (fun _ => 0) 1))), (q17, .inr (0, FC (tkC_init_s (fun _ => 0) 0))), (q30, .inl (cA, 3, .inr (.inr (.inr (.inr (fun _ => none))))))] := hD
  refine lv_dup hx hb dT_init_33 rfl ?_
  refine lv_iconst (v := 0) hx hb dT_init_34 (by decide) ?_
  refine va_new (ci := 1) (fs := FN (fun _ => 0)) (C := RN) (T := TN) (N := 14) hx hb hw inN tyN tyN_ok hown (hw _ wL_T_21) (hw _ wN_N) (hw _ wZ_N) hK hP hD hS hA rfl hfsN (Nat.le_of_ble_eq_true rfl) (Nat.le_of_ble_eq_true rfl) dT_init_35 (fun q35 H hP hD hS => ?_)
  have hP : va_P D vwCl [(h0, .inr (2, [.ref q5, .ref q17, .null])), (q5, .inr (0, FC (tkC_init_s (fun _ => 0) 1))), (q17, .inr (0, FC (tkC_init_s (fun _ => 0) 0))), (q30, .inl (cA, 3, .inr (.inr (.inr (.inr (fun _ => none)))))), (q35, .inr (1, FN (fun _ => 0)))] H := hP
  have hD : va_D A [(h0, .inr (2, [.ref q5, .ref q17, .null])), (q5, .inr (0, FC (tkC_init_s (fun _ => 0) 1))), (q17, .inr (0, FC (tkC_init_s (fun _ => 0) 0))), (q30, .inl (cA, 3, .inr (.inr (.inr (.inr (fun _ => none)))))), (q35, .inr (1, FN (fun _ => 0)))] := hD
  refine lv_dup hx hb dT_init_38 rfl ?_
  refine tk_call1 (cell := (q35, .inr (1, FN (fun _ => 0)))) (cell' := (q35, .inr (1, FN (tkN_init_s (fun _ => 0))))) 4 hP hD hS hA rfl rfl (va_runI (As := []) (rest := [.ref q35, .int 0, .ref q30, .ref q30, .ref h0]) ⟨hx, hb, hml, hown, hw⟩ (kN_init l D q35 (fun _ => 0) H.size) (cwI 0 hw (tk_g0 tkW_good wC_N_init) rfl rfl rfl (hw _ wZ_N) (hw _ wM_T_23) (hw _ wI_N_init) rfl (by decide +kernel) ⟨(Nat.le_of_ble_eq_true rfl), (Nat.le_of_ble_eq_true rfl)⟩) (tk_preS hK hN hP hD [4] [] rfl rfl rfl) rfl rfl hl.1 rfl (lv_room (Nat.le_of_ble_eq_true rfl)) dT_init_39 ⟨(Nat.le_of_ble_eq_true rfl), (Nat.le_of_ble_eq_true rfl)⟩) (fun H locs hP hD hS => ?_)
  have hP : va_P D vwCl [(h0, .inr (2, [.ref q5, .ref q17, .null])), (q5, .inr (0, FC (tkC_init_s (fun _ => 0) 1))), (q17, .inr (0, FC (tkC_init_s (fun _ => 0) 0))), (q30, .inl (cA, 3, .inr (.inr (.inr (.inr (fun _ => none)))))), (q35, .inr (1, FN (tkN_init_s (fun _ => 0))))] H := hP
  have hD : va_D A [(h0, .inr (2, [.ref q5, .ref q17, .null])), (q5, .inr (0, FC (tkC_init_s (fun _ => 0) 1))), (q17, .inr (0, FC (tkC_init_s (fun _ => 0) 0))), (q30, .inl (cA, 3, .inr (.inr (.inr (.inr (fun _ => none)))))), (q35, .inr (1, FN (tkN_init_s (fun _ => 0))))] := hD
  refine W.eq (g2 := F0 m 42 ls [.ref q35, .int 0, .ref q30, .ref q30, .ref h0]) rfl ?_
  refine va_astq hx hb hK hP hD hS 3 0 4 1 rfl rfl rfl rfl (by unfold vp_in; decide) dT_init_42 (fun H locs hP hD hS => ?_)
  have hP : va_P D vwCl [(h0, .inr (2, [.ref q5, .ref q17, .null])), (q5, .inr (0, FC (tkC_init_s (fun _ => 0) 1))), (q17, .inr (0, FC (tkC_init_s (fun _ => 0) 0))), (q30, .inl (cA, 3, .inr (.inr (.inr (.inr (va_up (fun _ => none) 0 (some q35))))))), (q35, .inr (1, FN (tkN_init_s (fun _ => 0))))] H := hP
  have hD : va_D A [(h0, .inr (2, [.ref q5, .ref q17, .null])), (q5, .inr (0, FC (tkC_init_s (fun _ => 0) 1))), (q17, .inr (0, FC (tkC_init_s (fun _ => 0) 0))), (q30, .inl (cA, 3, .inr (.inr (.inr (.inr (va_up (fun _ => none) 0 (some q35))))))), (q35, .inr (1, FN (tkN_init_s (fun _ => 0))))] := hD
  refine lv_dup hx hb dT_init_43 rfl ?_
  refine lv_iconst (v := 1) hx hb dT_init_44 (by decide) ?_
  refine va_new (ci := 1) (fs := FN (fun _ => 0)) (C := RN) (T := TN) (N := 14) hx hb hw inN tyN tyN_ok hown (hw _ wL_T_21) (hw _ wN_N) (hw _ wZ_N) hK hP hD hS hA rfl hfsN (Nat.le_of_ble_eq_true rfl) (Nat.le_of_ble_eq_true rfl) dT_init_45 (fun q45 H hP hD hS => ?_)
  have hP : va_P D vwCl [(h0, .inr (2, [.ref q5, .ref q17, .null])), (q5, .inr (0, FC (tkC_init_s (fun _ => 0) 1))), (q17, .inr (0, FC (tkC_init_s (fun _ => 0) 0))), (q30, .inl (cA, 3, .inr (.inr (.inr (.inr (va_up (fun _ => none) 0 (some q35))))))), (q35, .inr (1, FN (tkN_init_s (fun _ => 0)))), (q45, .inr (1, FN (fun _ => 0)))] H := hP
  have hD : va_D A [(h0, .inr (2, [.ref q5, .ref q17, .null])), (q5, .inr (0, FC (tkC_init_s (fun _ => 0) 1))), (q17, .inr (0, FC (tkC_init_s (fun _ => 0) 0))), (q30, .inl (cA, 3, .inr (.inr (.inr (.inr (va_up (fun _ => none) 0 (some q35))))))), (q35, .inr (1, FN (tkN_init_s (fun _ => 0)))), (q45, .inr (1, FN (fun _ => 0)))] := hD
  refine lv_dup hx hb dT_init_48 rfl ?_
  refine tk_call1 (cell := (q45, .inr (1, FN (fun _ => 0)))) (cell' := (q45, .inr (1, FN (tkN_init_s (fun _ => 0))))) 5 hP hD hS hA rfl rfl (va_runI (As := []) (rest := [.ref q45, .int 1, .ref q30, .ref q30, .ref h0]) ⟨hx, hb, hml, hown, hw⟩ (kN_init l D q45 (fun _ => 0) H.size) (cwI 0 hw (tk_g0 tkW_good wC_N_init) rfl rfl rfl (hw _ wZ_N) (hw _ wM_T_23) (hw _ wI_N_init) rfl (by decide +kernel) ⟨(Nat.le_of_ble_eq_true rfl), (Nat.le_of_ble_eq_true rfl)⟩) (tk_preS hK hN hP hD [5] [] rfl rfl rfl) rfl rfl hl.1 rfl (lv_room (Nat.le_of_ble_eq_true rfl)) dT_init_49 ⟨(Nat.le_of_ble_eq_true rfl), (Nat.le_of_ble_eq_true rfl)⟩) (fun H locs hP hD hS => ?_)
  have hP : va_P D vwCl [(h0, .inr (2, [.ref q5, .ref q17, .null])), (q5, .inr (0, FC (tkC_init_s (fun _ => 0) 1))), (q17, .inr (0, FC (tkC_init_s (fun _ => 0) 0))), (q30, .inl (cA, 3, .inr (.inr (.inr (.inr (va_up (fun _ => none) 0 (some q35))))))), (q35, .inr (1, FN (tkN_init_s (fun _ => 0)))), (q45, .inr (1, FN (tkN_init_s (fun _ => 0))))] H := hP
  have hD : va_D A [(h0, .inr (2, [.ref q5, .ref q17, .null])), (q5, .inr (0, FC (tkC_init_s (fun _ => 0) 1))), (q17, .inr (0, FC (tkC_init_s (fun _ => 0) 0))), (q30, .inl (cA, 3, .inr (.inr (.inr (.inr (va_up (fun _ => none) 0 (some q35))))))), (q35, .inr (1, FN (tkN_init_s (fun _ => 0)))), (q45, .inr (1, FN (tkN_init_s (fun _ => 0))))] := hD
  refine W.eq (g2 := F0 m 52 ls [.ref q45, .int 1, .ref q30, .ref q30, .ref h0]) rfl ?_
  refine va_astq hx hb hK hP hD hS 3 0 5 1 rfl rfl rfl rfl (by unfold vp_in; decide) dT_init_52 (fun H locs hP hD hS => ?_)
  have hP : va_P D vwCl [(h0, .inr (2, [.ref q5, .ref q17, .null])), (q5, .inr (0, FC (tkC_init_s (fun _ => 0) 1))), (q17, .inr (0, FC (tkC_init_s (fun _ => 0) 0))), (q30, .inl (cA, 3, .inr (.inr (.inr (.inr (va_up (va_up (fun _ => none) 0 (some q35)) 1 (some q45))))))), (q35, .inr (1, FN (tkN_init_s (fun _ => 0)))), (q45, .inr (1, FN (tkN_init_s (fun _ => 0))))] H := hP
  have hD : va_D A [(h0, .inr (2, [.ref q5, .ref q17, .null])), (q5, .inr (0, FC (tkC_init_s (fun _ => 0) 1))), (q17, .inr (0, FC (tkC_init_s (fun _ => 0) 0))), (q30, .inl (cA, 3, .inr (.inr (.inr (.inr (va_up (va_up (fun _ => none) 0 (some q35)) 1 (some q45))))))), (q35, .inr (1, FN (tkN_init_s (fun _ => 0)))), (q45, .inr (1, FN (tkN_init_s (fun _ => 0))))] := hD
  refine lv_dup hx hb dT_init_53 rfl ?_
  refine lv_iconst (v := 2) hx hb dT_init_54 (by decide) ?_
  refine va_new (ci := 1) (fs := FN (fun _ => 0)) (C := RN) (T := TN) (N := 14) hx hb hw inN tyN tyN_ok hown (hw _ wL_T_21) (hw _ wN_N) (hw _ wZ_N) hK hP hD hS hA rfl hfsN (Nat.le_of_ble_eq_true rfl) (Nat.le_of_ble_eq_true rfl) dT_init_55 (fun q55 H hP hD hS => ?_)
  have hP : va_P D vwCl [(h0, .inr (2, [.ref q5, .ref q17, .null])), (q5, .inr (0, FC (tkC_init_s (fun _ => 0) 1))), (q17, .inr (0, FC (tkC_init_s (fun _ => 0) 0))), (q30, .inl (cA, 3, .inr (.inr (.inr (.inr (va_up (va_up (fun _ => none) 0 (some q35)) 1 (some q45))))))), (q35, .inr (1, FN (tkN_init_s (fun _ => 0)))), (q45, .inr (1, FN (tkN_init_s (fun _ => 0)))), (q55, .inr (1, FN (fun _ => 0)))] H := hP
  have hD : va_D A [(h0, .inr (2, [.ref q5, .ref q17, .null])), (q5, .inr (0, FC (tkC_init_s (fun _ => 0) 1))), (q17, .inr (0, FC (tkC_init_s (fun _ => 0) 0))), (q30, .inl (cA, 3, .inr (.inr (.inr (.inr (va_up (va_up (fun _ => none) 0 (some q35)) 1 (some q45))))))), (q35, .inr (1, FN (tkN_init_s (fun _ => 0)))), (q45, .inr (1, FN (tkN_init_s (fun _ => 0)))), (q55, .inr (1, FN (fun _ => 0)))] := hD
  refine lv_dup hx hb dT_init_58 rfl ?_
  refine tk_call1 (cell := (q55, .inr (1, FN (fun _ => 0)))) (cell' := (q55, .inr (1, FN (tkN_init_s (fun _ => 0))))) 6 hP hD hS hA rfl rfl (va_runI (As := []) (rest := [.ref q55, .int 2, .ref q30, .ref q30, .ref h0]) ⟨hx, hb, hml, hown, hw⟩ (kN_init l D q55 (fun _ => 0) H.size) (cwI 0 hw (tk_g0 tkW_good wC_N_init) rfl rfl rfl (hw _ wZ_N) (hw _ wM_T_23) (hw _ wI_N_init) rfl (by decide +kernel) ⟨(Nat.le_of_ble_eq_true rfl), (Nat.le_of_ble_eq_true rfl)⟩) (tk_preS hK hN hP hD [6] [] rfl rfl rfl) rfl rfl hl.1 rfl (lv_room (Nat.le_of_ble_eq_true rfl)) dT_init_59 ⟨(Nat.le_of_ble_eq_true rfl), (Nat.le_of_ble_eq_true rfl)⟩) (fun H locs hP hD hS => ?_)
  have hP : va_P D vwCl [(h0, .inr (2, [.ref q5, .ref q17, .null])), (q5, .inr (0, FC (tkC_init_s (fun _ => 0) 1))), (q17, .inr (0, FC (tkC_init_s (fun _ => 0) 0))), (q30, .inl (cA, 3, .inr (.inr (.inr (.inr (va_up (va_up (fun _ => none) 0 (some q35)) 1 (some q45))))))), (q35, .inr (1, FN (tkN_init_s (fun _ => 0)))), (q45, .inr (1, FN (tkN_init_s (fun _ => 0)))), (q55, .inr (1, FN (tkN_init_s (fun _ => 0))))] H := hP
  have hD : va_D A [(h0, .inr (2, [.ref q5, .ref q17, .null])), (q5, .inr (0, FC (tkC_init_s (fun _ => 0) 1))), (q17, .inr (0, FC (tkC_init_s (fun _ => 0) 0))), (q30, .inl (cA, 3, .inr (.inr (.inr (.inr (va_up (va_up (fun _ => none) 0 (some q35)) 1 (some q45))))))), (q35, .inr (1, FN (tkN_init_s (fun _ => 0)))), (q45, .inr (1, FN (tkN_init_s (fun _ => 0)))), (q55, .inr (1, FN (tkN_init_s (fun _ => 0))))] := hD
  refine W.eq (g2 := F0 m 62 ls [.ref q55, .int 2, .ref q30, .ref q30, .ref h0]) rfl ?_
  refine va_astq hx hb hK hP hD hS 3 0 6 1 rfl rfl rfl rfl (by unfold vp_in; decide) dT_init_62 (fun H locs hP hD hS => ?_)
  have hP : va_P D vwCl [(h0, .inr (2, [.ref q5, .ref q17, .null])), (q5, .inr (0, FC (tkC_init_s (fun _ => 0) 1))), (q17, .inr (0, FC (tkC_init_s (fun _ => 0) 0))), (q30, .inl (cA, 3, .inr (.inr (.inr (.inr (va_up (va_up (va_up (fun _ => none) 0 (some q35)) 1 (some q45)) 2 (some q55))))))), (q35, .inr (1, FN (tkN_init_s (fun _ => 0)))), (q45, .inr (1, FN (tkN_init_s (fun _ => 0)))), (q55, .inr (1, FN (tkN_init_s (fun _ => 0))))] H := hP
  have hD : va_D A [(h0, .inr (2, [.ref q5, .ref q17, .null])), (q5, .inr (0, FC (tkC_init_s (fun _ => 0) 1))), (q17, .inr (0, FC (tkC_init_s (fun _ => 0) 0))), (q30, .inl (cA, 3, .inr (.inr (.inr (.inr (va_up (va_up (va_up (fun _ => none) 0 (some q35)) 1 (some q45)) 2 (some q55))))))), (q35, .inr (1, FN (tkN_init_s (fun _ => 0)))), (q45, .inr (1, FN (tkN_init_s (fun _ => 0)))), (q55, .inr (1, FN (tkN_init_s (fun _ => 0))))] := hD
  refine va_putF (D := D) (ci := 2) (v := .ref q30) (ty := tyT 2) (C := RT) (T := TT) (N := 3) hx hb hw inT tyT tyT_ok nmT hown hK hP hD hS 0 rfl rfl 2 (by decide) (hw _ wF_T_24) (fun _ h9 => h9) rfl hnm rfl (tyT_ok 2 (by decide)) rfl rfl (Nat.le_of_ble_eq_true rfl) dT_init_63 (fun H locs hP hD hS => ?_)
  have hP : va_P D vwCl [(h0, .inr (2, [.ref q5, .ref q17, .ref q30])), (q5, .inr (0, FC (tkC_init_s (fun _ => 0) 1))), (q17, .inr (0, FC (tkC_init_s (fun _ => 0) 0))), (q30, .inl (cA, 3, .inr (.inr (.inr (.inr (va_up (va_up (va_up (fun _ => none) 0 (some q35)) 1 (some q45)) 2 (some q55))))))), (q35, .inr (1, FN (tkN_init_s (fun _ => 0)))), (q45, .inr (1, FN (tkN_init_s (fun _ => 0)))), (q55, .inr (1, FN (tkN_init_s (fun _ => 0))))] H := hP
  have hD : va_D A [(h0, .inr (2, [.ref q5, .ref q17, .ref q30])), (q5, .inr (0, FC (tkC_init_s (fun _ => 0) 1))), (q17, .inr (0, FC (tkC_init_s (fun _ => 0) 0))), (q30, .inl (cA, 3, .inr (.inr (.inr (.inr (va_up (va_up (va_up (fun _ => none) 0 (some q35)) 1 (some q45)) 2 (some q55))))))), (q35, .inr (1, FN (tkN_init_s (fun _ => 0)))), (q45, .inr (1, FN (tkN_init_s (fun _ => 0)))), (q55, .inr (1, FN (tkN_init_s (fun _ => 0))))] := hD
  refine W.widen (k := 6) (n := 81) (Nat.le_of_ble_eq_true rfl) (Nat.le_of_ble_eq_true rfl) ?_
  exact W.vret hx hb hr (fun t ht hW => ⟨⟨fun k => ([h0, q5, q17, q30, q35, q45, q55] : List Nat).getD k 0, cA, rfl, rfl, by rw [ht]; exact hP, va_K.moved hW.alike hK, hD⟩, hS.F ht⟩) hS.2.2 dT_init_66 hlk
