set_option maxHeartbeats 4000000 in
set_option maxRecDepth 100000 in
theorem tk_loop {p : Program} {l : Launch} {e : Env} {s : State} {m : MethodId} {below : List Frame} {meth : Method} {c : Code} {b L : Nat} {xs : Nat → Int32} {D : va_G} {hm : Nat} {aM : Nat → Nat} {cI cZ : ClassId} {ad : Nat → Nat} {cA : ClassId} {ao : Nat} {cJ : ClassId} (Fx : tk_Fx p l s m meth c b L xs D cI cZ cA cJ) : ∀ (n k cells slots : Nat) (G : Nat → Nat → Int32) (f : Nat → Int64) (H : Heap) (locs : List Loc) (ls : Array Slot), L < k + 4 + 4 * n → k ≤ 2048 → cells + n ≤ 1070 → slots + 6 * n ≤ 8419 → tkInv G → va_P D vwCl (tkLW hm aM cI cZ G ad cA (tkPsi G) ao cJ f) H → va_D (fun q => s.heap.size ≤ q) (tkLW hm aM cI cZ G ad cA (tkPsi G) ao cJ f) → va_S (fun q => s.heap.size ≤ q) s.heap H locs → lv_has ls 7 (tkLS b (ad 0) hm ao k) →
    W p l e room_1 s m #[Value.ref b] below meth c H locs cells slots (lw_Z below #[Value.ref b] s) (F0 m 23 ls []) := by
  have Fx0 := Fx
  obtain ⟨⟨hx, hb, hr, hml, hown, hts, hX, hbl, hlk, hgv⟩, hL, hl9, hN, hE, hNc, hKo, hKM⟩ := Fx0
  have hbA : ¬ (fun q => s.heap.size ≤ q) b := fun h => absurd hbl (Nat.not_lt.mpr h)
  intro n
  induction n with
  | zero =>
    intro k cells slots G f H locs ls hk hk2 hc hs hI hP hD hS hl
    refine lv_iload hx hb dW_23 (lv_at hl 0 rfl) ?_
    refine lv_aload_n hx hb dW_25 rfl (lv_at hl 4 rfl) ?_
    refine va_slen hx hb hX hbl hbA hS dW_26 ?_
    refine lv_iconst (v := 4) hx hb dW_27 (by decide) ?_
    refine lv_isub hx hb dW_28 ?_
    refine lv_icmp_gt (tgt := 515) hx hb dW_29 (by decide) (fun _ => ?_) (fun h => absurd ((tk_lim hL (by omega)).mpr (by omega)) h)
    refine lv_iconst (v := 1) hx hb dW_515 (by decide) ?_
    refine va_forget hS.2.2 ?_
    refine W.widen (k := 1070) (n := 8419) (by omega) (by omega) ?_
    exact lw_ret hx hb hr hlk dW_516
  | succ n ih =>
    intro k cells slots G f H locs ls hk hk2 hc hs hI hP hD hS hl
    refine lv_iload hx hb dW_23 (lv_at hl 0 rfl) ?_
    refine lv_aload_n hx hb dW_25 rfl (lv_at hl 4 rfl) ?_
    refine va_slen hx hb hX hbl hbA hS dW_26 ?_
    refine lv_iconst (v := 4) hx hb dW_27 (by decide) ?_
    refine lv_isub hx hb dW_28 ?_
    refine lv_icmp_gt (tgt := 515) hx hb dW_29 (by decide) (fun _ => ?_) (fun h => ?_)
    · refine lv_iconst (v := 1) hx hb dW_515 (by decide) ?_
      refine va_forget hS.2.2 ?_
      refine W.widen (k := 1070) (n := 8419) (by omega) (by omega) ?_
      exact lw_ret hx hb hr hlk dW_516
    · have hk4 : k + 4 ≤ L := Nat.not_lt.mp (fun q => h ((tk_lim hL (by omega)).mpr q))
      have kn : tk_On p l e s m below meth c b D hm aM cI cZ ad cA ao cJ k cells slots := by
        intro G f H locs ls hI hP hD hS hl
        refine lv_iinc (k := 0) (v := nI (k + 4)) hx hb dW_509 hl rfl (tk_i4 k) (by decide) rfl (fun ls hl => ?_)
        refine lv_goto (tgt := 23) hx hb dW_512 (by decide) ?_
        exact ih (k + 4) (cells + 1) (slots + 6) G f H locs ls (by omega) (by omega) (by omega) (by omega) hI hP hD hS hl
      refine lv_aload_n hx hb dW_32 rfl (lv_at hl 4 rfl) ?_
      refine lv_iload hx hb dW_33 (lv_at hl 0 rfl) ?_
      refine va_sld hx hb hX hbl hbA hS (tk_vi hL (by omega)) dW_35 ?_
      refine lv_bipush (v := 15) hx hb dW_36 (by decide) ?_
      refine lv_iand hx hb dW_38 ?_
      rcases tk_sw (xs (nI k).toNatClampNeg) with h9 | h9
      · rcases h9 with h9 | h9 | h9 | h9 | h9 | h9 | h9 | h9 | h9
        · rw [h9]
          refine lv_tableIn (off := 49) (tgt := 88) hx hb dW_39 (by decide) (by decide) (by first | rfl | decide) (by decide) ?_
          exact tk_case0 Fx hk4 (by omega) (by omega) kn hI hP hD hS hl
        · rw [h9]
          refine lv_tableIn (off := 97) (tgt := 136) hx hb dW_39 (by decide) (by decide) (by first | rfl | decide) (by decide) ?_
          exact tk_case1 Fx hk4 (by omega) (by omega) kn hI hP hD hS hl
        · rw [h9]
          refine lv_tableIn (off := 153) (tgt := 192) hx hb dW_39 (by decide) (by decide) (by first | rfl | decide) (by decide) ?_
          exact tk_case2 Fx hk4 (by omega) (by omega) kn hI hP hD hS hl
        · rw [h9]
          refine lv_tableIn (off := 218) (tgt := 257) hx hb dW_39 (by decide) (by decide) (by first | rfl | decide) (by decide) ?_
          exact tk_case3 Fx hk4 (by omega) (by omega) kn hI hP hD hS hl
        · rw [h9]
          refine lv_tableIn (off := 271) (tgt := 310) hx hb dW_39 (by decide) (by decide) (by first | rfl | decide) (by decide) ?_
          exact tk_case4 Fx hk4 (by omega) (by omega) kn hI hP hD hS hl
        · rw [h9]
          refine lv_tableIn (off := 327) (tgt := 366) hx hb dW_39 (by decide) (by decide) (by first | rfl | decide) (by decide) ?_
          exact tk_case5 Fx hk4 (by omega) (by omega) kn hI hP hD hS hl
        · rw [h9]
          refine lv_tableIn (off := 371) (tgt := 410) hx hb dW_39 (by decide) (by decide) (by first | rfl | decide) (by decide) ?_
          exact tk_case6 Fx hk4 (by omega) (by omega) kn hI hP hD hS hl
        · rw [h9]
          refine lv_tableIn (off := 396) (tgt := 435) hx hb dW_39 (by decide) (by decide) (by first | rfl | decide) (by decide) ?_
          exact tk_case7 Fx hk4 (by omega) (by omega) kn hI hP hD hS hl
        · rw [h9]
          refine lv_tableIn (off := 433) (tgt := 472) hx hb dW_39 (by decide) (by decide) (by first | rfl | decide) (by decide) ?_
          exact tk_case8 Fx hk4 (by omega) (by omega) kn hI hP hD hS hl
      · refine lv_tableOut (tgt := 509) hx hb dW_39 h9 (by decide) ?_
        refine W.widen (k := cells + 1) (n := slots + 6) (by omega) (by omega) ?_
        exact kn G f H locs ls hI hP hD hS hl
theorem tk_callIT {p : Program} {l : Launch} {e : Env} {R : Room} {s : State} {m : MethodId} {args : Array Value} {below : List Frame} {meth : Method} {c : Code} {H H0 : Heap} {locs : List Loc} {cells slots mc ms : Nat} {Q : State → Prop} {pc : Nat} {ls : Array Slot} {rest st0 : List Value} {a : Array Value} {D : va_G} {A : Nat → Prop} {wa wb : va_W} {h0 : Nat} (hP : va_P D vwCl (wa ++ ([(h0, .inr (2, [.null, .null, .null]))] ++ wb)) H) (hD : va_D A (wa ++ ([(h0, .inr (2, [.null, .null, .null]))] ++ wb))) (hS : va_S A H0 H locs) (hA : ∀ q, H0.size ≤ q → A q)
    (hr : va_Run p l e R s m args below meth c H locs cells slots mc ms (F0 m pc ls st0) rest (tk_QT D h0 (va_A [(h0, .inr (2, [.null, .null, .null]))] H.size) a) (va_A [(h0, .inr (2, [.null, .null, .null]))] H.size))
    (kk : ∀ (ad : Nat → Nat) (cA : ClassId) (H1 : Heap) (locs1 : List Loc), ad 0 = h0 → va_K D vwCl [(cA, .object "TickLines$Counter")] s → va_P D vwCl (wa ++ (WT ad cA tkG0T ++ wb)) H1 → va_D A (wa ++ (WT ad cA tkG0T ++ wb)) → va_S A H0 H1 locs1 → W p l e R s m args below meth c H1 locs1 (cells + mc) (slots + ms) Q (F0 m (pc + 3) ls rest)) : W p l e R s m args below meth c H locs cells slots Q (F0 m pc ls st0) := by
  have hF := tk_Fseg hD hS hA
  intro T hT X
  obtain ⟨v, st₀, t, T', L, h0', X', hL, e1, e2, ⟨⟨ad, cA, ha, hv, hp, hk, hd⟩, hFr⟩, st⟩ := hr T hT X
  cases hv
  obtain ⟨k1, k2, k3⟩ := vx_keep h0' e1 hS (fun q _ z => hF q z) hF hL hFr
  obtain ⟨j1, j2⟩ := tk_seg hP hD k2 hF (by rw [e1]; exact hp) hd
  have hvm : s.vm.Alike t.vm := by rw [← e2]; exact X'.warmed.alike
  obtain ⟨t2, a1, b1⟩ := kk ad cA T'.heap (locs ++ L) ha (va_K.moved hvm.symm hk) j1 j2 k3 T' rfl X'
  exact ⟨t2, st t2 a1, b1⟩
theorem tk_callIM {p : Program} {l : Launch} {e : Env} {R : Room} {s : State} {m : MethodId} {args : Array Value} {below : List Frame} {meth : Method} {c : Code} {H H0 : Heap} {locs : List Loc} {cells slots mc ms : Nat} {Q : State → Prop} {pc : Nat} {ls : Array Slot} {rest st0 : List Value} {a : Array Value} {D : va_G} {A : Nat → Prop} {wa wb : va_W} {h0 : Nat} (hP : va_P D vwCl (wa ++ ([(h0, .inr (3, FM0))] ++ wb)) H) (hD : va_D A (wa ++ ([(h0, .inr (3, FM0))] ++ wb))) (hS : va_S A H0 H locs) (hA : ∀ q, H0.size ≤ q → A q)
    (hr : va_Run p l e R s m args below meth c H locs cells slots mc ms (F0 m pc ls st0) rest (tk_QM D h0 (va_A [(h0, .inr (3, FM0))] H.size) a) (va_A [(h0, .inr (3, FM0))] H.size))
    (kk : ∀ (ad : Nat → Nat) (cI cZ : ClassId) (H1 : Heap) (locs1 : List Loc), ad 0 = h0 → va_K D vwCl [(cI, .int), (cZ, .boolean)] s → va_P D vwCl (wa ++ (WM h0 ad cI cZ tkG0M ++ wb)) H1 → va_D A (wa ++ (WM h0 ad cI cZ tkG0M ++ wb)) → va_S A H0 H1 locs1 → W p l e R s m args below meth c H1 locs1 (cells + mc) (slots + ms) Q (F0 m (pc + 3) ls rest)) : W p l e R s m args below meth c H locs cells slots Q (F0 m pc ls st0) := by
  have hF := tk_Fseg hD hS hA
  intro T hT X
  obtain ⟨v, st₀, t, T', L, h0', X', hL, e1, e2, ⟨⟨ad, cI, cZ, ha, hv, hp, hk, hd⟩, hFr⟩, st⟩ := hr T hT X
  cases hv
  obtain ⟨k1, k2, k3⟩ := vx_keep h0' e1 hS (fun q _ z => hF q z) hF hL hFr
  obtain ⟨j1, j2⟩ := tk_seg hP hD k2 hF (by rw [e1]; exact hp) hd
  have hvm : s.vm.Alike t.vm := by rw [← e2]; exact X'.warmed.alike
  obtain ⟨t2, a1, b1⟩ := kk ad cI cZ T'.heap (locs ++ L) ha (va_K.moved hvm.symm hk) j1 j2 k3 T' rfl X'
  exact ⟨t2, st t2 a1, b1⟩
theorem tk_fsT : ∀ j, j < 3 → defaultValue (tyT j) = vp_V [.null, .null, .null] j := fun j hj => by
  rcases (by omega : j = 0 ∨ j = 1 ∨ j = 2) with rfl | rfl | rfl <;> rfl
theorem tk_fsM : ∀ j, j < 33 → defaultValue (tyM j) = vp_V FM0 j := fun j hj => by
  rcases (by omega : j = 0 ∨ j = 1 ∨ j = 2 ∨ j = 3 ∨ j = 4 ∨ j = 5 ∨ j = 6 ∨ j = 7 ∨ j = 8 ∨ j = 9 ∨ j = 10 ∨ j = 11 ∨ j = 12 ∨ j = 13 ∨ j = 14 ∨ j = 15 ∨ j = 16 ∨ j = 17 ∨ j = 18 ∨ j = 19 ∨ j = 20 ∨ j = 21 ∨ j = 22 ∨ j = 23 ∨ j = 24 ∨ j = 25 ∨ j = 26 ∨ j = 27 ∨ j = 28 ∨ j = 29 ∨ j = 30 ∨ j = 31 ∨ j = 32) with rfl | rfl | rfl | rfl | rfl | rfl | rfl | rfl | rfl | rfl | rfl | rfl | rfl | rfl | rfl | rfl | rfl | rfl | rfl | rfl | rfl | rfl | rfl | rfl | rfl | rfl | rfl | rfl | rfl | rfl | rfl | rfl | rfl <;> rfl
theorem tk_blindA {D : va_G} {tys : List (ClassId × FieldType)} {ws : va_W} {sz : Nat} {av : List Value} : FrameBlind (va_Pc av (fun U => tk_P D tys ws sz U ∧ va_AO "TickLines$Counter" U)) := fun a U g mk q => by
  obtain ⟨q0, q1, q2⟩ := q
  obtain ⟨z0, z1⟩ := tk_blind (av := av) a U g mk ⟨q0, q1⟩
  exact ⟨z0, z1, va_AO.moved (u := U) (U := U.calling g mk a) (Vm.Alike.refl U.vm) q2⟩
theorem tk_blindB {D : va_G} {tys : List (ClassId × FieldType)} {ws : va_W} {sz : Nat} {av : List Value} : FrameBlind (va_Pc av (fun U => tk_P D tys ws sz U ∧ True)) := fun a U g mk q => by
  obtain ⟨q0, q1, q2⟩ := q
  obtain ⟨z0, z1⟩ := tk_blind (av := av) a U g mk ⟨q0, q1⟩
  exact ⟨z0, z1, q2⟩
theorem tk_K0 {s : State} {args : Array Value} (hk : ∀ w ∈ tkW, w.before args s = true) (hm : ∀ w ∈ tkWM, w.before args s = true) : ∃ D : va_G, va_K D vwCl [] s := by
  obtain ⟨c0, i0, k0⟩ := u_known hk inC (hk _ wN_C)
  obtain ⟨c1, i1, k1⟩ := u_known hk inN (hk _ wN_N)
  obtain ⟨c2, i2, k2⟩ := u_known hk inT (hk _ wN_T)
  obtain ⟨c3, i3, k3⟩ := u_known hm inM (hm _ wN_M)
  refine ⟨(fun c => match c with | 0 => c0 | 1 => c1 | 2 => c2 | _ => c3, fun c => match c with | 0 => i0 | 1 => i1 | 2 => i2 | _ => i3), fun c q hq => ?_, fun k q hk => by cases hk⟩
  match c, hq with
  | 0, hq => cases hq; exact k0
  | 1, hq => cases hq; exact k1
  | 2, hq => cases hq; exact k2
  | 3, hq => cases hq; exact k3
  | n + 4, hq => cases hq
set_option maxHeartbeats 4000000 in
set_option maxRecDepth 100000 in
/-- from the entry, for every script of at most 2048 ints, the law comes to its end with true -/
theorem whole_start {p : Program} {e : Env} {s : State} {m : MethodId} {below : List Frame} {meth : Method} {c : Code} (l : Launch) (hl9 : l.stackTraces = false) {b L : Nat} {xs : Nat → Int32} (hL : L ≤ 2048) (C0 : lw_At p s m meth c b L xs) : W p l e room_1 s m #[Value.ref b] below meth c s.heap [] 0 0 (lw_Z below #[Value.ref b] s) (entryFrame m ([Value.ref b] : List Value).toArray 7) := by
  have C1 := C0
  obtain ⟨hx, hb, hr, hml, hown, hts, hX, hbl, hlk, hgv⟩ := C1
  have hown : s.vm.findClass "TickLinesLaw" = some m.cls := hown
  have hw : ∀ w ∈ tkWA, w.before #[Value.ref b] s = true := fun w h => hts w (tkWA_lw w h)
  have hN : tk_N s := fun w h => va_Nw.of (tk_nk_tab (tk_Z_ok w h)) (hts w (tk_Z_lw w h))
  have hA : ∀ q, s.heap.size ≤ q → (fun q => s.heap.size ≤ q) q := fun q h => h
  have hA0 : ∀ a : Nat, a < s.heap.size → ¬ (fun q => s.heap.size ≤ q) a := fun a h h2 => absurd h (Nat.not_lt.mpr h2)
  have hgs := flat_of_before _ hgv
  have hE : tk_E2 (fun q => s.heap.size ≤ q) s s.heap := ⟨vx_Zqof (hts _ (by decide +kernel)) (hts _ (by decide +kernel)) (hgs _ (by decide +kernel)) hA0, vx_Zqof (hts _ (by decide +kernel)) (hts _ (by decide +kernel)) (hgs _ (by decide +kernel)) hA0⟩
  have hNc : va_Nc "java/lang/IllegalStateException" "java/lang/IllegalArgumentException" s := va_Nc.of (hgs (.not (.castable "java/lang/IllegalStateException" "java/lang/IllegalArgumentException")) (by decide +kernel))
  have hAO : va_AO "TickLines$Counter" s := va_AO.of (hts (.arrayOver (.object "TickLines$Counter")) (by decide +kernel))
  obtain ⟨D, hK⟩ := tk_K0 (fun w h => hw w (tkWA_k w h)) (fun w h => hw w (tkWA_m w h))
  have hP : va_P D vwCl [] s.heap := fun k q h => by cases h
  have hD : va_D (fun q => s.heap.size ≤ q) [] := ⟨(fun i j x y hi hj hxy => by cases hi), (fun k q h => by cases h)⟩
  have hS : va_S (fun q => s.heap.size ≤ q) s.heap s.heap [] := va_S.rf
  have hl := lv_entry ([.ref b]) (n := 7) (Nat.le_of_ble_eq_true rfl)
  rw [lg_entry_eq]
  generalize (lg_sl ([.ref b]) ++ List.replicate (7 - (lg_sl ([.ref b])).length) Slot.unset).toArray = ls at hl ⊢
  have hl : lv_has ls 7 [(0, .ref b)] := hl
  refine va_new (ci := 2) (fs := [.null, .null, .null]) (C := RT) (T := TT) (N := 3) hx hb hw (fun w h => tkWA_k w (inT w h)) tyT tyT_ok hown (hw _ (tkWA_l _ wL_L_8)) (hw _ (tkWA_k _ wN_T)) (hw _ (tkWA_k _ wZ_T)) hK hP hD hS hA rfl tk_fsT (Nat.le_of_ble_eq_true rfl) (Nat.le_of_ble_eq_true rfl) dW_0 (fun q0 H hP hD hS => ?_)
  have hP : va_P D vwCl ([] ++ ([(q0, .inr (2, [.null, .null, .null]))] ++ [])) H := hP
  have hD : va_D (fun q => s.heap.size ≤ q) ([] ++ ([(q0, .inr (2, [.null, .null, .null]))] ++ [])) := hD
  refine lv_dup hx hb dW_3 rfl ?_
  refine tk_callIT hP hD hS hA (va_runI (As := []) (rest := [.ref q0]) ⟨hx, hb, hml, hown, hw⟩ (kT_init l D q0 H.size) (cwI 0 hw (tk_g0A tkWA_k wC_T_init) rfl rfl rfl (hw _ (tkWA_k _ wZ_T)) (hw _ (tkWA_l _ wM_L_28)) (hw _ (tkWA_k _ wI_T_init)) rfl (by decide +kernel) ⟨Nat.le_of_ble_eq_true rfl, Nat.le_of_ble_eq_true rfl⟩) ⟨tk_blindA, fun U hU hW => ⟨rfl, ⟨by rw [hU], by rw [hU]; exact hP, va_K.moved hW.alike hK, hD.weaken (fun _ _ _ _ => trivial), tk_N.warm hW hN⟩, va_AO.moved hW.alike hAO⟩⟩ rfl rfl hl.1 rfl (lv_room (Nat.le_of_ble_eq_true rfl)) dW_4 ⟨Nat.le_of_ble_eq_true rfl, Nat.le_of_ble_eq_true rfl⟩) (fun ad cA H locs ha hKT hP hD hS => ?_)
  refine W.eq (g2 := F0 m 7 ls [.ref q0]) rfl ?_
  refine lv_astore_n hx hb dW_7 rfl hl (by decide) rfl (fun ls hl => ?_)
  have hl : lv_has ls 7 [(1, .ref q0), (0, .ref b)] := hl
  have hP : va_P D vwCl (WT ad cA (tkPsi tkG0M)) H := hP
  have hD : va_D (fun q => s.heap.size ≤ q) (WT ad cA (tkPsi tkG0M)) := hD
  refine va_new (ci := 3) (fs := FM0) (C := RM) (T := TM) (N := 33) hx hb hw (fun w h => tkWA_m w (inM w h)) tyM tyM_ok hown (hw _ (tkWA_l _ wL_L_29)) (hw _ (tkWA_m _ wN_M)) (hw _ (tkWA_m _ wZ_M)) hK hP hD hS hA rfl tk_fsM (Nat.le_of_ble_eq_true rfl) (Nat.le_of_ble_eq_true rfl) dW_8 (fun hm H hP hD hS => ?_)
  have hP : va_P D vwCl (WT ad cA (tkPsi tkG0M) ++ ([(hm, .inr (3, FM0))] ++ [])) H := hP
  have hD : va_D (fun q => s.heap.size ≤ q) (WT ad cA (tkPsi tkG0M) ++ ([(hm, .inr (3, FM0))] ++ [])) := hD
  refine lv_dup hx hb dW_11 rfl ?_
  refine tk_callIM hP hD hS hA (va_runI (As := []) (rest := [.ref hm]) ⟨hx, hb, hml, hown, hw⟩ (kM_init l D hm H.size) (cwI 0 hw (tk_g0A tkWA_m wC_M_init) rfl rfl rfl (hw _ (tkWA_m _ wZ_M)) (hw _ (tkWA_l _ wM_L_31)) (hw _ (tkWA_m _ wI_M_init)) rfl (by decide +kernel) ⟨Nat.le_of_ble_eq_true rfl, Nat.le_of_ble_eq_true rfl⟩) ⟨tk_blindB, fun U hU hW => ⟨rfl, ⟨by rw [hU], by rw [hU]; exact tk_P_l (tk_P_r hP), va_K.moved hW.alike hK, (tk_D_l (tk_D_r hD)).weaken (fun _ _ _ _ => trivial), tk_N.warm hW hN⟩, trivial⟩⟩ rfl rfl hl.1 rfl (lv_room (Nat.le_of_ble_eq_true rfl)) dW_12 ⟨Nat.le_of_ble_eq_true rfl, Nat.le_of_ble_eq_true rfl⟩) (fun aM cI cZ H locs hma hKM hP hD hS => ?_)
  refine W.eq (g2 := F0 m 15 ls [.ref hm]) rfl ?_
  refine lv_astore_n hx hb dW_15 rfl hl (by decide) rfl (fun ls hl => ?_)
  have hl : lv_has ls 7 [(2, .ref hm), (1, .ref q0), (0, .ref b)] := hl
  refine lv_iconst (v := 1) hx hb dW_16 (by decide) ?_
  refine va_newa (atype := .long) (ty := .long) (N' := 1) (a0 := (1, .inr (.inl (fun _ => 0)))) hx hb (hw _ (tkWA_l _ wA_long)) rfl hKT hP hD hS hA (fun _ => rfl) (by decide) rfl (by decide) (Nat.le_of_ble_eq_true rfl) (Nat.le_of_ble_eq_true rfl) dW_17 (fun ao cJ H hKo hP hD hS => ?_)
  have hKo : va_K D vwCl [(cA, .object "TickLines$Counter"), (cJ, .long)] s := hKo
  have hP : va_P D vwCl (WT ad cA (tkPsi tkG0M) ++ (WM hm aM cI cZ tkG0M ++ tkO ao cJ (fun _ => 0))) H := hP
  have hD : va_D (fun q => s.heap.size ≤ q) (WT ad cA (tkPsi tkG0M) ++ (WM hm aM cI cZ tkG0M ++ tkO ao cJ (fun _ => 0))) := hD
  have hP := tk_P_swap hP
  have hD := tk_D_swap hD
  refine lv_astore_n hx hb dW_19 rfl hl (by decide) rfl (fun ls hl => ?_)
  refine lv_iconst (v := 0) hx hb dW_20 (by decide) ?_
  refine lv_istore hx hb dW_21 hl (by decide) rfl (fun ls hl => ?_)
  have hl : lv_has ls 7 (tkLS b (ad 0) hm ao 0) := by rw [ha]; exact hl
  exact tk_loop ⟨C0, hL, hl9, hN, hE, hNc, hKo, hKM⟩ 512 0 _ _ tkG0M _ H locs ls (by omega) (by omega) (by decide) (by decide) tk_inv0 hP hD hS hl
