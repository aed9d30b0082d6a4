abbrev tkO (ao : Nat) (cJ : ClassId) (f : Nat → Int64) : va_W := [(ao, .inl (cJ, 1, .inr (.inl f)))]
abbrev tkLW (hm : Nat) (aM : Nat → Nat) (cI cZ : ClassId) (G : Nat → Nat → Int32) (ad : Nat → Nat) (cA : ClassId) (g : Nat → Nat → Int32) (ao : Nat) (cJ : ClassId) (f : Nat → Int64) : va_W := WM hm aM cI cZ G ++ (WT ad cA g ++ tkO ao cJ f)
abbrev tkLS (b x hm ao k : Nat) : List (Nat × Value) := [(4, .int (nI k)), (3, .ref ao), (2, .ref hm), (1, .ref x), (0, .ref b)]
/-- what holds all through the law's walk -/
def tk_Fx (p : Program) (l : Launch) (s : State) (m : MethodId) (meth : Method) (c : Code) (b L : Nat) (xs : Nat → Int32) (D : va_G) (cI cZ cA cJ : ClassId) : Prop := lw_At p s m meth c b L xs ∧ L ≤ 2048 ∧ l.stackTraces = false ∧ tk_N s ∧ tk_E2 (fun q => s.heap.size ≤ q) s s.heap ∧ va_Nc "java/lang/IllegalStateException" "java/lang/IllegalArgumentException" s ∧ va_K D vwCl [(cA, .object "TickLines$Counter"), (cJ, .long)] s ∧ va_K D vwCl [(cI, .int), (cZ, .boolean)] s
/-- the way on, at the end of a turn -/
def tk_On (p : Program) (l : Launch) (e : Env) (s : State) (m : MethodId) (below : List Frame) (meth : Method) (c : Code) (b : Nat) (D : va_G) (hm : Nat) (aM : Nat → Nat) (cI cZ : ClassId) (ad : Nat → Nat) (cA : ClassId) (ao : Nat) (cJ : ClassId) (k cells slots : Nat) : Prop :=
  ∀ (G : Nat → Nat → Int32) (f : Nat → Int64) (H : Heap) (locs : List Loc) (ls : Array Slot), tkInv G → va_P D vwCl (tkLW hm aM cI cZ G ad cA (tkPsi G) ao cJ f) H → va_D (fun q => s.heap.size ≤ q) (tkLW hm aM cI cZ G ad cA (tkPsi G) ao cJ f) → va_S (fun q => s.heap.size ≤ q) s.heap H locs → lv_has ls 7 (tkLS b (ad 0) hm ao k) →
    W p l e room_1 s m #[Value.ref b] below meth c H locs (cells + 1) (slots + 6) (lw_Z below #[Value.ref b] s) (F0 m 509 ls [])
set_option maxHeartbeats 4000000 in
set_option maxRecDepth 100000 in
theorem tk_case0 {p : Program} {l : Launch} {e : Env} {s : State} {m : MethodId} {below : List Frame} {meth : Method} {c : Code} {b L : Nat} {xs : Nat → Int32} {D : va_G} {hm : Nat} {aM : Nat → Nat} {cI cZ : ClassId} {ad : Nat → Nat} {cA : ClassId} {ao : Nat} {cJ : ClassId} {k cells slots : Nat} (Fx : tk_Fx p l s m meth c b L xs D cI cZ cA cJ) (hk4 : k + 4 ≤ L) (hc : cells + 1 ≤ 1070) (hs : slots + 6 ≤ 8419) (kn : tk_On p l e s m below meth c b D hm aM cI cZ ad cA ao cJ k cells slots) {G : Nat → Nat → Int32} {f : Nat → Int64} {H : Heap} {locs : List Loc} {ls : Array Slot} (hI : tkInv G) (hP : va_P D vwCl (tkLW hm aM cI cZ G ad cA (tkPsi G) ao cJ f) H) (hD : va_D (fun q => s.heap.size ≤ q) (tkLW hm aM cI cZ G ad cA (tkPsi G) ao cJ f)) (hS : va_S (fun q => s.heap.size ≤ q) s.heap H locs) (hl : lv_has ls 7 (tkLS b (ad 0) hm ao k)) :
    W p l e room_1 s m #[Value.ref b] below meth c H locs cells slots (lw_Z below #[Value.ref b] s) (F0 m 88 ls []) := by
  obtain ⟨⟨hx, hb, hr, hml, hown, hts, hX, hbl, hlk, hgv⟩, hL, hl9, hN, hE, hNc, hKo, hKM⟩ := Fx
  have hown : s.vm.findClass "TickLinesLaw" = some m.cls := hown
  have hw : ∀ w ∈ tkWA, w.before #[Value.ref b] s = true := fun w h => hts w (tkWA_lw w h)
  have hKT : va_K D vwCl [(cA, .object "TickLines$Counter")] s := hKo.sub [0] rfl
  have hA : ∀ q, s.heap.size ≤ q → (fun q => s.heap.size ≤ q) q := fun q h => h
  have hbA : ¬ (fun q => s.heap.size ≤ q) b := fun h => absurd hbl (Nat.not_lt.mpr h)
  have hc0 : cells ≤ 1070 := by omega
  have hs0 : slots ≤ 8419 := by omega
  have v1 := tk_vi1 (L := L) (k := k) hL (by omega)
  have v2 := tk_vi2 (L := L) (k := k) hL (by omega)
  have v3 := tk_vi3 (L := L) (k := k) hL (by omega)
  obtain ⟨h1, h2, h3⟩ := tkR_write G hI (xs (nI k + 1).toNatClampNeg) (xs (nI k + 2).toNatClampNeg)
  refine lv_aload_n hx hb dW_88 rfl (lv_at hl 3 rfl) ?_
  refine lv_aload_n hx hb dW_89 rfl (lv_at hl 4 rfl) ?_
  refine lv_iload hx hb dW_90 (lv_at hl 0 rfl) ?_
  refine lv_iconst (v := 1) hx hb dW_92 (by decide) ?_
  refine lv_iadd hx hb dW_93 ?_
  refine va_sld hx hb hX hbl hbA hS v1 dW_94 ?_
  refine lv_aload_n hx hb dW_95 rfl (lv_at hl 4 rfl) ?_
  refine lv_iload hx hb dW_96 (lv_at hl 0 rfl) ?_
  refine lv_iconst (v := 2) hx hb dW_98 (by decide) ?_
  refine lv_iadd hx hb dW_99 ?_
  refine va_sld hx hb hX hbl hbA hS v2 dW_100 ?_
  refine tk_callS (wa := WM hm aM cI cZ G) (wc := WT ad cA (tkPsi G)) (wb := tkO ao cJ f) hP hD hS hA (vx_runSW (As := [.ref (ad 0), .int (xs (nI k + 1).toNatClampNeg), .int (xs (nI k + 2).toNatClampNeg)]) (rest := []) ⟨hx, hb, hml, hown, hw⟩ (kL_write l hl9 D ad cA (tkPsi G) (xs (nI k + 1).toNatClampNeg) (xs (nI k + 2).toNatClampNeg) H.size) (vx_cwSW 3 hw (tk_gSW wM_L_32 wT_L_write wZ_L wC_L_write) rfl rfl rfl (by decide +kernel) ⟨Nat.le_of_ble_eq_true rfl, Nat.le_of_ble_eq_true rfl⟩) (tk_preSH hE hNc hS (tk_Fseg (wa := WM hm aM cI cZ G) (wb := tkO ao cJ f) hD hS hA) hKT hN (tk_P_l (tk_P_r hP)) (tk_D_l (tk_D_r hD))) rfl rfl hl.1 rfl (lv_room (Nat.le_of_ble_eq_true rfl)) dW_101 ⟨hc, hs⟩) (fun H locs hP hD hS => ?_)
  have hP : va_P D vwCl (tkLW hm aM cI cZ G ad cA (if (tkT_write_k (tkPsi G) (xs (nI k + 1).toNatClampNeg) (xs (nI k + 2).toNatClampNeg)) = 0 then tkT_write_s (tkPsi G) (xs (nI k + 1).toNatClampNeg) (xs (nI k + 2).toNatClampNeg) else tkPsi G) ao cJ f) H := hP
  have hD : va_D (fun q => s.heap.size ≤ q) (tkLW hm aM cI cZ G ad cA (if (tkT_write_k (tkPsi G) (xs (nI k + 1).toNatClampNeg) (xs (nI k + 2).toNatClampNeg)) = 0 then tkT_write_s (tkPsi G) (xs (nI k + 1).toNatClampNeg) (xs (nI k + 2).toNatClampNeg) else tkPsi G) ao cJ f) := hD
  refine W.eq (g2 := F0 m 104 ls [.int (tkT_write_k (tkPsi G) (xs (nI k + 1).toNatClampNeg) (xs (nI k + 2).toNatClampNeg))]) rfl ?_
  refine lv_istore hx hb dW_104 hl (by decide) rfl (fun ls hl => ?_)
  have hl : lv_has ls 7 [(5, .int (tkT_write_k (tkPsi G) (xs (nI k + 1).toNatClampNeg) (xs (nI k + 2).toNatClampNeg))), (4, .int (nI k)), (3, .ref ao), (2, .ref hm), (1, .ref (ad 0)), (0, .ref b)] := hl
  refine lv_aload_n hx hb dW_106 rfl (lv_at hl 3 rfl) ?_
  refine lv_aload_n hx hb dW_107 rfl (lv_at hl 5 rfl) ?_
  refine lv_iload hx hb dW_108 (lv_at hl 1 rfl) ?_
  refine lv_iconst (v := 1) hx hb dW_110 (by decide) ?_
  refine lv_iadd hx hb dW_111 ?_
  refine va_sld hx hb hX hbl hbA hS v1 dW_112 ?_
  refine lv_aload_n hx hb dW_113 rfl (lv_at hl 5 rfl) ?_
  refine lv_iload hx hb dW_114 (lv_at hl 1 rfl) ?_
  refine lv_iconst (v := 2) hx hb dW_116 (by decide) ?_
  refine lv_iadd hx hb dW_117 ?_
  refine va_sld hx hb hX hbl hbA hS v2 dW_118 ?_
  refine tk_callS (wa := []) (wc := WM hm aM cI cZ G) (wb := WT ad cA (if (tkT_write_k (tkPsi G) (xs (nI k + 1).toNatClampNeg) (xs (nI k + 2).toNatClampNeg)) = 0 then tkT_write_s (tkPsi G) (xs (nI k + 1).toNatClampNeg) (xs (nI k + 2).toNatClampNeg) else tkPsi G) ++ tkO ao cJ f) hP hD hS hA (va_runV (As := [.int (xs (nI k + 1).toNatClampNeg), .int (xs (nI k + 2).toNatClampNeg)]) (rest := []) ⟨hx, hb, hml, hown, hw⟩ (kM_write l D hm aM cI cZ G (xs (nI k + 1).toNatClampNeg) (xs (nI k + 2).toNatClampNeg) H.size) (cwV 2 hw (tk_gVL tkWA_m tkWA_good (tkWA_l _ wM_L_37) wI_M_write wS_M_write wZ_M wC_M_write) rfl rfl rfl (by decide +kernel) ⟨Nat.le_of_ble_eq_true rfl, Nat.le_of_ble_eq_true rfl⟩) (tk_preVY (q0 := 0) (T := TM) (N := 33) hKM hN (tk_P_l hP) (tk_D_l hD) rfl rfl) rfl rfl hl.1 rfl (lv_room (Nat.le_of_ble_eq_true rfl)) dW_119 ⟨hc, hs⟩) (fun H locs hP hD hS => ?_)
  have hP : va_P D vwCl (tkLW hm aM cI cZ (tkM_write_s G (xs (nI k + 1).toNatClampNeg) (xs (nI k + 2).toNatClampNeg)) ad cA (if (tkT_write_k (tkPsi G) (xs (nI k + 1).toNatClampNeg) (xs (nI k + 2).toNatClampNeg)) = 0 then tkT_write_s (tkPsi G) (xs (nI k + 1).toNatClampNeg) (xs (nI k + 2).toNatClampNeg) else tkPsi G) ao cJ f) H := hP
  have hD : va_D (fun q => s.heap.size ≤ q) (tkLW hm aM cI cZ (tkM_write_s G (xs (nI k + 1).toNatClampNeg) (xs (nI k + 2).toNatClampNeg)) ad cA (if (tkT_write_k (tkPsi G) (xs (nI k + 1).toNatClampNeg) (xs (nI k + 2).toNatClampNeg)) = 0 then tkT_write_s (tkPsi G) (xs (nI k + 1).toNatClampNeg) (xs (nI k + 2).toNatClampNeg) else tkPsi G) ao cJ f) := hD
  refine W.eq (g2 := F0 m 122 ls []) rfl ?_
  refine lv_aload_n hx hb dW_122 rfl (lv_at hl 3 rfl) ?_
  refine tk_callS (wa := []) (wc := WM hm aM cI cZ (tkM_write_s G (xs (nI k + 1).toNatClampNeg) (xs (nI k + 2).toNatClampNeg))) (wb := WT ad cA (if (tkT_write_k (tkPsi G) (xs (nI k + 1).toNatClampNeg) (xs (nI k + 2).toNatClampNeg)) = 0 then tkT_write_s (tkPsi G) (xs (nI k + 1).toNatClampNeg) (xs (nI k + 2).toNatClampNeg) else tkPsi G) ++ tkO ao cJ f) hP hD hS hA (va_runV (As := []) (rest := []) ⟨hx, hb, hml, hown, hw⟩ (kM_thrown l D hm aM cI cZ (tkM_write_s G (xs (nI k + 1).toNatClampNeg) (xs (nI k + 2).toNatClampNeg)) H.size) (cwV 0 hw (tk_gVL tkWA_m tkWA_good (tkWA_l _ wM_L_38) wI_M_thrown wS_M_thrown wZ_M wC_M_thrown) rfl rfl rfl (by decide +kernel) ⟨Nat.le_of_ble_eq_true rfl, Nat.le_of_ble_eq_true rfl⟩) (tk_preVY (q0 := 0) (T := TM) (N := 33) hKM hN (tk_P_l hP) (tk_D_l hD) rfl rfl) rfl rfl hl.1 rfl (lv_room (Nat.le_of_ble_eq_true rfl)) dW_123 ⟨hc, hs⟩) (fun H locs hP hD hS => ?_)
  have hP : va_P D vwCl (tkLW hm aM cI cZ (tkM_write_s G (xs (nI k + 1).toNatClampNeg) (xs (nI k + 2).toNatClampNeg)) ad cA (if (tkT_write_k (tkPsi G) (xs (nI k + 1).toNatClampNeg) (xs (nI k + 2).toNatClampNeg)) = 0 then tkT_write_s (tkPsi G) (xs (nI k + 1).toNatClampNeg) (xs (nI k + 2).toNatClampNeg) else tkPsi G) ao cJ f) H := hP
  have hD : va_D (fun q => s.heap.size ≤ q) (tkLW hm aM cI cZ (tkM_write_s G (xs (nI k + 1).toNatClampNeg) (xs (nI k + 2).toNatClampNeg)) ad cA (if (tkT_write_k (tkPsi G) (xs (nI k + 1).toNatClampNeg) (xs (nI k + 2).toNatClampNeg)) = 0 then tkT_write_s (tkPsi G) (xs (nI k + 1).toNatClampNeg) (xs (nI k + 2).toNatClampNeg) else tkPsi G) ao cJ f) := hD
  refine W.eq (g2 := F0 m 126 ls [.int (tkM_thrown_r (tkM_write_s G (xs (nI k + 1).toNatClampNeg) (xs (nI k + 2).toNatClampNeg)))]) rfl ?_
  refine lv_iload hx hb dW_126 (lv_at hl 0 rfl) ?_
  refine lv_icmp_eq (tgt := 133) hx hb dW_128 (by decide) (fun _ => ?_) (fun h => absurd h1.symm h)
  refine lv_goto (tgt := 509) hx hb dW_133 (by decide) ?_
  rw [← h2] at hP hD
  exact kn _ _ H locs ls h3 hP hD hS (lv_sub hl [1, 2, 3, 4, 5] rfl)
set_option maxHeartbeats 4000000 in
set_option maxRecDepth 100000 in
theorem tk_case1 {p : Program} {l : Launch} {e : Env} {s : State} {m : MethodId} {below : List Frame} {meth : Method} {c : Code} {b L : Nat} {xs : Nat → Int32} {D : va_G} {hm : Nat} {aM : Nat → Nat} {cI cZ : ClassId} {ad : Nat → Nat} {cA : ClassId} {ao : Nat} {cJ : ClassId} {k cells slots : Nat} (Fx : tk_Fx p l s m meth c b L xs D cI cZ cA cJ) (hk4 : k + 4 ≤ L) (hc : cells + 1 ≤ 1070) (hs : slots + 6 ≤ 8419) (kn : tk_On p l e s m below meth c b D hm aM cI cZ ad cA ao cJ k cells slots) {G : Nat → Nat → Int32} {f : Nat → Int64} {H : Heap} {locs : List Loc} {ls : Array Slot} (hI : tkInv G) (hP : va_P D vwCl (tkLW hm aM cI cZ G ad cA (tkPsi G) ao cJ f) H) (hD : va_D (fun q => s.heap.size ≤ q) (tkLW hm aM cI cZ G ad cA (tkPsi G) ao cJ f)) (hS : va_S (fun q => s.heap.size ≤ q) s.heap H locs) (hl : lv_has ls 7 (tkLS b (ad 0) hm ao k)) :
    W p l e room_1 s m #[Value.ref b] below meth c H locs cells slots (lw_Z below #[Value.ref b] s) (F0 m 136 ls []) := by
  obtain ⟨⟨hx, hb, hr, hml, hown, hts, hX, hbl, hlk, hgv⟩, hL, hl9, hN, hE, hNc, hKo, hKM⟩ := Fx
  have hown : s.vm.findClass "TickLinesLaw" = some m.cls := hown
  have hw : ∀ w ∈ tkWA, w.before #[Value.ref b] s = true := fun w h => hts w (tkWA_lw w h)
  have hKT : va_K D vwCl [(cA, .object "TickLines$Counter")] s := hKo.sub [0] rfl
  have hA : ∀ q, s.heap.size ≤ q → (fun q => s.heap.size ≤ q) q := fun q h => h
  have hbA : ¬ (fun q => s.heap.size ≤ q) b := fun h => absurd hbl (Nat.not_lt.mpr h)
  have hc0 : cells ≤ 1070 := by omega
  have hs0 : slots ≤ 8419 := by omega
  have v1 := tk_vi1 (L := L) (k := k) hL (by omega)
  have v2 := tk_vi2 (L := L) (k := k) hL (by omega)
  have v3 := tk_vi3 (L := L) (k := k) hL (by omega)
  obtain ⟨h1, h2, h3, h4⟩ := tkR_read G hI (xs (nI k + 1).toNatClampNeg)
  refine lv_aload_n hx hb dW_136 rfl (lv_at hl 3 rfl) ?_
  refine lv_aload_n hx hb dW_137 rfl (lv_at hl 4 rfl) ?_
  refine lv_iload hx hb dW_138 (lv_at hl 0 rfl) ?_
  refine lv_iconst (v := 1) hx hb dW_140 (by decide) ?_
  refine lv_iadd hx hb dW_141 ?_
  refine va_sld hx hb hX hbl hbA hS v1 dW_142 ?_
  refine lv_aload_n hx hb dW_143 rfl (lv_at hl 1 rfl) ?_
  have hP : va_P D vwCl (WM hm aM cI cZ G ++ (WTo ad cA (tkPsi G) ao cJ f ++ [])) H := hP
  have hD : va_D (fun q => s.heap.size ≤ q) (WM hm aM cI cZ G ++ (WTo ad cA (tkPsi G) ao cJ f ++ [])) := hD
  refine tk_callS (wa := WM hm aM cI cZ G) (wc := WTo ad cA (tkPsi G) ao cJ f) (wb := []) hP hD hS hA (vx_runSW (As := [.ref (ad 0), .int (xs (nI k + 1).toNatClampNeg), .ref ao]) (rest := []) ⟨hx, hb, hml, hown, hw⟩ (kL_read l hl9 D ad cA (tkPsi G) ao cJ f (xs (nI k + 1).toNatClampNeg) H.size) (vx_cwSW 3 hw (tk_gSW wM_L_41 wT_L_read wZ_L wC_L_read) rfl rfl rfl (by decide +kernel) ⟨Nat.le_of_ble_eq_true rfl, Nat.le_of_ble_eq_true rfl⟩) (tk_preSH hE hNc hS (tk_Fseg (wa := WM hm aM cI cZ G) (wb := []) hD hS hA) hKo hN (tk_P_l (tk_P_r hP)) (tk_D_l (tk_D_r hD))) rfl rfl hl.1 rfl (lv_room (Nat.le_of_ble_eq_true rfl)) dW_144 ⟨hc, hs⟩) (fun H locs hP hD hS => ?_)
  have hP : va_P D vwCl (tkLW hm aM cI cZ G ad cA (if (tkT_read_k (tkPsi G) (xs (nI k + 1).toNatClampNeg)) = 0 then tkT_read_s (tkPsi G) (xs (nI k + 1).toNatClampNeg) else tkPsi G) ao cJ (if (tkT_read_k (tkPsi G) (xs (nI k + 1).toNatClampNeg)) = 0 then vp_updL f (0 : Int32).toNatClampNeg (tkT_read_r (tkPsi G) (xs (nI k + 1).toNatClampNeg)).toInt64 else f)) H := hP
  have hD : va_D (fun q => s.heap.size ≤ q) (tkLW hm aM cI cZ G ad cA (if (tkT_read_k (tkPsi G) (xs (nI k + 1).toNatClampNeg)) = 0 then tkT_read_s (tkPsi G) (xs (nI k + 1).toNatClampNeg) else tkPsi G) ao cJ (if (tkT_read_k (tkPsi G) (xs (nI k + 1).toNatClampNeg)) = 0 then vp_updL f (0 : Int32).toNatClampNeg (tkT_read_r (tkPsi G) (xs (nI k + 1).toNatClampNeg)).toInt64 else f)) := hD
  refine W.eq (g2 := F0 m 147 ls [.int (tkT_read_k (tkPsi G) (xs (nI k + 1).toNatClampNeg))]) rfl ?_
  refine lv_istore hx hb dW_147 hl (by decide) rfl (fun ls hl => ?_)
  have hl : lv_has ls 7 [(5, .int (tkT_read_k (tkPsi G) (xs (nI k + 1).toNatClampNeg))), (4, .int (nI k)), (3, .ref ao), (2, .ref hm), (1, .ref (ad 0)), (0, .ref b)] := hl
  refine lv_aload_n hx hb dW_149 rfl (lv_at hl 3 rfl) ?_
  refine lv_aload_n hx hb dW_150 rfl (lv_at hl 5 rfl) ?_
  refine lv_iload hx hb dW_151 (lv_at hl 1 rfl) ?_
  refine lv_iconst (v := 1) hx hb dW_153 (by decide) ?_
  refine lv_iadd hx hb dW_154 ?_
  refine va_sld hx hb hX hbl hbA hS v1 dW_155 ?_
  refine tk_callS (wa := []) (wc := WM hm aM cI cZ G) (wb := WT ad cA (if (tkT_read_k (tkPsi G) (xs (nI k + 1).toNatClampNeg)) = 0 then tkT_read_s (tkPsi G) (xs (nI k + 1).toNatClampNeg) else tkPsi G) ++ tkO ao cJ (if (tkT_read_k (tkPsi G) (xs (nI k + 1).toNatClampNeg)) = 0 then vp_updL f (0 : Int32).toNatClampNeg (tkT_read_r (tkPsi G) (xs (nI k + 1).toNatClampNeg)).toInt64 else f)) hP hD hS hA (va_runV (As := [.int (xs (nI k + 1).toNatClampNeg)]) (rest := []) ⟨hx, hb, hml, hown, hw⟩ (kM_read l D hm aM cI cZ G (xs (nI k + 1).toNatClampNeg) H.size) (cwV 1 hw (tk_gVL tkWA_m tkWA_good (tkWA_l _ wM_L_44) wI_M_read wS_M_read wZ_M wC_M_read) rfl rfl rfl (by decide +kernel) ⟨Nat.le_of_ble_eq_true rfl, Nat.le_of_ble_eq_true rfl⟩) (tk_preVY (q0 := 0) (T := TM) (N := 33) hKM hN (tk_P_l hP) (tk_D_l hD) rfl rfl) rfl rfl hl.1 rfl (lv_room (Nat.le_of_ble_eq_true rfl)) dW_156 ⟨hc, hs⟩) (fun H locs hP hD hS => ?_)
  have hP : va_P D vwCl (tkLW hm aM cI cZ (tkM_read_s G (xs (nI k + 1).toNatClampNeg)) ad cA (if (tkT_read_k (tkPsi G) (xs (nI k + 1).toNatClampNeg)) = 0 then tkT_read_s (tkPsi G) (xs (nI k + 1).toNatClampNeg) else tkPsi G) ao cJ (if (tkT_read_k (tkPsi G) (xs (nI k + 1).toNatClampNeg)) = 0 then vp_updL f (0 : Int32).toNatClampNeg (tkT_read_r (tkPsi G) (xs (nI k + 1).toNatClampNeg)).toInt64 else f)) H := hP
  have hD : va_D (fun q => s.heap.size ≤ q) (tkLW hm aM cI cZ (tkM_read_s G (xs (nI k + 1).toNatClampNeg)) ad cA (if (tkT_read_k (tkPsi G) (xs (nI k + 1).toNatClampNeg)) = 0 then tkT_read_s (tkPsi G) (xs (nI k + 1).toNatClampNeg) else tkPsi G) ao cJ (if (tkT_read_k (tkPsi G) (xs (nI k + 1).toNatClampNeg)) = 0 then vp_updL f (0 : Int32).toNatClampNeg (tkT_read_r (tkPsi G) (xs (nI k + 1).toNatClampNeg)).toInt64 else f)) := hD
  refine W.eq (g2 := F0 m 159 ls [.int ((tkM_read_r G (xs (nI k + 1).toNatClampNeg)))]) rfl ?_
  refine lv_istore hx hb dW_159 hl (by decide) rfl (fun ls hl => ?_)
  have hl : lv_has ls 7 [(6, .int (tkM_read_r G (xs (nI k + 1).toNatClampNeg))), (5, .int (tkT_read_k (tkPsi G) (xs (nI k + 1).toNatClampNeg))), (4, .int (nI k)), (3, .ref ao), (2, .ref hm), (1, .ref (ad 0)), (0, .ref b)] := hl
  refine lv_aload_n hx hb dW_161 rfl (lv_at hl 4 rfl) ?_
  refine tk_callS (wa := []) (wc := WM hm aM cI cZ (tkM_read_s G (xs (nI k + 1).toNatClampNeg))) (wb := WT ad cA (if (tkT_read_k (tkPsi G) (xs (nI k + 1).toNatClampNeg)) = 0 then tkT_read_s (tkPsi G) (xs (nI k + 1).toNatClampNeg) else tkPsi G) ++ tkO ao cJ (if (tkT_read_k (tkPsi G) (xs (nI k + 1).toNatClampNeg)) = 0 then vp_updL f (0 : Int32).toNatClampNeg (tkT_read_r (tkPsi G) (xs (nI k + 1).toNatClampNeg)).toInt64 else f)) hP hD hS hA (va_runV (As := []) (rest := []) ⟨hx, hb, hml, hown, hw⟩ (kM_thrown l D hm aM cI cZ (tkM_read_s G (xs (nI k + 1).toNatClampNeg)) H.size) (cwV 0 hw (tk_gVL tkWA_m tkWA_good (tkWA_l _ wM_L_38) wI_M_thrown wS_M_thrown wZ_M wC_M_thrown) rfl rfl rfl (by decide +kernel) ⟨Nat.le_of_ble_eq_true rfl, Nat.le_of_ble_eq_true rfl⟩) (tk_preVY (q0 := 0) (T := TM) (N := 33) hKM hN (tk_P_l hP) (tk_D_l hD) rfl rfl) rfl rfl hl.1 rfl (lv_room (Nat.le_of_ble_eq_true rfl)) dW_162 ⟨hc, hs⟩) (fun H locs hP hD hS => ?_)
  have hP : va_P D vwCl (tkLW hm aM cI cZ (tkM_read_s G (xs (nI k + 1).toNatClampNeg)) ad cA (if (tkT_read_k (tkPsi G) (xs (nI k + 1).toNatClampNeg)) = 0 then tkT_read_s (tkPsi G) (xs (nI k + 1).toNatClampNeg) else tkPsi G) ao cJ (if (tkT_read_k (tkPsi G) (xs (nI k + 1).toNatClampNeg)) = 0 then vp_updL f (0 : Int32).toNatClampNeg (tkT_read_r (tkPsi G) (xs (nI k + 1).toNatClampNeg)).toInt64 else f)) H := hP
  have hD : va_D (fun q => s.heap.size ≤ q) (tkLW hm aM cI cZ (tkM_read_s G (xs (nI k + 1).toNatClampNeg)) ad cA (if (tkT_read_k (tkPsi G) (xs (nI k + 1).toNatClampNeg)) = 0 then tkT_read_s (tkPsi G) (xs (nI k + 1).toNatClampNeg) else tkPsi G) ao cJ (if (tkT_read_k (tkPsi G) (xs (nI k + 1).toNatClampNeg)) = 0 then vp_updL f (0 : Int32).toNatClampNeg (tkT_read_r (tkPsi G) (xs (nI k + 1).toNatClampNeg)).toInt64 else f)) := hD
  refine W.eq (g2 := F0 m 165 ls [.int (tkM_thrown_r (tkM_read_s G (xs (nI k + 1).toNatClampNeg)))]) rfl ?_
  refine lv_iload hx hb dW_165 (lv_at hl 1 rfl) ?_
  refine lv_icmp_eq (tgt := 172) hx hb dW_167 (by decide) (fun _ => ?_) (fun h => absurd h1.symm h)
  refine lv_iload hx hb dW_172 (lv_at hl 1 rfl) ?_
  refine lv_if_ne (tgt := 189) hx hb dW_174 (by decide) (fun _ => ?_) (fun h0 => ?_)
  · refine lv_goto (tgt := 509) hx hb dW_189 (by decide) ?_
    rw [← h2] at hP hD
    exact kn _ _ H locs ls h3 hP hD hS (lv_sub hl [2, 3, 4, 5, 6] rfl)
  · have h9 : (tkT_read_k (tkPsi G) (xs (nI k + 1).toNatClampNeg)) = 0 := h0
    have e9 : ((if (tkT_read_k (tkPsi G) (xs (nI k + 1).toNatClampNeg)) = 0 then vp_updL f (0 : Int32).toNatClampNeg (tkT_read_r (tkPsi G) (xs (nI k + 1).toNatClampNeg)).toInt64 else f) : Nat → Int64) (0 : Int32).toNatClampNeg = (tkM_read_r G (xs (nI k + 1).toNatClampNeg)).toInt64 := by
      rw [if_pos h9, h4 h9]
      exact if_pos rfl
    refine lv_aload_n hx hb dW_177 rfl (lv_at hl 3 rfl) ?_
    refine lv_iconst (v := 0) hx hb dW_178 (by decide) ?_
    refine va_lald hx hb hKo hP 40 1 rfl rfl (by unfold vp_in; decide) dW_179 ?_
    refine lv_iload hx hb dW_180 (lv_at hl 0 rfl) ?_
    refine lv_i2l (v := (tkM_read_r G (xs (nI k + 1).toNatClampNeg)).toInt64) hx hb dW_182 rfl ?_
    refine W.lcmp hx hb dW_183 ?_
    refine lv_if_eq (tgt := 189) hx hb dW_184 (by decide) (fun _ => ?_) (fun h => absurd (by rw [e9]; exact tk_cmp0 _) h)
    refine lv_goto (tgt := 509) hx hb dW_189 (by decide) ?_
    rw [← h2] at hP hD
    exact kn _ _ H locs ls h3 hP hD hS (lv_sub hl [2, 3, 4, 5, 6] rfl)
set_option maxHeartbeats 4000000 in
set_option maxRecDepth 100000 in
theorem tk_case2 {p : Program} {l : Launch} {e : Env} {s : State} {m : MethodId} {below : List Frame} {meth : Method} {c : Code} {b L : Nat} {xs : Nat → Int32} {D : va_G} {hm : Nat} {aM : Nat → Nat} {cI cZ : ClassId} {ad : Nat → Nat} {cA : ClassId} {ao : Nat} {cJ : ClassId} {k cells slots : Nat} (Fx : tk_Fx p l s m meth c b L xs D cI cZ cA cJ) (hk4 : k + 4 ≤ L) (hc : cells + 1 ≤ 1070) (hs : slots + 6 ≤ 8419) (kn : tk_On p l e s m below meth c b D hm aM cI cZ ad cA ao cJ k cells slots) {G : Nat → Nat → Int32} {f : Nat → Int64} {H : Heap} {locs : List Loc} {ls : Array Slot} (hI : tkInv G) (hP : va_P D vwCl (tkLW hm aM cI cZ G ad cA (tkPsi G) ao cJ f) H) (hD : va_D (fun q => s.heap.size ≤ q) (tkLW hm aM cI cZ G ad cA (tkPsi G) ao cJ f)) (hS : va_S (fun q => s.heap.size ≤ q) s.heap H locs) (hl : lv_has ls 7 (tkLS b (ad 0) hm ao k)) :
    W p l e room_1 s m #[Value.ref b] below meth c H locs cells slots (lw_Z below #[Value.ref b] s) (F0 m 192 ls []) := by
  obtain ⟨⟨hx, hb, hr, hml, hown, hts, hX, hbl, hlk, hgv⟩, hL, hl9, hN, hE, hNc, hKo, hKM⟩ := Fx
  have hown : s.vm.findClass "TickLinesLaw" = some m.cls := hown
  have hw : ∀ w ∈ tkWA, w.before #[Value.ref b] s = true := fun w h => hts w (tkWA_lw w h)
  have hKT : va_K D vwCl [(cA, .object "TickLines$Counter")] s := hKo.sub [0] rfl
  have hA : ∀ q, s.heap.size ≤ q → (fun q => s.heap.size ≤ q) q := fun q h => h
  have hbA : ¬ (fun q => s.heap.size ≤ q) b := fun h => absurd hbl (Nat.not_lt.mpr h)
  have hc0 : cells ≤ 1070 := by omega
  have hs0 : slots ≤ 8419 := by omega
  have v1 := tk_vi1 (L := L) (k := k) hL (by omega)
  have v2 := tk_vi2 (L := L) (k := k) hL (by omega)
  have v3 := tk_vi3 (L := L) (k := k) hL (by omega)
  by_cases hz : (xs (nI k + 3).toNatClampNeg) = 0
  · obtain ⟨h1, h2, h3⟩ := tkR_line G hI (xs (nI k + 1).toNatClampNeg) (xs (nI k + 2).toNatClampNeg) 0
    refine lv_aload_n hx hb dW_192 rfl (lv_at hl 3 rfl) ?_
    refine lv_aload_n hx hb dW_193 rfl (lv_at hl 4 rfl) ?_
    refine lv_iload hx hb dW_194 (lv_at hl 0 rfl) ?_
    refine lv_iconst (v := 1) hx hb dW_196 (by decide) ?_
    refine lv_iadd hx hb dW_197 ?_
    refine va_sld hx hb hX hbl hbA hS v1 dW_198 ?_
    refine lv_aload_n hx hb dW_199 rfl (lv_at hl 4 rfl) ?_
    refine lv_iload hx hb dW_200 (lv_at hl 0 rfl) ?_
    refine lv_iconst (v := 2) hx hb dW_202 (by decide) ?_
    refine lv_iadd hx hb dW_203 ?_
    refine va_sld hx hb hX hbl hbA hS v2 dW_204 ?_
    refine lv_aload_n hx hb dW_205 rfl (lv_at hl 4 rfl) ?_
    refine lv_iload hx hb dW_206 (lv_at hl 0 rfl) ?_
    refine lv_iconst (v := 3) hx hb dW_208 (by decide) ?_
    refine lv_iadd hx hb dW_209 ?_
    refine va_sld hx hb hX hbl hbA hS v3 dW_210 ?_
    refine lv_if_eq (tgt := 218) hx hb dW_211 (by decide) (fun _ => ?_) (fun h => absurd hz h)
    refine lv_iconst (v := 0) hx hb dW_218 (by decide) ?_
    refine tk_callS (wa := WM hm aM cI cZ G) (wc := WT ad cA (tkPsi G)) (wb := tkO ao cJ f) hP hD hS hA (va_runV (As := [.int (xs (nI k + 1).toNatClampNeg), .int (xs (nI k + 2).toNatClampNeg), .int 0]) (rest := []) ⟨hx, hb, hml, hown, hw⟩ (kT_line l D ad cA (tkPsi G) (xs (nI k + 1).toNatClampNeg) (xs (nI k + 2).toNatClampNeg) 0 H.size) (cwV 3 hw (tk_gVL tkWA_k tkWA_good (tkWA_l _ wM_L_45) wI_T_line wS_T_line wZ_T wC_T_line) rfl rfl rfl (by decide +kernel) ⟨Nat.le_of_ble_eq_true rfl, Nat.le_of_ble_eq_true rfl⟩) (tk_preVY (q0 := 0) (T := TT) (N := 3) hKT hN (tk_P_l (tk_P_r hP)) (tk_D_l (tk_D_r hD)) rfl rfl) rfl rfl hl.1 rfl (lv_room (Nat.le_of_ble_eq_true rfl)) dW_219 ⟨hc0, hs0⟩) (fun H locs hP hD hS => ?_)
    have hP : va_P D vwCl (tkLW hm aM cI cZ G ad cA (tkT_line_s (tkPsi G) (xs (nI k + 1).toNatClampNeg) (xs (nI k + 2).toNatClampNeg) 0) ao cJ f) H := hP
    have hD : va_D (fun q => s.heap.size ≤ q) (tkLW hm aM cI cZ G ad cA (tkT_line_s (tkPsi G) (xs (nI k + 1).toNatClampNeg) (xs (nI k + 2).toNatClampNeg) 0) ao cJ f) := hD
    refine W.eq (g2 := F0 m 222 ls [.int ((tkT_line_r (tkPsi G) (xs (nI k + 1).toNatClampNeg) (xs (nI k + 2).toNatClampNeg) 0))]) rfl ?_
    refine lv_aload_n hx hb dW_222 rfl (lv_at hl 2 rfl) ?_
    refine lv_aload_n hx hb dW_223 rfl (lv_at hl 4 rfl) ?_
    refine lv_iload hx hb dW_224 (lv_at hl 0 rfl) ?_
    refine lv_iconst (v := 1) hx hb dW_226 (by decide) ?_
    refine lv_iadd hx hb dW_227 ?_
    refine va_sld hx hb hX hbl hbA hS v1 dW_228 ?_
    refine lv_aload_n hx hb dW_229 rfl (lv_at hl 4 rfl) ?_
    refine lv_iload hx hb dW_230 (lv_at hl 0 rfl) ?_
    refine lv_iconst (v := 2) hx hb dW_232 (by decide) ?_
    refine lv_iadd hx hb dW_233 ?_
    refine va_sld hx hb hX hbl hbA hS v2 dW_234 ?_
    refine lv_aload_n hx hb dW_235 rfl (lv_at hl 4 rfl) ?_
    refine lv_iload hx hb dW_236 (lv_at hl 0 rfl) ?_
    refine lv_iconst (v := 3) hx hb dW_238 (by decide) ?_
    refine lv_iadd hx hb dW_239 ?_
    refine va_sld hx hb hX hbl hbA hS v3 dW_240 ?_
    refine lv_if_eq (tgt := 248) hx hb dW_241 (by decide) (fun _ => ?_) (fun h => absurd hz h)
    refine lv_iconst (v := 0) hx hb dW_248 (by decide) ?_
    refine tk_callS (wa := []) (wc := WM hm aM cI cZ G) (wb := WT ad cA (tkT_line_s (tkPsi G) (xs (nI k + 1).toNatClampNeg) (xs (nI k + 2).toNatClampNeg) 0) ++ tkO ao cJ f) hP hD hS hA (va_runV (As := [.int (xs (nI k + 1).toNatClampNeg), .int (xs (nI k + 2).toNatClampNeg), .int 0]) (rest := [.int ((tkT_line_r (tkPsi G) (xs (nI k + 1).toNatClampNeg) (xs (nI k + 2).toNatClampNeg) 0))]) ⟨hx, hb, hml, hown, hw⟩ (kM_line l D hm aM cI cZ G (xs (nI k + 1).toNatClampNeg) (xs (nI k + 2).toNatClampNeg) 0 H.size) (cwV 3 hw (tk_gVL tkWA_m tkWA_good (tkWA_l _ wM_L_49) wI_M_line wS_M_line wZ_M wC_M_line) rfl rfl rfl (by decide +kernel) ⟨Nat.le_of_ble_eq_true rfl, Nat.le_of_ble_eq_true rfl⟩) (tk_preVY (q0 := 0) (T := TM) (N := 33) hKM hN (tk_P_l hP) (tk_D_l hD) rfl rfl) rfl rfl hl.1 rfl (lv_room (Nat.le_of_ble_eq_true rfl)) dW_249 ⟨hc0, hs0⟩) (fun H locs hP hD hS => ?_)
    have hP : va_P D vwCl (tkLW hm aM cI cZ (tkM_line_s G (xs (nI k + 1).toNatClampNeg) (xs (nI k + 2).toNatClampNeg) 0) ad cA (tkT_line_s (tkPsi G) (xs (nI k + 1).toNatClampNeg) (xs (nI k + 2).toNatClampNeg) 0) ao cJ f) H := hP
    have hD : va_D (fun q => s.heap.size ≤ q) (tkLW hm aM cI cZ (tkM_line_s G (xs (nI k + 1).toNatClampNeg) (xs (nI k + 2).toNatClampNeg) 0) ad cA (tkT_line_s (tkPsi G) (xs (nI k + 1).toNatClampNeg) (xs (nI k + 2).toNatClampNeg) 0) ao cJ f) := hD
    refine W.eq (g2 := F0 m 252 ls [.int ((tkM_line_r G (xs (nI k + 1).toNatClampNeg) (xs (nI k + 2).toNatClampNeg) 0)), .int ((tkT_line_r (tkPsi G) (xs (nI k + 1).toNatClampNeg) (xs (nI k + 2).toNatClampNeg) 0))]) rfl ?_
    refine lv_icmp_eq (tgt := 509) hx hb dW_252 (by decide) (fun _ => ?_) (fun h => absurd h1.symm h)
    refine W.widen (k := cells + 1) (n := slots + 6) (by omega) (by omega) ?_
    rw [← h2] at hP hD
    exact kn _ _ H locs ls h3 hP hD hS (lv_sub hl [0, 1, 2, 3, 4] rfl)
  · obtain ⟨h1, h2, h3⟩ := tkR_line G hI (xs (nI k + 1).toNatClampNeg) (xs (nI k + 2).toNatClampNeg) 1
    refine lv_aload_n hx hb dW_192 rfl (lv_at hl 3 rfl) ?_
    refine lv_aload_n hx hb dW_193 rfl (lv_at hl 4 rfl) ?_
    refine lv_iload hx hb dW_194 (lv_at hl 0 rfl) ?_
    refine lv_iconst (v := 1) hx hb dW_196 (by decide) ?_
    refine lv_iadd hx hb dW_197 ?_
    refine va_sld hx hb hX hbl hbA hS v1 dW_198 ?_
    refine lv_aload_n hx hb dW_199 rfl (lv_at hl 4 rfl) ?_
    refine lv_iload hx hb dW_200 (lv_at hl 0 rfl) ?_
    refine lv_iconst (v := 2) hx hb dW_202 (by decide) ?_
    refine lv_iadd hx hb dW_203 ?_
    refine va_sld hx hb hX hbl hbA hS v2 dW_204 ?_
    refine lv_aload_n hx hb dW_205 rfl (lv_at hl 4 rfl) ?_
    refine lv_iload hx hb dW_206 (lv_at hl 0 rfl) ?_
    refine lv_iconst (v := 3) hx hb dW_208 (by decide) ?_
    refine lv_iadd hx hb dW_209 ?_
    refine va_sld hx hb hX hbl hbA hS v3 dW_210 ?_
    refine lv_if_eq (tgt := 218) hx hb dW_211 (by decide) (fun h => absurd h hz) (fun _ => ?_)
    refine lv_iconst (v := 1) hx hb dW_214 (by decide) ?_
    refine lv_goto (tgt := 219) hx hb dW_215 (by decide) ?_
    refine tk_callS (wa := WM hm aM cI cZ G) (wc := WT ad cA (tkPsi G)) (wb := tkO ao cJ f) hP hD hS hA (va_runV (As := [.int (xs (nI k + 1).toNatClampNeg), .int (xs (nI k + 2).toNatClampNeg), .int 1]) (rest := []) ⟨hx, hb, hml, hown, hw⟩ (kT_line l D ad cA (tkPsi G) (xs (nI k + 1).toNatClampNeg) (xs (nI k + 2).toNatClampNeg) 1 H.size) (cwV 3 hw (tk_gVL tkWA_k tkWA_good (tkWA_l _ wM_L_45) wI_T_line wS_T_line wZ_T wC_T_line) rfl rfl rfl (by decide +kernel) ⟨Nat.le_of_ble_eq_true rfl, Nat.le_of_ble_eq_true rfl⟩) (tk_preVY (q0 := 0) (T := TT) (N := 3) hKT hN (tk_P_l (tk_P_r hP)) (tk_D_l (tk_D_r hD)) rfl rfl) rfl rfl hl.1 rfl (lv_room (Nat.le_of_ble_eq_true rfl)) dW_219 ⟨hc0, hs0⟩) (fun H locs hP hD hS => ?_)
    have hP : va_P D vwCl (tkLW hm aM cI cZ G ad cA (tkT_line_s (tkPsi G) (xs (nI k + 1).toNatClampNeg) (xs (nI k + 2).toNatClampNeg) 1) ao cJ f) H := hP
    have hD : va_D (fun q => s.heap.size ≤ q) (tkLW hm aM cI cZ G ad cA (tkT_line_s (tkPsi G) (xs (nI k + 1).toNatClampNeg) (xs (nI k + 2).toNatClampNeg) 1) ao cJ f) := hD
    refine W.eq (g2 := F0 m 222 ls [.int ((tkT_line_r (tkPsi G) (xs (nI k + 1).toNatClampNeg) (xs (nI k + 2).toNatClampNeg) 1))]) rfl ?_
    refine lv_aload_n hx hb dW_222 rfl (lv_at hl 2 rfl) ?_
    refine lv_aload_n hx hb dW_223 rfl (lv_at hl 4 rfl) ?_
    refine lv_iload hx hb dW_224 (lv_at hl 0 rfl) ?_
    refine lv_iconst (v := 1) hx hb dW_226 (by decide) ?_
    refine lv_iadd hx hb dW_227 ?_
    refine va_sld hx hb hX hbl hbA hS v1 dW_228 ?_
    refine lv_aload_n hx hb dW_229 rfl (lv_at hl 4 rfl) ?_
    refine lv_iload hx hb dW_230 (lv_at hl 0 rfl) ?_
    refine lv_iconst (v := 2) hx hb dW_232 (by decide) ?_
    refine lv_iadd hx hb dW_233 ?_
    refine va_sld hx hb hX hbl hbA hS v2 dW_234 ?_
    refine lv_aload_n hx hb dW_235 rfl (lv_at hl 4 rfl) ?_
    refine lv_iload hx hb dW_236 (lv_at hl 0 rfl) ?_
    refine lv_iconst (v := 3) hx hb dW_238 (by decide) ?_
    refine lv_iadd hx hb dW_239 ?_
    refine va_sld hx hb hX hbl hbA hS v3 dW_240 ?_
    refine lv_if_eq (tgt := 248) hx hb dW_241 (by decide) (fun h => absurd h hz) (fun _ => ?_)
    refine lv_iconst (v := 1) hx hb dW_244 (by decide) ?_
    refine lv_goto (tgt := 249) hx hb dW_245 (by decide) ?_
    refine tk_callS (wa := []) (wc := WM hm aM cI cZ G) (wb := WT ad cA (tkT_line_s (tkPsi G) (xs (nI k + 1).toNatClampNeg) (xs (nI k + 2).toNatClampNeg) 1) ++ tkO ao cJ f) hP hD hS hA (va_runV (As := [.int (xs (nI k + 1).toNatClampNeg), .int (xs (nI k + 2).toNatClampNeg), .int 1]) (rest := [.int ((tkT_line_r (tkPsi G) (xs (nI k + 1).toNatClampNeg) (xs (nI k + 2).toNatClampNeg) 1))]) ⟨hx, hb, hml, hown, hw⟩ (kM_line l D hm aM cI cZ G (xs (nI k + 1).toNatClampNeg) (xs (nI k + 2).toNatClampNeg) 1 H.size) (cwV 3 hw (tk_gVL tkWA_m tkWA_good (tkWA_l _ wM_L_49) wI_M_line wS_M_line wZ_M wC_M_line) rfl rfl rfl (by decide +kernel) ⟨Nat.le_of_ble_eq_true rfl, Nat.le_of_ble_eq_true rfl⟩) (tk_preVY (q0 := 0) (T := TM) (N := 33) hKM hN (tk_P_l hP) (tk_D_l hD) rfl rfl) rfl rfl hl.1 rfl (lv_room (Nat.le_of_ble_eq_true rfl)) dW_249 ⟨hc0, hs0⟩) (fun H locs hP hD hS => ?_)
    have hP : va_P D vwCl (tkLW hm aM cI cZ (tkM_line_s G (xs (nI k + 1).toNatClampNeg) (xs (nI k + 2).toNatClampNeg) 1) ad cA (tkT_line_s (tkPsi G) (xs (nI k + 1).toNatClampNeg) (xs (nI k + 2).toNatClampNeg) 1) ao cJ f) H := hP
    have hD : va_D (fun q => s.heap.size ≤ q) (tkLW hm aM cI cZ (tkM_line_s G (xs (nI k + 1).toNatClampNeg) (xs (nI k + 2).toNatClampNeg) 1) ad cA (tkT_line_s (tkPsi G) (xs (nI k + 1).toNatClampNeg) (xs (nI k + 2).toNatClampNeg) 1) ao cJ f) := hD
    refine W.eq (g2 := F0 m 252 ls [.int ((tkM_line_r G (xs (nI k + 1).toNatClampNeg) (xs (nI k + 2).toNatClampNeg) 1)), .int ((tkT_line_r (tkPsi G) (xs (nI k + 1).toNatClampNeg) (xs (nI k + 2).toNatClampNeg) 1))]) rfl ?_
    refine lv_icmp_eq (tgt := 509) hx hb dW_252 (by decide) (fun _ => ?_) (fun h => absurd h1.symm h)
    refine W.widen (k := cells + 1) (n := slots + 6) (by omega) (by omega) ?_
    rw [← h2] at hP hD
    exact kn _ _ H locs ls h3 hP hD hS (lv_sub hl [0, 1, 2, 3, 4] rfl)
set_option maxHeartbeats 4000000 in
set_option maxRecDepth 100000 in
theorem tk_case3 {p : Program} {l : Launch} {e : Env} {s : State} {m : MethodId} {below : List Frame} {meth : Method} {c : Code} {b L : Nat} {xs : Nat → Int32} {D : va_G} {hm : Nat} {aM : Nat → Nat} {cI cZ : ClassId} {ad : Nat → Nat} {cA : ClassId} {ao : Nat} {cJ : ClassId} {k cells slots : Nat} (Fx : tk_Fx p l s m meth c b L xs D cI cZ cA cJ) (hk4 : k + 4 ≤ L) (hc : cells + 1 ≤ 1070) (hs : slots + 6 ≤ 8419) (kn : tk_On p l e s m below meth c b D hm aM cI cZ ad cA ao cJ k cells slots) {G : Nat → Nat → Int32} {f : Nat → Int64} {H : Heap} {locs : List Loc} {ls : Array Slot} (hI : tkInv G) (hP : va_P D vwCl (tkLW hm aM cI cZ G ad cA (tkPsi G) ao cJ f) H) (hD : va_D (fun q => s.heap.size ≤ q) (tkLW hm aM cI cZ G ad cA (tkPsi G) ao cJ f)) (hS : va_S (fun q => s.heap.size ≤ q) s.heap H locs) (hl : lv_has ls 7 (tkLS b (ad 0) hm ao k)) :
    W p l e room_1 s m #[Value.ref b] below meth c H locs cells slots (lw_Z below #[Value.ref b] s) (F0 m 257 ls []) := by
  obtain ⟨⟨hx, hb, hr, hml, hown, hts, hX, hbl, hlk, hgv⟩, hL, hl9, hN, hE, hNc, hKo, hKM⟩ := Fx
  have hown : s.vm.findClass "TickLinesLaw" = some m.cls := hown
  have hw : ∀ w ∈ tkWA, w.before #[Value.ref b] s = true := fun w h => hts w (tkWA_lw w h)
  have hKT : va_K D vwCl [(cA, .object "TickLines$Counter")] s := hKo.sub [0] rfl
  have hA : ∀ q, s.heap.size ≤ q → (fun q => s.heap.size ≤ q) q := fun q h => h
  have hbA : ¬ (fun q => s.heap.size ≤ q) b := fun h => absurd hbl (Nat.not_lt.mpr h)
  have hc0 : cells ≤ 1070 := by omega
  have hs0 : slots ≤ 8419 := by omega
  have v1 := tk_vi1 (L := L) (k := k) hL (by omega)
  have v2 := tk_vi2 (L := L) (k := k) hL (by omega)
  have v3 := tk_vi3 (L := L) (k := k) hL (by omega)
  by_cases hz : (xs (nI k + 2).toNatClampNeg) = 0
  · obtain ⟨h1, h2, h3⟩ := tkR_gate G hI (xs (nI k + 1).toNatClampNeg) 0 (by decide)
    refine lv_aload_n hx hb dW_257 rfl (lv_at hl 3 rfl) ?_
    refine lv_aload_n hx hb dW_258 rfl (lv_at hl 4 rfl) ?_
    refine lv_iload hx hb dW_259 (lv_at hl 0 rfl) ?_
    refine lv_iconst (v := 1) hx hb dW_261 (by decide) ?_
    refine lv_iadd hx hb dW_262 ?_
    refine va_sld hx hb hX hbl hbA hS v1 dW_263 ?_
    refine lv_aload_n hx hb dW_264 rfl (lv_at hl 4 rfl) ?_
    refine lv_iload hx hb dW_265 (lv_at hl 0 rfl) ?_
    refine lv_iconst (v := 2) hx hb dW_267 (by decide) ?_
    refine lv_iadd hx hb dW_268 ?_
    refine va_sld hx hb hX hbl hbA hS v2 dW_269 ?_
    refine lv_if_eq (tgt := 277) hx hb dW_270 (by decide) (fun _ => ?_) (fun h => absurd hz h)
    refine lv_iconst (v := 0) hx hb dW_277 (by decide) ?_
    refine tk_callS (wa := WM hm aM cI cZ G) (wc := WT ad cA (tkPsi G)) (wb := tkO ao cJ f) hP hD hS hA (va_runV (As := [.int (xs (nI k + 1).toNatClampNeg), .int 0]) (rest := []) ⟨hx, hb, hml, hown, hw⟩ (kT_gate l D ad cA (tkPsi G) (xs (nI k + 1).toNatClampNeg) 0 (by decide) H.size) (cwV 2 hw (tk_gVL tkWA_k tkWA_good (tkWA_l _ wM_L_50) wI_T_gate wS_T_gate wZ_T wC_T_gate) rfl rfl rfl (by decide +kernel) ⟨Nat.le_of_ble_eq_true rfl, Nat.le_of_ble_eq_true rfl⟩) (tk_preVY (q0 := 0) (T := TT) (N := 3) hKT hN (tk_P_l (tk_P_r hP)) (tk_D_l (tk_D_r hD)) rfl rfl) rfl rfl hl.1 rfl (lv_room (Nat.le_of_ble_eq_true rfl)) dW_278 ⟨hc0, hs0⟩) (fun H locs hP hD hS => ?_)
    have hP : va_P D vwCl (tkLW hm aM cI cZ G ad cA (tkT_gate_s (tkPsi G) (xs (nI k + 1).toNatClampNeg) 0) ao cJ f) H := hP
    have hD : va_D (fun q => s.heap.size ≤ q) (tkLW hm aM cI cZ G ad cA (tkT_gate_s (tkPsi G) (xs (nI k + 1).toNatClampNeg) 0) ao cJ f) := hD
    refine W.eq (g2 := F0 m 281 ls [.int ((tkT_gate_r (tkPsi G) (xs (nI k + 1).toNatClampNeg) 0))]) rfl ?_
    refine lv_aload_n hx hb dW_281 rfl (lv_at hl 2 rfl) ?_
    refine lv_aload_n hx hb dW_282 rfl (lv_at hl 4 rfl) ?_
    refine lv_iload hx hb dW_283 (lv_at hl 0 rfl) ?_
    refine lv_iconst (v := 1) hx hb dW_285 (by decide) ?_
    refine lv_iadd hx hb dW_286 ?_
    refine va_sld hx hb hX hbl hbA hS v1 dW_287 ?_
    refine lv_aload_n hx hb dW_288 rfl (lv_at hl 4 rfl) ?_
    refine lv_iload hx hb dW_289 (lv_at hl 0 rfl) ?_
    refine lv_iconst (v := 2) hx hb dW_291 (by decide) ?_
    refine lv_iadd hx hb dW_292 ?_
    refine va_sld hx hb hX hbl hbA hS v2 dW_293 ?_
    refine lv_if_eq (tgt := 301) hx hb dW_294 (by decide) (fun _ => ?_) (fun h => absurd hz h)
    refine lv_iconst (v := 0) hx hb dW_301 (by decide) ?_
    refine tk_callS (wa := []) (wc := WM hm aM cI cZ G) (wb := WT ad cA (tkT_gate_s (tkPsi G) (xs (nI k + 1).toNatClampNeg) 0) ++ tkO ao cJ f) hP hD hS hA (va_runV (As := [.int (xs (nI k + 1).toNatClampNeg), .int 0]) (rest := [.int ((tkT_gate_r (tkPsi G) (xs (nI k + 1).toNatClampNeg) 0))]) ⟨hx, hb, hml, hown, hw⟩ (kM_gate l D hm aM cI cZ G (xs (nI k + 1).toNatClampNeg) 0 H.size) (cwV 2 hw (tk_gVL tkWA_m tkWA_good (tkWA_l _ wM_L_54) wI_M_gate wS_M_gate wZ_M wC_M_gate) rfl rfl rfl (by decide +kernel) ⟨Nat.le_of_ble_eq_true rfl, Nat.le_of_ble_eq_true rfl⟩) (tk_preVY (q0 := 0) (T := TM) (N := 33) hKM hN (tk_P_l hP) (tk_D_l hD) rfl rfl) rfl rfl hl.1 rfl (lv_room (Nat.le_of_ble_eq_true rfl)) dW_302 ⟨hc0, hs0⟩) (fun H locs hP hD hS => ?_)
    have hP : va_P D vwCl (tkLW hm aM cI cZ (tkM_gate_s G (xs (nI k + 1).toNatClampNeg) 0) ad cA (tkT_gate_s (tkPsi G) (xs (nI k + 1).toNatClampNeg) 0) ao cJ f) H := hP
    have hD : va_D (fun q => s.heap.size ≤ q) (tkLW hm aM cI cZ (tkM_gate_s G (xs (nI k + 1).toNatClampNeg) 0) ad cA (tkT_gate_s (tkPsi G) (xs (nI k + 1).toNatClampNeg) 0) ao cJ f) := hD
    refine W.eq (g2 := F0 m 305 ls [.int ((tkM_gate_r G (xs (nI k + 1).toNatClampNeg) 0)), .int ((tkT_gate_r (tkPsi G) (xs (nI k + 1).toNatClampNeg) 0))]) rfl ?_
    refine lv_icmp_eq (tgt := 509) hx hb dW_305 (by decide) (fun _ => ?_) (fun h => absurd h1.symm h)
    refine W.widen (k := cells + 1) (n := slots + 6) (by omega) (by omega) ?_
    rw [← h2] at hP hD
    exact kn _ _ H locs ls h3 hP hD hS (lv_sub hl [0, 1, 2, 3, 4] rfl)
  · obtain ⟨h1, h2, h3⟩ := tkR_gate G hI (xs (nI k + 1).toNatClampNeg) 1 (by decide)
    refine lv_aload_n hx hb dW_257 rfl (lv_at hl 3 rfl) ?_
    refine lv_aload_n hx hb dW_258 rfl (lv_at hl 4 rfl) ?_
    refine lv_iload hx hb dW_259 (lv_at hl 0 rfl) ?_
    refine lv_iconst (v := 1) hx hb dW_261 (by decide) ?_
    refine lv_iadd hx hb dW_262 ?_
    refine va_sld hx hb hX hbl hbA hS v1 dW_263 ?_
    refine lv_aload_n hx hb dW_264 rfl (lv_at hl 4 rfl) ?_
    refine lv_iload hx hb dW_265 (lv_at hl 0 rfl) ?_
    refine lv_iconst (v := 2) hx hb dW_267 (by decide) ?_
    refine lv_iadd hx hb dW_268 ?_
    refine va_sld hx hb hX hbl hbA hS v2 dW_269 ?_
    refine lv_if_eq (tgt := 277) hx hb dW_270 (by decide) (fun h => absurd h hz) (fun _ => ?_)
    refine lv_iconst (v := 1) hx hb dW_273 (by decide) ?_
    refine lv_goto (tgt := 278) hx hb dW_274 (by decide) ?_
    refine tk_callS (wa := WM hm aM cI cZ G) (wc := WT ad cA (tkPsi G)) (wb := tkO ao cJ f) hP hD hS hA (va_runV (As := [.int (xs (nI k + 1).toNatClampNeg), .int 1]) (rest := []) ⟨hx, hb, hml, hown, hw⟩ (kT_gate l D ad cA (tkPsi G) (xs (nI k + 1).toNatClampNeg) 1 (by decide) H.size) (cwV 2 hw (tk_gVL tkWA_k tkWA_good (tkWA_l _ wM_L_50) wI_T_gate wS_T_gate wZ_T wC_T_gate) rfl rfl rfl (by decide +kernel) ⟨Nat.le_of_ble_eq_true rfl, Nat.le_of_ble_eq_true rfl⟩) (tk_preVY (q0 := 0) (T := TT) (N := 3) hKT hN (tk_P_l (tk_P_r hP)) (tk_D_l (tk_D_r hD)) rfl rfl) rfl rfl hl.1 rfl (lv_room (Nat.le_of_ble_eq_true rfl)) dW_278 ⟨hc0, hs0⟩) (fun H locs hP hD hS => ?_)
    have hP : va_P D vwCl (tkLW hm aM cI cZ G ad cA (tkT_gate_s (tkPsi G) (xs (nI k + 1).toNatClampNeg) 1) ao cJ f) H := hP
    have hD : va_D (fun q => s.heap.size ≤ q) (tkLW hm aM cI cZ G ad cA (tkT_gate_s (tkPsi G) (xs (nI k + 1).toNatClampNeg) 1) ao cJ f) := hD
    refine W.eq (g2 := F0 m 281 ls [.int ((tkT_gate_r (tkPsi G) (xs (nI k + 1).toNatClampNeg) 1))]) rfl ?_
    refine lv_aload_n hx hb dW_281 rfl (lv_at hl 2 rfl) ?_
    refine lv_aload_n hx hb dW_282 rfl (lv_at hl 4 rfl) ?_
    refine lv_iload hx hb dW_283 (lv_at hl 0 rfl) ?_
    refine lv_iconst (v := 1) hx hb dW_285 (by decide) ?_
    refine lv_iadd hx hb dW_286 ?_
    refine va_sld hx hb hX hbl hbA hS v1 dW_287 ?_
    refine lv_aload_n hx hb dW_288 rfl (lv_at hl 4 rfl) ?_
    refine lv_iload hx hb dW_289 (lv_at hl 0 rfl) ?_
    refine lv_iconst (v := 2) hx hb dW_291 (by decide) ?_
    refine lv_iadd hx hb dW_292 ?_
    refine va_sld hx hb hX hbl hbA hS v2 dW_293 ?_
    refine lv_if_eq (tgt := 301) hx hb dW_294 (by decide) (fun h => absurd h hz) (fun _ => ?_)
    refine lv_iconst (v := 1) hx hb dW_297 (by decide) ?_
    refine lv_goto (tgt := 302) hx hb dW_298 (by decide) ?_
    refine tk_callS (wa := []) (wc := WM hm aM cI cZ G) (wb := WT ad cA (tkT_gate_s (tkPsi G) (xs (nI k + 1).toNatClampNeg) 1) ++ tkO ao cJ f) hP hD hS hA (va_runV (As := [.int (xs (nI k + 1).toNatClampNeg), .int 1]) (rest := [.int ((tkT_gate_r (tkPsi G) (xs (nI k + 1).toNatClampNeg) 1))]) ⟨hx, hb, hml, hown, hw⟩ (kM_gate l D hm aM cI cZ G (xs (nI k + 1).toNatClampNeg) 1 H.size) (cwV 2 hw (tk_gVL tkWA_m tkWA_good (tkWA_l _ wM_L_54) wI_M_gate wS_M_gate wZ_M wC_M_gate) rfl rfl rfl (by decide +kernel) ⟨Nat.le_of_ble_eq_true rfl, Nat.le_of_ble_eq_true rfl⟩) (tk_preVY (q0 := 0) (T := TM) (N := 33) hKM hN (tk_P_l hP) (tk_D_l hD) rfl rfl) rfl rfl hl.1 rfl (lv_room (Nat.le_of_ble_eq_true rfl)) dW_302 ⟨hc0, hs0⟩) (fun H locs hP hD hS => ?_)
    have hP : va_P D vwCl (tkLW hm aM cI cZ (tkM_gate_s G (xs (nI k + 1).toNatClampNeg) 1) ad cA (tkT_gate_s (tkPsi G) (xs (nI k + 1).toNatClampNeg) 1) ao cJ f) H := hP
    have hD : va_D (fun q => s.heap.size ≤ q) (tkLW hm aM cI cZ (tkM_gate_s G (xs (nI k + 1).toNatClampNeg) 1) ad cA (tkT_gate_s (tkPsi G) (xs (nI k + 1).toNatClampNeg) 1) ao cJ f) := hD
    refine W.eq (g2 := F0 m 305 ls [.int ((tkM_gate_r G (xs (nI k + 1).toNatClampNeg) 1)), .int ((tkT_gate_r (tkPsi G) (xs (nI k + 1).toNatClampNeg) 1))]) rfl ?_
    refine lv_icmp_eq (tgt := 509) hx hb dW_305 (by decide) (fun _ => ?_) (fun h => absurd h1.symm h)
    refine W.widen (k := cells + 1) (n := slots + 6) (by omega) (by omega) ?_
    rw [← h2] at hP hD
    exact kn _ _ H locs ls h3 hP hD hS (lv_sub hl [0, 1, 2, 3, 4] rfl)
set_option maxHeartbeats 4000000 in
set_option maxRecDepth 100000 in
theorem tk_case4 {p : Program} {l : Launch} {e : Env} {s : State} {m : MethodId} {below : List Frame} {meth : Method} {c : Code} {b L : Nat} {xs : Nat → Int32} {D : va_G} {hm : Nat} {aM : Nat → Nat} {cI cZ : ClassId} {ad : Nat → Nat} {cA : ClassId} {ao : Nat} {cJ : ClassId} {k cells slots : Nat} (Fx : tk_Fx p l s m meth c b L xs D cI cZ cA cJ) (hk4 : k + 4 ≤ L) (hc : cells + 1 ≤ 1070) (hs : slots + 6 ≤ 8419) (kn : tk_On p l e s m below meth c b D hm aM cI cZ ad cA ao cJ k cells slots) {G : Nat → Nat → Int32} {f : Nat → Int64} {H : Heap} {locs : List Loc} {ls : Array Slot} (hI : tkInv G) (hP : va_P D vwCl (tkLW hm aM cI cZ G ad cA (tkPsi G) ao cJ f) H) (hD : va_D (fun q => s.heap.size ≤ q) (tkLW hm aM cI cZ G ad cA (tkPsi G) ao cJ f)) (hS : va_S (fun q => s.heap.size ≤ q) s.heap H locs) (hl : lv_has ls 7 (tkLS b (ad 0) hm ao k)) :
    W p l e room_1 s m #[Value.ref b] below meth c H locs cells slots (lw_Z below #[Value.ref b] s) (F0 m 310 ls []) := by
  obtain ⟨⟨hx, hb, hr, hml, hown, hts, hX, hbl, hlk, hgv⟩, hL, hl9, hN, hE, hNc, hKo, hKM⟩ := Fx
  have hown : s.vm.findClass "TickLinesLaw" = some m.cls := hown
  have hw : ∀ w ∈ tkWA, w.before #[Value.ref b] s = true := fun w h => hts w (tkWA_lw w h)
  have hKT : va_K D vwCl [(cA, .object "TickLines$Counter")] s := hKo.sub [0] rfl
  have hA : ∀ q, s.heap.size ≤ q → (fun q => s.heap.size ≤ q) q := fun q h => h
  have hbA : ¬ (fun q => s.heap.size ≤ q) b := fun h => absurd hbl (Nat.not_lt.mpr h)
  have hc0 : cells ≤ 1070 := by omega
  have hs0 : slots ≤ 8419 := by omega
  have v1 := tk_vi1 (L := L) (k := k) hL (by omega)
  have v2 := tk_vi2 (L := L) (k := k) hL (by omega)
  have v3 := tk_vi3 (L := L) (k := k) hL (by omega)
  obtain ⟨h1, h2, h3, h4⟩ := tkR_tick G hI (xs (nI k + 1).toNatClampNeg)
  refine lv_aload_n hx hb dW_310 rfl (lv_at hl 3 rfl) ?_
  refine lv_aload_n hx hb dW_311 rfl (lv_at hl 4 rfl) ?_
  refine lv_iload hx hb dW_312 (lv_at hl 0 rfl) ?_
  refine lv_iconst (v := 1) hx hb dW_314 (by decide) ?_
  refine lv_iadd hx hb dW_315 ?_
  refine va_sld hx hb hX hbl hbA hS v1 dW_316 ?_
  refine lv_aload_n hx hb dW_317 rfl (lv_at hl 1 rfl) ?_
  have hP : va_P D vwCl (WM hm aM cI cZ G ++ (WTo ad cA (tkPsi G) ao cJ f ++ [])) H := hP
  have hD : va_D (fun q => s.heap.size ≤ q) (WM hm aM cI cZ G ++ (WTo ad cA (tkPsi G) ao cJ f ++ [])) := hD
  refine tk_callS (wa := WM hm aM cI cZ G) (wc := WTo ad cA (tkPsi G) ao cJ f) (wb := []) hP hD hS hA (vx_runSW (As := [.ref (ad 0), .int (xs (nI k + 1).toNatClampNeg), .ref ao]) (rest := []) ⟨hx, hb, hml, hown, hw⟩ (kL_tick l hl9 D ad cA (tkPsi G) ao cJ f (xs (nI k + 1).toNatClampNeg) H.size) (vx_cwSW 3 hw (tk_gSW wM_L_55 wT_L_tick wZ_L wC_L_tick) rfl rfl rfl (by decide +kernel) ⟨Nat.le_of_ble_eq_true rfl, Nat.le_of_ble_eq_true rfl⟩) (tk_preSH hE hNc hS (tk_Fseg (wa := WM hm aM cI cZ G) (wb := []) hD hS hA) hKo hN (tk_P_l (tk_P_r hP)) (tk_D_l (tk_D_r hD))) rfl rfl hl.1 rfl (lv_room (Nat.le_of_ble_eq_true rfl)) dW_318 ⟨hc, hs⟩) (fun H locs hP hD hS => ?_)
  have hP : va_P D vwCl (tkLW hm aM cI cZ G ad cA (if (tkT_tick_k (tkPsi G) (xs (nI k + 1).toNatClampNeg)) = 0 then tkT_tick_s (tkPsi G) (xs (nI k + 1).toNatClampNeg) else tkPsi G) ao cJ (if (tkT_tick_k (tkPsi G) (xs (nI k + 1).toNatClampNeg)) = 0 then vp_updL f (0 : Int32).toNatClampNeg (tkT_tick_r (tkPsi G) (xs (nI k + 1).toNatClampNeg)).toInt64 else f)) H := hP
  have hD : va_D (fun q => s.heap.size ≤ q) (tkLW hm aM cI cZ G ad cA (if (tkT_tick_k (tkPsi G) (xs (nI k + 1).toNatClampNeg)) = 0 then tkT_tick_s (tkPsi G) (xs (nI k + 1).toNatClampNeg) else tkPsi G) ao cJ (if (tkT_tick_k (tkPsi G) (xs (nI k + 1).toNatClampNeg)) = 0 then vp_updL f (0 : Int32).toNatClampNeg (tkT_tick_r (tkPsi G) (xs (nI k + 1).toNatClampNeg)).toInt64 else f)) := hD
  refine W.eq (g2 := F0 m 321 ls [.int (tkT_tick_k (tkPsi G) (xs (nI k + 1).toNatClampNeg))]) rfl ?_
  refine lv_istore hx hb dW_321 hl (by decide) rfl (fun ls hl => ?_)
  have hl : lv_has ls 7 [(5, .int (tkT_tick_k (tkPsi G) (xs (nI k + 1).toNatClampNeg))), (4, .int (nI k)), (3, .ref ao), (2, .ref hm), (1, .ref (ad 0)), (0, .ref b)] := hl
  refine lv_aload_n hx hb dW_323 rfl (lv_at hl 3 rfl) ?_
  refine lv_aload_n hx hb dW_324 rfl (lv_at hl 5 rfl) ?_
  refine lv_iload hx hb dW_325 (lv_at hl 1 rfl) ?_
  refine lv_iconst (v := 1) hx hb dW_327 (by decide) ?_
  refine lv_iadd hx hb dW_328 ?_
  refine va_sld hx hb hX hbl hbA hS v1 dW_329 ?_
  refine tk_callS (wa := []) (wc := WM hm aM cI cZ G) (wb := WT ad cA (if (tkT_tick_k (tkPsi G) (xs (nI k + 1).toNatClampNeg)) = 0 then tkT_tick_s (tkPsi G) (xs (nI k + 1).toNatClampNeg) else tkPsi G) ++ tkO ao cJ (if (tkT_tick_k (tkPsi G) (xs (nI k + 1).toNatClampNeg)) = 0 then vp_updL f (0 : Int32).toNatClampNeg (tkT_tick_r (tkPsi G) (xs (nI k + 1).toNatClampNeg)).toInt64 else f)) hP hD hS hA (va_runV (As := [.int (xs (nI k + 1).toNatClampNeg)]) (rest := []) ⟨hx, hb, hml, hown, hw⟩ (kM_tick l D hm aM cI cZ G (xs (nI k + 1).toNatClampNeg) H.size) (cwV 1 hw (tk_gVL tkWA_m tkWA_good (tkWA_l _ wM_L_57) wI_M_tick wS_M_tick wZ_M wC_M_tick) rfl rfl rfl (by decide +kernel) ⟨Nat.le_of_ble_eq_true rfl, Nat.le_of_ble_eq_true rfl⟩) (tk_preVY (q0 := 0) (T := TM) (N := 33) hKM hN (tk_P_l hP) (tk_D_l hD) rfl rfl) rfl rfl hl.1 rfl (lv_room (Nat.le_of_ble_eq_true rfl)) dW_330 ⟨hc, hs⟩) (fun H locs hP hD hS => ?_)
  have hP : va_P D vwCl (tkLW hm aM cI cZ (tkM_tick_s G (xs (nI k + 1).toNatClampNeg)) ad cA (if (tkT_tick_k (tkPsi G) (xs (nI k + 1).toNatClampNeg)) = 0 then tkT_tick_s (tkPsi G) (xs (nI k + 1).toNatClampNeg) else tkPsi G) ao cJ (if (tkT_tick_k (tkPsi G) (xs (nI k + 1).toNatClampNeg)) = 0 then vp_updL f (0 : Int32).toNatClampNeg (tkT_tick_r (tkPsi G) (xs (nI k + 1).toNatClampNeg)).toInt64 else f)) H := hP
  have hD : va_D (fun q => s.heap.size ≤ q) (tkLW hm aM cI cZ (tkM_tick_s G (xs (nI k + 1).toNatClampNeg)) ad cA (if (tkT_tick_k (tkPsi G) (xs (nI k + 1).toNatClampNeg)) = 0 then tkT_tick_s (tkPsi G) (xs (nI k + 1).toNatClampNeg) else tkPsi G) ao cJ (if (tkT_tick_k (tkPsi G) (xs (nI k + 1).toNatClampNeg)) = 0 then vp_updL f (0 : Int32).toNatClampNeg (tkT_tick_r (tkPsi G) (xs (nI k + 1).toNatClampNeg)).toInt64 else f)) := hD
  refine W.eq (g2 := F0 m 333 ls [.int ((tkM_tick_r G (xs (nI k + 1).toNatClampNeg)))]) rfl ?_
  refine lv_istore hx hb dW_333 hl (by decide) rfl (fun ls hl => ?_)
  have hl : lv_has ls 7 [(6, .int (tkM_tick_r G (xs (nI k + 1).toNatClampNeg))), (5, .int (tkT_tick_k (tkPsi G) (xs (nI k + 1).toNatClampNeg))), (4, .int (nI k)), (3, .ref ao), (2, .ref hm), (1, .ref (ad 0)), (0, .ref b)] := hl
  refine lv_aload_n hx hb dW_335 rfl (lv_at hl 4 rfl) ?_
  refine tk_callS (wa := []) (wc := WM hm aM cI cZ (tkM_tick_s G (xs (nI k + 1).toNatClampNeg))) (wb := WT ad cA (if (tkT_tick_k (tkPsi G) (xs (nI k + 1).toNatClampNeg)) = 0 then tkT_tick_s (tkPsi G) (xs (nI k + 1).toNatClampNeg) else tkPsi G) ++ tkO ao cJ (if (tkT_tick_k (tkPsi G) (xs (nI k + 1).toNatClampNeg)) = 0 then vp_updL f (0 : Int32).toNatClampNeg (tkT_tick_r (tkPsi G) (xs (nI k + 1).toNatClampNeg)).toInt64 else f)) hP hD hS hA (va_runV (As := []) (rest := []) ⟨hx, hb, hml, hown, hw⟩ (kM_thrown l D hm aM cI cZ (tkM_tick_s G (xs (nI k + 1).toNatClampNeg)) H.size) (cwV 0 hw (tk_gVL tkWA_m tkWA_good (tkWA_l _ wM_L_38) wI_M_thrown wS_M_thrown wZ_M wC_M_thrown) rfl rfl rfl (by decide +kernel) ⟨Nat.le_of_ble_eq_true rfl, Nat.le_of_ble_eq_true rfl⟩) (tk_preVY (q0 := 0) (T := TM) (N := 33) hKM hN (tk_P_l hP) (tk_D_l hD) rfl rfl) rfl rfl hl.1 rfl (lv_room (Nat.le_of_ble_eq_true rfl)) dW_336 ⟨hc, hs⟩) (fun H locs hP hD hS => ?_)
  have hP : va_P D vwCl (tkLW hm aM cI cZ (tkM_tick_s G (xs (nI k + 1).toNatClampNeg)) ad cA (if (tkT_tick_k (tkPsi G) (xs (nI k + 1).toNatClampNeg)) = 0 then tkT_tick_s (tkPsi G) (xs (nI k + 1).toNatClampNeg) else tkPsi G) ao cJ (if (tkT_tick_k (tkPsi G) (xs (nI k + 1).toNatClampNeg)) = 0 then vp_updL f (0 : Int32).toNatClampNeg (tkT_tick_r (tkPsi G) (xs (nI k + 1).toNatClampNeg)).toInt64 else f)) H := hP
  have hD : va_D (fun q => s.heap.size ≤ q) (tkLW hm aM cI cZ (tkM_tick_s G (xs (nI k + 1).toNatClampNeg)) ad cA (if (tkT_tick_k (tkPsi G) (xs (nI k + 1).toNatClampNeg)) = 0 then tkT_tick_s (tkPsi G) (xs (nI k + 1).toNatClampNeg) else tkPsi G) ao cJ (if (tkT_tick_k (tkPsi G) (xs (nI k + 1).toNatClampNeg)) = 0 then vp_updL f (0 : Int32).toNatClampNeg (tkT_tick_r (tkPsi G) (xs (nI k + 1).toNatClampNeg)).toInt64 else f)) := hD
  refine W.eq (g2 := F0 m 339 ls [.int (tkM_thrown_r (tkM_tick_s G (xs (nI k + 1).toNatClampNeg)))]) rfl ?_
  refine lv_iload hx hb dW_339 (lv_at hl 1 rfl) ?_
  refine lv_icmp_eq (tgt := 346) hx hb dW_341 (by decide) (fun _ => ?_) (fun h => absurd h1.symm h)
  refine lv_iload hx hb dW_346 (lv_at hl 1 rfl) ?_
  refine lv_if_ne (tgt := 363) hx hb dW_348 (by decide) (fun _ => ?_) (fun h0 => ?_)
  · refine lv_goto (tgt := 509) hx hb dW_363 (by decide) ?_
    rw [← h2] at hP hD
    exact kn _ _ H locs ls h3 hP hD hS (lv_sub hl [2, 3, 4, 5, 6] rfl)
  · have h9 : (tkT_tick_k (tkPsi G) (xs (nI k + 1).toNatClampNeg)) = 0 := h0
    have e9 : ((if (tkT_tick_k (tkPsi G) (xs (nI k + 1).toNatClampNeg)) = 0 then vp_updL f (0 : Int32).toNatClampNeg (tkT_tick_r (tkPsi G) (xs (nI k + 1).toNatClampNeg)).toInt64 else f) : Nat → Int64) (0 : Int32).toNatClampNeg = (tkM_tick_r G (xs (nI k + 1).toNatClampNeg)).toInt64 := by
      rw [if_pos h9, h4 h9]
      exact if_pos rfl
    refine lv_aload_n hx hb dW_351 rfl (lv_at hl 3 rfl) ?_
    refine lv_iconst (v := 0) hx hb dW_352 (by decide) ?_
    refine va_lald hx hb hKo hP 40 1 rfl rfl (by unfold vp_in; decide) dW_353 ?_
    refine lv_iload hx hb dW_354 (lv_at hl 0 rfl) ?_
    refine lv_i2l (v := (tkM_tick_r G (xs (nI k + 1).toNatClampNeg)).toInt64) hx hb dW_356 rfl ?_
    refine W.lcmp hx hb dW_357 ?_
    refine lv_if_eq (tgt := 363) hx hb dW_358 (by decide) (fun _ => ?_) (fun h => absurd (by rw [e9]; exact tk_cmp0 _) h)
    refine lv_goto (tgt := 509) hx hb dW_363 (by decide) ?_
    rw [← h2] at hP hD
    exact kn _ _ H locs ls h3 hP hD hS (lv_sub hl [2, 3, 4, 5, 6] rfl)
set_option maxHeartbeats 4000000 in
set_option maxRecDepth 100000 in
theorem tk_case5 {p : Program} {l : Launch} {e : Env} {s : State} {m : MethodId} {below : List Frame} {meth : Method} {c : Code} {b L : Nat} {xs : Nat → Int32} {D : va_G} {hm : Nat} {aM : Nat → Nat} {cI cZ : ClassId} {ad : Nat → Nat} {cA : ClassId} {ao : Nat} {cJ : ClassId} {k cells slots : Nat} (Fx : tk_Fx p l s m meth c b L xs D cI cZ cA cJ) (hk4 : k + 4 ≤ L) (hc : cells + 1 ≤ 1070) (hs : slots + 6 ≤ 8419) (kn : tk_On p l e s m below meth c b D hm aM cI cZ ad cA ao cJ k cells slots) {G : Nat → Nat → Int32} {f : Nat → Int64} {H : Heap} {locs : List Loc} {ls : Array Slot} (hI : tkInv G) (hP : va_P D vwCl (tkLW hm aM cI cZ G ad cA (tkPsi G) ao cJ f) H) (hD : va_D (fun q => s.heap.size ≤ q) (tkLW hm aM cI cZ G ad cA (tkPsi G) ao cJ f)) (hS : va_S (fun q => s.heap.size ≤ q) s.heap H locs) (hl : lv_has ls 7 (tkLS b (ad 0) hm ao k)) :
    W p l e room_1 s m #[Value.ref b] below meth c H locs cells slots (lw_Z below #[Value.ref b] s) (F0 m 366 ls []) := by
  obtain ⟨⟨hx, hb, hr, hml, hown, hts, hX, hbl, hlk, hgv⟩, hL, hl9, hN, hE, hNc, hKo, hKM⟩ := Fx
  have hown : s.vm.findClass "TickLinesLaw" = some m.cls := hown
  have hw : ∀ w ∈ tkWA, w.before #[Value.ref b] s = true := fun w h => hts w (tkWA_lw w h)
  have hKT : va_K D vwCl [(cA, .object "TickLines$Counter")] s := hKo.sub [0] rfl
  have hA : ∀ q, s.heap.size ≤ q → (fun q => s.heap.size ≤ q) q := fun q h => h
  have hbA : ¬ (fun q => s.heap.size ≤ q) b := fun h => absurd hbl (Nat.not_lt.mpr h)
  have hc0 : cells ≤ 1070 := by omega
  have hs0 : slots ≤ 8419 := by omega
  have v1 := tk_vi1 (L := L) (k := k) hL (by omega)
  have v2 := tk_vi2 (L := L) (k := k) hL (by omega)
  have v3 := tk_vi3 (L := L) (k := k) hL (by omega)
  obtain ⟨h1, h2, h3, h4⟩ := tkR_ack G hI
  refine lv_aload_n hx hb dW_366 rfl (lv_at hl 3 rfl) ?_
  refine lv_aload_n hx hb dW_367 rfl (lv_at hl 1 rfl) ?_
  have hP : va_P D vwCl (WM hm aM cI cZ G ++ (WTo ad cA (tkPsi G) ao cJ f ++ [])) H := hP
  have hD : va_D (fun q => s.heap.size ≤ q) (WM hm aM cI cZ G ++ (WTo ad cA (tkPsi G) ao cJ f ++ [])) := hD
  refine tk_callS (wa := WM hm aM cI cZ G) (wc := WTo ad cA (tkPsi G) ao cJ f) (wb := []) hP hD hS hA (vx_runSW (As := [.ref (ad 0), .ref ao]) (rest := []) ⟨hx, hb, hml, hown, hw⟩ (kL_acknowledge l hl9 D ad cA (tkPsi G) ao cJ f H.size) (vx_cwSW 2 hw (tk_gSW wM_L_58 wT_L_acknowledge wZ_L wC_L_acknowledge) rfl rfl rfl (by decide +kernel) ⟨Nat.le_of_ble_eq_true rfl, Nat.le_of_ble_eq_true rfl⟩) (tk_preSH hE hNc hS (tk_Fseg (wa := WM hm aM cI cZ G) (wb := []) hD hS hA) hKo hN (tk_P_l (tk_P_r hP)) (tk_D_l (tk_D_r hD))) rfl rfl hl.1 rfl (lv_room (Nat.le_of_ble_eq_true rfl)) dW_368 ⟨hc, hs⟩) (fun H locs hP hD hS => ?_)
  have hP : va_P D vwCl (tkLW hm aM cI cZ G ad cA (if (tkT_acknowledge_k (tkPsi G)) = 0 then tkT_acknowledge_s (tkPsi G) else tkPsi G) ao cJ (if (tkT_acknowledge_k (tkPsi G)) = 0 then vp_updL f (0 : Int32).toNatClampNeg (tkT_acknowledge_r (tkPsi G)).toInt64 else f)) H := hP
  have hD : va_D (fun q => s.heap.size ≤ q) (tkLW hm aM cI cZ G ad cA (if (tkT_acknowledge_k (tkPsi G)) = 0 then tkT_acknowledge_s (tkPsi G) else tkPsi G) ao cJ (if (tkT_acknowledge_k (tkPsi G)) = 0 then vp_updL f (0 : Int32).toNatClampNeg (tkT_acknowledge_r (tkPsi G)).toInt64 else f)) := hD
  refine W.eq (g2 := F0 m 371 ls [.int (if (tkT_acknowledge_k (tkPsi G)) = 0 then 0 else 1)]) rfl ?_
  refine lv_istore hx hb dW_371 hl (by decide) rfl (fun ls hl => ?_)
  have hl : lv_has ls 7 [(5, .int (if (tkT_acknowledge_k (tkPsi G)) = 0 then 0 else 1)), (4, .int (nI k)), (3, .ref ao), (2, .ref hm), (1, .ref (ad 0)), (0, .ref b)] := hl
  refine lv_aload_n hx hb dW_373 rfl (lv_at hl 3 rfl) ?_
  refine tk_callS (wa := []) (wc := WM hm aM cI cZ G) (wb := WT ad cA (if (tkT_acknowledge_k (tkPsi G)) = 0 then tkT_acknowledge_s (tkPsi G) else tkPsi G) ++ tkO ao cJ (if (tkT_acknowledge_k (tkPsi G)) = 0 then vp_updL f (0 : Int32).toNatClampNeg (tkT_acknowledge_r (tkPsi G)).toInt64 else f)) hP hD hS hA (va_runV (As := []) (rest := []) ⟨hx, hb, hml, hown, hw⟩ (kM_acknowledge l D hm aM cI cZ G H.size) (cwV 0 hw (tk_gVL tkWA_m tkWA_good (tkWA_l _ wM_L_61) wI_M_acknowledge wS_M_acknowledge wZ_M wC_M_acknowledge) rfl rfl rfl (by decide +kernel) ⟨Nat.le_of_ble_eq_true rfl, Nat.le_of_ble_eq_true rfl⟩) (tk_preVY (q0 := 0) (T := TM) (N := 33) hKM hN (tk_P_l hP) (tk_D_l hD) rfl rfl) rfl rfl hl.1 rfl (lv_room (Nat.le_of_ble_eq_true rfl)) dW_374 ⟨hc, hs⟩) (fun H locs hP hD hS => ?_)
  have hP : va_P D vwCl (tkLW hm aM cI cZ (tkM_acknowledge_s G) ad cA (if (tkT_acknowledge_k (tkPsi G)) = 0 then tkT_acknowledge_s (tkPsi G) else tkPsi G) ao cJ (if (tkT_acknowledge_k (tkPsi G)) = 0 then vp_updL f (0 : Int32).toNatClampNeg (tkT_acknowledge_r (tkPsi G)).toInt64 else f)) H := hP
  have hD : va_D (fun q => s.heap.size ≤ q) (tkLW hm aM cI cZ (tkM_acknowledge_s G) ad cA (if (tkT_acknowledge_k (tkPsi G)) = 0 then tkT_acknowledge_s (tkPsi G) else tkPsi G) ao cJ (if (tkT_acknowledge_k (tkPsi G)) = 0 then vp_updL f (0 : Int32).toNatClampNeg (tkT_acknowledge_r (tkPsi G)).toInt64 else f)) := hD
  refine W.eq (g2 := F0 m 377 ls [.int ((tkM_acknowledge_r G))]) rfl ?_
  refine lv_istore hx hb dW_377 hl (by decide) rfl (fun ls hl => ?_)
  have hl : lv_has ls 7 [(6, .int (tkM_acknowledge_r G)), (5, .int (if (tkT_acknowledge_k (tkPsi G)) = 0 then 0 else 1)), (4, .int (nI k)), (3, .ref ao), (2, .ref hm), (1, .ref (ad 0)), (0, .ref b)] := hl
  refine lv_aload_n hx hb dW_379 rfl (lv_at hl 4 rfl) ?_
  refine tk_callS (wa := []) (wc := WM hm aM cI cZ (tkM_acknowledge_s G)) (wb := WT ad cA (if (tkT_acknowledge_k (tkPsi G)) = 0 then tkT_acknowledge_s (tkPsi G) else tkPsi G) ++ tkO ao cJ (if (tkT_acknowledge_k (tkPsi G)) = 0 then vp_updL f (0 : Int32).toNatClampNeg (tkT_acknowledge_r (tkPsi G)).toInt64 else f)) hP hD hS hA (va_runV (As := []) (rest := []) ⟨hx, hb, hml, hown, hw⟩ (kM_thrown l D hm aM cI cZ (tkM_acknowledge_s G) H.size) (cwV 0 hw (tk_gVL tkWA_m tkWA_good (tkWA_l _ wM_L_38) wI_M_thrown wS_M_thrown wZ_M wC_M_thrown) rfl rfl rfl (by decide +kernel) ⟨Nat.le_of_ble_eq_true rfl, Nat.le_of_ble_eq_true rfl⟩) (tk_preVY (q0 := 0) (T := TM) (N := 33) hKM hN (tk_P_l hP) (tk_D_l hD) rfl rfl) rfl rfl hl.1 rfl (lv_room (Nat.le_of_ble_eq_true rfl)) dW_380 ⟨hc, hs⟩) (fun H locs hP hD hS => ?_)
  have hP : va_P D vwCl (tkLW hm aM cI cZ (tkM_acknowledge_s G) ad cA (if (tkT_acknowledge_k (tkPsi G)) = 0 then tkT_acknowledge_s (tkPsi G) else tkPsi G) ao cJ (if (tkT_acknowledge_k (tkPsi G)) = 0 then vp_updL f (0 : Int32).toNatClampNeg (tkT_acknowledge_r (tkPsi G)).toInt64 else f)) H := hP
  have hD : va_D (fun q => s.heap.size ≤ q) (tkLW hm aM cI cZ (tkM_acknowledge_s G) ad cA (if (tkT_acknowledge_k (tkPsi G)) = 0 then tkT_acknowledge_s (tkPsi G) else tkPsi G) ao cJ (if (tkT_acknowledge_k (tkPsi G)) = 0 then vp_updL f (0 : Int32).toNatClampNeg (tkT_acknowledge_r (tkPsi G)).toInt64 else f)) := hD
  refine W.eq (g2 := F0 m 383 ls [.int (tkM_thrown_r (tkM_acknowledge_s G))]) rfl ?_
  refine lv_iload hx hb dW_383 (lv_at hl 1 rfl) ?_
  refine lv_icmp_eq (tgt := 390) hx hb dW_385 (by decide) (fun _ => ?_) (fun h => absurd h1.symm h)
  refine lv_iload hx hb dW_390 (lv_at hl 1 rfl) ?_
  refine lv_if_ne (tgt := 407) hx hb dW_392 (by decide) (fun _ => ?_) (fun h0 => ?_)
  · refine lv_goto (tgt := 509) hx hb dW_407 (by decide) ?_
    rw [← h2] at hP hD
    exact kn _ _ H locs ls h3 hP hD hS (lv_sub hl [2, 3, 4, 5, 6] rfl)
  · have h9 : (tkT_acknowledge_k (tkPsi G)) = 0 := by
      by_cases q : (tkT_acknowledge_k (tkPsi G)) = 0
      · exact q
      · rw [if_neg q] at h0; exact absurd h0 (by decide)
    have e9 : ((if (tkT_acknowledge_k (tkPsi G)) = 0 then vp_updL f (0 : Int32).toNatClampNeg (tkT_acknowledge_r (tkPsi G)).toInt64 else f) : Nat → Int64) (0 : Int32).toNatClampNeg = (tkM_acknowledge_r G).toInt64 := by
      rw [if_pos h9, h4 h9]
      exact if_pos rfl
    refine lv_aload_n hx hb dW_395 rfl (lv_at hl 3 rfl) ?_
    refine lv_iconst (v := 0) hx hb dW_396 (by decide) ?_
    refine va_lald hx hb hKo hP 40 1 rfl rfl (by unfold vp_in; decide) dW_397 ?_
    refine lv_iload hx hb dW_398 (lv_at hl 0 rfl) ?_
    refine lv_i2l (v := (tkM_acknowledge_r G).toInt64) hx hb dW_400 rfl ?_
    refine W.lcmp hx hb dW_401 ?_
    refine lv_if_eq (tgt := 407) hx hb dW_402 (by decide) (fun _ => ?_) (fun h => absurd (by rw [e9]; exact tk_cmp0 _) h)
    refine lv_goto (tgt := 509) hx hb dW_407 (by decide) ?_
    rw [← h2] at hP hD
    exact kn _ _ H locs ls h3 hP hD hS (lv_sub hl [2, 3, 4, 5, 6] rfl)
set_option maxHeartbeats 4000000 in
set_option maxRecDepth 100000 in
theorem tk_case6 {p : Program} {l : Launch} {e : Env} {s : State} {m : MethodId} {below : List Frame} {meth : Method} {c : Code} {b L : Nat} {xs : Nat → Int32} {D : va_G} {hm : Nat} {aM : Nat → Nat} {cI cZ : ClassId} {ad : Nat → Nat} {cA : ClassId} {ao : Nat} {cJ : ClassId} {k cells slots : Nat} (Fx : tk_Fx p l s m meth c b L xs D cI cZ cA cJ) (hk4 : k + 4 ≤ L) (hc : cells + 1 ≤ 1070) (hs : slots + 6 ≤ 8419) (kn : tk_On p l e s m below meth c b D hm aM cI cZ ad cA ao cJ k cells slots) {G : Nat → Nat → Int32} {f : Nat → Int64} {H : Heap} {locs : List Loc} {ls : Array Slot} (hI : tkInv G) (hP : va_P D vwCl (tkLW hm aM cI cZ G ad cA (tkPsi G) ao cJ f) H) (hD : va_D (fun q => s.heap.size ≤ q) (tkLW hm aM cI cZ G ad cA (tkPsi G) ao cJ f)) (hS : va_S (fun q => s.heap.size ≤ q) s.heap H locs) (hl : lv_has ls 7 (tkLS b (ad 0) hm ao k)) :
    W p l e room_1 s m #[Value.ref b] below meth c H locs cells slots (lw_Z below #[Value.ref b] s) (F0 m 410 ls []) := by
  obtain ⟨⟨hx, hb, hr, hml, hown, hts, hX, hbl, hlk, hgv⟩, hL, hl9, hN, hE, hNc, hKo, hKM⟩ := Fx
  have hown : s.vm.findClass "TickLinesLaw" = some m.cls := hown
  have hw : ∀ w ∈ tkWA, w.before #[Value.ref b] s = true := fun w h => hts w (tkWA_lw w h)
  have hKT : va_K D vwCl [(cA, .object "TickLines$Counter")] s := hKo.sub [0] rfl
  have hA : ∀ q, s.heap.size ≤ q → (fun q => s.heap.size ≤ q) q := fun q h => h
  have hbA : ¬ (fun q => s.heap.size ≤ q) b := fun h => absurd hbl (Nat.not_lt.mpr h)
  have hc0 : cells ≤ 1070 := by omega
  have hs0 : slots ≤ 8419 := by omega
  have v1 := tk_vi1 (L := L) (k := k) hL (by omega)
  have v2 := tk_vi2 (L := L) (k := k) hL (by omega)
  have v3 := tk_vi3 (L := L) (k := k) hL (by omega)
  have h1 := tkR_chosen G hI (xs (nI k + 1).toNatClampNeg)
  have h2 : tkPsi (tkM_chosen_s G (xs (nI k + 1).toNatClampNeg)) = tkPsi G := tkR_t G 0
  have h3 : tkInv (tkM_chosen_s G (xs (nI k + 1).toNatClampNeg)) := tkI_t hI 0
  refine lv_aload_n hx hb dW_410 rfl (lv_at hl 3 rfl) ?_
  refine lv_aload_n hx hb dW_411 rfl (lv_at hl 4 rfl) ?_
  refine lv_iload hx hb dW_412 (lv_at hl 0 rfl) ?_
  refine lv_iconst (v := 1) hx hb dW_414 (by decide) ?_
  refine lv_iadd hx hb dW_415 ?_
  refine va_sld hx hb hX hbl hbA hS v1 dW_416 ?_
  refine tk_callS (wa := WM hm aM cI cZ G) (wc := WT ad cA (tkPsi G)) (wb := tkO ao cJ f) hP hD hS hA (va_runV (As := [.int (xs (nI k + 1).toNatClampNeg)]) (rest := []) ⟨hx, hb, hml, hown, hw⟩ (kT_chosen l D ad cA (tkPsi G) (xs (nI k + 1).toNatClampNeg) H.size) (cwV 1 hw (tk_gVL tkWA_k tkWA_good (tkWA_l _ wM_L_62) wI_T_chosen wS_T_chosen wZ_T wC_T_chosen) rfl rfl rfl (by decide +kernel) ⟨Nat.le_of_ble_eq_true rfl, Nat.le_of_ble_eq_true rfl⟩) (tk_preVY (q0 := 0) (T := TT) (N := 3) hKT hN (tk_P_l (tk_P_r hP)) (tk_D_l (tk_D_r hD)) rfl rfl) rfl rfl hl.1 rfl (lv_room (Nat.le_of_ble_eq_true rfl)) dW_417 ⟨hc0, hs0⟩) (fun H locs hP hD hS => ?_)
  have hP : va_P D vwCl (tkLW hm aM cI cZ G ad cA (tkPsi G) ao cJ f) H := hP
  have hD : va_D (fun q => s.heap.size ≤ q) (tkLW hm aM cI cZ G ad cA (tkPsi G) ao cJ f) := hD
  refine W.eq (g2 := F0 m 420 ls [.int ((tkT_chosen_r (tkPsi G) (xs (nI k + 1).toNatClampNeg)))]) rfl ?_
  refine lv_aload_n hx hb dW_420 rfl (lv_at hl 2 rfl) ?_
  refine lv_aload_n hx hb dW_421 rfl (lv_at hl 4 rfl) ?_
  refine lv_iload hx hb dW_422 (lv_at hl 0 rfl) ?_
  refine lv_iconst (v := 1) hx hb dW_424 (by decide) ?_
  refine lv_iadd hx hb dW_425 ?_
  refine va_sld hx hb hX hbl hbA hS v1 dW_426 ?_
  refine tk_callS (wa := []) (wc := WM hm aM cI cZ G) (wb := WT ad cA (tkPsi G) ++ tkO ao cJ f) hP hD hS hA (va_runV (As := [.int (xs (nI k + 1).toNatClampNeg)]) (rest := [.int ((tkT_chosen_r (tkPsi G) (xs (nI k + 1).toNatClampNeg)))]) ⟨hx, hb, hml, hown, hw⟩ (kM_chosen l D hm aM cI cZ G (xs (nI k + 1).toNatClampNeg) H.size) (cwV 1 hw (tk_gVL tkWA_m tkWA_good (tkWA_l _ wM_L_65) wI_M_chosen wS_M_chosen wZ_M wC_M_chosen) rfl rfl rfl (by decide +kernel) ⟨Nat.le_of_ble_eq_true rfl, Nat.le_of_ble_eq_true rfl⟩) (tk_preVY (q0 := 0) (T := TM) (N := 33) hKM hN (tk_P_l hP) (tk_D_l hD) rfl rfl) rfl rfl hl.1 rfl (lv_room (Nat.le_of_ble_eq_true rfl)) dW_427 ⟨hc0, hs0⟩) (fun H locs hP hD hS => ?_)
  have hP : va_P D vwCl (tkLW hm aM cI cZ (tkM_chosen_s G (xs (nI k + 1).toNatClampNeg)) ad cA (tkPsi G) ao cJ f) H := hP
  have hD : va_D (fun q => s.heap.size ≤ q) (tkLW hm aM cI cZ (tkM_chosen_s G (xs (nI k + 1).toNatClampNeg)) ad cA (tkPsi G) ao cJ f) := hD
  refine W.eq (g2 := F0 m 430 ls [.int ((tkM_chosen_r G (xs (nI k + 1).toNatClampNeg))), .int ((tkT_chosen_r (tkPsi G) (xs (nI k + 1).toNatClampNeg)))]) rfl ?_
  refine lv_icmp_eq (tgt := 509) hx hb dW_430 (by decide) (fun _ => ?_) (fun h => absurd h1.symm h)
  refine W.widen (k := cells + 1) (n := slots + 6) (by omega) (by omega) ?_
  rw [← h2] at hP hD
  exact kn _ _ H locs ls h3 hP hD hS (lv_sub hl [0, 1, 2, 3, 4] rfl)
set_option maxHeartbeats 4000000 in
set_option maxRecDepth 100000 in
theorem tk_case7 {p : Program} {l : Launch} {e : Env} {s : State} {m : MethodId} {below : List Frame} {meth : Method} {c : Code} {b L : Nat} {xs : Nat → Int32} {D : va_G} {hm : Nat} {aM : Nat → Nat} {cI cZ : ClassId} {ad : Nat → Nat} {cA : ClassId} {ao : Nat} {cJ : ClassId} {k cells slots : Nat} (Fx : tk_Fx p l s m meth c b L xs D cI cZ cA cJ) (hk4 : k + 4 ≤ L) (hc : cells + 1 ≤ 1070) (hs : slots + 6 ≤ 8419) (kn : tk_On p l e s m below meth c b D hm aM cI cZ ad cA ao cJ k cells slots) {G : Nat → Nat → Int32} {f : Nat → Int64} {H : Heap} {locs : List Loc} {ls : Array Slot} (hI : tkInv G) (hP : va_P D vwCl (tkLW hm aM cI cZ G ad cA (tkPsi G) ao cJ f) H) (hD : va_D (fun q => s.heap.size ≤ q) (tkLW hm aM cI cZ G ad cA (tkPsi G) ao cJ f)) (hS : va_S (fun q => s.heap.size ≤ q) s.heap H locs) (hl : lv_has ls 7 (tkLS b (ad 0) hm ao k)) :
    W p l e room_1 s m #[Value.ref b] below meth c H locs cells slots (lw_Z below #[Value.ref b] s) (F0 m 435 ls []) := by
  obtain ⟨⟨hx, hb, hr, hml, hown, hts, hX, hbl, hlk, hgv⟩, hL, hl9, hN, hE, hNc, hKo, hKM⟩ := Fx
  have hown : s.vm.findClass "TickLinesLaw" = some m.cls := hown
  have hw : ∀ w ∈ tkWA, w.before #[Value.ref b] s = true := fun w h => hts w (tkWA_lw w h)
  have hKT : va_K D vwCl [(cA, .object "TickLines$Counter")] s := hKo.sub [0] rfl
  have hA : ∀ q, s.heap.size ≤ q → (fun q => s.heap.size ≤ q) q := fun q h => h
  have hbA : ¬ (fun q => s.heap.size ≤ q) b := fun h => absurd hbl (Nat.not_lt.mpr h)
  have hc0 : cells ≤ 1070 := by omega
  have hs0 : slots ≤ 8419 := by omega
  have v1 := tk_vi1 (L := L) (k := k) hL (by omega)
  have v2 := tk_vi2 (L := L) (k := k) hL (by omega)
  have v3 := tk_vi3 (L := L) (k := k) hL (by omega)
  have h1 := tkR_about G (xs (nI k + 1).toNatClampNeg) (xs (nI k + 2).toNatClampNeg)
  have h2 : tkPsi (tkM_about_s G (xs (nI k + 1).toNatClampNeg) (xs (nI k + 2).toNatClampNeg)) = tkPsi G := tkR_t G 0
  have h3 : tkInv (tkM_about_s G (xs (nI k + 1).toNatClampNeg) (xs (nI k + 2).toNatClampNeg)) := tkI_t hI 0
  refine lv_aload_n hx hb dW_435 rfl (lv_at hl 3 rfl) ?_
  refine lv_aload_n hx hb dW_436 rfl (lv_at hl 4 rfl) ?_
  refine lv_iload hx hb dW_437 (lv_at hl 0 rfl) ?_
  refine lv_iconst (v := 1) hx hb dW_439 (by decide) ?_
  refine lv_iadd hx hb dW_440 ?_
  refine va_sld hx hb hX hbl hbA hS v1 dW_441 ?_
  refine lv_aload_n hx hb dW_442 rfl (lv_at hl 4 rfl) ?_
  refine lv_iload hx hb dW_443 (lv_at hl 0 rfl) ?_
  refine lv_iconst (v := 2) hx hb dW_445 (by decide) ?_
  refine lv_iadd hx hb dW_446 ?_
  refine va_sld hx hb hX hbl hbA hS v2 dW_447 ?_
  refine tk_callS (wa := WM hm aM cI cZ G) (wc := WT ad cA (tkPsi G)) (wb := tkO ao cJ f) hP hD hS hA (va_runV (As := [.int (xs (nI k + 1).toNatClampNeg), .int (xs (nI k + 2).toNatClampNeg)]) (rest := []) ⟨hx, hb, hml, hown, hw⟩ (kT_about l D ad cA (tkPsi G) (xs (nI k + 1).toNatClampNeg) (xs (nI k + 2).toNatClampNeg) H.size) (cwV 2 hw (tk_gVL tkWA_k tkWA_good (tkWA_l _ wM_L_66) wI_T_about wS_T_about wZ_T wC_T_about) rfl rfl rfl (by decide +kernel) ⟨Nat.le_of_ble_eq_true rfl, Nat.le_of_ble_eq_true rfl⟩) (tk_preVY (q0 := 0) (T := TT) (N := 3) hKT hN (tk_P_l (tk_P_r hP)) (tk_D_l (tk_D_r hD)) rfl rfl) rfl rfl hl.1 rfl (lv_room (Nat.le_of_ble_eq_true rfl)) dW_448 ⟨hc0, hs0⟩) (fun H locs hP hD hS => ?_)
  have hP : va_P D vwCl (tkLW hm aM cI cZ G ad cA (tkPsi G) ao cJ f) H := hP
  have hD : va_D (fun q => s.heap.size ≤ q) (tkLW hm aM cI cZ G ad cA (tkPsi G) ao cJ f) := hD
  refine W.eq (g2 := F0 m 451 ls [.int ((tkT_about_r (tkPsi G) (xs (nI k + 1).toNatClampNeg) (xs (nI k + 2).toNatClampNeg)))]) rfl ?_
  refine lv_aload_n hx hb dW_451 rfl (lv_at hl 2 rfl) ?_
  refine lv_aload_n hx hb dW_452 rfl (lv_at hl 4 rfl) ?_
  refine lv_iload hx hb dW_453 (lv_at hl 0 rfl) ?_
  refine lv_iconst (v := 1) hx hb dW_455 (by decide) ?_
  refine lv_iadd hx hb dW_456 ?_
  refine va_sld hx hb hX hbl hbA hS v1 dW_457 ?_
  refine lv_aload_n hx hb dW_458 rfl (lv_at hl 4 rfl) ?_
  refine lv_iload hx hb dW_459 (lv_at hl 0 rfl) ?_
  refine lv_iconst (v := 2) hx hb dW_461 (by decide) ?_
  refine lv_iadd hx hb dW_462 ?_
  refine va_sld hx hb hX hbl hbA hS v2 dW_463 ?_
  refine tk_callS (wa := []) (wc := WM hm aM cI cZ G) (wb := WT ad cA (tkPsi G) ++ tkO ao cJ f) hP hD hS hA (va_runV (As := [.int (xs (nI k + 1).toNatClampNeg), .int (xs (nI k + 2).toNatClampNeg)]) (rest := [.int ((tkT_about_r (tkPsi G) (xs (nI k + 1).toNatClampNeg) (xs (nI k + 2).toNatClampNeg)))]) ⟨hx, hb, hml, hown, hw⟩ (kM_about l D hm aM cI cZ G (xs (nI k + 1).toNatClampNeg) (xs (nI k + 2).toNatClampNeg) H.size) (cwV 2 hw (tk_gVL tkWA_m tkWA_good (tkWA_l _ wM_L_70) wI_M_about wS_M_about wZ_M wC_M_about) rfl rfl rfl (by decide +kernel) ⟨Nat.le_of_ble_eq_true rfl, Nat.le_of_ble_eq_true rfl⟩) (tk_preVY (q0 := 0) (T := TM) (N := 33) hKM hN (tk_P_l hP) (tk_D_l hD) rfl rfl) rfl rfl hl.1 rfl (lv_room (Nat.le_of_ble_eq_true rfl)) dW_464 ⟨hc0, hs0⟩) (fun H locs hP hD hS => ?_)
  have hP : va_P D vwCl (tkLW hm aM cI cZ (tkM_about_s G (xs (nI k + 1).toNatClampNeg) (xs (nI k + 2).toNatClampNeg)) ad cA (tkPsi G) ao cJ f) H := hP
  have hD : va_D (fun q => s.heap.size ≤ q) (tkLW hm aM cI cZ (tkM_about_s G (xs (nI k + 1).toNatClampNeg) (xs (nI k + 2).toNatClampNeg)) ad cA (tkPsi G) ao cJ f) := hD
  refine W.eq (g2 := F0 m 467 ls [.int ((tkM_about_r G (xs (nI k + 1).toNatClampNeg) (xs (nI k + 2).toNatClampNeg))), .int ((tkT_about_r (tkPsi G) (xs (nI k + 1).toNatClampNeg) (xs (nI k + 2).toNatClampNeg)))]) rfl ?_
  refine lv_icmp_eq (tgt := 509) hx hb dW_467 (by decide) (fun _ => ?_) (fun h => absurd h1.symm h)
  refine W.widen (k := cells + 1) (n := slots + 6) (by omega) (by omega) ?_
  rw [← h2] at hP hD
  exact kn _ _ H locs ls h3 hP hD hS (lv_sub hl [0, 1, 2, 3, 4] rfl)
set_option maxHeartbeats 4000000 in
set_option maxRecDepth 100000 in
theorem tk_case8 {p : Program} {l : Launch} {e : Env} {s : State} {m : MethodId} {below : List Frame} {meth : Method} {c : Code} {b L : Nat} {xs : Nat → Int32} {D : va_G} {hm : Nat} {aM : Nat → Nat} {cI cZ : ClassId} {ad : Nat → Nat} {cA : ClassId} {ao : Nat} {cJ : ClassId} {k cells slots : Nat} (Fx : tk_Fx p l s m meth c b L xs D cI cZ cA cJ) (hk4 : k + 4 ≤ L) (hc : cells + 1 ≤ 1070) (hs : slots + 6 ≤ 8419) (kn : tk_On p l e s m below meth c b D hm aM cI cZ ad cA ao cJ k cells slots) {G : Nat → Nat → Int32} {f : Nat → Int64} {H : Heap} {locs : List Loc} {ls : Array Slot} (hI : tkInv G) (hP : va_P D vwCl (tkLW hm aM cI cZ G ad cA (tkPsi G) ao cJ f) H) (hD : va_D (fun q => s.heap.size ≤ q) (tkLW hm aM cI cZ G ad cA (tkPsi G) ao cJ f)) (hS : va_S (fun q => s.heap.size ≤ q) s.heap H locs) (hl : lv_has ls 7 (tkLS b (ad 0) hm ao k)) :
    W p l e room_1 s m #[Value.ref b] below meth c H locs cells slots (lw_Z below #[Value.ref b] s) (F0 m 472 ls []) := by
  obtain ⟨⟨hx, hb, hr, hml, hown, hts, hX, hbl, hlk, hgv⟩, hL, hl9, hN, hE, hNc, hKo, hKM⟩ := Fx
  have hown : s.vm.findClass "TickLinesLaw" = some m.cls := hown
  have hw : ∀ w ∈ tkWA, w.before #[Value.ref b] s = true := fun w h => hts w (tkWA_lw w h)
  have hKT : va_K D vwCl [(cA, .object "TickLines$Counter")] s := hKo.sub [0] rfl
  have hA : ∀ q, s.heap.size ≤ q → (fun q => s.heap.size ≤ q) q := fun q h => h
  have hbA : ¬ (fun q => s.heap.size ≤ q) b := fun h => absurd hbl (Nat.not_lt.mpr h)
  have hc0 : cells ≤ 1070 := by omega
  have hs0 : slots ≤ 8419 := by omega
  have v1 := tk_vi1 (L := L) (k := k) hL (by omega)
  have v2 := tk_vi2 (L := L) (k := k) hL (by omega)
  have v3 := tk_vi3 (L := L) (k := k) hL (by omega)
  have h1 := tkR_counter G (xs (nI k + 1).toNatClampNeg) (xs (nI k + 2).toNatClampNeg)
  have h2 : tkPsi (tkM_counter_s G (xs (nI k + 1).toNatClampNeg) (xs (nI k + 2).toNatClampNeg)) = tkPsi G := tkR_t G 0
  have h3 : tkInv (tkM_counter_s G (xs (nI k + 1).toNatClampNeg) (xs (nI k + 2).toNatClampNeg)) := tkI_t hI 0
  refine lv_aload_n hx hb dW_472 rfl (lv_at hl 3 rfl) ?_
  refine lv_aload_n hx hb dW_473 rfl (lv_at hl 4 rfl) ?_
  refine lv_iload hx hb dW_474 (lv_at hl 0 rfl) ?_
  refine lv_iconst (v := 1) hx hb dW_476 (by decide) ?_
  refine lv_iadd hx hb dW_477 ?_
  refine va_sld hx hb hX hbl hbA hS v1 dW_478 ?_
  refine lv_aload_n hx hb dW_479 rfl (lv_at hl 4 rfl) ?_
  refine lv_iload hx hb dW_480 (lv_at hl 0 rfl) ?_
  refine lv_iconst (v := 2) hx hb dW_482 (by decide) ?_
  refine lv_iadd hx hb dW_483 ?_
  refine va_sld hx hb hX hbl hbA hS v2 dW_484 ?_
  refine tk_callS (wa := WM hm aM cI cZ G) (wc := WT ad cA (tkPsi G)) (wb := tkO ao cJ f) hP hD hS hA (va_runV (As := [.int (xs (nI k + 1).toNatClampNeg), .int (xs (nI k + 2).toNatClampNeg)]) (rest := []) ⟨hx, hb, hml, hown, hw⟩ (kT_counter l D ad cA (tkPsi G) (xs (nI k + 1).toNatClampNeg) (xs (nI k + 2).toNatClampNeg) H.size) (cwV 2 hw (tk_gVL tkWA_k tkWA_good (tkWA_l _ wM_L_71) wI_T_counter wS_T_counter wZ_T wC_T_counter) rfl rfl rfl (by decide +kernel) ⟨Nat.le_of_ble_eq_true rfl, Nat.le_of_ble_eq_true rfl⟩) (tk_preVY (q0 := 0) (T := TT) (N := 3) hKT hN (tk_P_l (tk_P_r hP)) (tk_D_l (tk_D_r hD)) rfl rfl) rfl rfl hl.1 rfl (lv_room (Nat.le_of_ble_eq_true rfl)) dW_485 ⟨hc0, hs0⟩) (fun H locs hP hD hS => ?_)
  have hP : va_P D vwCl (tkLW hm aM cI cZ G ad cA (tkPsi G) ao cJ f) H := hP
  have hD : va_D (fun q => s.heap.size ≤ q) (tkLW hm aM cI cZ G ad cA (tkPsi G) ao cJ f) := hD
  refine W.eq (g2 := F0 m 488 ls [.int ((tkT_counter_r (tkPsi G) (xs (nI k + 1).toNatClampNeg) (xs (nI k + 2).toNatClampNeg)))]) rfl ?_
  refine lv_aload_n hx hb dW_488 rfl (lv_at hl 2 rfl) ?_
  refine lv_aload_n hx hb dW_489 rfl (lv_at hl 4 rfl) ?_
  refine lv_iload hx hb dW_490 (lv_at hl 0 rfl) ?_
  refine lv_iconst (v := 1) hx hb dW_492 (by decide) ?_
  refine lv_iadd hx hb dW_493 ?_
  refine va_sld hx hb hX hbl hbA hS v1 dW_494 ?_
  refine lv_aload_n hx hb dW_495 rfl (lv_at hl 4 rfl) ?_
  refine lv_iload hx hb dW_496 (lv_at hl 0 rfl) ?_
  refine lv_iconst (v := 2) hx hb dW_498 (by decide) ?_
  refine lv_iadd hx hb dW_499 ?_
  refine va_sld hx hb hX hbl hbA hS v2 dW_500 ?_
  refine tk_callS (wa := []) (wc := WM hm aM cI cZ G) (wb := WT ad cA (tkPsi G) ++ tkO ao cJ f) hP hD hS hA (va_runV (As := [.int (xs (nI k + 1).toNatClampNeg), .int (xs (nI k + 2).toNatClampNeg)]) (rest := [.int ((tkT_counter_r (tkPsi G) (xs (nI k + 1).toNatClampNeg) (xs (nI k + 2).toNatClampNeg)))]) ⟨hx, hb, hml, hown, hw⟩ (kM_counter l D hm aM cI cZ G (xs (nI k + 1).toNatClampNeg) (xs (nI k + 2).toNatClampNeg) H.size) (cwV 2 hw (tk_gVL tkWA_m tkWA_good (tkWA_l _ wM_L_74) wI_M_counter wS_M_counter wZ_M wC_M_counter) rfl rfl rfl (by decide +kernel) ⟨Nat.le_of_ble_eq_true rfl, Nat.le_of_ble_eq_true rfl⟩) (tk_preVY (q0 := 0) (T := TM) (N := 33) hKM hN (tk_P_l hP) (tk_D_l hD) rfl rfl) rfl rfl hl.1 rfl (lv_room (Nat.le_of_ble_eq_true rfl)) dW_501 ⟨hc0, hs0⟩) (fun H locs hP hD hS => ?_)
  have hP : va_P D vwCl (tkLW hm aM cI cZ (tkM_counter_s G (xs (nI k + 1).toNatClampNeg) (xs (nI k + 2).toNatClampNeg)) ad cA (tkPsi G) ao cJ f) H := hP
  have hD : va_D (fun q => s.heap.size ≤ q) (tkLW hm aM cI cZ (tkM_counter_s G (xs (nI k + 1).toNatClampNeg) (xs (nI k + 2).toNatClampNeg)) ad cA (tkPsi G) ao cJ f) := hD
  refine W.eq (g2 := F0 m 504 ls [.int ((tkM_counter_r G (xs (nI k + 1).toNatClampNeg) (xs (nI k + 2).toNatClampNeg))), .int ((tkT_counter_r (tkPsi G) (xs (nI k + 1).toNatClampNeg) (xs (nI k + 2).toNatClampNeg)))]) rfl ?_
  refine lv_icmp_eq (tgt := 509) hx hb dW_504 (by decide) (fun _ => ?_) (fun h => absurd h1.symm h)
  refine W.widen (k := cells + 1) (n := slots + 6) (by omega) (by omega) ?_
  rw [← h2] at hP hD
  exact kn _ _ H locs ls h3 hP hD hS (lv_sub hl [0, 1, 2, 3, 4] rfl)
