/-! Worlds side by side -/
theorem tk_D_l {A : Nat → Prop} {w1 w2 : va_W} (h : va_D A (w1 ++ w2)) : va_D A w1 := by
  refine ⟨fun i j x y hi hj hxy => ?_, fun k q hk => ?_⟩
  · have li : i < w1.length := (List.getElem?_eq_some_iff.mp hi).1
    have lj : j < w1.length := (List.getElem?_eq_some_iff.mp hj).1
    exact h.1 i j x y (by rw [List.getElem?_append_left li]; exact hi) (by rw [List.getElem?_append_left lj]; exact hj) hxy
  · have lk : k < w1.length := (List.getElem?_eq_some_iff.mp hk).1
    exact h.2 k q (by rw [List.getElem?_append_left lk]; exact hk)
theorem tk_D_r {A : Nat → Prop} {w1 w2 : va_W} (h : va_D A (w1 ++ w2)) : va_D A w2 := by
  have e : ∀ (k : Nat) (q : Nat × va_E), w2[k]? = some q → (w1 ++ w2)[w1.length + k]? = some q := fun k q hk => by
    rw [List.getElem?_append_right (by omega), Nat.add_sub_cancel_left]; exact hk
  refine ⟨fun i j x y hi hj hxy => ?_, fun k q hk => h.2 _ q (e k q hk)⟩
  have := h.1 _ _ x y (e i x hi) (e j y hj) hxy
  omega
theorem tk_D_x {A : Nat → Prop} {w1 w2 : va_W} (h : va_D A (w1 ++ w2)) (i j : Nat) (p q : Nat × va_E) (hi : w1[i]? = some p) (hj : w2[j]? = some q) : p.1 ≠ q.1 := fun e => by
  have li : i < w1.length := (List.getElem?_eq_some_iff.mp hi).1
  have := h.1 i (w1.length + j) p q (by rw [List.getElem?_append_left li]; exact hi) (by rw [List.getElem?_append_right (by omega), Nat.add_sub_cancel_left]; exact hj) e
  omega
theorem tk_P_l {D : va_G} {cl : List vw_C} {w1 w2 : va_W} {H : Heap} (h : va_P D cl (w1 ++ w2) H) : va_P D cl w1 H := fun k q hk => by
  have lk : k < w1.length := (List.getElem?_eq_some_iff.mp hk).1
  exact h k q (by rw [List.getElem?_append_left lk]; exact hk)
theorem tk_P_r {D : va_G} {cl : List vw_C} {w1 w2 : va_W} {H : Heap} (h : va_P D cl (w1 ++ w2) H) : va_P D cl w2 H := fun k q hk =>
  h (w1.length + k) q (by rw [List.getElem?_append_right (by omega), Nat.add_sub_cancel_left]; exact hk)
/-- a part of the world that a callee doesn't have: it stays as it was -/
theorem tk_P_keep {D : va_G} {cl : List vw_C} {w wc : va_W} {H H1 : Heap} (hP : va_P D cl w H) (hx : ∀ (i j : Nat) (p q : Nat × va_E), w[i]? = some p → wc[j]? = some q → p.1 ≠ q.1) (hk : ∀ q : Nat, q < H.size → ¬ va_A wc H.size q → H1[q]? = H[q]?) : va_P D cl w H1 := fun k q hq => by
  have h1 := hP k q hq
  have hlt := va_at.lt h1
  refine va_at.kept h1 (hk q.1 hlt (fun z => ?_))
  rcases z with ⟨j, e, z⟩ | z
  · exact hx k j q (q.1, e) hq z rfl
  · omega
/-- what a callee left is apart from what it didn't have -/
theorem tk_D_apart {D : va_G} {cl : List vw_C} {w wc wc' : va_W} {H : Heap} (hP : va_P D cl w H) (hx : ∀ (i j : Nat) (p q : Nat × va_E), w[i]? = some p → wc[j]? = some q → p.1 ≠ q.1) (hD1 : va_D (va_A wc H.size) wc') (i j : Nat) (p q : Nat × va_E) (hi : w[i]? = some p) (hj : wc'[j]? = some q) : p.1 ≠ q.1 := fun e => by
  have hlt := va_at.lt (hP i p hi)
  rcases hD1.2 j q hj with ⟨k, z, hz⟩ | hz
  · exact hx i k p (q.1, z) hi hz e
  · omega
theorem tk_seg {A : Nat → Prop} {D : va_G} {cl : List vw_C} {wa wc wc' wb : va_W} {H H1 : Heap} (hP : va_P D cl (wa ++ (wc ++ wb)) H) (hD : va_D A (wa ++ (wc ++ wb))) (hk : ∀ q : Nat, q < H.size → ¬ va_A wc H.size q → H1[q]? = H[q]?) (hF : ∀ q, va_A wc H.size q → A q) (hP1 : va_P D cl wc' H1) (hD1 : va_D (va_A wc H.size) wc') :
    va_P D cl (wa ++ (wc' ++ wb)) H1 ∧ va_D A (wa ++ (wc' ++ wb)) := by
  have xa : ∀ (i j : Nat) (p q : Nat × va_E), wa[i]? = some p → wc[j]? = some q → p.1 ≠ q.1 := fun i j p q hi hj =>
    tk_D_x hD i j p q hi (by rw [List.getElem?_append_left (List.getElem?_eq_some_iff.mp hj).1]; exact hj)
  have xb : ∀ (i j : Nat) (p q : Nat × va_E), wb[i]? = some p → wc[j]? = some q → p.1 ≠ q.1 := fun i j p q hi hj e =>
    tk_D_x (tk_D_r hD) j i q p hj hi e.symm
  have ab : ∀ (i j : Nat) (p q : Nat × va_E), wa[i]? = some p → wb[j]? = some q → p.1 ≠ q.1 := fun i j p q hi hj =>
    tk_D_x hD i (wc.length + j) p q hi (by rw [List.getElem?_append_right (by omega), Nat.add_sub_cancel_left]; exact hj)
  have hPa := tk_P_l hP
  have hPb := tk_P_r (tk_P_r hP)
  have hD1' : va_D A wc' := hD1.weaken (fun _ q _ h => hF q.1 h)
  refine ⟨(tk_P_keep hPa xa hk).app (hP1.app (tk_P_keep hPb xb hk)), (tk_D_l hD).app (hD1'.app (tk_D_r (tk_D_r hD)) (fun i j p q hi hj e => tk_D_apart hPb xb hD1 j i q p hj hi e.symm)) (fun i j p q hi hj => ?_)⟩
  by_cases hl : j < wc'.length
  · rw [List.getElem?_append_left hl] at hj
    exact tk_D_apart hPa xa hD1 i j p q hi hj
  · rw [List.getElem?_append_right (by omega)] at hj
    exact ab i _ p q hi hj
/-! The law's own helpers: methods with handlers -/
def tk_PH (D : va_G) (tys : List (ClassId × FieldType)) (ws : va_W) (sz : Nat) (U : State) : Prop := tk_PX D tys ws sz U ∧ va_Nc "java/lang/IllegalStateException" "java/lang/IllegalArgumentException" U
theorem tk_ofH {l : Launch} {y : MethodName} {wd wd' : List Cond} {rm : Room} {D : va_G} {tys : List (ClassId × FieldType)} {av : List Value} {ws ws' : va_W} {rv : Option Value} {cc : ByteArray} {maxL : Nat} {ret : Option FieldType} {hh : List (Nat × Nat × Nat × Nat)}
    (hy : plainName y.cls = true) (hw : wd = Cond.codeWith y cc maxL ret hh :: wd') (hlen : (lg_sl av).length ≤ maxL)
    (body : ∀ (p : Program) (e : Env) (s : State) (m : MethodId) (below : List Frame) (meth : Method) (c : Code) (A : Nat → Prop) (H : Heap) (locs : List Loc) (ls : Array Slot), tk_B p s m y wd cc maxL ret meth c av.toArray → c.exceptionTable.toList = tableOf hh → tk_E2 A s s.heap → va_Nc "java/lang/IllegalStateException" "java/lang/IllegalArgumentException" s → va_K D vwCl tys s → tk_N s → (∀ q, s.heap.size ≤ q → A q) → va_P D vwCl ws H → va_D A ws → va_S A s.heap H locs → lv_has ls maxL (lv_args 0 av) →
      W p l e rm s m av.toArray below meth c H locs 0 0 (MQ below (tk_Q D A ws' rv) av.toArray s 1 6 A) (F0 m 0 ls [])) : ∀ sz : Nat, Met l y wd rm (va_Pc av (tk_PH D tys ws sz)) (tk_Q D (va_A ws sz) ws' rv) 1 6 (va_A ws sz) := by
  intro sz
  refine va_MetW (cc := cc) (maxL := maxL) (ret := ret) (hh := hh) hy hw ?_
  intro p e s m args below meth c s₁ B hml hv
  obtain ⟨rfl, ⟨⟨hsz, hP, hK, hD0, hN⟩, hE⟩, hNc⟩ := hv
  subst hsz
  have hts := atoms_spec (ws := wd) B.pre
  have hown : s.vm.findClass y.cls = some m.cls := findClass_of_methodNamed B.named
  have hD := hD0.self (sz := s.heap.size)
  have hl := lv_entry av (n := maxL) hlen
  have hTab := vx_table (x := y) B (hts (Cond.codeWith y cc maxL ret hh) (by rw [hw]; exact List.mem_cons_self))
  rw [lg_entry_eq]
  exact body p e s m below meth c _ _ _ _ ⟨B.exec, B.bytes, B.returns, hml, hown, B.notSynchronized, (name_of_methodNamed B.named B.method).1, hts⟩ hTab hE hNc hK hN (fun q h => Or.inr h) hP hD va_S.rf hl
theorem tk_blindH {D : va_G} {tys : List (ClassId × FieldType)} {ws : va_W} {sz : Nat} {av : List Value} : FrameBlind (va_Pc av (tk_PH D tys ws sz)) := fun a U g mk q => by
  obtain ⟨q0, q1, q2⟩ := q
  obtain ⟨z0, z1⟩ := tk_blindX (av := av) a U g mk ⟨q0, q1⟩
  exact ⟨z0, z1, va_Nc.moved (u := U) (U := U.calling g mk a) (Vm.Alike.refl U.vm) q2⟩
theorem tk_gVL {W W' : List Cond} (hs : ∀ w ∈ W, w ∈ W') (hg : ∀ w ∈ W', goodWord w = true) {own C : String} {idx : Nat} {y : MethodName} {cc : ByteArray} {maxL : Nat} {ret : Option FieldType} (h1 : Cond.methodLink own idx y ∈ W') (h2 : Cond.instanceMethod y ∈ W) (h3 : Cond.selects C y y ∈ W) (h4 : Cond.initialized C ∈ W) (h5 : Cond.code y cc maxL ret ∈ W) : GoodIn W' (wsV own idx C y (Cond.code y cc maxL ret :: W)) := by
  intro w hw
  have hm : w ∈ W' := by
    unfold wsV at hw
    rcases List.mem_append.mp hw with h | h
    · simp only [List.mem_cons, List.not_mem_nil, or_false] at h
      rcases h with rfl | rfl | rfl | rfl
      · exact h1
      · exact hs _ h2
      · exact hs _ h3
      · exact hs _ h4
    · rcases List.mem_cons.mp h with rfl | h
      · exact hs _ h5
      · exact hs _ h
  exact ⟨hm, good_of_word (hg w hm)⟩
section TKS
variable {p : Program} {l : Launch} {e : Env} {R : Room} {s : State} {m : MethodId} {args : Array Value} {below : List Frame} {meth : Method} {c : Code} {H H0 : Heap} {locs : List Loc} {cells slots mc ms : Nat} {Q : State → Prop} {pc : Nat} {ls : Array Slot} {rest st0 : List Value} {a : Array Value} {D : va_G} {A : Nat → Prop} {tys : List (ClassId × FieldType)} {wa wb wc wc' ws : va_W} {k : Int32} {rv : Option Value}
theorem tk_Fseg (hD : va_D A (wa ++ (wc ++ wb))) (hS : va_S A H0 H locs) (hA : ∀ q, H0.size ≤ q → A q) : ∀ q, va_A wc H.size q → A q := fun q z => by
  rcases z with ⟨k, e, z⟩ | z
  · exact (tk_D_l (tk_D_r hD)).2 k _ z
  · exact hA q (Nat.le_trans hS.1 z)
theorem tk_preVY {b q0 ci : Nat} {fs : List Value} {C : String} {T : u_T} {N : Nat} {As : List Value} (hK : va_K D vwCl tys s) (hN : tk_N s) (hP : va_P D vwCl wc H) (hD : va_D A wc) (hq : wc[q0]? = some (b, .inr (ci, fs))) (hc : vwCl[ci]? = some (C, T, N)) : PreV s H C b (va_Pc (.ref b :: As) (tk_P D tys wc H.size)) As :=
  ⟨tk_blind, va_recv (q := (C, T, N)) hK hP hc hq, fun U hU hW => ⟨rfl, by rw [hU], by rw [hU]; exact hP, va_K.moved hW.alike hK, hD.weaken (fun _ _ _ _ => trivial), tk_N.warm hW hN⟩⟩
theorem tk_preXU {av : List Value} (hE : tk_E2 A s s.heap) (hS : va_S A s.heap H locs) (hF : ∀ q, va_A wc H.size q → A q) (hK : va_K D vwCl tys s) (hN : tk_N s) (hP : va_P D vwCl wc H) (hD : va_D A wc) : ∀ U : State, U.heap = H → s.WarmedH U.vm → va_Pc av (tk_PX D tys wc H.size) av.toArray U := fun U hU hW =>
  ⟨rfl, ⟨by rw [hU], by rw [hU]; exact hP, va_K.moved hW.alike hK, hD.weaken (fun _ _ _ _ => trivial), tk_N.warm hW hN⟩, by rw [hU]; exact hE.go hS hF hW.alike⟩
theorem tk_preVXY {b q0 ci : Nat} {fs : List Value} {C : String} {T : u_T} {N : Nat} {As : List Value} (hE : tk_E2 A s s.heap) (hS : va_S A s.heap H locs) (hF : ∀ q, va_A wc H.size q → A q) (hK : va_K D vwCl tys s) (hN : tk_N s) (hP : va_P D vwCl wc H) (hD : va_D A wc) (hq : wc[q0]? = some (b, .inr (ci, fs))) (hc : vwCl[ci]? = some (C, T, N)) : PreV s H C b (va_Pc (.ref b :: As) (tk_PX D tys wc H.size)) As :=
  ⟨tk_blindX, va_recv (q := (C, T, N)) hK hP hc hq, tk_preXU hE hS hF hK hN hP hD⟩
theorem tk_preSH {av : List Value} (hE : tk_E2 A s s.heap) (hNc : va_Nc "java/lang/IllegalStateException" "java/lang/IllegalArgumentException" s) (hS : va_S A s.heap H locs) (hF : ∀ q, va_A wc H.size q → A q) (hK : va_K D vwCl tys s) (hN : tk_N s) (hP : va_P D vwCl wc H) (hD : va_D A wc) : PreS s H (va_Pc av (tk_PH D tys wc H.size)) av :=
  ⟨tk_blindH, fun U hU hW => by
    obtain ⟨z0, z1⟩ := tk_preXU (av := av) hE hS hF hK hN hP hD U hU hW
    exact ⟨z0, z1, va_Nc.moved hW.alike hNc⟩⟩
/-- a call of a method that may throw, with a part of the caller's cells -/
theorem tk_callXS (hP : va_P D vwCl (wa ++ (wc ++ wb)) H) (hD : va_D A (wa ++ (wc ++ wb))) (hS : va_S A H0 H locs) (hA : ∀ q, H0.size ≤ q → A q)
    (hr : vx_Run p l e R s m args below meth c H locs cells slots 1 6 (F0 m pc ls st0) rest (tk_QX k D (va_A wc H.size) wc' rv a) (tk_XC D (va_A wc H.size) wc k) (va_A wc H.size))
    (kx : ∀ (E : String) (ce : Cell) (q9 : Addr) (H1 : Heap) (locs1 : List Loc), tk_Ek k E → va_P D vwCl (wa ++ (wc ++ wb)) H1 → va_S A H0 H1 locs1 → H1[q9]? = some ce → ce.vm = .none → s.vm.findClass E = some ce.cls → vx_W p l e R s m args below meth c H1 locs1 (cells + 1) (slots + 6) Q (F0 m pc ls rest) q9)
    (kk : k = 0 → ∀ (H1 : Heap) (locs1 : List Loc), va_P D vwCl (wa ++ (wc' ++ wb)) H1 → va_D A (wa ++ (wc' ++ wb)) → va_S A H0 H1 locs1 → W p l e R s m args below meth c H1 locs1 (cells + 1) (slots + 6) Q (F0 m (pc + 3) ls (rv.toList ++ rest))) : W p l e R s m args below meth c H locs cells slots Q (F0 m pc ls st0) := by
  have hF := tk_Fseg hD hS hA
  intro T hT X
  rcases hr T hT X with ⟨v, st₀, t, T', L, h0, X', hL, e1, e2, ⟨hk0, ⟨hv, hp, hd⟩, hFr⟩, st⟩ | ⟨q, st₀, t, T', L, E, ce, h0, X', hL, e1, e2, ⟨⟨hE, hp⟩, hFr⟩, hce, hcv, hcl, st⟩
  · cases hv
    obtain ⟨k1, k2, k3⟩ := vx_keep h0 e1 hS (fun q _ z => hF q z) hF hL hFr
    obtain ⟨j1, j2⟩ := tk_seg hP hD k2 hF (by rw [e1]; exact hp) hd
    obtain ⟨t2, a1, b1⟩ := kk hk0 T'.heap (locs ++ L) j1 j2 k3 T' rfl X'
    exact ⟨t2, st t2 a1, b1⟩
  · obtain ⟨k1, k2, k3⟩ := vx_keep h0 e1 hS (fun q _ z => hF q z) hF hL hFr
    have hDc : va_D (va_A wc H.size) wc := (tk_D_l (tk_D_r hD)).self
    obtain ⟨j1, j2⟩ := tk_seg hP hD k2 hF (by rw [e1]; exact hp) hDc
    obtain ⟨t2, a1, b1⟩ := kx E ce q T'.heap (locs ++ L) hE j1 k3 (by rw [e1]; exact hce) hcv hcl T' rfl X'
    exact ⟨t2, st.trans a1, b1⟩
/-- a call with a part of the caller's cells -/
theorem tk_callS (hP : va_P D vwCl (wa ++ (wc ++ wb)) H) (hD : va_D A (wa ++ (wc ++ wb))) (hS : va_S A H0 H locs) (hA : ∀ q, H0.size ≤ q → A q)
    (hr : va_Run p l e R s m args below meth c H locs cells slots mc ms (F0 m pc ls st0) rest (tk_Q D (va_A wc H.size) wc' rv a) (va_A wc H.size))
    (kk : ∀ (H1 : Heap) (locs1 : List Loc), va_P D vwCl (wa ++ (wc' ++ wb)) H1 → va_D A (wa ++ (wc' ++ wb)) → va_S A H0 H1 locs1 → W p l e R s m args below meth c H1 locs1 (cells + mc) (slots + ms) Q (F0 m (pc + 3) ls (rv.toList ++ rest))) : W p l e R s m args below meth c H locs cells slots Q (F0 m pc ls st0) := by
  have hF := tk_Fseg hD hS hA
  intro T hT X
  obtain ⟨v, st₀, t, T', L, h0, X', hL, e1, e2, ⟨⟨hv, hp, hd⟩, hFr⟩, st⟩ := hr T hT X
  cases hv
  obtain ⟨k1, k2, k3⟩ := vx_keep h0 e1 hS (fun q _ z => hF q z) hF hL hFr
  obtain ⟨j1, j2⟩ := tk_seg hP hD k2 hF (by rw [e1]; exact hp) hd
  obtain ⟨t2, a1, b1⟩ := kk T'.heap (locs ++ L) j1 j2 k3 T' rfl X'
  exact ⟨t2, st t2 a1, b1⟩
end TKS
abbrev WTo (ad : Nat → Nat) (cA : ClassId) (g : Nat → Nat → Int32) (ao : Nat) (cJ : ClassId) (f : Nat → Int64) : va_W := WT ad cA g ++ [(ao, .inl (cJ, 1, .inr (.inl f)))]
theorem tkT_tick_k2 (g : Nat → Nat → Int32) (x : Int32) : ¬ tkT_tick_k g x = 2 := by
  unfold tkT_tick_k
  repeat' split
  all_goals decide
theorem tkT_ack_k1 (g : Nat → Nat → Int32) : ¬ tkT_acknowledge_k g = 1 := by
  unfold tkT_acknowledge_k
  repeat' split
  all_goals decide
