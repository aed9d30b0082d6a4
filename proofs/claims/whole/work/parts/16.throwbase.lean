/-! Methods that may throw: k tells which exception (0: none), the world is then as it was -/
def tk_E2 (A : Nat → Prop) (U : State) (H : Heap) : Prop := vx_Zq Bundle.tN "UNASSIGNED_STACK" Bundle.steD A U H ∧ vx_Zq Bundle.tN "SUPPRESSED_SENTINEL" Bundle.listD A U H
theorem tk_E2.go {A B : Nat → Prop} {s U : State} {H : Heap} {locs : List Loc} (h : tk_E2 A s s.heap) (hS : va_S A s.heap H locs) (hF : ∀ q, B q → A q) (hvm : s.vm.Alike U.vm) : tk_E2 B U H :=
  ⟨vx_Zq.moved hvm ((vx_Zq.kept h.1 hS.2.1).narrow hF), vx_Zq.moved hvm ((vx_Zq.kept h.2 hS.2.1).narrow hF)⟩
def tk_PX (D : va_G) (tys : List (ClassId × FieldType)) (ws : va_W) (sz : Nat) (U : State) : Prop := tk_P D tys ws sz U ∧ tk_E2 (va_A ws sz) U U.heap
/-- which exception -/
def tk_Ek (k : Int32) (E : String) : Prop := (k = 1 ∧ E = "java/lang/IllegalArgumentException") ∨ (k = 2 ∧ E = "java/lang/IllegalStateException")
def tk_XC (D : va_G) (A : Nat → Prop) (ws : va_W) (k : Int32) : String → State → State → Prop := fun E st t => (tk_Ek k E ∧ va_P D vwCl ws t.heap) ∧ va_F A st t
def tk_QX (k : Int32) (D : va_G) (A : Nat → Prop) (ws' : va_W) (rv : Option Value) : Array Value → State → Outcome → State → Prop := fun a st oc t => k = 0 ∧ tk_Q D A ws' rv a st oc t
def tk_MX (l : Launch) (y : MethodName) (wd : List Cond) (rm : Room) (D : va_G) (tys : List (ClassId × FieldType)) (av : List Value) (ws ws' : va_W) (rv : Option Value) (k : Int32) : Prop :=
  ∀ sz : Nat, vx_Met l y wd rm (va_Pc av (tk_PX D tys ws sz)) (tk_QX k D (va_A ws sz) ws' rv) (tk_XC D (va_A ws sz) ws k) 1 6 (va_A ws sz)
theorem tk_MX.of {l : Launch} {y : MethodName} {wd wd' : List Cond} {rm : Room} {D : va_G} {tys : List (ClassId × FieldType)} {av : List Value} {ws ws' : va_W} {rv : Option Value} {k : Int32} {cc : ByteArray} {maxL : Nat} {ret : Option FieldType}
    (hy : plainName y.cls = true) (hw : wd = Cond.code y cc maxL ret :: wd') (hlen : (lg_sl av).length ≤ maxL)
    (body : ∀ (p : Program) (e : Env) (s : State) (m : MethodId) (below : List Frame) (meth : Method) (c : Code) (A : Nat → Prop) (H : Heap) (locs : List Loc) (ls : Array Slot), tk_B p s m y wd cc maxL ret meth c av.toArray → (∀ x ∈ c.exceptionTable.toList, False) → tk_E2 A s s.heap → va_K D vwCl tys s → tk_N s → (∀ q, s.heap.size ≤ q → A q) → va_P D vwCl ws H → va_D A ws → va_S A s.heap H locs → lv_has ls maxL (lv_args 0 av) →
      W p l e rm s m av.toArray below meth c H locs 0 0 (vx_MQ below (tk_QX k D A ws' rv) (tk_XC D A ws k) av.toArray s 1 6 A) (F0 m 0 ls [])) : tk_MX l y wd rm D tys av ws ws' rv k := by
  intro sz
  refine vx_ofW (cc := cc) (maxL := maxL) (ret := ret) hy hw ?_
  intro p e s m args below meth c s₁ B hml hEx hv
  obtain ⟨rfl, ⟨hsz, hP, hK, hD0, hN⟩, hE⟩ := hv
  subst hsz
  have hts := atoms_spec (ws := wd) B.pre
  have hown : s.vm.findClass y.cls = some m.cls := findClass_of_methodNamed B.named
  have hD := hD0.self (sz := s.heap.size)
  have hl := lv_entry av (n := maxL) hlen
  rw [lg_entry_eq]
  exact body p e s m below meth c _ _ _ _ ⟨B.exec, B.bytes, B.returns, hml, hown, B.notSynchronized, (name_of_methodNamed B.named B.method).1, hts⟩ hEx hE hK hN (fun q h => Or.inr h) hP hD va_S.rf hl
theorem tk_blindX {D : va_G} {tys : List (ClassId × FieldType)} {ws : va_W} {sz : Nat} {av : List Value} : FrameBlind (va_Pc av (tk_PX D tys ws sz)) := fun a U g mk q => by
  obtain ⟨q0, ⟨q1, qP, qK, qD, qN⟩, qE⟩ := q
  exact ⟨q0, ⟨q1, qP, va_K.moved (u := U) (U := U.calling g mk a) (Vm.Alike.refl U.vm) qK, qD, tk_N.same (s := U) (U := U.calling g mk a) rfl qN⟩, vx_Zq.moved (u := U) (U := U.calling g mk a) (Vm.Alike.refl U.vm) qE.1, vx_Zq.moved (u := U) (U := U.calling g mk a) (Vm.Alike.refl U.vm) qE.2⟩
section TKXR
variable {p : Program} {l : Launch} {e : Env} {R : Room} {s : State} {m : MethodId} {args : Array Value} {below : List Frame} {meth : Method} {c : Code} {H H0 : Heap} {locs : List Loc} {cells slots : Nat} {Q : State → Prop} {cc : ByteArray} {pc : Nat} {ls : Array Slot} {rest st0 : List Value} {a : Array Value} {D : va_G} {A : Nat → Prop} {tys : List (ClassId × FieldType)} {ws ws0 ws' wc' : va_W} {k : Int32} {rv : Option Value}
theorem tk_vretX (h1 : cells ≤ 1) (h2 : slots ≤ 6) (hx : p.tables.exec = Jvm.exec) (hb : c.code = cc) (hr : meth.sig.returnType = none) (hlk : meth.locks = false) (hP : va_P D vwCl ws H) (hD : va_D A ws) (hS : va_S A s.heap H locs) (hdg : decode cc pc = .ok (.return_, 1)) (hk : k = 0) (ew : ws' = ws) :
    W p l e R s m args below meth c H locs cells slots (vx_MQ below (tk_QX k D A ws' none) (tk_XC D A ws0 k) args s 1 6 A) (F0 m pc ls []) := by
  subst ew
  exact W.widen h1 h2 (vx_ret (W.vret hx hb hr (fun t ht hW => ⟨hk, ⟨rfl, by rw [ht]; exact hP, hD⟩, hS.F ht⟩) hS.2.2 hdg hlk))
theorem tk_iretX {v v' : Int32} (h1 : cells ≤ 1) (h2 : slots ≤ 6) (hx : p.tables.exec = Jvm.exec) (hb : c.code = cc) (hr : meth.sig.returnType = some .int) (hlk : meth.locks = false) (hP : va_P D vwCl ws H) (hD : va_D A ws) (hS : va_S A s.heap H locs) (hdg : decode cc pc = .ok (.ireturn, 1)) (hk : k = 0) (ev : v' = v) (ew : ws' = ws) :
    W p l e R s m args below meth c H locs cells slots (vx_MQ below (tk_QX k D A ws' (some (.int v'))) (tk_XC D A ws0 k) args s 1 6 A) (F0 m pc ls [.int v]) := by
  subst ew; subst ev
  exact W.widen h1 h2 (vx_ret (W.iret hx hb hr (fun t ht hW => ⟨hk, ⟨rfl, by rw [ht]; exact hP, hD⟩, hS.F ht⟩) hS.2.2 hdg hlk))
theorem tk_aretX {v v' : Nat} {rt : FieldType} (h1 : cells ≤ 1) (h2 : slots ≤ 6) (hx : p.tables.exec = Jvm.exec) (hb : c.code = cc) (hr : meth.sig.returnType = some rt) (hrt : (∃ n, rt = .object n) ∨ ∃ t, rt = .array t) (hlk : meth.locks = false) (hP : va_P D vwCl ws H) (hD : va_D A ws) (hS : va_S A s.heap H locs) (hdg : decode cc pc = .ok (.areturn, 1)) (hk : k = 0) (ev : v' = v) (ew : ws' = ws) :
    W p l e R s m args below meth c H locs cells slots (vx_MQ below (tk_QX k D A ws' (some (.ref v'))) (tk_XC D A ws0 k) args s 1 6 A) (F0 m pc ls [.ref v]) := by
  subst ew; subst ev
  exact W.widen h1 h2 (vx_ret (W.aret hx hb hr hrt (Or.inr ⟨_, rfl⟩) (fun t ht hW => ⟨hk, ⟨rfl, by rw [ht]; exact hP, hD⟩, hS.F ht⟩) hS.2.2 hdg hlk))
/-- what is left behind a throw -/
theorem tk_xc {cls : String} (hP : va_P D vwCl ws H) (hS : va_S A s.heap H locs) (hk : tk_Ek k cls) : ∀ t : State, s.vm.Alike t.vm → H.size ≤ t.heap.size → (∀ q : Nat, q < H.size → t.heap[q]? = H[q]?) → tk_XC D A ws k cls s t := fun _ _ hsz hq =>
  ⟨⟨hk, fun j q hj => va_at.kept (hP j q hj) (hq q.1 (va_at.lt (hP j q hj)))⟩, Nat.le_trans hS.1 hsz, fun q h1 h2 => (hq q (Nat.lt_of_lt_of_le h1 hS.1)).trans (hS.2.1 q h1 h2)⟩
theorem tk_preVX {b q0 ci : Nat} {fs : List Value} {C : String} {T : u_T} {N : Nat} {As : List Value} (hE : tk_E2 A s s.heap) (hS : va_S A s.heap H locs) (hA : ∀ q, s.heap.size ≤ q → A q) (hK : va_K D vwCl tys s) (hN : tk_N s) (hP : va_P D vwCl ws H) (hD : va_D A ws) (is it : List Nat) (hn : va_nd is = true) (hC : is.map (fun i => ws[i]?) = ws.map some) (hT : it.filterMap (fun i => tys[i]?) = tys) (hq : ws[q0]? = some (b, .inr (ci, fs))) (hc : vwCl[ci]? = some (C, T, N)) : PreV s H C b (va_Pc (.ref b :: As) (tk_PX D tys ws H.size)) As :=
  ⟨tk_blindX, va_recv (q := (C, T, N)) hK hP hc hq, fun U hU hW => by
    obtain ⟨g0, g1⟩ := tk_pre (av := .ref b :: As) hK hN hP hD is it hn hC hT U hU hW
    refine ⟨g0, g1, ?_⟩
    rw [hU]
    refine hE.go hS (fun q z => ?_) hW.alike
    rcases z with ⟨k, e, z⟩ | z
    · exact hD.2 k _ z
    · exact hA q (Nat.le_trans hS.1 z)⟩
/-- behind a call of a method that may throw, with all of the caller's cells -/
theorem tk_callX (hD : va_D A ws) (hS : va_S A H0 H locs) (hA : ∀ q, H0.size ≤ q → A q)
    (hr : vx_Run p l e R s m args below meth c H locs cells slots 1 6 (F0 m pc ls st0) rest (tk_QX k D (va_A ws H.size) wc' rv a) (tk_XC D (va_A ws H.size) ws k) (va_A ws H.size))
    (kx : ∀ (E : String) (ce : Cell) (q9 : Addr) (H1 : Heap) (locs1 : List Loc), tk_Ek k E → va_P D vwCl ws H1 → va_S A H0 H1 locs1 → H1[q9]? = some ce → ce.vm = .none → s.vm.findClass E = some ce.cls → vx_W p l e R s m args below meth c H1 locs1 (cells + 1) (slots + 6) Q (F0 m pc ls rest) q9)
    (kk : k = 0 → ∀ (H1 : Heap) (locs1 : List Loc), va_P D vwCl wc' H1 → va_D A wc' → va_S A H0 H1 locs1 → W p l e R s m args below meth c H1 locs1 (cells + 1) (slots + 6) Q (F0 m (pc + 3) ls (rv.toList ++ rest))) : W p l e R s m args below meth c H locs cells slots Q (F0 m pc ls st0) := by
  have hF : ∀ q, va_A ws H.size q → A q := fun q z => by
    rcases z with ⟨k, e, z⟩ | z
    · exact hD.2 k _ z
    · exact hA q (Nat.le_trans hS.1 z)
  intro T hT X
  rcases hr T hT X with ⟨v, st₀, t, T', L, h0, X', hL, e1, e2, ⟨hk0, ⟨hv, hp, hd⟩, hFr⟩, st⟩ | ⟨q, st₀, t, T', L, E, ce, h0, X', hL, e1, e2, ⟨⟨hE, hp⟩, hFr⟩, hce, hcv, hcl, st⟩
  · cases hv
    obtain ⟨k1, k2, k3⟩ := vx_keep h0 e1 hS (fun q _ z => hF q z) hF hL hFr
    obtain ⟨t2, a1, b1⟩ := kk hk0 T'.heap (locs ++ L) (by rw [e1]; exact hp) (hd.weaken (fun _ q _ h => hF q.1 h)) k3 T' rfl X'
    exact ⟨t2, st t2 a1, b1⟩
  · obtain ⟨k1, k2, k3⟩ := vx_keep h0 e1 hS (fun q _ z => hF q z) hF hL hFr
    obtain ⟨t2, a1, b1⟩ := kx E ce q T'.heap (locs ++ L) hE (by rw [e1]; exact hp) k3 (by rw [e1]; exact hce) hcv hcl T' rfl X'
    exact ⟨t2, st.trans a1, b1⟩
/-- an exception of a callee that goes on to the caller -/
theorem tk_outX {E : String} {ce : Cell} {q : Addr} {k' : Int32} (h1 : cells ≤ 1) (h2 : slots ≤ 6) (hEx : ∀ x ∈ c.exceptionTable.toList, False) (hlk : meth.locks = false) (hP : va_P D vwCl ws H) (hS : va_S A s.heap H locs) (hce : H[q]? = some ce) (hcv : ce.vm = .none) (hcl : s.vm.findClass E = some ce.cls) (hk : tk_Ek k E) (ek : k' = k) :
    vx_W p l e R s m args below meth c H locs cells slots (vx_MQ below (tk_QX k' D A ws' rv) (tk_XC D A ws k') args s 1 6 A) (F0 m pc ls rest) q := by
  subst ek
  exact vx_out (fun x hx => (hEx x hx).elim) hlk hce hcv hcl (fun t ht _ => ⟨⟨hk, by rw [ht]; exact hP⟩, hS.F ht⟩) hS.2.2 h1 h2
end TKXR
theorem tkW_inx : ∀ w ∈ tkW_x, w ∈ tkW := fun w h => List.mem_append_right _ (List.mem_append_right _ (List.mem_append_right _ (List.mem_append_right _ (List.mem_append_right _ (List.mem_append_right _ h)))))
theorem tkW_inA : ∀ w ∈ (vx_at0 "TickLines" 34 "java/lang/IllegalArgumentException" ["java/lang/RuntimeException", "java/lang/Exception"]).filter goodWord, w ∈ tkW := fun w h => tkW_inx w (List.mem_append_left _ h)
theorem tkW_inS : ∀ w ∈ (vx_at0 "TickLines" 98 "java/lang/IllegalStateException" ["java/lang/RuntimeException", "java/lang/Exception"]).filter goodWord, w ∈ tkW := fun w h => tkW_inx w (List.mem_append_right _ h)
set_option maxRecDepth 100000 in
theorem tk_preTX {s : State} {H : Heap} {locs : List Loc} {D : va_G} {A : Nat → Prop} {ad : Nat → Nat} {cA : ClassId} {g : Nat → Nat → Int32} {As : List Value} (hE : tk_E2 A s s.heap) (hS : va_S A s.heap H locs) (hA : ∀ q, s.heap.size ≤ q → A q) (hK : va_K D vwCl [(cA, .object "TickLines$Counter")] s) (hN : tk_N s) (hP : va_P D vwCl (WT ad cA g) H) (hD : va_D A (WT ad cA g)) : PreV s H RT (ad 0) (va_Pc (.ref (ad 0) :: As) (tk_PX D [(cA, .object "TickLines$Counter")] (WT ad cA g) H.size)) As :=
  tk_preVX (q0 := 0) (T := TT) (N := 3) hE hS hA hK hN hP hD [0, 1, 2, 3, 4, 5, 6] [0] (by decide) rfl rfl rfl rfl
