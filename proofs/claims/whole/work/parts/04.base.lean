/-! Own words for contracts: a method takes the world ws to the world ws' and answers rv. tk_Z (the nest words) stands ahead of this part. -/
def tk_nk : Cond → Bool
  | .fieldLinkNest _ _ _ _ _ _ => true
  | .methodLinkNest _ _ _ _ => true
  | .castable _ _ => true
  | .declares _ => true
  | _ => false
theorem tk_Z_ok : ∀ w ∈ tk_Z, tk_nk w = true := by decide +kernel
/-- the nest words hold -/
def tk_N (U : State) : Prop := ∀ w ∈ tk_Z, va_Nw w U
theorem tk_nk_warm {w : Cond} (h : tk_nk w = true) {s U : State} (hW : s.WarmedH U.vm) (hZ : va_Nw w s) : va_Nw w U := by
  cases w with
  | fieldLinkNest a i b n d h0 => exact va_Nw.warmF hW hZ
  | methodLinkNest a i x h0 => exact va_Nw.warmM hW hZ
  | castable a b => exact va_Nw.warmC hW hZ
  | declares x => exact va_Nw.warmD hW hZ
  | _ => cases h
theorem tk_nk_tab {w : Cond} (h : tk_nk w = true) : w.onTables = true := by
  cases w with
  | fieldLinkNest a i b n d h0 => rfl
  | methodLinkNest a i x h0 => rfl
  | castable a b => rfl
  | declares x => rfl
  | _ => cases h
theorem tk_N.warm {s U : State} (hW : s.WarmedH U.vm) (h : tk_N s) : tk_N U := fun w hw => tk_nk_warm (tk_Z_ok w hw) hW (h w hw)
theorem tk_N.same {s U : State} (hv : s.vm = U.vm) (h : tk_N s) : tk_N U := fun w hw => va_Nw.same (tk_nk_tab (tk_Z_ok w hw)) hv (h w hw)
/-- a store in a list of fields, by its place -/
abbrev tk_up {α : Type} (f : Nat → α) (k : Nat) (x : α) : Nat → α := fun j => match Nat.beq j k with
  | true => x
  | false => f j
/-- a method's start -/
def tk_P (D : va_G) (tys : List (ClassId × FieldType)) (ws : va_W) (sz : Nat) (U : State) : Prop := U.heap.size = sz ∧ va_P D vwCl ws U.heap ∧ va_K D vwCl tys U ∧ va_D (fun _ => True) ws ∧ tk_N U
/-- a method's end -/
def tk_Q (D : va_G) (A : Nat → Prop) (ws' : va_W) (rv : Option Value) : Array Value → State → Outcome → State → Prop := fun _ st oc t => (oc = .returned rv ∧ va_P D vwCl ws' t.heap ∧ va_D A ws') ∧ va_F A st t
/-- the contract -/
def tk_M (l : Launch) (y : MethodName) (wd : List Cond) (rm : Room) (D : va_G) (tys : List (ClassId × FieldType)) (av : List Value) (ws ws' : va_W) (rv : Option Value) : Prop :=
  ∀ sz : Nat, Met l y wd rm (va_Pc av (tk_P D tys ws sz)) (tk_Q D (va_A ws sz) ws' rv) 0 0 (va_A ws sz)
/-- what holds all through a method's body -/
def tk_B (p : Program) (s : State) (m : MethodId) (y : MethodName) (wd : List Cond) (cc : ByteArray) (maxL : Nat) (ret : Option FieldType) (meth : Method) (c : Code) (args : Array Value) : Prop :=
  p.tables.exec = Jvm.exec ∧ c.code = cc ∧ meth.sig.returnType = ret ∧ c.maxLocals = maxL ∧ s.vm.findClass y.cls = some m.cls ∧ meth.locks = false ∧ meth.name = y.name ∧ ∀ w ∈ wd, w.before args s = true
theorem tk_M.of {l : Launch} {y : MethodName} {wd wd' : List Cond} {rm : Room} {D : va_G} {tys : List (ClassId × FieldType)} {av : List Value} {ws ws' : va_W} {rv : Option Value} {cc : ByteArray} {maxL : Nat} {ret : Option FieldType}
    (hy : plainName y.cls = true) (hw : wd = Cond.code y cc maxL ret :: wd') (hlen : (lg_sl av).length ≤ maxL)
    (body : ∀ (p : Program) (e : Env) (s : State) (m : MethodId) (below : List Frame) (meth : Method) (c : Code) (A : Nat → Prop) (H : Heap) (locs : List Loc) (ls : Array Slot), tk_B p s m y wd cc maxL ret meth c av.toArray → va_K D vwCl tys s → tk_N s → (∀ q, s.heap.size ≤ q → A q) → va_P D vwCl ws H → va_D A ws → va_S A s.heap H locs → lv_has ls maxL (lv_args 0 av) →
      W p l e rm s m av.toArray below meth c H locs 0 0 (MQ below (tk_Q D A ws' rv) av.toArray s 0 0 A) (F0 m 0 ls [])) : tk_M l y wd rm D tys av ws ws' rv := by
  intro sz
  refine Met.ofW (cc := cc) (maxL := maxL) (ret := ret) hy hw ?_
  intro p e s m args below meth c s₁ B hml hv
  obtain ⟨rfl, hsz, hP, hK, hD0, hN⟩ := hv
  subst hsz
  have hts := atoms_spec (ws := wd) B.pre
  have hown : s.vm.findClass y.cls = some m.cls := findClass_of_methodNamed B.named
  have hD := hD0.self (sz := s.heap.size)
  have hl := lv_entry av (n := maxL) hlen
  rw [lg_entry_eq]
  exact body p e s m below meth c _ _ _ _ ⟨B.exec, B.bytes, B.returns, hml, hown, B.notSynchronized, (name_of_methodNamed B.named B.method).1, hts⟩ hK hN (fun q h => Or.inr h) hP hD va_S.rf hl
section TKR
variable {p : Program} {l : Launch} {e : Env} {R : Room} {s : State} {m : MethodId} {args : Array Value} {below : List Frame} {meth : Method} {c : Code} {H : Heap} {locs : List Loc} {cells slots : Nat} {cc : ByteArray} {pc : Nat} {ls : Array Slot} {D : va_G} {A : Nat → Prop} {ws ws' : va_W}
theorem tk_iret {v v' : Int32} (hx : p.tables.exec = Jvm.exec) (hb : c.code = cc) (hr : meth.sig.returnType = some .int) (hk : meth.locks = false) (hP : va_P D vwCl ws H) (hD : va_D A ws) (hS : va_S A s.heap H locs) (hdg : decode cc pc = .ok (.ireturn, 1)) (ev : v' = v) (ew : ws' = ws) :
    W p l e R s m args below meth c H locs cells slots (MQ below (tk_Q D A ws' (some (.int v'))) args s cells slots A) (F0 m pc ls [.int v]) := by
  subst ev; subst ew
  exact W.iret hx hb hr (fun t ht hW => ⟨⟨rfl, by rw [ht]; exact hP, hD⟩, hS.F ht⟩) hS.2.2 hdg hk
theorem tk_zret {v v' : Int32} (hx : p.tables.exec = Jvm.exec) (hb : c.code = cc) (hr : meth.sig.returnType = some .boolean) (hk : meth.locks = false) (hP : va_P D vwCl ws H) (hD : va_D A ws) (hS : va_S A s.heap H locs) (hdg : decode cc pc = .ok (.ireturn, 1)) (hn : narrow .boolean (.int v) = .int v) (ev : v' = v) (ew : ws' = ws) :
    W p l e R s m args below meth c H locs cells slots (MQ below (tk_Q D A ws' (some (.int v'))) args s cells slots A) (F0 m pc ls [.int v]) := by
  subst ev; subst ew
  exact W.zret hx hb hr hn (fun t ht hW => ⟨⟨rfl, by rw [ht]; exact hP, hD⟩, hS.F ht⟩) hS.2.2 hdg hk
theorem tk_vret (hx : p.tables.exec = Jvm.exec) (hb : c.code = cc) (hr : meth.sig.returnType = none) (hk : meth.locks = false) (hP : va_P D vwCl ws H) (hD : va_D A ws) (hS : va_S A s.heap H locs) (hdg : decode cc pc = .ok (.return_, 1)) (ew : ws' = ws) :
    W p l e R s m args below meth c H locs cells slots (MQ below (tk_Q D A ws' none) args s cells slots A) (F0 m pc ls []) := by
  subst ew
  exact W.vret hx hb hr (fun t ht hW => ⟨⟨rfl, by rw [ht]; exact hP, hD⟩, hS.F ht⟩) hS.2.2 hdg hk
theorem tk_aret {v v' : Nat} {rt : FieldType} (hx : p.tables.exec = Jvm.exec) (hb : c.code = cc) (hr : meth.sig.returnType = some rt) (hrt : (∃ n, rt = .object n) ∨ ∃ t, rt = .array t) (hk : meth.locks = false) (hP : va_P D vwCl ws H) (hD : va_D A ws) (hS : va_S A s.heap H locs) (hdg : decode cc pc = .ok (.areturn, 1)) (ev : v' = v) (ew : ws' = ws) :
    W p l e R s m args below meth c H locs cells slots (MQ below (tk_Q D A ws' (some (.ref v'))) args s cells slots A) (F0 m pc ls [.ref v]) := by
  subst ev; subst ew
  exact W.aret hx hb hr hrt (Or.inr ⟨_, rfl⟩) (fun t ht hW => ⟨⟨rfl, by rw [ht]; exact hP, hD⟩, hS.F ht⟩) hS.2.2 hdg hk
end TKR
theorem tk_fm {α β : Type} (f : α → Option β) : ∀ (l : List α) (w : List β), l.map f = w.map some → l.filterMap f = w
  | [], [], _ => rfl
  | [], _ :: _, h => by cases h
  | _ :: _, [], h => by cases h
  | a :: l, b :: w, h => by
    rw [List.map_cons, List.map_cons] at h
    injection h with h1 h2
    rw [List.filterMap_cons, h1]
    show b :: l.filterMap f = b :: w
    rw [tk_fm f l w h2]
theorem tk_blind {D : va_G} {tys : List (ClassId × FieldType)} {ws : va_W} {sz : Nat} {av : List Value} : FrameBlind (va_Pc av (tk_P D tys ws sz)) := fun a U g mk q => by
  obtain ⟨q0, q1, qP, qK, qD, qN⟩ := q
  exact ⟨q0, q1, qP, va_K.moved (u := U) (U := U.calling g mk a) (Vm.Alike.refl U.vm) qK, qD, tk_N.same (s := U) (U := U.calling g mk a) rfl qN⟩
section TKC
variable {p : Program} {l : Launch} {e : Env} {R : Room} {s : State} {m : MethodId} {args : Array Value} {below : List Frame} {meth : Method} {c : Code} {H H0 : Heap} {locs : List Loc} {cells slots : Nat} {Q : State → Prop} {pc : Nat} {ls : Array Slot} {rest st0 : List Value} {a : Array Value} {D : va_G} {A : Nat → Prop} {tys tys' : List (ClassId × FieldType)} {ws wc wc' : va_W} {rv : Option Value}
/-- a callee's start, its cells cut out of the caller's world by their places -/
theorem tk_pre {av : List Value} (hK : va_K D vwCl tys s) (hN : tk_N s) (hP : va_P D vwCl ws H) (hD : va_D A ws) (is it : List Nat) (hn : va_nd is = true) (hC : is.map (fun i => ws[i]?) = wc.map some) (hT : it.filterMap (fun i => tys[i]?) = tys') : ∀ U : State, U.heap = H → s.WarmedH U.vm → va_Pc av (tk_P D tys' wc H.size) av.toArray U := fun U hU hW =>
  ⟨rfl, by rw [hU], by rw [hU]; exact hP.sub is (tk_fm _ _ _ hC), va_K.moved hW.alike (hK.sub it hT), (hD.sub is hn hC).weaken (fun _ _ _ _ => trivial), tk_N.warm hW hN⟩
theorem tk_preS {av : List Value} (hK : va_K D vwCl tys s) (hN : tk_N s) (hP : va_P D vwCl ws H) (hD : va_D A ws) (is it : List Nat) (hn : va_nd is = true) (hC : is.map (fun i => ws[i]?) = wc.map some) (hT : it.filterMap (fun i => tys[i]?) = tys') : PreS s H (va_Pc av (tk_P D tys' wc H.size)) av := ⟨tk_blind, tk_pre hK hN hP hD is it hn hC hT⟩
theorem tk_preV {b q0 ci : Nat} {fs : List Value} {C : String} {T : u_T} {N : Nat} {As : List Value} (hK : va_K D vwCl tys s) (hN : tk_N s) (hP : va_P D vwCl ws H) (hD : va_D A ws) (is it : List Nat) (hn : va_nd is = true) (hC : is.map (fun i => ws[i]?) = wc.map some) (hT : it.filterMap (fun i => tys[i]?) = tys') (hq : ws[q0]? = some (b, .inr (ci, fs))) (hc : vwCl[ci]? = some (C, T, N)) : PreV s H C b (va_Pc (.ref b :: As) (tk_P D tys' wc H.size)) As := ⟨tk_blind, va_recv (q := (C, T, N)) hK hP hc hq, tk_pre hK hN hP hD is it hn hC hT⟩
/-- behind a call: what the callee had may have changed, the rest stays -/
theorem tk_run (hr : va_Run p l e R s m args below meth c H locs cells slots 0 0 (F0 m pc ls st0) rest (tk_Q D (va_A wc H.size) wc' rv a) (va_A wc H.size)) (hS : va_S A H0 H locs) (hF : ∀ q, va_A wc H.size q → A q)
    (kk : ∀ (H1 : Heap) (locs1 : List Loc), va_P D vwCl wc' H1 → va_D (va_A wc H.size) wc' → (∀ q : Nat, q < H.size → ¬ va_A wc H.size q → H1[q]? = H[q]?) → va_S A H0 H1 locs1 → W p l e R s m args below meth c H1 locs1 cells slots Q (F0 m (pc + 3) ls (rv.toList ++ rest))) : W p l e R s m args below meth c H locs cells slots Q (F0 m pc ls st0) := by
  intro T hT X
  obtain ⟨v, st₀, t, T', L, h0, X', hL, e1, e2, ⟨⟨hv, hp, hd⟩, hz, hk⟩, st⟩ := hr T hT X
  cases hv
  rw [h0] at hz hk
  obtain ⟨t2, a1, b1⟩ := kk T'.heap (locs ++ L) (by rw [e1]; exact hp) hd (fun q h1 h2 => by rw [e1]; exact hk q h1 h2)
    ⟨Nat.le_trans hS.1 (by rw [e1]; exact hz), fun q h1 h2 => by rw [e1, hk q (Nat.lt_of_lt_of_le h1 hS.1) (fun z => h2 (hF q z))]; exact hS.2.1 q h1 h2, fun q hq => by
      rcases List.mem_append.mp hq with h | h
      · exact hS.2.2 q h
      · exact hF _ (hL q h)⟩ T' rfl X'
  exact ⟨t2, st t2 a1, b1⟩
/-- a callee with no cells -/
theorem tk_call0 (hP : va_P D vwCl ws H) (hD : va_D A ws) (hS : va_S A H0 H locs) (hA : ∀ q, H0.size ≤ q → A q)
    (hr : va_Run p l e R s m args below meth c H locs cells slots 0 0 (F0 m pc ls st0) rest (tk_Q D (va_A [] H.size) [] rv a) (va_A [] H.size))
    (kk : ∀ (H1 : Heap) (locs1 : List Loc), va_P D vwCl ws H1 → va_D A ws → va_S A H0 H1 locs1 → W p l e R s m args below meth c H1 locs1 cells slots Q (F0 m (pc + 3) ls (rv.toList ++ rest))) : W p l e R s m args below meth c H locs cells slots Q (F0 m pc ls st0) := by
  have hF : ∀ q, va_A [] H.size q → A q := va_free (wc := []) hD hS hA [] rfl
  refine tk_run hr hS hF (fun H1 locs1 _ _ hk hS1 => kk H1 locs1 (fun k q hq => ?_) hD hS1)
  have h1 := hP k q hq
  have hlt := va_at.lt h1
  exact va_at.kept h1 (hk q.1 hlt (fun z => by
    rcases z with ⟨k, e, z⟩ | z
    · cases z
    · omega))
/-- a callee with one of the caller's cells -/
theorem tk_call1 {cell cell' : Nat × va_E} (k0 : Nat) (hP : va_P D vwCl ws H) (hD : va_D A ws) (hS : va_S A H0 H locs) (hA : ∀ q, H0.size ≤ q → A q) (hk0 : ws[k0]? = some cell) (hsame : cell'.1 = cell.1)
    (hr : va_Run p l e R s m args below meth c H locs cells slots 0 0 (F0 m pc ls st0) rest (tk_Q D (va_A [cell] H.size) [cell'] rv a) (va_A [cell] H.size))
    (kk : ∀ (H1 : Heap) (locs1 : List Loc), va_P D vwCl (ws.set k0 cell') H1 → va_D A (ws.set k0 cell') → va_S A H0 H1 locs1 → W p l e R s m args below meth c H1 locs1 cells slots Q (F0 m (pc + 3) ls (rv.toList ++ rest))) : W p l e R s m args below meth c H locs cells slots Q (F0 m pc ls st0) := by
  have hF : ∀ q, va_A [cell] H.size q → A q := va_free (wc := [cell]) hD hS hA [k0] (by simp [hk0])
  have hlk : k0 < ws.length := (List.getElem?_eq_some_iff.mp hk0).1
  refine tk_run hr hS hF (fun H1 locs1 hP1 hD1 hk hS1 => kk H1 locs1 (fun k q hq => ?_) ?_ hS1)
  · by_cases hkk : k0 = k
    · subst hkk
      rw [List.getElem?_set_self hlk] at hq
      exact hP1 0 q hq
    · rw [List.getElem?_set_ne hkk] at hq
      have h1 := hP k q hq
      have hlt := va_at.lt h1
      refine va_at.kept h1 (hk q.1 hlt (fun z => ?_))
      rcases z with ⟨j, e, z⟩ | z
      · cases j with
        | zero =>
          have z2 : cell = (q.1, e) := Option.some.inj z
          exact hkk (hD.1 k0 k _ _ hk0 hq (by rw [z2]))
        | succ j => simp at z
      · omega
  · refine ⟨fun i j x y hi hj hxy => ?_, fun k q hq => ?_⟩
    · have key : ∀ (i : Nat) (x : Nat × va_E), (ws.set k0 cell')[i]? = some x → ∃ x', ws[i]? = some x' ∧ x'.1 = x.1 := by
        intro i x hi
        by_cases h : k0 = i
        · subst h
          rw [List.getElem?_set_self hlk] at hi
          exact ⟨cell, hk0, by rw [← Option.some.inj hi, hsame]⟩
        · rw [List.getElem?_set_ne h] at hi
          exact ⟨x, hi, rfl⟩
      obtain ⟨x', h1, h2⟩ := key i x hi
      obtain ⟨y', h3, h4⟩ := key j y hj
      exact hD.1 i j x' y' h1 h3 (by rw [h2, h4, hxy])
    · by_cases h : k0 = k
      · subst h
        rw [List.getElem?_set_self hlk] at hq
        rw [← Option.some.inj hq, hsame]
        exact hD.2 k0 _ hk0
      · rw [List.getElem?_set_ne h] at hq
        exact hD.2 k q hq
/-- a callee with all of the caller's cells -/
theorem tk_callA (hD : va_D A ws) (hS : va_S A H0 H locs) (hA : ∀ q, H0.size ≤ q → A q)
    (hr : va_Run p l e R s m args below meth c H locs cells slots 0 0 (F0 m pc ls st0) rest (tk_Q D (va_A ws H.size) wc' rv a) (va_A ws H.size))
    (kk : ∀ (H1 : Heap) (locs1 : List Loc), va_P D vwCl wc' H1 → va_D A wc' → va_S A H0 H1 locs1 → W p l e R s m args below meth c H1 locs1 cells slots Q (F0 m (pc + 3) ls (rv.toList ++ rest))) : W p l e R s m args below meth c H locs cells slots Q (F0 m pc ls st0) := by
  have hF : ∀ q, va_A ws H.size q → A q := fun q z => by
    rcases z with ⟨k, e, z⟩ | z
    · exact hD.2 k _ z
    · exact hA q (Nat.le_trans hS.1 z)
  exact tk_run hr hS hF (fun H1 locs1 hP1 hD1 _ hS1 => kk H1 locs1 hP1 (hD1.weaken (fun _ q _ h => hF q.1 h)) hS1)
end TKC
theorem tk_nb {v : Int32} (h : v = 0 ∨ v = 1) : narrow .boolean (.int v) = .int v := by
  rcases h with h | h <;> subst h <;> rfl
/-- a switch's default -/
theorem tk_out {x : Int32} {lo hi : Int} (h : ∀ k : Int, lo ≤ k → k ≤ hi → ¬ x = Int32.ofInt k) : x.toInt < lo ∨ hi < x.toInt := by
  by_cases h1 : x.toInt < lo
  · exact Or.inl h1
  · by_cases h2 : hi < x.toInt
    · exact Or.inr h2
    · exact absurd (Int32.ofInt_toInt x).symm (h x.toInt (by omega) (by omega))
section TKX
variable {p : Program} {l : Launch} {e : Env} {R : Room} {s : State} {m : MethodId} {args : Array Value} {below : List Frame} {meth : Method} {c : Code} {H H0 : Heap} {locs : List Loc} {cells slots : Nat} {Q : State → Prop} {pc : Nat} {ls : Array Slot} {rest : List Value} {D : va_G} {A : Nat → Prop} {ws ws1 : va_W} {g g2 : JFrame}
theorem tk_top {x y : Int32} (h : x = y) (k : W p l e R s m args below meth c H locs cells slots Q (F0 m pc ls (.int y :: rest))) : W p l e R s m args below meth c H locs cells slots Q (F0 m pc ls (.int x :: rest)) := by
  subst h; exact k
theorem tk_topr {x y : Nat} (h : x = y) (k : W p l e R s m args below meth c H locs cells slots Q (F0 m pc ls (.ref y :: rest))) : W p l e R s m args below meth c H locs cells slots Q (F0 m pc ls (.ref x :: rest)) := by
  subst h; exact k
/-- two roads that meet: what holds behind the meeting is proved once -/
theorem tk_mrg (_ : va_D A ws) (_ : va_S A H0 H locs)
    (br : (∀ (H : Heap) (locs : List Loc), va_P D vwCl ws1 H → va_D A ws1 → va_S A H0 H locs → W p l e R s m args below meth c H locs cells slots Q g2) → W p l e R s m args below meth c H locs cells slots Q g)
    (key : ∀ (H : Heap) (locs : List Loc), va_P D vwCl ws1 H → va_D A ws1 → va_S A H0 H locs → W p l e R s m args below meth c H locs cells slots Q g2) : W p l e R s m args below meth c H locs cells slots Q g := br key
theorem tk_Pw (h : ws1 = ws) (hP : va_P D vwCl ws H) : va_P D vwCl ws1 H := h ▸ hP
theorem tk_Dw (h : ws1 = ws) (hD : va_D A ws) : va_D A ws1 := h ▸ hD
end TKX
theorem tk_us (f : Nat → Int32) (k : Nat) (x : Int32) : upd f k x k = x := if_pos rfl
theorem tk_eqI {x : Int32} {k : Int} (h : x.toInt = k) : x = Int32.ofInt k := by rw [← h, Int32.ofInt_toInt]
theorem tk_lt {x y : Int32} : x < y ↔ x.toInt < y.toInt := Int32.lt_iff_toInt_lt
theorem tk_le {x y : Int32} : x ≤ y ↔ x.toInt ≤ y.toInt := Int32.le_iff_toInt_le
theorem tk_vin {i : Int32} {n : Nat} (h0 : 0 ≤ i.toInt) (h1 : i.toInt < n) : vp_in i n := by
  intro h
  rcases h with h | h
  · have h2 := tk_lt.mp h
    have h3 : (0 : Int32).toInt = 0 := by decide
    omega
  · have h2 : i.toNatClampNeg = i.toInt.toNat := rfl
    omega
theorem tk_ixe {i k : Int32} {n : Nat} (h : i = k) (hk : vp_in k n) : vp_in i n := h ▸ hk
theorem tk_ixr {i k : Int32} {n : Nat} (hk : k.toInt + 1 = n) (h0 : ¬ i < 0) (h1 : ¬ k < i) : vp_in i n := by
  have z : (0 : Int32).toInt = 0 := by decide
  have a : ¬ i.toInt < (0 : Int32).toInt := fun h => h0 (tk_lt.mpr h)
  have b : ¬ k.toInt < i.toInt := fun h => h1 (tk_lt.mpr h)
  exact tk_vin (by omega) (by omega)
theorem tk_ixr2 {i : Int32} (h0 : ¬ i < 0) (h1 : ¬ 1 < i) : vp_in i 2 := tk_ixr (by decide) h0 h1
theorem tk_ixr3 {i : Int32} (h0 : ¬ i < 0) (h1 : ¬ 2 < i) : vp_in i 3 := tk_ixr (by decide) h0 h1
theorem tk_ixl {i k : Int32} {n : Nat} (hk : k.toInt + 1 = n) (h0 : ¬ i < 0) (h1 : i ≤ k) : vp_in i n := by
  have z : (0 : Int32).toInt = 0 := by decide
  have a : ¬ i.toInt < (0 : Int32).toInt := fun h => h0 (tk_lt.mpr h)
  have b := tk_le.mp h1
  exact tk_vin (by omega) (by omega)
theorem tk_ixl2 {i : Int32} (h0 : ¬ i < 0) (h1 : i ≤ 1) : vp_in i 2 := tk_ixl (by decide) h0 h1
theorem tk_ixl3 {i : Int32} (h0 : ¬ i < 0) (h1 : i ≤ 2) : vp_in i 3 := tk_ixl (by decide) h0 h1
theorem tk_ix4 {x : Int32} (h0 : 4 ≤ x.toInt) (h1 : x.toInt ≤ 6) : vp_in (x - 4) 3 := by
  rcases (by omega : x.toInt = 4 ∨ x.toInt = 5 ∨ x.toInt = 6) with h | h | h
  · rw [tk_eqI h]; unfold vp_in; decide
  · rw [tk_eqI h]; unfold vp_in; decide
  · rw [tk_eqI h]; unfold vp_in; decide
theorem tk_n3 {x : Int32} (h : ¬ x ≤ 3) : 4 ≤ x.toInt := by
  have a : ¬ x.toInt ≤ (3 : Int32).toInt := fun z => h (tk_le.mpr z)
  have z : (3 : Int32).toInt = 3 := by decide
  omega
theorem tk_ix4a {x : Int32} (h : ¬ x ≤ 3) (h1 : ¬ 7 ≤ x) : vp_in (x - 4) 3 := tk_ix4 (tk_n3 h) (by
  have a : ¬ (7 : Int32).toInt ≤ x.toInt := fun z => h1 (tk_le.mpr z)
  have z : (7 : Int32).toInt = 7 := by decide
  omega)
theorem tk_ix4c {x : Int32} (h : ¬ x ≤ 3) (h1 : x ≤ 6) : vp_in (x - 4) 3 := tk_ix4 (tk_n3 h) (by
  have a := tk_le.mp h1
  have z : (6 : Int32).toInt = 6 := by decide
  omega)
theorem tk_ix4d {x : Int32} (h : ¬ x ≤ 3) (h1 : x ≤ 7) (h2 : ¬ x = 7) : vp_in (x - 4) 3 := tk_ix4 (tk_n3 h) (by
  have a := tk_le.mp h1
  have z : (7 : Int32).toInt = 7 := by decide
  have b : ¬ x.toInt = 7 := fun w => h2 (by rw [tk_eqI w]; decide)
  omega)
theorem tk_ix4b {x : Int32} (h : ¬ x ≤ 3) (h1 : ¬ 7 < x) (h2 : ¬ x = 7) : vp_in (x - 4) 3 := tk_ix4 (tk_n3 h) (by
  have a : ¬ (7 : Int32).toInt < x.toInt := fun z => h1 (tk_lt.mpr z)
  have z : (7 : Int32).toInt = 7 := by decide
  have b : ¬ x.toInt = 7 := fun w => h2 (by rw [tk_eqI w]; decide)
  omega)
theorem tk_ix2 {x : Int32} (h0 : ¬ x < 0) (h1 : x ≤ 3) : vp_in (x / 2) 2 := by
  have z : (0 : Int32).toInt = 0 := by decide
  have z3 : (3 : Int32).toInt = 3 := by decide
  have a : ¬ x.toInt < (0 : Int32).toInt := fun h => h0 (tk_lt.mpr h)
  have b := tk_le.mp h1
  rcases (by omega : x.toInt = 0 ∨ x.toInt = 1 ∨ x.toInt = 2 ∨ x.toInt = 3) with h | h | h | h
  · rw [tk_eqI h]; unfold vp_in; decide
  · rw [tk_eqI h]; unfold vp_in; decide
  · rw [tk_eqI h]; unfold vp_in; decide
  · rw [tk_eqI h]; unfold vp_in; decide
theorem tk_q256 : ∀ n : Nat, n < 256 → ¬ (Int32.ofInt n) >>> ((6 : Int32) &&& 31) = 3 → (0 ≤ ((Int32.ofInt n) >>> ((6 : Int32) &&& 31)).toInt ∧ ((Int32.ofInt n) >>> ((6 : Int32) &&& 31)).toInt < 3) := by decide +kernel
theorem tk_ixq {v : Int32} (h0 : ¬ v < 0) (h1 : ¬ 255 < v) (h2 : ¬ v >>> ((6 : Int32) &&& 31) = 3) : vp_in (v >>> ((6 : Int32) &&& 31)) 3 := by
  have z : (0 : Int32).toInt = 0 := by decide
  have z3 : (255 : Int32).toInt = 255 := by decide
  have a : ¬ v.toInt < (0 : Int32).toInt := fun h => h0 (tk_lt.mpr h)
  have b : ¬ (255 : Int32).toInt < v.toInt := fun h => h1 (tk_lt.mpr h)
  have e : v = Int32.ofInt (v.toInt.toNat : Nat) := tk_eqI (by omega)
  have q := tk_q256 v.toInt.toNat (by omega) (by rw [← e]; exact h2)
  rw [← e] at q
  exact tk_vin q.1 q.2
theorem tk_inc (i : Nat) : nI i + Int32.ofInt 1 = nI (i + 1) := by rw [nI_succ]; rfl
theorem tk_nI {x : Int32} (h : 0 ≤ x.toInt) : nI x.toInt.toNat = x := by
  have e : x = Int32.ofInt x.toInt := (Int32.ofInt_toInt x).symm
  have e2 : x.toInt = ((x.toInt.toNat : Nat) : Int) := by omega
  rw [e2] at e
  exact e.symm
theorem tk_ge {x : Int32} {i : Nat} (h : i = x.toInt.toNat) : x ≤ nI i := by
  subst h
  by_cases h0 : 0 ≤ x.toInt
  · rw [tk_nI h0]; exact tk_le.mpr (Int.le_refl _)
  · have e : x.toInt.toNat = 0 := by omega
    rw [e]
    exact tk_le.mpr (by have z : (nI 0).toInt = 0 := by decide
                        omega)
theorem tk_nge {x : Int32} {i : Nat} (h : i < x.toInt.toNat) : ¬ x ≤ nI i := fun hle => by
  have h0 : 0 ≤ x.toInt := by omega
  have hm : x.toInt < 2 ^ 31 := Int32.toInt_lt x
  have e : (nI i).toInt = (i : Int) := nI_toInt (by omega)
  have := tk_le.mp hle
  omega
theorem tk_g0 {W : List Cond} (hg : ∀ w ∈ W, goodWord w = true) {y : MethodName} {cc : ByteArray} {maxL : Nat} {ret : Option FieldType} (h5 : Cond.code y cc maxL ret ∈ W) : GoodIn W (Cond.code y cc maxL ret :: W) := by
  intro w hw
  have hm : w ∈ W := by
    rcases List.mem_cons.mp hw with rfl | h
    · exact h5
    · exact h
  exact ⟨hm, good_of_word (hg w hm)⟩
theorem tk_gV {W : List Cond} (hg : ∀ w ∈ W, goodWord w = true) {own C : String} {idx : Nat} {y : MethodName} {cc : ByteArray} {maxL : Nat} {ret : Option FieldType} (h1 : Cond.methodLink own idx y ∈ W) (h2 : Cond.instanceMethod y ∈ W) (h3 : Cond.selects C y y ∈ W) (h4 : Cond.initialized C ∈ W) (h5 : Cond.code y cc maxL ret ∈ W) : GoodIn W (wsV own idx C y (Cond.code y cc maxL ret :: W)) := by
  intro w hw
  unfold wsV at hw
  rcases List.mem_append.mp hw with h | h
  · have hm : w ∈ W := by
      simp only [List.mem_cons, List.not_mem_nil, or_false] at h
      rcases h with rfl | rfl | rfl | rfl <;> assumption
    exact ⟨hm, good_of_word (hg w hm)⟩
  · exact tk_g0 hg h5 w h
theorem tk_gS {W : List Cond} (hg : ∀ w ∈ W, goodWord w = true) {own : String} {idx : Nat} {y : MethodName} {cc : ByteArray} {maxL : Nat} {ret : Option FieldType} (h1 : Cond.methodLink own idx y ∈ W) (h2 : Cond.static y ∈ W) (h4 : Cond.initialized y.cls ∈ W) (h5 : Cond.code y cc maxL ret ∈ W) : GoodIn W (va_wsS own idx y (Cond.code y cc maxL ret :: W)) := by
  intro w hw
  unfold va_wsS at hw
  rcases List.mem_append.mp hw with h | h
  · have hm : w ∈ W := by
      simp only [List.mem_cons, List.not_mem_nil, or_false] at h
      rcases h with rfl | rfl | rfl <;> assumption
    exact ⟨hm, good_of_word (hg w hm)⟩
  · exact tk_g0 hg h5 w h
theorem tk_fb {v : Int32} (h : v = 0 ∨ v = 1) : fits .boolean (.int v) = true := by
  rcases h with h | h <;> subst h <;> rfl
