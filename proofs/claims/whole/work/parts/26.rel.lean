/-! The class's state read off the reference's -/
abbrev tkCol (i : Nat) (G : Nat → Nat → Int32) : Nat → Int32 := fun a => G a i
def tkFc (L : Int32) (C : Nat → Int32) : Nat → Int32 := fun a => match a with
  | 0 => L
  | 1 => C 1
  | 2 => C 2
  | 3 => C 3
  | 4 => C 4
  | 5 => C 5
  | 6 => C 6
  | 7 => C 7
  | 8 => C 17
  | 9 => C 8
  | 10 => C 9
  | 11 => C 10
  | 12 => C 11
  | 13 => C 12
  | 14 => C 13
  | 15 => C 14
  | 16 => C 16
  | 17 => C 15
  | _ => 0
def tkFn (C : Nat → Int32) : Nat → Int32 := fun a => match a with
  | 0 => C 18
  | 1 => C 19
  | 2 => C 20
  | 3 => C 21
  | 4 => C 22
  | 5 => C 23
  | 6 => C 24
  | 7 => C 25
  | 8 => C 27
  | 9 => C 29
  | 10 => C 28
  | 11 => C 30
  | 12 => C 31
  | 13 => C 32
  | _ => 0
def tkPsi (G : Nat → Nat → Int32) : Nat → Nat → Int32 := fun p => match p with
  | 1 => tkFc 1 (tkCol 0 G)
  | 2 => tkFc 0 (tkCol 1 G)
  | 4 => tkFn (tkCol 0 G)
  | 5 => tkFn (tkCol 1 G)
  | 6 => tkFn (tkCol 2 G)
  | _ => fun _ => 0
theorem tkFc_0 (L : Int32) (C : Nat → Int32) : tkFc L C 0 = L := rfl
theorem tkFc_1 (L : Int32) (C : Nat → Int32) : tkFc L C 1 = C 1 := rfl
theorem tkFc_2 (L : Int32) (C : Nat → Int32) : tkFc L C 2 = C 2 := rfl
theorem tkFc_3 (L : Int32) (C : Nat → Int32) : tkFc L C 3 = C 3 := rfl
theorem tkFc_4 (L : Int32) (C : Nat → Int32) : tkFc L C 4 = C 4 := rfl
theorem tkFc_5 (L : Int32) (C : Nat → Int32) : tkFc L C 5 = C 5 := rfl
theorem tkFc_6 (L : Int32) (C : Nat → Int32) : tkFc L C 6 = C 6 := rfl
theorem tkFc_7 (L : Int32) (C : Nat → Int32) : tkFc L C 7 = C 7 := rfl
theorem tkFc_8 (L : Int32) (C : Nat → Int32) : tkFc L C 8 = C 17 := rfl
theorem tkFc_9 (L : Int32) (C : Nat → Int32) : tkFc L C 9 = C 8 := rfl
theorem tkFc_10 (L : Int32) (C : Nat → Int32) : tkFc L C 10 = C 9 := rfl
theorem tkFc_11 (L : Int32) (C : Nat → Int32) : tkFc L C 11 = C 10 := rfl
theorem tkFc_12 (L : Int32) (C : Nat → Int32) : tkFc L C 12 = C 11 := rfl
theorem tkFc_13 (L : Int32) (C : Nat → Int32) : tkFc L C 13 = C 12 := rfl
theorem tkFc_14 (L : Int32) (C : Nat → Int32) : tkFc L C 14 = C 13 := rfl
theorem tkFc_15 (L : Int32) (C : Nat → Int32) : tkFc L C 15 = C 14 := rfl
theorem tkFc_16 (L : Int32) (C : Nat → Int32) : tkFc L C 16 = C 16 := rfl
theorem tkFc_17 (L : Int32) (C : Nat → Int32) : tkFc L C 17 = C 15 := rfl
theorem tkFn_0 (C : Nat → Int32) : tkFn C 0 = C 18 := rfl
theorem tkFn_1 (C : Nat → Int32) : tkFn C 1 = C 19 := rfl
theorem tkFn_2 (C : Nat → Int32) : tkFn C 2 = C 20 := rfl
theorem tkFn_3 (C : Nat → Int32) : tkFn C 3 = C 21 := rfl
theorem tkFn_4 (C : Nat → Int32) : tkFn C 4 = C 22 := rfl
theorem tkFn_5 (C : Nat → Int32) : tkFn C 5 = C 23 := rfl
theorem tkFn_6 (C : Nat → Int32) : tkFn C 6 = C 24 := rfl
theorem tkFn_7 (C : Nat → Int32) : tkFn C 7 = C 25 := rfl
theorem tkFn_8 (C : Nat → Int32) : tkFn C 8 = C 27 := rfl
theorem tkFn_9 (C : Nat → Int32) : tkFn C 9 = C 29 := rfl
theorem tkFn_10 (C : Nat → Int32) : tkFn C 10 = C 28 := rfl
theorem tkFn_11 (C : Nat → Int32) : tkFn C 11 = C 30 := rfl
theorem tkFn_12 (C : Nat → Int32) : tkFn C 12 = C 31 := rfl
theorem tkFn_13 (C : Nat → Int32) : tkFn C 13 = C 32 := rfl
theorem tkPsi_1 (G : Nat → Nat → Int32) : tkPsi G 1 = tkFc 1 (tkCol 0 G) := rfl
theorem tkPsi_2 (G : Nat → Nat → Int32) : tkPsi G 2 = tkFc 0 (tkCol 1 G) := rfl
theorem tkPsi_4 (G : Nat → Nat → Int32) : tkPsi G 4 = tkFn (tkCol 0 G) := rfl
theorem tkPsi_5 (G : Nat → Nat → Int32) : tkPsi G 5 = tkFn (tkCol 1 G) := rfl
theorem tkPsi_6 (G : Nat → Nat → Int32) : tkPsi G 6 = tkFn (tkCol 2 G) := rfl
theorem tk_fx14 {f h : Nat → Int32} (h0 : f 0 = h 0) (h1 : f 1 = h 1) (h2 : f 2 = h 2) (h3 : f 3 = h 3) (h4 : f 4 = h 4) (h5 : f 5 = h 5) (h6 : f 6 = h 6) (h7 : f 7 = h 7) (h8 : f 8 = h 8) (h9 : f 9 = h 9) (h10 : f 10 = h 10) (h11 : f 11 = h 11) (h12 : f 12 = h 12) (h13 : f 13 = h 13) (ht : ∀ n, f (n + 14) = h (n + 14)) : f = h := by
  funext a
  match a with
  | 0 => exact h0
  | 1 => exact h1
  | 2 => exact h2
  | 3 => exact h3
  | 4 => exact h4
  | 5 => exact h5
  | 6 => exact h6
  | 7 => exact h7
  | 8 => exact h8
  | 9 => exact h9
  | 10 => exact h10
  | 11 => exact h11
  | 12 => exact h12
  | 13 => exact h13
  | n + 14 => exact ht n
theorem tk_fx18 {f h : Nat → Int32} (h0 : f 0 = h 0) (h1 : f 1 = h 1) (h2 : f 2 = h 2) (h3 : f 3 = h 3) (h4 : f 4 = h 4) (h5 : f 5 = h 5) (h6 : f 6 = h 6) (h7 : f 7 = h 7) (h8 : f 8 = h 8) (h9 : f 9 = h 9) (h10 : f 10 = h 10) (h11 : f 11 = h 11) (h12 : f 12 = h 12) (h13 : f 13 = h 13) (h14 : f 14 = h 14) (h15 : f 15 = h 15) (h16 : f 16 = h 16) (h17 : f 17 = h 17) (ht : ∀ n, f (n + 18) = h (n + 18)) : f = h := by
  funext a
  match a with
  | 0 => exact h0
  | 1 => exact h1
  | 2 => exact h2
  | 3 => exact h3
  | 4 => exact h4
  | 5 => exact h5
  | 6 => exact h6
  | 7 => exact h7
  | 8 => exact h8
  | 9 => exact h9
  | 10 => exact h10
  | 11 => exact h11
  | 12 => exact h12
  | 13 => exact h13
  | 14 => exact h14
  | 15 => exact h15
  | 16 => exact h16
  | 17 => exact h17
  | n + 18 => exact ht n
theorem tk_fxP {f h : Nat → Nat → Int32} (h0 : f 0 = h 0) (h1 : f 1 = h 1) (h2 : f 2 = h 2) (h3 : f 3 = h 3) (h4 : f 4 = h 4) (h5 : f 5 = h 5) (h6 : f 6 = h 6) (ht : ∀ n, f (n + 7) = h (n + 7)) : f = h := by
  funext a
  match a with
  | 0 => exact h0
  | 1 => exact h1
  | 2 => exact h2
  | 3 => exact h3
  | 4 => exact h4
  | 5 => exact h5
  | 6 => exact h6
  | n + 7 => exact ht n
theorem tkcl_0 : (0 : Int32).toNatClampNeg = 0 := rfl
theorem tkcl_1 : (1 : Int32).toNatClampNeg = 1 := rfl
theorem tkcl_2 : (2 : Int32).toNatClampNeg = 2 := rfl
theorem tkb_holdR (s m sp a : Int32) : (if (s >>> a) &&& 1 = 1 then (if sp = 0 then 1 else if (m >>> a) &&& 1 = 1 then 0 else 1) else 0 : Int32) = if ((if sp = 0 then s else s &&& (m ^^^ (-1))) >>> a) &&& 1 = 0 then 0 else 1 := by
  by_cases h : sp = 0
  · simp only [if_pos h]
    by_cases h1 : (s >>> a) &&& 1 = 0
    · rw [if_pos h1, if_neg (fun z => (tkb_01 _).mp z h1)]
    · rw [if_neg h1, if_pos ((tkb_01 _).mpr h1)]
  · simp only [if_neg h]
    by_cases h1 : (s >>> a) &&& 1 = 1
    · by_cases h2 : (m >>> a) &&& 1 = 1
      · rw [if_pos h1, if_pos h2, if_pos ((tkb_hold s m a).mpr (fun z => z.2 h2))]
      · rw [if_pos h1, if_neg h2, if_neg (fun z => (tkb_hold s m a).mp z ⟨h1, h2⟩)]
    · rw [if_neg h1, if_pos ((tkb_hold s m a).mpr (fun z => h1 z.1))]
theorem tkb_hb0 (v l : Int32) : (tkT_hasBit_r v l = 0) = ((v >>> (l &&& 31)) &&& 1 = 0) := by
  unfold tkT_hasBit_r
  by_cases h : (v >>> (l &&& 31)) &&& 1 = 0
  · rw [if_pos h]; simp [h]
  · rw [if_neg h]; simp [h]
theorem tkb_s31 (y : Int32) : (y <<< ((31 : Int32) &&& 31) = 0) = (y &&& 1 = 0) := propext (tkb_shl31 y)
theorem tkb_nest (K : Nat → Int32) (l : Int32) : (if tkC_mayNest_r K l = 0 then (-1) else l) = if K 13 = 0 then (-1) else if K 0 = 0 then (-1) else if l = 2 then l else (-1) := by
  unfold tkC_mayNest_r
  by_cases h : K 13 = 0
  · simp [h]
  · by_cases h1 : K 0 = 0
    · simp [h, h1]
    · by_cases h2 : l = 2
      · simp [h, h1, h2]
      · simp [h, h1, h2]
