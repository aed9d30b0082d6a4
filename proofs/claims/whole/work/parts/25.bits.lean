/-! Bits and small numbers -/
theorem tkb_lsb (y : Int32) : y &&& 1 = if y.toBitVec.getLsbD 0 then 1 else 0 := by
  apply Int32.toBitVec.inj
  rw [Int32.toBitVec_and]
  show y.toBitVec &&& 1#32 = _
  rw [BitVec.and_one_eq_setWidth_ofBool_getLsbD]
  cases y.toBitVec.getLsbD 0 <;> rfl
theorem tkb_0 (y : Int32) : (y &&& 1 = 0) ↔ y.toBitVec.getLsbD 0 = false := by
  rw [tkb_lsb]
  cases y.toBitVec.getLsbD 0 <;> decide
theorem tkb_1 (y : Int32) : (y &&& 1 = 1) ↔ y.toBitVec.getLsbD 0 = true := by
  rw [tkb_lsb]
  cases y.toBitVec.getLsbD 0 <;> decide
theorem tkb_01 (y : Int32) : (y &&& 1 = 1) ↔ ¬ (y &&& 1 = 0) := by
  rw [tkb_lsb]
  cases y.toBitVec.getLsbD 0 <;> decide
theorem tkb_shrand (x y a : Int32) : (x &&& y) >>> a = (x >>> a) &&& (y >>> a) := by
  apply Int32.toBitVec.inj
  rw [Int32.toBitVec_and, Int32.toBitVec_shiftRight, Int32.toBitVec_shiftRight, Int32.toBitVec_shiftRight, Int32.toBitVec_and]
  simp only [BitVec.sshiftRight']
  exact BitVec.sshiftRight_and_distrib _ _ _
theorem tkb_not (x : Int32) : x ^^^ (-1) = ~~~ x := by
  apply Int32.toBitVec.inj
  rw [Int32.toBitVec_xor, Int32.toBitVec_not]
  show x.toBitVec ^^^ BitVec.allOnes 32 = _
  rw [BitVec.xor_allOnes]
theorem tkb_shrnot (x a : Int32) : (x ^^^ (-1)) >>> a = (x >>> a) ^^^ (-1) := by
  rw [tkb_not, tkb_not]
  apply Int32.toBitVec.inj
  rw [Int32.toBitVec_not, Int32.toBitVec_shiftRight, Int32.toBitVec_shiftRight, Int32.toBitVec_not]
  simp only [BitVec.sshiftRight']
  apply BitVec.eq_of_getLsbD_eq
  intro i hi
  simp only [BitVec.getLsbD_sshiftRight, BitVec.getLsbD_not, BitVec.msb_not]
  have h32 : ¬ 32 ≤ i := by omega
  simp [hi, h32]
  split <;> simp_all
/-- a level that holds: as the class and as the reference have it -/
theorem tkb_hold (s m a : Int32) : ((s &&& (m ^^^ (-1))) >>> a) &&& 1 = 0 ↔ ¬ ((s >>> a) &&& 1 = 1 ∧ ¬ (m >>> a) &&& 1 = 1) := by
  rw [tkb_shrand, tkb_shrnot, tkb_0, tkb_1, tkb_1, Int32.toBitVec_and, BitVec.getLsbD_and, tkb_not, Int32.toBitVec_not, BitVec.getLsbD_not]
  cases (s >>> a).toBitVec.getLsbD 0 <;> cases (m >>> a).toBitVec.getLsbD 0 <;> simp
theorem tkb_shl31 (y : Int32) : (y <<< ((31 : Int32) &&& 31) = 0) ↔ (y &&& 1 = 0) := by
  rw [tkb_0]
  have e : (y <<< ((31 : Int32) &&& 31)).toBitVec = y.toBitVec <<< 31 := by
    rw [Int32.toBitVec_shiftLeft]; rfl
  constructor
  · intro h
    have h2 : (y.toBitVec <<< 31).getLsbD 31 = false := by
      rw [← e, h]; rfl
    rw [BitVec.getLsbD_shiftLeft] at h2
    simpa using h2
  · intro h
    apply Int32.toBitVec.inj
    rw [e]
    apply BitVec.eq_of_getLsbD_eq
    intro i hi
    rw [BitVec.getLsbD_shiftLeft]
    by_cases hi2 : i < 31
    · simp [hi2]
    · have : i = 31 := by omega
      subst this
      rw [BitVec.getLsbD_eq_getElem (by decide)] at h
      simp [h]
theorem tkb_bit (n : Int32) (k : Nat) (hk : k < 8) (b : Int32) (hb : b.toBitVec = 1#32 <<< k) (sh : Int32) (hs : (n >>> sh).toBitVec = n.toBitVec.sshiftRight k) : b &&& (n ^^^ (-1)) = if (n >>> sh) &&& 1 = 1 then 0 else b := by
  have hg : (n >>> sh).toBitVec.getLsbD 0 = n.toBitVec.getLsbD k := by
    rw [hs, BitVec.getLsbD_sshiftRight]
    have h1 : (0 : Nat) < 32 := by decide
    have h2 : k + 0 < 32 := by omega
    simp [h2]
    omega
  have key : ∀ i, (1#32 <<< k).getLsbD i = (decide (i = k)) := by
    intro i
    rw [BitVec.getLsbD_shiftLeft]
    by_cases h : i = k
    · subst h
      simp
      omega
    · by_cases h1 : i < k
      · simp [h1, h]
      · have h2 : ¬ i - k = 0 := by omega
        simp [h, BitVec.getLsbD_one, h2]
  by_cases h : (n >>> sh) &&& 1 = 1
  · rw [if_pos h]
    have h3 := (tkb_1 _).mp h
    rw [hg] at h3
    apply Int32.toBitVec.inj
    rw [Int32.toBitVec_and, tkb_not, Int32.toBitVec_not, hb]
    apply BitVec.eq_of_getLsbD_eq
    intro i hi
    rw [BitVec.getLsbD_and, key, BitVec.getLsbD_not]
    by_cases h4 : i = k
    · subst h4
      simp [h3]
    · simp [h4]
  · rw [if_neg h]
    have h3 : n.toBitVec.getLsbD k = false := by
      rw [← hg]
      cases hh : (n >>> sh).toBitVec.getLsbD 0
      · rfl
      · exact absurd ((tkb_1 _).mpr hh) h
    apply Int32.toBitVec.inj
    rw [Int32.toBitVec_and, tkb_not, Int32.toBitVec_not, hb]
    apply BitVec.eq_of_getLsbD_eq
    intro i hi
    rw [BitVec.getLsbD_and, key, BitVec.getLsbD_not]
    by_cases h4 : i = k
    · subst h4
      rw [BitVec.getLsbD_eq_getElem hi] at h3
      simp [h3, hi]
    · simp [h4]
/-- the lowest level -/
def tkLow (x : Int32) : Prop := x = 0 ∨ x = 1 ∨ x = 2 ∨ x = 3 ∨ x = 4 ∨ x = 5 ∨ x = 6 ∨ x = 7
def tkBl (x : Int32) : Prop := x = 0 ∨ x = 1
theorem tkb_mod {x : Int32} (h : tkLow x) : ((x + 1) - (x + 1) / 8 * 8 = (x + 1) &&& 7 ∧ (x + 2) - (x + 2) / 8 * 8 = (x + 2) &&& 7 ∧ (x + 3) - (x + 3) / 8 * 8 = (x + 3) &&& 7 ∧ (x + 4) - (x + 4) / 8 * 8 = (x + 4) &&& 7) ∧ ((x + 5) - (x + 5) / 8 * 8 = (x + 5) &&& 7 ∧ (x + 6) - (x + 6) / 8 * 8 = (x + 6) &&& 7 ∧ (x + 7) - (x + 7) / 8 * 8 = (x + 7) &&& 7 ∧ (x + 8) - (x + 8) / 8 * 8 = (x + 8) &&& 7) := by
  rcases h with h | h | h | h | h | h | h | h <;> subst h <;> decide
theorem tkb_and7 (y : Int32) : tkLow (y &&& 7) := by
  obtain ⟨j, hj, e⟩ := pk_andE y (m := 7) 3 (by decide)
  rw [e]
  rcases (by omega : j = 0 ∨ j = 1 ∨ j = 2 ∨ j = 3 ∨ j = 4 ∨ j = 5 ∨ j = 6 ∨ j = 7) with h | h | h | h | h | h | h | h <;> subst h <;> unfold tkLow <;> decide
theorem tkb_mod8 {x : Int32} (h : tkLow x) : x - x / 8 * 8 = x := by
  rcases h with h | h | h | h | h | h | h | h <;> subst h <;> decide
theorem tkb_low_ne {x : Int32} (h : tkLow x) : ¬ x = (-1) ∧ ¬ x < 0 ∧ 0 ≤ x := by
  rcases h with h | h | h | h | h | h | h | h <;> subst h <;> decide
theorem tkb_byte {v : Int32} (h0 : ¬ v < 0) (h1 : v ≤ 255) : ∃ n : Nat, n < 256 ∧ v = Int32.ofInt n := by
  have z : (0 : Int32).toInt = 0 := by decide
  have z3 : (255 : Int32).toInt = 255 := by decide
  have a : ¬ v.toInt < (0 : Int32).toInt := fun h => h0 (tk_lt.mpr h)
  have b := tk_le.mp h1
  exact ⟨v.toInt.toNat, by omega, tk_eqI (by omega)⟩
theorem tkb_msk : ∀ n : Nat, n < 256 → ((((Int32.ofInt n) &&& 1 = 0 ↔ tkT_hasBit_r (Int32.ofInt n) 0 = 0) ∧ ((Int32.ofInt n) &&& 2 = 0 ↔ tkT_hasBit_r (Int32.ofInt n) 1 = 0) ∧ ((Int32.ofInt n) &&& 4 = 0 ↔ tkT_hasBit_r (Int32.ofInt n) 2 = 0) ∧ ((Int32.ofInt n) &&& 8 = 0 ↔ tkT_hasBit_r (Int32.ofInt n) 3 = 0)) ∧ (((Int32.ofInt n) &&& 16 = 0 ↔ tkT_hasBit_r (Int32.ofInt n) 4 = 0) ∧ ((Int32.ofInt n) &&& 32 = 0 ↔ tkT_hasBit_r (Int32.ofInt n) 5 = 0) ∧ ((Int32.ofInt n) &&& 64 = 0 ↔ tkT_hasBit_r (Int32.ofInt n) 6 = 0))) ∧ (Int32.ofInt n) &&& 248 = (Int32.ofInt n) &&& (-8) := by decide +kernel
theorem tkb_hb (x y : Int32) : tkT_hasBit_r x y = 0 ∨ tkT_hasBit_r x y = 1 := tkT_hasBit_b x y
theorem tkb_nar {x : Int32} (h : tkBl x) : vp_nar .boolean x = x := by
  rcases h with h | h <;> subst h <;> rfl
theorem tkb_shl8 {n : Nat} (h : n < 256) : nI n <<< ((8 : Int32) &&& 31) = nI (n * 256) := pk_shlN ((8 : Int32) &&& 31) 8 (by decide) (by omega)
theorem tkb_shr8 {n : Nat} (h : n < 65536) : nI n >>> ((8 : Int32) &&& 31) = nI (n / 256) := pk_shrN (by omega) ((8 : Int32) &&& 31) 8 (by decide)
theorem tkb_div8 {n : Nat} (h : n < 65536) : nI n / 256 = nI (n / 256) := pk_div (d := 256) (by omega) (by omega) (by omega)
theorem tkb_and255 {n : Nat} (h : n < 65536) : nI n &&& 255 = nI (n % 256) := pk_andN (by omega) 8 (by decide)
theorem tkb_rem256 {n : Nat} (h : n < 65536) : nI n - nI n / 256 * 256 = nI (n % 256) := pk_rem (d := 256) (by omega) (by omega) (by omega)
theorem tkb_or {a b : Nat} (ha : a < 256) (hb : b < 256) : nI (a * 256) ||| nI b = nI (a * 256 + b) := by
  apply Int32.toBitVec.inj
  rw [Int32.toBitVec_or]
  apply BitVec.eq_of_toNat_eq
  rw [BitVec.toNat_or, pk_tn (by omega), pk_tn (by omega), pk_tn (by omega)]
  have := Nat.shiftLeft_add_eq_or_of_lt (a := a) (b := b) (i := 8) (by omega)
  rw [Nat.shiftLeft_eq] at this
  exact this.symm
