/-! sets of lessons as ints: their bits -/
def bI (x : Int) (i : Nat) : Bool := (Int32.ofInt x).toBitVec.getLsbD i
theorem ofI_n (l : Int) (h : 0 ≤ l) : Int32.ofInt l = nI l.toNat := by
  obtain ⟨n, rfl⟩ := Int.eq_ofNat_of_zero_le h
  rfl
theorem bI_to (x : Int32) (i : Nat) : bI x.toInt i = x.toBitVec.getLsbD i := by unfold bI; rw [Int32.ofInt_toInt]
theorem bI_or (a b : Int) (i : Nat) : bI (i_or a b) i = (bI a i || bI b i) := by
  unfold i_or i2; rw [bI_to]; unfold bI; rw [Int32.toBitVec_or, BitVec.getLsbD_or]
theorem bI_and (a b : Int) (i : Nat) : bI (i_and a b) i = (bI a i && bI b i) := by
  unfold i_and i2; rw [bI_to]; unfold bI; rw [Int32.toBitVec_and, BitVec.getLsbD_and]
theorem bI_xor (a b : Int) (i : Nat) : bI (i_xor a b) i = (bI a i ^^ bI b i) := by
  unfold i_xor i2; rw [bI_to]; unfold bI; rw [Int32.toBitVec_xor, BitVec.getLsbD_xor]
theorem bI_m1 : ∀ i, i < 32 → bI (-1) i = true := by decide +kernel
theorem bI_0 (i : Nat) : bI 0 i = false := by unfold bI; exact BitVec.getLsbD_zero
theorem bI_big {x : Int} {i : Nat} (h : 32 ≤ i) : bI x i = false := BitVec.getLsbD_of_ge _ _ h
theorem bI_not (a : Int) {i : Nat} (hi : i < 32) : bI (i_xor a (-1)) i = !bI a i := by rw [bI_xor, bI_m1 i hi, Bool.xor_true]
theorem bI_one : ∀ l, l < 32 → ∀ i, i < 32 → bI (i_shl 1 ((l : Nat) : Int)) i = decide (i = l) := by decide +kernel
theorem bI_shl {l : Int} (h0 : 0 ≤ l) (h1 : l < 32) (i : Nat) : bI (i_shl 1 l) i = decide ((i : Int) = l) := by
  obtain ⟨n, rfl⟩ := Int.eq_ofNat_of_zero_le h0
  by_cases hi : i < 32
  · rw [bI_one n (by omega) i hi]
    by_cases e : i = n
    · simp [e]
    · have : ¬ ((i : Int) = (n : Int)) := by omega
      simp [e, this]
  · rw [bI_big (by omega), eq_comm, decide_eq_false_iff_not]
    show ¬ (i : Int) = (n : Int)
    omega
theorem in_or (a b : Int) : in32 (i_or a b) := ⟨Int32.le_toInt _, Int32.toInt_lt _⟩
theorem in_and (a b : Int) : in32 (i_and a b) := ⟨Int32.le_toInt _, Int32.toInt_lt _⟩
theorem in_xor (a b : Int) : in32 (i_xor a b) := ⟨Int32.le_toInt _, Int32.toInt_lt _⟩
theorem in_shl (a b : Int) : in32 (i_shl a b) := ⟨Int32.le_toInt _, Int32.toInt_lt _⟩
theorem bI_ext {a b : Int} (ha : in32 a) (hb : in32 b) (h : ∀ i, i < 32 → bI a i = bI b i) : a = b := by
  have e : Int32.ofInt a = Int32.ofInt b := Int32.toBitVec_inj.mp (BitVec.eq_of_getLsbD_eq (fun i hi => h i hi))
  have h1 : w32 a = w32 b := by unfold w32; rw [e]
  rwa [w32_id ha.1 ha.2, w32_id hb.1 hb.2] at h1
theorem z32 : in32 0 := ⟨by decide, by decide⟩
theorem and1_0 {x l : Int} (h0 : 0 ≤ l) (h1 : l < 32) : i_and x (i_shl 1 l) = 0 ↔ bI x l.toNat = false := by
  constructor
  · intro e
    have : bI (i_and x (i_shl 1 l)) l.toNat = false := by rw [e, bI_0]
    rw [bI_and, bI_shl h0 h1, decide_eq_true (by omega), Bool.and_true] at this
    exact this
  · intro e
    refine bI_ext (in_and _ _) z32 (fun i hi => ?_)
    rw [bI_and, bI_shl h0 h1, bI_0]
    by_cases c : (i : Int) = l
    · have : i = l.toNat := by omega
      rw [this, e, Bool.false_and]
    · rw [decide_eq_false c, Bool.and_false]
theorem toI_inj1 (x : Int32) : x.toInt = 1 ↔ x = 1 := ⟨fun h => Int32.toInt_inj.mp h, fun h => by rw [h]; rfl⟩
theorem bI_shr {x l : Int} (h0 : 0 ≤ l) (h1 : l < 32) (i : Nat) (hi : i < 32) : bI (i_shr x l) i = if l.toNat + i < 32 then bI x (l.toNat + i) else bI x 31 := by
  unfold i_shr i2
  rw [bI_to, ofI_n l h0]
  have hs : ∀ n, n < 32 → ((nI n &&& 31).toBitVec.smod 32).toNat = n := by decide +kernel
  rw [Int32.toBitVec_shiftRight]
  show ((Int32.ofInt x).toBitVec.sshiftRight ((nI l.toNat &&& 31).toBitVec.smod 32).toNat).getLsbD i = _
  rw [hs _ (by omega), BitVec.getLsbD_sshiftRight, BitVec.msb_eq_getLsbD_last]
  unfold bI
  simp [hi]
theorem has_1 {x l : Int} (h0 : 0 ≤ l) (h1 : l < 32) : i_and (i_shr x l) 1 = 1 ↔ bI x l.toNat = true := by
  have b1 : ∀ i, i < 32 → bI 1 i = decide (i = 0) := by decide +kernel
  have hb : ∀ i, i < 32 → bI (i_and (i_shr x l) 1) i = (decide (i = 0) && bI x l.toNat) := by
    intro i hi
    rw [bI_and, b1 i hi, bI_shr h0 h1 i hi]
    by_cases c : i = 0
    · subst c
      rw [if_pos (by omega), Nat.add_zero, decide_eq_true rfl, Bool.and_true, Bool.true_and]
    · rw [decide_eq_false c, Bool.and_false, Bool.false_and]
  constructor
  · intro e
    have := hb 0 (by omega)
    rw [e, b1 0 (by omega), decide_eq_true rfl, Bool.true_and] at this
    exact this.symm
  · intro e
    refine bI_ext (in_and _ _) ⟨by decide, by decide⟩ (fun i hi => ?_)
    rw [hb i hi, e, b1 i hi, Bool.and_true]
/-- x is a set of the first n lessons -/
theorem bI_nat {x : Nat} (hx : x < 2147483648) (i : Nat) : bI (x : Int) i = x.testBit i := by
  unfold bI
  rw [show Int32.ofInt (x : Int) = nI x from rfl]
  show (BitVec.ofNat 32 x).getLsbD i = _
  rw [BitVec.getLsbD_ofNat]
  by_cases hi : i < 32
  · simp [hi]
  · have : x.testBit i = false := Nat.testBit_lt_two_pow (Nat.lt_of_lt_of_le hx (by
      have : 2 ^ 31 ≤ 2 ^ i := Nat.pow_le_pow_right (by decide) (by omega)
      omega))
    simp [hi, this]
theorem bI_hi {x : Int} {n i : Nat} (h0 : 0 ≤ x) (h1 : x < 2 ^ n) (hn : n ≤ 31) (hi : n ≤ i) : bI x i = false := by
  obtain ⟨y, rfl⟩ := Int.eq_ofNat_of_zero_le h0
  have hp : 2 ^ n ≤ 2 ^ 31 := Nat.pow_le_pow_right (by decide) hn
  have hq : 2 ^ n ≤ 2 ^ i := Nat.pow_le_pow_right (by decide) hi
  have h2 : y < 2 ^ n := by
    have : ((2 ^ n : Nat) : Int) = (2 : Int) ^ n := by push_cast; rfl
    have h3 : (y : Int) < ((2 ^ n : Nat) : Int) := by rw [this]; exact h1
    omega
  rw [bI_nat (by omega)]
  exact Nat.testBit_lt_two_pow (by omega)
theorem bI_rng {x : Int} {n : Nat} (hx : in32 x) (hn : n ≤ 31) (h : ∀ i, n ≤ i → i < 32 → bI x i = false) : 0 ≤ x ∧ x < 2 ^ n := by
  have hv : (Int32.ofInt x).toBitVec.toNat < 2 ^ n := by
    refine Nat.lt_pow_two_of_testBit _ (fun i hi => ?_)
    by_cases c : i < 32
    · have := h i hi c
      unfold bI at this
      rw [← BitVec.testBit_toNat] at this
      exact this
    · exact Nat.testBit_lt_two_pow (Nat.lt_of_lt_of_le (Int32.ofInt x).toBitVec.isLt (Nat.pow_le_pow_right (by decide) (by omega)))
  have hp : 2 ^ n ≤ 2 ^ 31 := Nat.pow_le_pow_right (by decide) hn
  have e : w32 x = ((Int32.ofInt x).toBitVec.toNat : Int) := by
    unfold w32
    show (Int32.ofInt x).toBitVec.toInt = _
    rw [BitVec.toInt_eq_toNat_cond, if_pos (by omega)]
  rw [w32_id hx.1 hx.2] at e
  have : ((2 ^ n : Nat) : Int) = (2 : Int) ^ n := by push_cast; rfl
  rw [← this]
  omega
