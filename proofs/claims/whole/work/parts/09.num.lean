/-! small numbers as ints: bits, comparisons -/
theorem n_and (a b : Nat) : nI a &&& nI b = nI (a &&& b) := by
  apply Int32.toBitVec_inj.1
  show BitVec.ofNat 32 a &&& BitVec.ofNat 32 b = BitVec.ofNat 32 (a &&& b)
  apply BitVec.eq_of_getLsbD_eq
  intro i hi
  simp [hi]
theorem n_or (a b : Nat) : nI a ||| nI b = nI (a ||| b) := by
  apply Int32.toBitVec_inj.1
  show BitVec.ofNat 32 a ||| BitVec.ofNat 32 b = BitVec.ofNat 32 (a ||| b)
  apply BitVec.eq_of_getLsbD_eq
  intro i hi
  simp [hi]
theorem n_xor (a b : Nat) : nI a ^^^ nI b = nI (a ^^^ b) := by
  apply Int32.toBitVec_inj.1
  show BitVec.ofNat 32 a ^^^ BitVec.ofNat 32 b = BitVec.ofNat 32 (a ^^^ b)
  apply BitVec.eq_of_getLsbD_eq
  intro i hi
  simp [hi]
theorem n_sm : ∀ n, n < 32 → ((nI n &&& 31).toBitVec.smod 32).toNat = n := by decide +kernel
theorem n_shr {a k : Nat} (ha : a < 2147483648) (hk : k < 32) : nI a >>> (nI k &&& 31) = nI (a >>> k) := by
  rw [pk_shrN ha _ k (n_sm k hk), Nat.shiftRight_eq_div_pow]
theorem n_shl {a k : Nat} (hk : k < 32) (ha : a * 2 ^ k < 4294967296) : nI a <<< (nI k &&& 31) = nI (a <<< k) := by
  rw [pk_shlN _ k (n_sm k hk) ha, Nat.shiftLeft_eq]
/-- a without the bits of b -/
def nDel (a b : Nat) : Nat := a ^^^ (a &&& b)
theorem i_del (x y : Int32) : x &&& (y ^^^ (-1)) = x ^^^ (x &&& y) := by
  apply Int32.toBitVec_inj.1
  rw [Int32.toBitVec_and, Int32.toBitVec_xor, Int32.toBitVec_xor, Int32.toBitVec_and, show (-1 : Int32).toBitVec = BitVec.allOnes 32 from by decide]
  apply BitVec.eq_of_getElem_eq
  intro i hi
  rw [BitVec.getElem_and, BitVec.getElem_xor, BitVec.getElem_xor, BitVec.getElem_and, BitVec.getElem_allOnes]
  generalize x.toBitVec[i] = p
  generalize y.toBitVec[i] = q
  revert p q
  decide
theorem n_del (a b : Nat) : nI a &&& (nI b ^^^ (-1)) = nI (nDel a b) := by
  rw [i_del, n_and, n_xor]
  rfl
theorem nDel_bit (a b i : Nat) : (nDel a b).testBit i = (a.testBit i && !b.testBit i) := by
  unfold nDel
  rw [Nat.testBit_xor, Nat.testBit_and]
  generalize a.testBit i = p
  generalize b.testBit i = q
  revert p q
  decide
theorem n_eq0 {a : Nat} (ha : a < 2147483648) : nI a = 0 ↔ a = 0 := by
  rw [show (0 : Int32) = nI 0 from rfl]
  exact nI_eq ha (by omega)
theorem n_lt {a b : Nat} (ha : a < 2147483648) (hb : b < 2147483648) : nI a < nI b ↔ a < b := nI_ltI ha hb
theorem n_le {a b : Nat} (ha : a < 2147483648) (hb : b < 2147483648) : nI a ≤ nI b ↔ a ≤ b := nI_leI ha hb
theorem n_eq {a b : Nat} (ha : a < 2147483648) (hb : b < 2147483648) : nI a = nI b ↔ a = b := nI_eq ha hb
theorem n_lt0 {a : Nat} (ha : a < 2147483648) : nI a < 0 ↔ False := by
  rw [show (0 : Int32) = nI 0 from rfl, n_lt ha (by omega)]
  exact ⟨fun h => absurd h (Nat.not_lt_zero a), False.elim⟩
theorem n_ge0 {a : Nat} (ha : a < 2147483648) : 0 ≤ nI a ↔ True := by
  rw [show (0 : Int32) = nI 0 from rfl, n_le (by omega) ha]
  simp
theorem n_gt0 {a : Nat} (ha : a < 2147483648) : 0 < nI a ↔ 0 < a := by
  rw [show (0 : Int32) = nI 0 from rfl, n_lt (by omega) ha]
theorem n_le0 {a : Nat} (ha : a < 2147483648) : nI a ≤ 0 ↔ a = 0 := by
  rw [show (0 : Int32) = nI 0 from rfl, n_le ha (by omega)]
  omega
theorem n_cl {a : Nat} (ha : a < 2147483648) : (nI a).toNatClampNeg = a := nI_clamp ha
theorem n_in {a n : Nat} (h : a < n) (hn : n < 2147483648) : vp_in (nI a) n := vp_in_nI h hn
theorem n_add (a b : Nat) : nI a + nI b = nI (a + b) := nI_add a b
theorem n_mul (a b : Nat) : nI a * nI b = nI (a * b) := pk_mul a b
theorem n_sub {a b : Nat} (h : b ≤ a) : nI a - nI b = nI (a - b) := pk_sub h
theorem n_inc (a : Nat) : nI a + Int32.ofInt 1 = nI (a + 1) := nI_1 a
theorem n_bit1 (a k : Nat) : a >>> k &&& 1 = if a.testBit k then 1 else 0 := by
  unfold Nat.testBit
  rw [Nat.and_comm, Nat.and_comm 1 (a >>> k), Nat.and_comm (a >>> k) 1]
  rw [Nat.and_comm, Nat.and_one_is_mod]
  rcases Nat.mod_two_eq_zero_or_one (a >>> k) with h | h <;> simp [h]
theorem n_any (x : Int32) (n : Nat) (hn : n < 2147483648) : x < 0 ∨ nI n ≤ x ∨ ∃ j : Nat, j < n ∧ x = nI j := pk_ix x hn
theorem n_ne_m1 {a : Nat} (ha : a < 2147483648) : ¬ nI a = -1 := fun h => by
  have h2 := nI_toInt ha
  rw [h] at h2
  have h3 : (-1 : Int32).toInt = -1 := rfl
  omega
theorem n_ne_none {a : Nat} (ha : a < 2147483648) : ¬ nI a = -1000000 := fun h => by
  have h2 := nI_toInt ha
  rw [h] at h2
  have h3 : (-1000000 : Int32).toInt = -1000000 := rfl
  omega
