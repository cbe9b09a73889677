/-! how many bits: of a long; what can be reached, of the class -/
def repN (b : Nat) : Nat → Nat
  | 0 => 0
  | k + 1 => b + 256 * repN b k
theorem tb8 {a : Nat} (b i : Nat) (h : a < 256) : (a + 256 * b).testBit i = if i < 8 then a.testBit i else b.testBit (i - 8) := by
  rw [Nat.add_comm, show 256 = 2 ^ 8 from rfl]
  exact Nat.testBit_two_pow_mul_add b h i
theorem sh_and {lo hi s m M : Nat} (hl : lo < 256) (hs : s ≤ 8) (hm : m < 2 ^ (8 - s)) : ((lo + 256 * hi) >>> s) &&& (m + 256 * M) = ((lo >>> s) &&& m) + 256 * ((hi >>> s) &&& M) := by
  have hp : 2 ^ (8 - s) ≤ 2 ^ 8 := Nat.pow_le_pow_right (by omega) (by omega)
  have e8 : 2 ^ 8 = 256 := rfl
  have hm8 : m < 256 := by omega
  have ha : (lo >>> s) &&& m < 256 := Nat.lt_of_le_of_lt Nat.and_le_right hm8
  apply Nat.eq_of_testBit_eq
  intro i
  rw [tb8 _ _ ha, Nat.testBit_and, Nat.testBit_shiftRight, tb8 _ _ hl, tb8 _ _ hm8]
  by_cases q : i < 8
  · rw [if_pos q, if_pos q, Nat.testBit_and, Nat.testBit_shiftRight]
    by_cases w : s + i < 8
    · rw [if_pos w]
    · have hp2 : 2 ^ (8 - s) ≤ 2 ^ i := Nat.pow_le_pow_right (by omega) (by omega)
      rw [Nat.testBit_lt_two_pow (show m < 2 ^ i by omega), Bool.and_false, Bool.and_false]
  · rw [if_neg q, if_neg q, if_neg (show ¬ s + i < 8 by omega), Nat.testBit_and, Nat.testBit_shiftRight, show s + i - 8 = s + (i - 8) by omega]
theorem and_8 {lo hi m M : Nat} (hl : lo < 256) (hm : m < 256) : (lo + 256 * hi) &&& (m + 256 * M) = (lo &&& m) + 256 * (hi &&& M) := sh_and (s := 0) hl (by omega) hm
def g1 (k n : Nat) : Nat := n - ((n >>> 1) &&& repN 85 k)
def g2 (k n : Nat) : Nat := (n &&& repN 51 k) + ((n >>> 2) &&& repN 51 k)
def g3 (k n : Nat) : Nat := (n + (n >>> 4)) &&& repN 15 k
def spN : Nat → Nat → Nat
  | 0, _ => 0
  | k + 1, n => pc8 (n % 256) + 256 * spN k (n / 256)
def f1 (n : Nat) : Nat := n - ((n >>> 1) &&& 85)
def f2 (n : Nat) : Nat := (n &&& 51) + ((n >>> 2) &&& 51)
theorem byte_ok : ∀ n, n < 256 → f1 n < 256 ∧ f2 (f1 n) ≤ 68 ∧ f2 (f1 n) % 16 ≤ 4 ∧ (f2 (f1 n) + f2 (f1 n) / 16) % 16 = pc8 n ∧ pc8 n ≤ 8 := by decide +kernel
theorem g1_s {lo hi k : Nat} (hl : lo < 256) : g1 (k + 1) (lo + 256 * hi) = f1 lo + 256 * g1 k hi := by
  show (lo + 256 * hi) - (((lo + 256 * hi) >>> 1) &&& (85 + 256 * repN 85 k)) = (lo - ((lo >>> 1) &&& 85)) + 256 * (hi - ((hi >>> 1) &&& repN 85 k))
  rw [sh_and hl (by omega) (by decide)]
  have a : (lo >>> 1) &&& 85 ≤ lo >>> 1 := Nat.and_le_left
  have b : (hi >>> 1) &&& repN 85 k ≤ hi >>> 1 := Nat.and_le_left
  rw [Nat.shiftRight_eq_div_pow] at a b
  rw [Nat.shiftRight_eq_div_pow, Nat.shiftRight_eq_div_pow]
  generalize lo / 2 ^ 1 &&& 85 = u at a
  generalize hi / 2 ^ 1 &&& repN 85 k = v at b
  omega
theorem g2_s {lo hi k : Nat} (hl : lo < 256) : g2 (k + 1) (lo + 256 * hi) = f2 lo + 256 * g2 k hi := by
  show ((lo + 256 * hi) &&& (51 + 256 * repN 51 k)) + (((lo + 256 * hi) >>> 2) &&& (51 + 256 * repN 51 k)) = ((lo &&& 51) + ((lo >>> 2) &&& 51)) + 256 * ((hi &&& repN 51 k) + ((hi >>> 2) &&& repN 51 k))
  rw [sh_and hl (by omega) (by decide), and_8 hl (by decide)]
  omega
theorem g3_s {lo hi k : Nat} (hl : lo ≤ 68) (hh : hi % 16 ≤ 4) : g3 (k + 1) (lo + 256 * hi) = (lo + lo / 16) % 16 + 256 * g3 k hi := by
  show ((lo + 256 * hi) + ((lo + 256 * hi) >>> 4)) &&& (15 + 256 * repN 15 k) = _ + 256 * ((hi + (hi >>> 4)) &&& repN 15 k)
  rw [Nat.shiftRight_eq_div_pow, Nat.shiftRight_eq_div_pow, show lo + 256 * hi + (lo + 256 * hi) / 2 ^ 4 = (lo + lo / 16 + 16 * (hi % 16)) + 256 * (hi + hi / 2 ^ 4) by omega, and_8 (by omega) (by decide)]
  have e : (lo + lo / 16 + 16 * (hi % 16)) &&& 15 = (lo + lo / 16 + 16 * (hi % 16)) % 16 := Nat.and_two_pow_sub_one_eq_mod _ 4
  rw [e]
  omega
theorem g_all : ∀ k n, n < 256 ^ k → g2 k (g1 k n) % 16 ≤ 4 ∧ g3 k (g2 k (g1 k n)) = spN k n ∧ g1 k n ≤ n ∧ 255 * g2 k (g1 k n) + 68 ≤ 68 * 256 ^ k
  | 0, n, h => by
    have e : n = 0 := by
      have : 256 ^ 0 = 1 := rfl
      omega
    subst e
    decide
  | k + 1, n, h => by
    have hn : n = n % 256 + 256 * (n / 256) := by omega
    have hb := byte_ok (n % 256) (Nat.mod_lt _ (by omega))
    have hk : n / 256 < 256 ^ k := by
      rw [Nat.pow_succ] at h
      omega
    have ih := g_all k (n / 256) hk
    have e1 : g1 (k + 1) n = f1 (n % 256) + 256 * g1 k (n / 256) := by
      have := g1_s (lo := n % 256) (hi := n / 256) (k := k) (Nat.mod_lt _ (by omega))
      rw [← hn] at this
      exact this
    have e2 := g2_s (lo := f1 (n % 256)) (hi := g1 k (n / 256)) (k := k) hb.1
    have e3 := g3_s (lo := f2 (f1 (n % 256))) (hi := g2 k (g1 k (n / 256))) (k := k) hb.2.1 ih.1
    have hle : f1 (n % 256) ≤ n % 256 := Nat.sub_le _ _
    refine ⟨?_, ?_, ?_, ?_⟩
    · rw [e1, e2, show f2 (f1 (n % 256)) + 256 * g2 k (g1 k (n / 256)) = f2 (f1 (n % 256)) + 16 * (16 * g2 k (g1 k (n / 256))) by omega, Nat.add_mul_mod_self_left]
      exact hb.2.2.1
    · rw [e1, e2, e3, ih.2.1, hb.2.2.2.1]; rfl
    · rw [e1]; omega
    · have l := ih.2.2.2
      have l2 := hb.2.1
      have hp : 256 ^ (k + 1) = 256 ^ k * 256 := Nat.pow_succ 256 k
      rw [e1, e2, hp]
      generalize 256 ^ k = P at l
      generalize g2 k (g1 k (n / 256)) = u at l
      generalize f2 (f1 (n % 256)) = v at l2
      clear ih e1 e2 e3 hb hk h hp
      omega
theorem spN_tot : ∀ n, ∃ a b c d e f g h, a ≤ 8 ∧ b ≤ 8 ∧ c ≤ 8 ∧ d ≤ 8 ∧ e ≤ 8 ∧ f ≤ 8 ∧ g ≤ 8 ∧ h ≤ 8 ∧ spN 8 n = a + 256 * (b + 256 * (c + 256 * (d + 256 * (e + 256 * (f + 256 * (g + 256 * h)))))) ∧ sumN 64 (fun i => n / 2 ^ i % 2) = a + b + c + d + e + f + g + h := by
  intro n
  have h8 : ∀ n, sumN 8 (fun i => n / 2 ^ i % 2) = pc8 (n % 256) := by
    intro n
    have q : ∀ n, n < 256 → sumN 8 (fun i => n / 2 ^ i % 2) = pc8 n := by decide +kernel
    rw [← q (n % 256) (Nat.mod_lt _ (by omega))]
    refine sumN_cg 8 (fun i hi => ?_)
    rcases (by omega : i = 0 ∨ i = 1 ∨ i = 2 ∨ i = 3 ∨ i = 4 ∨ i = 5 ∨ i = 6 ∨ i = 7) with rfl | rfl | rfl | rfl | rfl | rfl | rfl | rfl <;> omega
  have hs : ∀ b n, sumN (8 + b) (fun i => n / 2 ^ i % 2) = pc8 (n % 256) + sumN b (fun i => n / 256 / 2 ^ i % 2) := by
    intro b n
    rw [sumN_app, h8]
    congr 1
    refine sumN_cg b (fun i _ => ?_)
    rw [Nat.div_div_eq_div_mul, Nat.pow_add]
  have pb : ∀ n, pc8 (n % 256) ≤ 8 := fun n => (byte_ok (n % 256) (Nat.mod_lt _ (by omega))).2.2.2.2
  refine ⟨pc8 (n % 256), pc8 (n / 256 % 256), pc8 (n / 256 / 256 % 256), pc8 (n / 256 / 256 / 256 % 256), pc8 (n / 256 / 256 / 256 / 256 % 256), pc8 (n / 256 / 256 / 256 / 256 / 256 % 256), pc8 (n / 256 / 256 / 256 / 256 / 256 / 256 % 256), pc8 (n / 256 / 256 / 256 / 256 / 256 / 256 / 256 % 256), pb n, pb (n / 256), pb (n / 256 / 256), pb (n / 256 / 256 / 256), pb (n / 256 / 256 / 256 / 256), pb (n / 256 / 256 / 256 / 256 / 256), pb (n / 256 / 256 / 256 / 256 / 256 / 256), pb (n / 256 / 256 / 256 / 256 / 256 / 256 / 256), by simp only [spN, Nat.mul_zero, Nat.add_zero], ?_⟩
  rw [show 64 = 8 + 56 from rfl, hs, show 56 = 8 + 48 from rfl, hs, show 48 = 8 + 40 from rfl, hs, show 40 = 8 + 32 from rfl, hs, show 32 = 8 + 24 from rfl, hs, show 24 = 8 + 16 from rfl, hs, show 16 = 8 + 8 from rfl, hs, h8]
  omega
theorem l_and (a b : Nat) : lN a &&& lN b = lN (a &&& b) := by
  apply Int64.toBitVec_inj.1
  show BitVec.ofNat 64 a &&& BitVec.ofNat 64 b = BitVec.ofNat 64 (a &&& b)
  apply BitVec.eq_of_getLsbD_eq
  intro i hi
  simp [hi]
theorem l_or (a b : Nat) : lN a ||| lN b = lN (a ||| b) := by
  apply Int64.toBitVec_inj.1
  show BitVec.ofNat 64 a ||| BitVec.ofNat 64 b = BitVec.ofNat 64 (a ||| b)
  apply BitVec.eq_of_getLsbD_eq
  intro i hi
  simp [hi]
theorem l_add (a b : Nat) : lN a + lN b = lN (a + b) := (Int64.ofNat_add a b).symm
theorem l_sub {a b : Nat} (h : b ≤ a) : lN a - lN b = lN (a - b) := by
  have e : lN a = lN (a - b) + lN b := by
    rw [l_add, Nat.sub_add_cancel h]
  rw [e]
  apply Int64.toBitVec_inj.1
  show (lN (a - b)).toBitVec + (lN b).toBitVec - (lN b).toBitVec = _
  rw [BitVec.add_sub_cancel]
theorem l_ushr {a k : Nat} (ha : a < 18446744073709551616) (s : UInt64) (hs : (s % 64).toNat = k) : ((lN a).toUInt64 >>> s).toInt64 = lN (a >>> k) := by
  apply Int64.toBitVec_inj.1
  have e1 : ((lN a).toUInt64 >>> s).toInt64.toBitVec = (lN a).toBitVec >>> (s % 64).toBitVec := rfl
  rw [e1, BitVec.ushiftRight_eq']
  apply BitVec.eq_of_toNat_eq
  have e2 : (lN a).toBitVec.toNat = a := by
    show (BitVec.ofNat 64 a).toNat = a
    rw [BitVec.toNat_ofNat]
    exact Nat.mod_eq_of_lt ha
  have e3 : (lN (a >>> k)).toBitVec.toNat = a >>> k := by
    show (BitVec.ofNat 64 (a >>> k)).toNat = a >>> k
    rw [BitVec.toNat_ofNat]
    refine Nat.mod_eq_of_lt (Nat.lt_of_le_of_lt ?_ ha)
    rw [Nat.shiftRight_eq_div_pow]
    exact Nat.div_le_self _ _
  have e4 : (s % 64).toBitVec.toNat = k := hs
  rw [BitVec.toNat_ushiftRight, e2, e3, e4]
theorem l_int (a : Nat) : (lN a).toInt32 = nI a := Int64.toInt32_ofNat'
theorem l_shl {a : Nat} (ha : a < 64) : (1 : Int64) <<< ((nI a).toInt64 &&& 63) = lN (2 ^ a) := by
  have q : ∀ n, n < 64 → (1 : Int64) <<< ((nI n).toInt64 &&& 63) = lN (2 ^ n) := by decide +kernel
  exact q a ha
theorem swar {a b c d e f g k y : Nat} (ha : a ≤ 8) (hb : b ≤ 8) (hc : c ≤ 8) (hd : d ≤ 8) (he : e ≤ 8) (hf : f ≤ 8) (hg : g ≤ 8) (hk : k ≤ 8) (hy : y = a + 256 * (b + 256 * (c + 256 * (d + 256 * (e + 256 * (f + 256 * (g + 256 * k))))))) : y < 18446744073709551616 / 4 ∧ ∃ y1 y2 y3, y1 = y + y / 2 ^ 8 ∧ y1 < 18446744073709551616 / 4 ∧ y2 = y1 + y1 / 2 ^ 16 ∧ y2 < 18446744073709551616 / 4 ∧ y3 = y2 + y2 / 2 ^ 32 ∧ y3 % 2 ^ 7 = a + b + c + d + e + f + g + k := by
  refine ⟨by omega, _, _, _, rfl, ?_, rfl, ?_, rfl, ?_⟩
  · omega
  · have h1 : y + y / 2 ^ 8 = (a + b) + 256 * ((b + c) + 256 * ((c + d) + 256 * ((d + e) + 256 * ((e + f) + 256 * ((f + g) + 256 * ((g + k) + 256 * k)))))) := by omega
    rw [h1]
    clear h1 hy
    omega
  · have h1 : y + y / 2 ^ 8 = (a + b) + 256 * ((b + c) + 256 * ((c + d) + 256 * ((d + e) + 256 * ((e + f) + 256 * ((f + g) + 256 * ((g + k) + 256 * k)))))) := by omega
    rw [h1]
    clear h1 hy
    have h2 : (a + b) + 256 * ((b + c) + 256 * ((c + d) + 256 * ((d + e) + 256 * ((e + f) + 256 * ((f + g) + 256 * ((g + k) + 256 * k)))))) + ((a + b) + 256 * ((b + c) + 256 * ((c + d) + 256 * ((d + e) + 256 * ((e + f) + 256 * ((f + g) + 256 * ((g + k) + 256 * k))))))) / 2 ^ 16 = (a + b + c + d) + 256 * ((b + c + d + e) + 256 * ((c + d + e + f) + 256 * ((d + e + f + g) + 256 * ((e + f + g + k) + 256 * ((f + g + k) + 256 * ((g + k) + 256 * k)))))) := by omega
    rw [h2]
    clear h2
    have h3 : ((a + b + c + d) + 256 * ((b + c + d + e) + 256 * ((c + d + e + f) + 256 * ((d + e + f + g) + 256 * ((e + f + g + k) + 256 * ((f + g + k) + 256 * ((g + k) + 256 * k))))))) / 2 ^ 32 = (e + f + g + k) + 256 * ((f + g + k) + 256 * ((g + k) + 256 * k)) := by omega
    rw [h3]
    clear h3
    generalize (f + g + k) + 256 * ((g + k) + 256 * k) = z1
    generalize (b + c + d + e) + 256 * ((c + d + e + f) + 256 * ((d + e + f + g) + 256 * ((e + f + g + k) + 256 * z1))) = z2
    omega
theorem l_us1 {a : Nat} (ha : a < 18446744073709551616) : ((lN a).toUInt64 >>> ((nI 1).toInt64.toUInt64 &&& Int64.toUInt64 63)).toInt64 = lN (a >>> 1) := l_ushr ha _ (by decide +kernel)
theorem l_us2 {a : Nat} (ha : a < 18446744073709551616) : ((lN a).toUInt64 >>> ((nI 2).toInt64.toUInt64 &&& Int64.toUInt64 63)).toInt64 = lN (a >>> 2) := l_ushr ha _ (by decide +kernel)
theorem l_us4 {a : Nat} (ha : a < 18446744073709551616) : ((lN a).toUInt64 >>> ((nI 4).toInt64.toUInt64 &&& Int64.toUInt64 63)).toInt64 = lN (a >>> 4) := l_ushr ha _ (by decide +kernel)
theorem l_us8 {a : Nat} (ha : a < 18446744073709551616) : ((lN a).toUInt64 >>> ((nI 8).toInt64.toUInt64 &&& Int64.toUInt64 63)).toInt64 = lN (a >>> 8) := l_ushr ha _ (by decide +kernel)
theorem l_us16 {a : Nat} (ha : a < 18446744073709551616) : ((lN a).toUInt64 >>> ((nI 16).toInt64.toUInt64 &&& Int64.toUInt64 63)).toInt64 = lN (a >>> 16) := l_ushr ha _ (by decide +kernel)
theorem l_us32 {a : Nat} (ha : a < 18446744073709551616) : ((lN a).toUInt64 >>> ((nI 32).toInt64.toUInt64 &&& Int64.toUInt64 63)).toInt64 = lN (a >>> 32) := l_ushr ha _ (by decide +kernel)
abbrev e_J13_bitCount_95d88 : ME := (cJ13_bitCount_95d88, ("java/lang/Long", (2, ((some .int), (0, (0, 1))))))
theorem dJ13_bitCount_95d88_0 : decode cJ13_bitCount_95d88 0 = .ok (.lload_n 0, 1) := by decide +kernel
theorem dJ13_bitCount_95d88_1 : decode cJ13_bitCount_95d88 1 = .ok (.lload_n 0, 1) := by decide +kernel
theorem dJ13_bitCount_95d88_2 : decode cJ13_bitCount_95d88 2 = .ok (.iconst 1, 1) := by decide +kernel
theorem dJ13_bitCount_95d88_3 : decode cJ13_bitCount_95d88 3 = .ok (.lushr, 1) := by decide +kernel
theorem dJ13_bitCount_95d88_4 : decode cJ13_bitCount_95d88 4 = .ok (.ldc2_w 314, 3) := by decide +kernel
theorem dJ13_bitCount_95d88_7 : decode cJ13_bitCount_95d88 7 = .ok (.land, 1) := by decide +kernel
theorem dJ13_bitCount_95d88_8 : decode cJ13_bitCount_95d88 8 = .ok (.lsub, 1) := by decide +kernel
theorem dJ13_bitCount_95d88_9 : decode cJ13_bitCount_95d88 9 = .ok (.lstore_n 0, 1) := by decide +kernel
theorem dJ13_bitCount_95d88_10 : decode cJ13_bitCount_95d88 10 = .ok (.lload_n 0, 1) := by decide +kernel
theorem dJ13_bitCount_95d88_11 : decode cJ13_bitCount_95d88 11 = .ok (.ldc2_w 316, 3) := by decide +kernel
theorem dJ13_bitCount_95d88_14 : decode cJ13_bitCount_95d88 14 = .ok (.land, 1) := by decide +kernel
theorem dJ13_bitCount_95d88_15 : decode cJ13_bitCount_95d88 15 = .ok (.lload_n 0, 1) := by decide +kernel
theorem dJ13_bitCount_95d88_16 : decode cJ13_bitCount_95d88 16 = .ok (.iconst 2, 1) := by decide +kernel
theorem dJ13_bitCount_95d88_17 : decode cJ13_bitCount_95d88 17 = .ok (.lushr, 1) := by decide +kernel
theorem dJ13_bitCount_95d88_18 : decode cJ13_bitCount_95d88 18 = .ok (.ldc2_w 316, 3) := by decide +kernel
theorem dJ13_bitCount_95d88_21 : decode cJ13_bitCount_95d88 21 = .ok (.land, 1) := by decide +kernel
theorem dJ13_bitCount_95d88_22 : decode cJ13_bitCount_95d88 22 = .ok (.ladd, 1) := by decide +kernel
theorem dJ13_bitCount_95d88_23 : decode cJ13_bitCount_95d88 23 = .ok (.lstore_n 0, 1) := by decide +kernel
theorem dJ13_bitCount_95d88_24 : decode cJ13_bitCount_95d88 24 = .ok (.lload_n 0, 1) := by decide +kernel
theorem dJ13_bitCount_95d88_25 : decode cJ13_bitCount_95d88 25 = .ok (.lload_n 0, 1) := by decide +kernel
theorem dJ13_bitCount_95d88_26 : decode cJ13_bitCount_95d88 26 = .ok (.iconst 4, 1) := by decide +kernel
theorem dJ13_bitCount_95d88_27 : decode cJ13_bitCount_95d88 27 = .ok (.lushr, 1) := by decide +kernel
theorem dJ13_bitCount_95d88_28 : decode cJ13_bitCount_95d88 28 = .ok (.ladd, 1) := by decide +kernel
theorem dJ13_bitCount_95d88_29 : decode cJ13_bitCount_95d88 29 = .ok (.ldc2_w 318, 3) := by decide +kernel
theorem dJ13_bitCount_95d88_32 : decode cJ13_bitCount_95d88 32 = .ok (.land, 1) := by decide +kernel
theorem dJ13_bitCount_95d88_33 : decode cJ13_bitCount_95d88 33 = .ok (.lstore_n 0, 1) := by decide +kernel
theorem dJ13_bitCount_95d88_34 : decode cJ13_bitCount_95d88 34 = .ok (.lload_n 0, 1) := by decide +kernel
theorem dJ13_bitCount_95d88_35 : decode cJ13_bitCount_95d88 35 = .ok (.lload_n 0, 1) := by decide +kernel
theorem dJ13_bitCount_95d88_36 : decode cJ13_bitCount_95d88 36 = .ok (.bipush 8, 2) := by decide +kernel
theorem dJ13_bitCount_95d88_38 : decode cJ13_bitCount_95d88 38 = .ok (.lushr, 1) := by decide +kernel
theorem dJ13_bitCount_95d88_39 : decode cJ13_bitCount_95d88 39 = .ok (.ladd, 1) := by decide +kernel
theorem dJ13_bitCount_95d88_40 : decode cJ13_bitCount_95d88 40 = .ok (.lstore_n 0, 1) := by decide +kernel
theorem dJ13_bitCount_95d88_41 : decode cJ13_bitCount_95d88 41 = .ok (.lload_n 0, 1) := by decide +kernel
theorem dJ13_bitCount_95d88_42 : decode cJ13_bitCount_95d88 42 = .ok (.lload_n 0, 1) := by decide +kernel
theorem dJ13_bitCount_95d88_43 : decode cJ13_bitCount_95d88 43 = .ok (.bipush 16, 2) := by decide +kernel
theorem dJ13_bitCount_95d88_45 : decode cJ13_bitCount_95d88 45 = .ok (.lushr, 1) := by decide +kernel
theorem dJ13_bitCount_95d88_46 : decode cJ13_bitCount_95d88 46 = .ok (.ladd, 1) := by decide +kernel
theorem dJ13_bitCount_95d88_47 : decode cJ13_bitCount_95d88 47 = .ok (.lstore_n 0, 1) := by decide +kernel
theorem dJ13_bitCount_95d88_48 : decode cJ13_bitCount_95d88 48 = .ok (.lload_n 0, 1) := by decide +kernel
theorem dJ13_bitCount_95d88_49 : decode cJ13_bitCount_95d88 49 = .ok (.lload_n 0, 1) := by decide +kernel
theorem dJ13_bitCount_95d88_50 : decode cJ13_bitCount_95d88 50 = .ok (.bipush 32, 2) := by decide +kernel
theorem dJ13_bitCount_95d88_52 : decode cJ13_bitCount_95d88 52 = .ok (.lushr, 1) := by decide +kernel
theorem dJ13_bitCount_95d88_53 : decode cJ13_bitCount_95d88 53 = .ok (.ladd, 1) := by decide +kernel
theorem dJ13_bitCount_95d88_54 : decode cJ13_bitCount_95d88 54 = .ok (.lstore_n 0, 1) := by decide +kernel
theorem dJ13_bitCount_95d88_55 : decode cJ13_bitCount_95d88 55 = .ok (.lload_n 0, 1) := by decide +kernel
theorem dJ13_bitCount_95d88_56 : decode cJ13_bitCount_95d88 56 = .ok (.l2i, 1) := by decide +kernel
theorem dJ13_bitCount_95d88_57 : decode cJ13_bitCount_95d88 57 = .ok (.bipush 127, 2) := by decide +kernel
theorem dJ13_bitCount_95d88_59 : decode cJ13_bitCount_95d88 59 = .ok (.iand, 1) := by decide +kernel
theorem dJ13_bitCount_95d88_60 : decode cJ13_bitCount_95d88 60 = .ok (.ireturn, 1) := by decide +kernel
def Sp_J13_bitCount_95d88 (av : List AV) (m : AM) (Φ : Option AV → AM → Prop) : Prop := ∃ x, av = [vl x] ∧ ∃ n, x = lN n ∧ n < 18446744073709551616 ∧ Φ (some (vi (nI (sumN 64 (fun i => n / 2 ^ i % 2))))) m
set_option maxRecDepth 20000 in
set_option maxHeartbeats 4000000 in
theorem S_J13_bitCount_95d88 : Snd yJ13_bitCount_95d88 e_J13_bitCount_95d88 Sp_J13_bitCount_95d88 := by
  refine Snd.of (by decide +kernel) rfl ?_ ?_
  · rintro av m Φ ⟨x, rfl, _⟩; exact Nat.le_of_ble_eq_true rfl
  rintro av m Φ ⟨x, rfl, n, rfl, hn, h⟩ hav hty
  show B e_J13_bitCount_95d88 Φ 0 [some (vl (lN n)), none] [] m (0, 0)
  have e5 : (6148914691236517205 : Int64) = lN (repN 85 8) := by decide +kernel
  have e3 : (3689348814741910323 : Int64) = lN (repN 51 8) := by decide +kernel
  have ef : (1085102592571150095 : Int64) = lN (repN 15 8) := by decide +kernel
  have hg := g_all 8 n (by omega)
  have hu : g2 8 (g1 8 n) < 18446744073709551616 / 2 := by
    have := hg.2.2.2
    have e : (256 : Nat) ^ 8 = 18446744073709551616 := by decide
    omega
  obtain ⟨a, b, c, d, e, f, g, k, ha, hb, hc, hd, he, hf, hgg, hk, ht, hs⟩ := spN_tot n
  rw [hs] at h
  refine b_lloadN (pc := 0) 0 dJ13_bitCount_95d88_0 rfl rfl ?_
  refine b_lloadN (pc := 1) 0 dJ13_bitCount_95d88_1 rfl rfl ?_
  refine b_iconst (pc := 2) (nI 1) dJ13_bitCount_95d88_2 (by decide) ?_
  refine b_lushr (pc := 3) dJ13_bitCount_95d88_3 ?_
  refine b_ldc2 (pc := 4) k855 dJ13_bitCount_95d88_4 ?_
  refine b_land (pc := 7) dJ13_bitCount_95d88_7 ?_
  refine b_lsub (pc := 8) dJ13_bitCount_95d88_8 ?_
  refine slN0 (pc := 9) rfl (by decide) dJ13_bitCount_95d88_9 ?_
  rotate_left -- leaf 0: at 10
  -- leaves: 0 at 10
  have l1 : (n >>> 1) &&& repN 85 8 ≤ n := Nat.le_trans Nat.and_le_left (Nat.shiftRight_le n 1)
  rw [e5, l_us1 hn, l_and, l_sub l1, show n - (n >>> 1 &&& repN 85 8) = g1 8 n from rfl]
  have hg1 : g1 8 n < 18446744073709551616 := Nat.lt_of_le_of_lt hg.2.2.1 hn
  have hg2 := hg.2.1
  generalize g1 8 n = x1 at hg1 hg2 hu
  refine b_lloadN (pc := 10) 0 dJ13_bitCount_95d88_10 rfl rfl ?_
  refine b_ldc2 (pc := 11) k856 dJ13_bitCount_95d88_11 ?_
  refine b_land (pc := 14) dJ13_bitCount_95d88_14 ?_
  refine b_lloadN (pc := 15) 0 dJ13_bitCount_95d88_15 rfl rfl ?_
  refine b_iconst (pc := 16) (nI 2) dJ13_bitCount_95d88_16 (by decide) ?_
  refine b_lushr (pc := 17) dJ13_bitCount_95d88_17 ?_
  refine b_ldc2 (pc := 18) k856 dJ13_bitCount_95d88_18 ?_
  refine b_land (pc := 21) dJ13_bitCount_95d88_21 ?_
  refine b_ladd (pc := 22) dJ13_bitCount_95d88_22 ?_
  refine slN0 (pc := 23) rfl (by decide) dJ13_bitCount_95d88_23 ?_
  rotate_left -- leaf 0: at 24
  -- leaves: 0 at 24
  rw [e3, l_and, l_us2 hg1, l_and, l_add, show (x1 &&& repN 51 8) + (x1 >>> 2 &&& repN 51 8) = g2 8 x1 from rfl]
  generalize g2 8 x1 = x2 at hg2 hu
  refine b_lloadN (pc := 24) 0 dJ13_bitCount_95d88_24 rfl rfl ?_
  refine b_lloadN (pc := 25) 0 dJ13_bitCount_95d88_25 rfl rfl ?_
  refine b_iconst (pc := 26) (nI 4) dJ13_bitCount_95d88_26 (by decide) ?_
  refine b_lushr (pc := 27) dJ13_bitCount_95d88_27 ?_
  refine b_ladd (pc := 28) dJ13_bitCount_95d88_28 ?_
  refine b_ldc2 (pc := 29) k857 dJ13_bitCount_95d88_29 ?_
  refine b_land (pc := 32) dJ13_bitCount_95d88_32 ?_
  refine slN0 (pc := 33) rfl (by decide) dJ13_bitCount_95d88_33 ?_
  rotate_left -- leaf 0: at 34
  -- leaves: 0 at 34
  rw [ef, l_us4 (by omega), l_add, l_and, show (x2 + x2 >>> 4) &&& repN 15 8 = g3 8 x2 from rfl, hg2]
  generalize spN 8 n = y at ht
  obtain ⟨by0, y1, y2, y3, z1, by1, z2, by2, z3, z4⟩ := swar ha hb hc hd he hf hgg hk ht
  refine b_lloadN (pc := 34) 0 dJ13_bitCount_95d88_34 rfl rfl ?_
  refine b_lloadN (pc := 35) 0 dJ13_bitCount_95d88_35 rfl rfl ?_
  refine b_bipush (pc := 36) (nI 8) dJ13_bitCount_95d88_36 (by decide) ?_
  refine b_lushr (pc := 38) dJ13_bitCount_95d88_38 ?_
  refine b_ladd (pc := 39) dJ13_bitCount_95d88_39 ?_
  refine slN0 (pc := 40) rfl (by decide) dJ13_bitCount_95d88_40 ?_
  rotate_left -- leaf 0: at 41
  -- leaves: 0 at 41
  rw [l_us8 (by omega), l_add, Nat.shiftRight_eq_div_pow, ← z1]
  refine b_lloadN (pc := 41) 0 dJ13_bitCount_95d88_41 rfl rfl ?_
  refine b_lloadN (pc := 42) 0 dJ13_bitCount_95d88_42 rfl rfl ?_
  refine b_bipush (pc := 43) (nI 16) dJ13_bitCount_95d88_43 (by decide) ?_
  refine b_lushr (pc := 45) dJ13_bitCount_95d88_45 ?_
  refine b_ladd (pc := 46) dJ13_bitCount_95d88_46 ?_
  refine slN0 (pc := 47) rfl (by decide) dJ13_bitCount_95d88_47 ?_
  rotate_left -- leaf 0: at 48
  -- leaves: 0 at 48
  rw [l_us16 (by omega), l_add, Nat.shiftRight_eq_div_pow, ← z2]
  refine b_lloadN (pc := 48) 0 dJ13_bitCount_95d88_48 rfl rfl ?_
  refine b_lloadN (pc := 49) 0 dJ13_bitCount_95d88_49 rfl rfl ?_
  refine b_bipush (pc := 50) (nI 32) dJ13_bitCount_95d88_50 (by decide) ?_
  refine b_lushr (pc := 52) dJ13_bitCount_95d88_52 ?_
  refine b_ladd (pc := 53) dJ13_bitCount_95d88_53 ?_
  refine slN0 (pc := 54) rfl (by decide) dJ13_bitCount_95d88_54 ?_
  rotate_left -- leaf 0: at 55
  -- leaves: 0 at 55
  rw [l_us32 (by omega), l_add, Nat.shiftRight_eq_div_pow, ← z3]
  refine b_lloadN (pc := 55) 0 dJ13_bitCount_95d88_55 rfl rfl ?_
  refine b_l2i (pc := 56) dJ13_bitCount_95d88_56 ?_
  refine b_bipush (pc := 57) (nI 127) dJ13_bitCount_95d88_57 (by decide) ?_
  refine b_iand (pc := 59) dJ13_bitCount_95d88_59 ?_
  refine b_iret (pc := 60) rfl dJ13_bitCount_95d88_60 ⟨Nat.le_of_ble_eq_true rfl, Nat.le_of_ble_eq_true rfl⟩ ?_
  rotate_left -- leaf 0: return at 60
  -- leaves: 0 return at 60
  rw [l_int, n_and, show y3 &&& 127 = y3 % 2 ^ 7 from Nat.and_two_pow_sub_one_eq_mod y3 7, z4]
  exact h
theorem call_J13_bitCount_95d88 {E : ME} {Φ : Option AV → AM → Prop} {pc : Nat} {L : List (Option AV)} {st : List AV} {m : AM} {a : Nat × Nat} {idx : Nat} {x0 : AV} (hl : Cond.methodLink E.2.1 idx yJ13_bitCount_95d88 ∈ TB) (hdep : 1 + 1 ≤ E.2.2.2.2.2.2) (hroom : a.1 + 0 ≤ E.2.2.2.2.1 ∧ a.2 + 0 ≤ E.2.2.2.2.2.1) (hsr : st.length ≤ 4) (hd : decode E.1 pc = .ok (.invokestatic idx, 3)) (hsp : Sp_J13_bitCount_95d88 [x0] m (fun r m2 => B E Φ (pc + 3) L (r.toList ++ st) m2 a)) : B E Φ pc L (x0 :: st) m a := b_callS S_J13_bitCount_95d88 [x0] (Or.inl hl) k853 k84 k854 (show _ ∧ _ ∧ Option.map (fun d => d.parameters.length) (parseMethodDescriptor yJ13_bitCount_95d88.desc) = some 1 from by decide +kernel) ⟨hdep, by decide⟩ hroom hsr hd hsp
