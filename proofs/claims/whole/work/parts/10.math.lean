/-! THE COURT AS NUMBERS: C k is what the reference's court[k] holds. Closure under the rules that make, and what can not be. -/
def upC (C : Nat → Nat) (k v : Nat) : Nat → Nat := fun j => if j = k then v else C j
/-- rule k makes (it stands, and is of that sort) -/
def actM (C : Nat → Nat) (k : Nat) : Prop := C (8 + 4 * k) = 0 ∧ C (11 + 4 * k) = 0
/-- by the rule k, if it makes -/
def clStep (C : Nat → Nat) (k s : Nat) : Nat := if (C (8 + 4 * k) = 0 ∧ C (11 + 4 * k) = 0) ∧ s.testBit (C (9 + 4 * k)) = true then s ||| 2 ^ C (10 + 4 * k) else s
def clRound (C : Nat → Nat) : Nat → Nat → Nat
  | 0, s => s
  | k + 1, s => clStep C k (clRound C k s)
def clN (C : Nat → Nat) : Nat → Nat → Nat
  | 0, s => s
  | t + 1, s => clRound C (C 3) (clN C t s)
def closedN (C : Nat → Nat) (s : Nat) : Nat := clN C 6 s
def canB (C : Nat → Nat) (s : Nat) : Nat → Bool
  | 0 => true
  | k + 1 => canB C s k && (decide (C (8 + 4 * k) = 0) || decide (C (11 + 4 * k) = 1) || !(s.testBit (C (9 + 4 * k)) && s.testBit (C (10 + 4 * k))))
def canBe (C : Nat → Nat) (s : Nat) : Bool := canB C s (C 3)
/-- what rules make of s; NONE -/
def setN (C : Nat → Nat) (s : Nat) : Option Nat := if canBe C (closedN C s) = true then some (closedN C s) else none
def oI (o : Option Nat) : Int32 := match o with
  | some v => nI v
  | none => -1000000
/-- a court that is told as the document says -/
def VC (C : Nat → Nat) : Prop := (1 ≤ C 0 ∧ C 0 ≤ 6) ∧ C 1 < 2 ^ C 0 ∧ (1 ≤ C 2 ∧ C 2 ≤ 9) ∧ C 3 ≤ 8 ∧ (1 ≤ C 4 ∧ C 4 ≤ 5) ∧ C 5 < 2 ^ C 0 ∧ C 7 ≤ 999 ∧ C 6 ≤ 54 * C 7 ∧
  (∀ k, k < C 3 → (C (8 + 4 * k) = 0 ∨ C (8 + 4 * k) = 1) ∧ C (9 + 4 * k) < C 0 ∧ C (10 + 4 * k) < C 0 ∧ (C (11 + 4 * k) = 0 ∨ C (11 + 4 * k) = 1)) ∧ (∀ p, p < C 4 → (1 ≤ C (40 + 2 * p) ∧ C (40 + 2 * p) ≤ 5) ∧ C (41 + 2 * p) ≤ C 7)
def sub (a b : Nat) : Prop := ∀ i, a.testBit i = true → b.testBit i = true
theorem sub_rf (a : Nat) : sub a a := fun _ h => h
theorem sub_tr {a b c : Nat} (h : sub a b) (h2 : sub b c) : sub a c := fun i q => h2 i (h i q)
theorem sub_eq {a b : Nat} (h : sub a b) (h2 : sub b a) : a = b := Nat.eq_of_testBit_eq fun i => by
  cases ha : a.testBit i
  · cases hb : b.testBit i
    · rfl
    · rw [h2 i hb] at ha; cases ha
  · rw [h i ha]
theorem sub_or {a b : Nat} : sub a (a ||| b) := fun i h => by rw [Nat.testBit_or, h]; rfl
theorem sub_orL {a b c : Nat} (h : sub a c) (h2 : sub b c) : sub (a ||| b) c := fun i q => by
  rw [Nat.testBit_or] at q
  rcases Bool.or_eq_true _ _ ▸ q with q | q
  · exact h i q
  · exact h2 i q
theorem sub_pow {k c : Nat} (h : c.testBit k = true) : sub (2 ^ k) c := fun i q => by
  rw [Nat.testBit_two_pow] at q
  have e : k = i := by simpa using q
  subst e
  exact h
/-- d is closed under the first n rules -/
def Clo (C : Nat → Nat) (n d : Nat) : Prop := ∀ k, k < n → actM C k → d.testBit (C (9 + 4 * k)) = true → d.testBit (C (10 + 4 * k)) = true
theorem clStep_ge (C : Nat → Nat) (k s : Nat) : sub s (clStep C k s) := by
  unfold clStep
  split
  · exact sub_or
  · exact sub_rf s
theorem clStep_le {C : Nat → Nat} {k s d n : Nat} (hk : k < n) (hd : Clo C n d) (h : sub s d) : sub (clStep C k s) d := by
  unfold clStep
  split
  · next q => exact sub_orL h (sub_pow (hd k hk q.1 (h _ q.2)))
  · exact h
theorem clRound_ge (C : Nat → Nat) : ∀ n s, sub s (clRound C n s)
  | 0, s => sub_rf s
  | n + 1, s => sub_tr (clRound_ge C n s) (clStep_ge C n _)
theorem clRound_le {C : Nat → Nat} {d n : Nat} (hd : Clo C n d) : ∀ k s, k ≤ n → sub s d → sub (clRound C k s) d
  | 0, s, _, h => h
  | k + 1, s, hk, h => clStep_le (by omega) hd (clRound_le hd k s (by omega) h)
/-- a round that changes nothing ends closed -/
theorem clRound_fix {C : Nat → Nat} : ∀ n s, clRound C n s = s → Clo C n s
  | 0, s, _ => fun k hk => absurd hk (Nat.not_lt_zero k)
  | n + 1, s, h => by
    have h1 : clRound C n s = s := sub_eq (by
      have := clStep_ge C n (clRound C n s)
      rw [show clStep C n (clRound C n s) = s from h] at this
      exact this) (clRound_ge C n s)
    have h2 := clRound_fix n s h1
    intro k hk ha hb
    rcases Nat.lt_or_ge k n with q | q
    · exact h2 k q ha hb
    · have e : k = n := by omega
      subst e
      have h3 : clStep C k s = s := by
        have : clRound C (k + 1) s = clStep C k (clRound C k s) := rfl
        rw [h1] at this
        rw [← this]; exact h
      unfold clStep at h3
      rw [if_pos ⟨ha, hb⟩] at h3
      rw [← h3, Nat.testBit_or, Nat.testBit_two_pow]
      simp
def pc6 (s : Nat) : Nat := (s.testBit 0).toNat + (s.testBit 1).toNat + (s.testBit 2).toNat + (s.testBit 3).toNat + (s.testBit 4).toNat + (s.testBit 5).toNat
theorem pc6_lt {s t : Nat} (hs : s < 64) (ht : t < 64) (h : sub s t) (hne : s ≠ t) : pc6 s < pc6 t := by
  have q : ∀ s, s < 64 → ∀ t, t < 64 → (s ||| t = t) → s ≠ t → pc6 s < pc6 t := by decide +kernel
  refine q s hs t ht (Nat.eq_of_testBit_eq fun i => ?_) hne
  rw [Nat.testBit_or]
  cases e : s.testBit i
  · rfl
  · rw [h i e]; rfl
theorem pc6_le (s : Nat) (hs : s < 64) : pc6 s ≤ 6 := by
  have q : ∀ s, s < 64 → pc6 s ≤ 6 := by decide +kernel
  exact q s hs
theorem pc6_full (s : Nat) (hs : s < 64) (h : 6 ≤ pc6 s) : s = 63 := by
  have q : ∀ s, s < 64 → 6 ≤ pc6 s → s = 63 := by decide +kernel
  exact q s hs h
theorem or_lt64 {a b : Nat} (ha : a < 64) (hb : b < 64) : a ||| b < 64 := Nat.or_lt_two_pow (n := 6) ha hb
theorem pow_lt64 {k : Nat} (h : k < 6) : 2 ^ k < 64 := by
  have : 2 ^ k < 2 ^ 6 := Nat.pow_lt_pow_right (by omega) h
  omega
theorem clStep_lt {C : Nat → Nat} (hv : ∀ k, k < C 3 → C (10 + 4 * k) < 6) {k s : Nat} (hk : k < C 3) (hs : s < 64) : clStep C k s < 64 := by
  unfold clStep
  split
  · exact or_lt64 hs (pow_lt64 (hv k hk))
  · exact hs
theorem clRound_lt {C : Nat → Nat} (hv : ∀ k, k < C 3 → C (10 + 4 * k) < 6) : ∀ n s, n ≤ C 3 → s < 64 → clRound C n s < 64
  | 0, s, _, h => h
  | n + 1, s, hn, h => clStep_lt hv (by omega) (clRound_lt hv n s (by omega) h)
theorem clN_lt {C : Nat → Nat} (hv : ∀ k, k < C 3 → C (10 + 4 * k) < 6) : ∀ t s, s < 64 → clN C t s < 64
  | 0, s, h => h
  | t + 1, s, h => clRound_lt hv _ _ (Nat.le_refl _) (clN_lt hv t s h)
theorem clN_ge (C : Nat → Nat) : ∀ t s, sub s (clN C t s)
  | 0, s => sub_rf s
  | t + 1, s => sub_tr (clN_ge C t s) (clRound_ge C _ _)
theorem clN_le {C : Nat → Nat} {d : Nat} (hd : Clo C (C 3) d) : ∀ t s, sub s d → sub (clN C t s) d
  | 0, s, h => h
  | t + 1, s, h => clRound_le hd _ _ (Nat.le_refl _) (clN_le hd t s h)
theorem clRound_clo {C : Nat → Nat} {n s : Nat} (h : Clo C n s) : ∀ k, k ≤ n → clRound C k s = s
  | 0, _ => rfl
  | k + 1, hk => by
    have h1 := clRound_clo h k (by omega)
    show clStep C k (clRound C k s) = s
    rw [h1]
    exact sub_eq (clStep_le (by omega) h (sub_rf s)) (clStep_ge C k s)
/-- after t rounds: closed, or t facts at least -/
theorem clN_grow {C : Nat → Nat} (hv : ∀ k, k < C 3 → C (10 + 4 * k) < 6) : ∀ t s, s < 64 → Clo C (C 3) (clN C t s) ∨ t ≤ pc6 (clN C t s)
  | 0, s, _ => Or.inr (Nat.zero_le _)
  | t + 1, s, hs => by
    by_cases e : clRound C (C 3) (clN C t s) = clN C t s
    · have h := clRound_fix _ _ e
      left
      show Clo C (C 3) (clRound C (C 3) (clN C t s))
      rw [e]
      exact h
    · rcases clN_grow hv t s hs with h | h
      · exact absurd (clRound_clo h _ (Nat.le_refl _)) e
      · right
        have := pc6_lt (clN_lt hv t s hs) (clN_lt hv (t + 1) s hs) (clRound_ge C (C 3) _) (Ne.symm e)
        show t + 1 ≤ pc6 (clN C (t + 1) s)
        omega
theorem closedN_lt {C : Nat → Nat} (hv : ∀ k, k < C 3 → C (10 + 4 * k) < 6) {s : Nat} (hs : s < 64) : closedN C s < 64 := clN_lt hv 6 s hs
theorem closedN_clo {C : Nat → Nat} (hv : ∀ k, k < C 3 → C (10 + 4 * k) < 6) {s : Nat} (hs : s < 64) : Clo C (C 3) (closedN C s) := by
  rcases clN_grow hv 6 s hs with h | h
  · exact h
  · have e := pc6_full _ (clN_lt hv 6 s hs) h
    intro k hk _ _
    show (clN C 6 s).testBit _ = true
    rw [e]
    have q : ∀ i, i < 6 → Nat.testBit 63 i = true := by decide
    exact q _ (hv k hk)
/-- what is closed, behind s, and within all that is so, is the closure -/
theorem closedN_uni {C : Nat → Nat} (hv : ∀ k, k < C 3 → C (10 + 4 * k) < 6) {s c : Nat} (hs : s < 64) (h1 : sub s c) (h2 : Clo C (C 3) c) (h3 : ∀ d, sub s d → Clo C (C 3) d → sub c d) : c = closedN C s :=
  sub_eq (h3 _ (clN_ge C 6 s) (closedN_clo hv hs)) (clN_le h2 6 s h1)
theorem closedN_of {C : Nat → Nat} {s : Nat} (h : Clo C (C 3) s) (t : Nat) : clN C t s = s := by
  induction t with
  | zero => rfl
  | succ t ih =>
    show clRound C (C 3) (clN C t s) = s
    rw [ih]
    exact clRound_clo h _ (Nat.le_refl _)
theorem VC.hv {C : Nat → Nat} (h : VC C) : ∀ k, k < C 3 → C (10 + 4 * k) < 6 := fun k hk => Nat.lt_of_lt_of_le (h.2.2.2.2.2.2.2.2.1 k hk).2.2.1 h.1.2
/-- what rule-made facts a fact has (by the first n rules), of a sort -/
def madeF (C : Nat → Nat) (sort f : Nat) : Nat → Nat
  | 0 => 0
  | k + 1 => if (C (8 + 4 * k) = sort ∧ C (11 + 4 * k) = 0) ∧ C (9 + 4 * k) = f then madeF C sort f k ||| 2 ^ C (10 + 4 * k) else madeF C sort f k
theorem madeF_bit (C : Nat → Nat) (sort f i : Nat) : ∀ n, (madeF C sort f n).testBit i = true ↔ ∃ k, k < n ∧ C (8 + 4 * k) = sort ∧ C (11 + 4 * k) = 0 ∧ C (9 + 4 * k) = f ∧ C (10 + 4 * k) = i
  | 0 => by simp [madeF]
  | n + 1 => by
    have ih := madeF_bit C sort f i n
    unfold madeF
    split
    · next h =>
      rw [Nat.testBit_or, Bool.or_eq_true, ih, Nat.testBit_two_pow]
      constructor
      · rintro (⟨k, hk, h1⟩ | h1)
        · exact ⟨k, by omega, h1⟩
        · exact ⟨n, by omega, h.1.1, h.1.2, h.2, by simpa using h1⟩
      · rintro ⟨k, hk, h1⟩
        rcases Nat.lt_or_ge k n with q | q
        · exact Or.inl ⟨k, q, h1⟩
        · have e : k = n := by omega
          subst e
          right
          simpa using h1.2.2.2
    · next h =>
      rw [ih]
      constructor
      · rintro ⟨k, hk, h1⟩
        exact ⟨k, by omega, h1⟩
      · rintro ⟨k, hk, h1⟩
        rcases Nat.lt_or_ge k n with q | q
        · exact ⟨k, q, h1⟩
        · have e : k = n := by omega
          subst e
          exact absurd ⟨⟨h1.1, h1.2.1⟩, h1.2.2.1⟩ h
theorem madeF_lt {C : Nat → Nat} (hv : ∀ k, k < C 3 → C (10 + 4 * k) < 6) (sort f : Nat) : ∀ n, n ≤ C 3 → madeF C sort f n < 64
  | 0, _ => by simp [madeF]
  | n + 1, hn => by
    unfold madeF
    split
    · exact or_lt64 (madeF_lt hv sort f n (by omega)) (pow_lt64 (hv n (by omega)))
    · exact madeF_lt hv sort f n (by omega)
theorem canB_iff (C : Nat → Nat) (s : Nat) : ∀ n, canB C s n = true ↔ ∀ k, k < n → C (8 + 4 * k) = 0 ∨ C (11 + 4 * k) = 1 ∨ ¬ (s.testBit (C (9 + 4 * k)) = true ∧ s.testBit (C (10 + 4 * k)) = true)
  | 0 => by simp [canB]
  | n + 1 => by
    have ih := canB_iff C s n
    unfold canB
    rw [Bool.and_eq_true, ih]
    constructor
    · rintro ⟨h1, h2⟩ k hk
      rcases Nat.lt_or_ge k n with q | q
      · exact h1 k q
      · have e : k = n := by omega
        subst e
        simp only [Bool.or_eq_true, decide_eq_true_eq, Bool.not_eq_true', Bool.and_eq_false_iff] at h2
        rcases h2 with (h2 | h2) | h2
        · exact Or.inl h2
        · exact Or.inr (Or.inl h2)
        · right; right
          rintro ⟨q1, q2⟩
          rcases h2 with h2 | h2
          · rw [q1] at h2; cases h2
          · rw [q2] at h2; cases h2
    · intro h
      refine ⟨fun k hk => h k (by omega), ?_⟩
      simp only [Bool.or_eq_true, decide_eq_true_eq, Bool.not_eq_true', Bool.and_eq_false_iff]
      rcases h n (by omega) with h2 | h2 | h2
      · exact Or.inl (Or.inl h2)
      · exact Or.inl (Or.inr h2)
      · right
        cases q1 : s.testBit (C (9 + 4 * n))
        · exact Or.inl rfl
        · cases q2 : s.testBit (C (10 + 4 * n))
          · exact Or.inr rfl
          · exact absurd ⟨q1, q2⟩ h2
