/-! temper, of the class -/
def cas (p s : Nat) : Nat → Nat
  | 0 => 1
  | k + 1 => cas p s k * (if s.testBit k = true then p else 10 - p)
def plB (s k : Nat) : Nat := if s.testBit k = true then 1 else 0
def plS (C : Nat → Nat) (D : Nat → Int32) (s : Nat) : Nat → Nat × Nat
  | 0 => (C 1, C 5)
  | k + 1 => (behN C (C (40 + 2 * (D (2 * k)).toNatClampNeg)) (plS C D s k).1 (plS C D s k).2 ((D (2 * k + 1)).toNatClampNeg ^^^ plB s k), (plS C D s k).2 ||| 2 ^ (((D (2 * k + 1)).toNatClampNeg ^^^ plB s k) / 2))
def planOk (C : Nat → Nat) (D : Nat → Int32) (n : Nat) : Prop := ∀ k, k < n → inB (D (2 * k)) (C 4) = true ∧ inB (D (2 * k + 1)) (2 * C 0) = true
def abv (C : Nat → Nat) (D : Nat → Int32) (F p n : Nat) : Nat → Nat
  | 0 => 0
  | s + 1 => abv C D F p n s + if (plS C D s n).1 &&& F = F then cas p s n else 0
def blw (p n : Nat) : Nat → Nat
  | 0 => 0
  | s + 1 => blw p n s + cas p s n
theorem cas_le {p : Nat} (hp : p ≤ 10) (s : Nat) : ∀ n, cas p s n ≤ 10 ^ n
  | 0 => Nat.le_refl 1
  | n + 1 => by
    have ih := cas_le hp s n
    unfold cas
    rw [Nat.pow_succ]
    refine Nat.mul_le_mul ih ?_
    split <;> omega
theorem blw_all {p n : Nat} (hp : p ≤ 10) (hn : n ≤ 6) : blw p n (2 ^ n) = 10 ^ n := by
  have q : ∀ p, p < 11 → ∀ n, n < 7 → blw p n (2 ^ n) = 10 ^ n := by decide +kernel
  exact q p (by omega) n (by omega)
theorem abv_le (C : Nat → Nat) (D : Nat → Int32) (F p n : Nat) : ∀ s, abv C D F p n s ≤ blw p n s
  | 0 => Nat.le_refl 0
  | s + 1 => by
    have ih := abv_le C D F p n s
    unfold abv blw
    split <;> omega
theorem blw_mono (p n : Nat) : ∀ a b, blw p n a ≤ blw p n (a + b)
  | a, 0 => Nat.le_refl _
  | a, b + 1 => by
    have ih := blw_mono p n a b
    have e : blw p n (a + (b + 1)) = blw p n (a + b) + cas p (a + b) n := rfl
    omega
theorem ten_le {n : Nat} (hn : n ≤ 6) : 0 < 10 ^ n ∧ 10 ^ n ≤ 1000000 := by
  have q : ∀ n, n < 7 → 0 < 10 ^ n ∧ 10 ^ n ≤ 1000000 := by decide
  exact q n (by omega)
theorem abv_lt {C : Nat → Nat} {D : Nat → Int32} {F p n s : Nat} (hp : p ≤ 10) (hn : n ≤ 6) (hs : s ≤ 2 ^ n) : abv C D F p n s ≤ 10 ^ n := by
  have h1 := abv_le C D F p n s
  have h2 := blw_mono p n s (2 ^ n - s)
  rw [show s + (2 ^ n - s) = 2 ^ n by omega, blw_all hp hn] at h2
  omega
theorem plX {y s k : Nat} (hy : y < 12) : (y ^^^ plB s k) / 2 = y / 2 := by
  have q : ∀ y, y < 12 → ∀ b, b < 2 → (y ^^^ b) / 2 = y / 2 := by decide
  refine q y hy _ ?_
  unfold plB
  split <;> omega
theorem plX_lt {y n s k : Nat} (hn : n ≤ 6) (hy : y < 2 * n) : y ^^^ plB s k < 2 * n := by
  have := plX (s := s) (k := k) (show y < 12 by omega)
  omega
theorem plS_lt {C : Nat → Nat} (hv : VC C) {D : Nat → Int32} {s n : Nat} (h : planOk C D n) : ∀ k, k ≤ n → (plS C D s k).1 < 64 ∧ (plS C D s k).2 < 64
  | 0, _ => ⟨hv.c1, hv.c5⟩
  | k + 1, hk => by
    have ih := plS_lt hv (s := s) h k (by omega)
    have h06 := hv.1
    obtain ⟨y, hy, e⟩ := (inB_iff (by omega)).mp (h k (by omega)).2
    unfold plS
    rw [e, n_cl (by omega)]
    have := plX_lt (s := s) (k := k) h06.2 hy
    exact ⟨behN_lt hv ih.1 this, or_lt64 ih.2 (pow_lt64 (by omega))⟩
abbrev e_X3_cases : ME := (cX3_cases, (RX3, (6, ((some .long), (0, (0, 1))))))
theorem dX3_cases_0 : decode cX3_cases 0 = .ok (.lconst 1, 1) := by decide +kernel
theorem dX3_cases_1 : decode cX3_cases 1 = .ok (.lstore_n 3, 1) := by decide +kernel
theorem dX3_cases_2 : decode cX3_cases 2 = .ok (.iconst 0, 1) := by decide +kernel
theorem dX3_cases_3 : decode cX3_cases 3 = .ok (.istore 5, 2) := by decide +kernel
theorem dX3_cases_5 : decode cX3_cases 5 = .ok (.iload 5, 2) := by decide +kernel
theorem dX3_cases_7 : decode cX3_cases 7 = .ok (.iload_n 2, 1) := by decide +kernel
theorem dX3_cases_8 : decode cX3_cases 8 = .ok (.if_icmp .ge 32, 3) := by decide +kernel
theorem dX3_cases_11 : decode cX3_cases 11 = .ok (.lload_n 3, 1) := by decide +kernel
theorem dX3_cases_12 : decode cX3_cases 12 = .ok (.iload_n 1, 1) := by decide +kernel
theorem dX3_cases_13 : decode cX3_cases 13 = .ok (.iload 5, 2) := by decide +kernel
theorem dX3_cases_15 : decode cX3_cases 15 = .ok (.ishr, 1) := by decide +kernel
theorem dX3_cases_16 : decode cX3_cases 16 = .ok (.iconst 1, 1) := by decide +kernel
theorem dX3_cases_17 : decode cX3_cases 17 = .ok (.iand, 1) := by decide +kernel
theorem dX3_cases_18 : decode cX3_cases 18 = .ok (.iconst 1, 1) := by decide +kernel
theorem dX3_cases_19 : decode cX3_cases 19 = .ok (.if_icmp .ne 8, 3) := by decide +kernel
theorem dX3_cases_22 : decode cX3_cases 22 = .ok (.iload_n 0, 1) := by decide +kernel
theorem dX3_cases_23 : decode cX3_cases 23 = .ok (.i2l, 1) := by decide +kernel
theorem dX3_cases_24 : decode cX3_cases 24 = .ok (.goto 8, 3) := by decide +kernel
theorem dX3_cases_27 : decode cX3_cases 27 = .ok (.bipush 10, 2) := by decide +kernel
theorem dX3_cases_29 : decode cX3_cases 29 = .ok (.iload_n 0, 1) := by decide +kernel
theorem dX3_cases_30 : decode cX3_cases 30 = .ok (.isub, 1) := by decide +kernel
theorem dX3_cases_31 : decode cX3_cases 31 = .ok (.i2l, 1) := by decide +kernel
theorem dX3_cases_32 : decode cX3_cases 32 = .ok (.lmul, 1) := by decide +kernel
theorem dX3_cases_33 : decode cX3_cases 33 = .ok (.lstore_n 3, 1) := by decide +kernel
theorem dX3_cases_34 : decode cX3_cases 34 = .ok (.iinc 5 1, 3) := by decide +kernel
theorem dX3_cases_37 : decode cX3_cases 37 = .ok (.goto (-32), 3) := by decide +kernel
theorem dX3_cases_40 : decode cX3_cases 40 = .ok (.lload_n 3, 1) := by decide +kernel
theorem dX3_cases_41 : decode cX3_cases 41 = .ok (.lreturn, 1) := by decide +kernel
def Sp_X3_cases (av : List AV) (m : AM) (Φ : Option AV → AM → Prop) : Prop := ∃ x y z, av = [vi x, vi y, vi z] ∧ ∃ p s n, x = nI p ∧ y = nI s ∧ z = nI n ∧ p ≤ 10 ∧ s < 64 ∧ n ≤ 6 ∧ Φ (some (vl (lN (cas p s n)))) m
set_option maxRecDepth 20000 in
set_option maxHeartbeats 4000000 in
theorem S_X3_cases : Snd yX3_cases e_X3_cases Sp_X3_cases := by
  refine Snd.of (by decide +kernel) rfl ?_ ?_
  · rintro av m Φ ⟨x, y, z, rfl, _⟩; exact Nat.le_of_ble_eq_true rfl
  rintro av m Φ ⟨x, y, z, rfl, p, s, n, rfl, rfl, rfl, hp, hs, hn, h⟩ hav hty
  show B e_X3_cases Φ 0 [some (vi (nI p)), some (vi (nI s)), some (vi (nI n)), none, none, none] [] m (0, 0)
  have loop : ∀ e k, n + 1 ≤ k + e → k ≤ n → B e_X3_cases Φ 5 [some (vi (nI p)), some (vi (nI s)), some (vi (nI n)), some (vl (lN (cas p s k))), none, some (vi (nI k))] [] m (0, 0) := by
    intro e
    induction e with
    | zero => intro k h1 h2; omega
    | succ e ih =>
      intro k h1 h2
      have un : cas p s (k + 1) = cas p s k * (if s.testBit k = true then p else 10 - p) := rfl
      refine b_iloadG (pc := 5) 5 dX3_cases_5 rfl ?_
      refine b_iloadN (pc := 7) 2 dX3_cases_7 rfl rfl ?_
      refine b_icmp_ge (pc := 8) 40 dX3_cases_8 (by decide) (fun c8 => ?_) (fun c8 => ?_)
      refine b_lloadN (pc := 40) 3 dX3_cases_40 rfl rfl ?_
      refine b_lret (pc := 41) rfl dX3_cases_41 ⟨Nat.le_of_ble_eq_true rfl, Nat.le_of_ble_eq_true rfl⟩ ?_
      rotate_left -- leaf 0: return at 41
      refine b_lloadN (pc := 11) 3 dX3_cases_11 rfl rfl ?_
      refine b_iloadN (pc := 12) 1 dX3_cases_12 rfl rfl ?_
      refine b_iloadG (pc := 13) 5 dX3_cases_13 rfl ?_
      refine b_ishr (pc := 15) dX3_cases_15 ?_
      refine b_iconst (pc := 16) (nI 1) dX3_cases_16 (by decide) ?_
      refine b_iand (pc := 17) dX3_cases_17 ?_
      refine b_iconst (pc := 18) (nI 1) dX3_cases_18 (by decide) ?_
      refine b_icmp_ne (pc := 19) 27 dX3_cases_19 (by decide) (fun c19 => ?_) (fun c19 => ?_)
      refine b_bipush (pc := 27) (nI 10) dX3_cases_27 (by decide) ?_
      refine b_iloadN (pc := 29) 0 dX3_cases_29 rfl rfl ?_
      refine b_isub (pc := 30) dX3_cases_30 ?_
      refine b_i2l (pc := 31) dX3_cases_31 ?_
      refine b_lmul (pc := 32) dX3_cases_32 ?_
      refine slN3 (pc := 33) rfl notL_i (by decide) dX3_cases_33 ?_
      refine inc5 (pc := 34) notL_n (by decide) dX3_cases_34 ?_
      refine b_goto (pc := 37) 5 dX3_cases_37 (by decide) ?_
      rotate_left -- leaf 1: at 5
      refine b_iloadN (pc := 22) 0 dX3_cases_22 rfl rfl ?_
      refine b_i2l (pc := 23) dX3_cases_23 ?_
      refine b_goto (pc := 24) 32 dX3_cases_24 (by decide) ?_
      refine b_lmul (pc := 32) dX3_cases_32 ?_
      refine slN3 (pc := 33) rfl notL_i (by decide) dX3_cases_33 ?_
      refine inc5 (pc := 34) notL_n (by decide) dX3_cases_34 ?_
      refine b_goto (pc := 37) 5 dX3_cases_37 (by decide) ?_
      rotate_left -- leaf 2: at 5
      -- leaves: 0 return at 41; 1 at 5; 2 at 5
      · rw [n_le (by omega) (by omega)] at c8
        rw [show k = n by omega]
        exact h
      · rw [n_le (by omega) (by omega)] at c8
        rw [tbit_and1 _ _ (by omega) (by omega)] at c19
        rw [if_neg (fun q => by rw [if_pos q] at c19; exact c19 rfl)] at un
        rw [n_sub (by omega), nI_l (by omega), lN_mul, ← un, n_inc]
        exact ih (k + 1) (by omega) (by omega)
      · rw [n_le (by omega) (by omega)] at c8
        rw [tbit_and1 _ _ (by omega) (by omega)] at c19
        have q : s.testBit k = true := by
          by_cases q : s.testBit k = true
          · exact q
          · rw [if_neg q] at c19; exact absurd c19 (by decide)
        rw [if_pos q] at un
        rw [nI_l (by omega), lN_mul, ← un, n_inc]
        exact ih (k + 1) (by omega) (by omega)
  refine b_lconst (pc := 0) 1 dX3_cases_0 (by decide) ?_
  refine slN3 (pc := 1) rfl notL_i (by decide) dX3_cases_1 ?_
  refine b_iconst (pc := 2) (nI 0) dX3_cases_2 (by decide) ?_
  refine siG5 (pc := 3) notL_n (by decide) dX3_cases_3 ?_
  rotate_left -- leaf 0: at 5
  -- leaves: 0 at 5
  exact loop (n + 1) 0 (by omega) (by omega)
theorem call_X3_cases {E : ME} {Φ : Option AV → AM → Prop} {pc : Nat} {L : List (Option AV)} {st : List AV} {m : AM} {a : Nat × Nat} {idx : Nat} {x0 x1 x2 : AV} (hl : Cond.methodLink E.2.1 idx yX3_cases ∈ TB) (hdep : 1 + 1 ≤ E.2.2.2.2.2.2) (hroom : a.1 + 0 ≤ E.2.2.2.2.1 ∧ a.2 + 0 ≤ E.2.2.2.2.2.1) (hsr : st.length ≤ 4) (hd : decode E.1 pc = .ok (.invokestatic idx, 3)) (hsp : Sp_X3_cases [x0, x1, x2] m (fun r m2 => B E Φ (pc + 3) L (r.toList ++ st) m2 a)) : B E Φ pc L (x2 :: x1 :: x0 :: st) m a := b_callS S_X3_cases [x0, x1, x2] (Or.inl hl) k933 k77 k934 (show _ ∧ _ ∧ Option.map (fun d => d.parameters.length) (parseMethodDescriptor yX3_cases.desc) = some 3 from by decide +kernel) ⟨hdep, by decide⟩ hroom hsr hd hsp
theorem rem_half {g l : Nat} (h0 : 0 < l) (h : l ≤ g) : 2 * (g % l) ≤ g := by
  have h1 := Nat.div_add_mod g l
  have h2 := Nat.mod_lt g h0
  have h3 : 1 ≤ g / l := (Nat.le_div_iff_mul_le h0).mpr (by omega)
  have h4 : l * 1 ≤ l * (g / l) := Nat.mul_le_mul (Nat.le_refl l) h3
  omega
theorem gcd_step (g l : Nat) : Nat.gcd l (g % l) = Nat.gcd g l := by
  rw [Nat.gcd_comm g l, Nat.gcd_rec l g, Nat.gcd_comm]
abbrev e_X3_commonDivisor : ME := (cX3_commonDivisor, (RX3, (11, ((some .long), (0, (0, 1))))))
theorem dX3_commonDivisor_0 : decode cX3_commonDivisor 0 = .ok (.lload_n 0, 1) := by decide +kernel
theorem dX3_commonDivisor_1 : decode cX3_commonDivisor 1 = .ok (.lstore 4, 2) := by decide +kernel
theorem dX3_commonDivisor_3 : decode cX3_commonDivisor 3 = .ok (.lload_n 2, 1) := by decide +kernel
theorem dX3_commonDivisor_4 : decode cX3_commonDivisor 4 = .ok (.lstore 6, 2) := by decide +kernel
theorem dX3_commonDivisor_6 : decode cX3_commonDivisor 6 = .ok (.iconst 0, 1) := by decide +kernel
theorem dX3_commonDivisor_7 : decode cX3_commonDivisor 7 = .ok (.istore 8, 2) := by decide +kernel
theorem dX3_commonDivisor_9 : decode cX3_commonDivisor 9 = .ok (.iload 8, 2) := by decide +kernel
theorem dX3_commonDivisor_11 : decode cX3_commonDivisor 11 = .ok (.bipush 100, 2) := by decide +kernel
theorem dX3_commonDivisor_13 : decode cX3_commonDivisor 13 = .ok (.if_icmp .ge 31, 3) := by decide +kernel
theorem dX3_commonDivisor_16 : decode cX3_commonDivisor 16 = .ok (.lload 6, 2) := by decide +kernel
theorem dX3_commonDivisor_18 : decode cX3_commonDivisor 18 = .ok (.lconst 0, 1) := by decide +kernel
theorem dX3_commonDivisor_19 : decode cX3_commonDivisor 19 = .ok (.lcmp, 1) := by decide +kernel
theorem dX3_commonDivisor_20 : decode cX3_commonDivisor 20 = .ok (.ifCond .eq 24, 3) := by decide +kernel
theorem dX3_commonDivisor_23 : decode cX3_commonDivisor 23 = .ok (.lload 4, 2) := by decide +kernel
theorem dX3_commonDivisor_25 : decode cX3_commonDivisor 25 = .ok (.lload 6, 2) := by decide +kernel
theorem dX3_commonDivisor_27 : decode cX3_commonDivisor 27 = .ok (.lrem, 1) := by decide +kernel
theorem dX3_commonDivisor_28 : decode cX3_commonDivisor 28 = .ok (.lstore 9, 2) := by decide +kernel
theorem dX3_commonDivisor_30 : decode cX3_commonDivisor 30 = .ok (.lload 6, 2) := by decide +kernel
theorem dX3_commonDivisor_32 : decode cX3_commonDivisor 32 = .ok (.lstore 4, 2) := by decide +kernel
theorem dX3_commonDivisor_34 : decode cX3_commonDivisor 34 = .ok (.lload 9, 2) := by decide +kernel
theorem dX3_commonDivisor_36 : decode cX3_commonDivisor 36 = .ok (.lstore 6, 2) := by decide +kernel
theorem dX3_commonDivisor_38 : decode cX3_commonDivisor 38 = .ok (.iinc 8 1, 3) := by decide +kernel
theorem dX3_commonDivisor_41 : decode cX3_commonDivisor 41 = .ok (.goto (-32), 3) := by decide +kernel
theorem dX3_commonDivisor_44 : decode cX3_commonDivisor 44 = .ok (.lload 4, 2) := by decide +kernel
theorem dX3_commonDivisor_46 : decode cX3_commonDivisor 46 = .ok (.lreturn, 1) := by decide +kernel
def Sp_X3_commonDivisor (av : List AV) (m : AM) (Φ : Option AV → AM → Prop) : Prop := ∃ x y, av = [vl x, vl y] ∧ ∃ g l, x = lN g ∧ y = lN l ∧ l ≤ g ∧ 0 < g ∧ g ≤ 1000000 ∧ Φ (some (vl (lN (Nat.gcd g l)))) m
set_option maxRecDepth 20000 in
set_option maxHeartbeats 4000000 in
theorem S_X3_commonDivisor : Snd yX3_commonDivisor e_X3_commonDivisor Sp_X3_commonDivisor := by
  refine Snd.of (by decide +kernel) rfl ?_ ?_
  · rintro av m Φ ⟨x, y, rfl, _⟩; exact Nat.le_of_ble_eq_true rfl
  rintro av m Φ ⟨x, y, rfl, g0, l0, rfl, rfl, hlg, hg, hb, h⟩ hav hty
  show B e_X3_commonDivisor Φ 0 [some (vl (lN g0)), none, some (vl (lN l0)), none, none, none, none, none, none, none, none] [] m (0, 0)
  have loop : ∀ e i g l o9, i + e = 100 → l ≤ g → 0 < g → g ≤ 1000000 → g * l * 2 ^ i ≤ 2 ^ 40 → Nat.gcd g l = Nat.gcd g0 l0 → B e_X3_commonDivisor Φ 9 [some (vl (lN g0)), none, some (vl (lN l0)), none, some (vl (lN g)), none, some (vl (lN l)), none, some (vi (nI i)), o9, none] [] m (0, 0) := by
    intro e
    induction e with
    | zero =>
      intro i g l o9 h1 h2 h3 h4 h5 h6
      have hl0 : l = 0 := by
        rcases Nat.eq_zero_or_pos l with z | z
        · exact z
        · have a : 1 ≤ g * l := Nat.mul_pos h3 z
          have b : 1 * 2 ^ i ≤ g * l * 2 ^ i := Nat.mul_le_mul a (Nat.le_refl _)
          rw [show i = 100 by omega] at b h5
          have c : ¬ (1 * 2 ^ 100 ≤ 2 ^ 40) := by decide
          exact absurd (Nat.le_trans b h5) c
      rw [← h6, hl0, Nat.gcd_zero_right] at h
      subst hl0
      refine b_iloadG (pc := 9) 8 dX3_commonDivisor_9 rfl ?_
      refine b_bipush (pc := 11) (nI 100) dX3_commonDivisor_11 (by decide) ?_
      refine b_icmp_ge (pc := 13) 44 dX3_commonDivisor_13 (by decide) (fun c13 => ?_) (fun c13 => ?_)
      refine b_lloadG (pc := 44) 4 dX3_commonDivisor_44 rfl ?_
      refine b_lret (pc := 46) rfl dX3_commonDivisor_46 ⟨Nat.le_of_ble_eq_true rfl, Nat.le_of_ble_eq_true rfl⟩ ?_
      rotate_left -- leaf 0: return at 46
      rotate_left -- leaf 1: at 16
      -- leaves: 0 return at 46; 1 at 16
      · exact h
      · rw [n_le (by omega) (by omega)] at c13; omega
    | succ e ih =>
      intro i g l o9 h1 h2 h3 h4 h5 h6
      have ez : lg_cmp (lN l) 0 = 0 ↔ l = 0 := by
        rw [lg_cmp_eq, show (0 : Int64) = lN 0 from rfl, pk_lEQ (by omega) (by omega)]
      refine b_iloadG (pc := 9) 8 dX3_commonDivisor_9 rfl ?_
      refine b_bipush (pc := 11) (nI 100) dX3_commonDivisor_11 (by decide) ?_
      refine b_icmp_ge (pc := 13) 44 dX3_commonDivisor_13 (by decide) (fun c13 => ?_) (fun c13 => ?_)
      refine b_lloadG (pc := 44) 4 dX3_commonDivisor_44 rfl ?_
      refine b_lret (pc := 46) rfl dX3_commonDivisor_46 ⟨Nat.le_of_ble_eq_true rfl, Nat.le_of_ble_eq_true rfl⟩ ?_
      rotate_left -- leaf 0: return at 46
      refine b_lloadG (pc := 16) 6 dX3_commonDivisor_16 rfl ?_
      refine b_lconst (pc := 18) 0 dX3_commonDivisor_18 (by decide) ?_
      refine b_lcmp (pc := 19) dX3_commonDivisor_19 ?_
      refine b_if_eq (pc := 20) 44 dX3_commonDivisor_20 (by decide) (fun c20 => ?_) (fun c20 => ?_)
      refine b_lloadG (pc := 44) 4 dX3_commonDivisor_44 rfl ?_
      refine b_lret (pc := 46) rfl dX3_commonDivisor_46 ⟨Nat.le_of_ble_eq_true rfl, Nat.le_of_ble_eq_true rfl⟩ ?_
      rotate_left -- leaf 1: return at 46
      refine b_lloadG (pc := 23) 4 dX3_commonDivisor_23 rfl ?_
      refine b_lloadG (pc := 25) 6 dX3_commonDivisor_25 rfl ?_
      refine b_lrem (pc := 27) dX3_commonDivisor_27 ?_ ?_
      rotate_left -- leaf 2: divisor at 27
      refine slG9 (pc := 28) notL_i (by decide) dX3_commonDivisor_28 ?_
      refine b_lloadG (pc := 30) 6 dX3_commonDivisor_30 rfl ?_
      refine slG4 (pc := 32) notL_n (by decide) dX3_commonDivisor_32 ?_
      refine b_lloadG (pc := 34) 9 dX3_commonDivisor_34 rfl ?_
      refine slG6 (pc := 36) notL_n (by decide) dX3_commonDivisor_36 ?_
      refine inc8 (pc := 38) notL_n (by decide) dX3_commonDivisor_38 ?_
      refine b_goto (pc := 41) 9 dX3_commonDivisor_41 (by decide) ?_
      rotate_left -- leaf 3: at 9
      -- leaves: 0 return at 46; 1 return at 46; 2 divisor at 27; 3 at 9
      · rw [n_le (by omega) (by omega)] at c13; omega
      · rw [ez] at c20
        rw [← h6, c20, Nat.gcd_zero_right] at h
        exact h
      · rw [ez] at c20
        rw [show (0 : Int64) = lN 0 from rfl, pk_lEQ (by omega) (by omega)]; exact c20
      · rw [ez] at c20
        have hl : 0 < l := by omega
        have hm := Nat.mod_lt g hl
        have hh := rem_half hl h2
        rw [pk_lRem (by omega) hl (by omega), n_inc]
        refine ih (i + 1) l (g % l) _ (by omega) (by omega) hl (by omega) ?_ (by rw [gcd_step]; exact h6)
        have a : l * (2 * (g % l)) ≤ l * g := Nat.mul_le_mul (Nat.le_refl l) hh
        have e1 : l * (g % l) * 2 ^ (i + 1) = l * (2 * (g % l)) * 2 ^ i := by
          rw [Nat.pow_succ, Nat.mul_comm (2 ^ i) 2, ← Nat.mul_assoc, Nat.mul_assoc l (g % l) 2, Nat.mul_comm (g % l) 2]
        rw [e1]
        rw [Nat.mul_comm g l] at h5
        exact Nat.le_trans (Nat.mul_le_mul a (Nat.le_refl _)) h5
  refine b_lloadN (pc := 0) 0 dX3_commonDivisor_0 rfl rfl ?_
  refine slG4 (pc := 1) notL_n (by decide) dX3_commonDivisor_1 ?_
  refine b_lloadN (pc := 3) 2 dX3_commonDivisor_3 rfl rfl ?_
  refine slG6 (pc := 4) notL_n (by decide) dX3_commonDivisor_4 ?_
  refine b_iconst (pc := 6) (nI 0) dX3_commonDivisor_6 (by decide) ?_
  refine siG8 (pc := 7) notL_n (by decide) dX3_commonDivisor_7 ?_
  rotate_left -- leaf 0: at 9
  -- leaves: 0 at 9
  refine loop 100 0 g0 l0 none (by omega) hlg hg hb ?_ rfl
  have a : g0 * l0 ≤ 1000000 * 1000000 := Nat.mul_le_mul hb (by omega)
  have b : (1000000 * 1000000 : Nat) ≤ 2 ^ 40 := by decide
  rw [Nat.pow_zero, Nat.mul_one]
  exact Nat.le_trans a b
theorem call_X3_commonDivisor {E : ME} {Φ : Option AV → AM → Prop} {pc : Nat} {L : List (Option AV)} {st : List AV} {m : AM} {a : Nat × Nat} {idx : Nat} {x0 x1 : AV} (hl : Cond.methodLink E.2.1 idx yX3_commonDivisor ∈ TB) (hdep : 1 + 1 ≤ E.2.2.2.2.2.2) (hroom : a.1 + 0 ≤ E.2.2.2.2.1 ∧ a.2 + 0 ≤ E.2.2.2.2.2.1) (hsr : st.length ≤ 4) (hd : decode E.1 pc = .ok (.invokestatic idx, 3)) (hsp : Sp_X3_commonDivisor [x0, x1] m (fun r m2 => B E Φ (pc + 3) L (r.toList ++ st) m2 a)) : B E Φ pc L (x1 :: x0 :: st) m a := b_callS S_X3_commonDivisor [x0, x1] (Or.inl hl) k939 k77 k940 (show _ ∧ _ ∧ Option.map (fun d => d.parameters.length) (parseMethodDescriptor yX3_commonDivisor.desc) = some 2 from by decide +kernel) ⟨hdep, by decide⟩ hroom hsr hd hsp
abbrev e_X3_soByPlan : ME := (cX3_soByPlan, (RX3, (7, ((some .int), (0, (0, 5))))))
theorem dX3_soByPlan_0 : decode cX3_soByPlan 0 = .ok (.aload_n 0, 1) := by decide +kernel
theorem dX3_soByPlan_1 : decode cX3_soByPlan 1 = .ok (.getfield 36, 3) := by decide +kernel
theorem dX3_soByPlan_4 : decode cX3_soByPlan 4 = .ok (.getfield 40, 3) := by decide +kernel
theorem dX3_soByPlan_7 : decode cX3_soByPlan 7 = .ok (.istore_n 3, 1) := by decide +kernel
theorem dX3_soByPlan_8 : decode cX3_soByPlan 8 = .ok (.aload_n 0, 1) := by decide +kernel
theorem dX3_soByPlan_9 : decode cX3_soByPlan 9 = .ok (.getfield 36, 3) := by decide +kernel
theorem dX3_soByPlan_12 : decode cX3_soByPlan 12 = .ok (.getfield 45, 3) := by decide +kernel
theorem dX3_soByPlan_15 : decode cX3_soByPlan 15 = .ok (.istore 4, 2) := by decide +kernel
theorem dX3_soByPlan_17 : decode cX3_soByPlan 17 = .ok (.iconst 0, 1) := by decide +kernel
theorem dX3_soByPlan_18 : decode cX3_soByPlan 18 = .ok (.istore 5, 2) := by decide +kernel
theorem dX3_soByPlan_20 : decode cX3_soByPlan 20 = .ok (.iload 5, 2) := by decide +kernel
theorem dX3_soByPlan_22 : decode cX3_soByPlan 22 = .ok (.iconst 1, 1) := by decide +kernel
theorem dX3_soByPlan_23 : decode cX3_soByPlan 23 = .ok (.iadd, 1) := by decide +kernel
theorem dX3_soByPlan_24 : decode cX3_soByPlan 24 = .ok (.aload_n 1, 1) := by decide +kernel
theorem dX3_soByPlan_25 : decode cX3_soByPlan 25 = .ok (.arraylength, 1) := by decide +kernel
theorem dX3_soByPlan_26 : decode cX3_soByPlan 26 = .ok (.if_icmp .ge 58, 3) := by decide +kernel
theorem dX3_soByPlan_29 : decode cX3_soByPlan 29 = .ok (.aload_n 1, 1) := by decide +kernel
theorem dX3_soByPlan_30 : decode cX3_soByPlan 30 = .ok (.iload 5, 2) := by decide +kernel
theorem dX3_soByPlan_32 : decode cX3_soByPlan 32 = .ok (.iconst 1, 1) := by decide +kernel
theorem dX3_soByPlan_33 : decode cX3_soByPlan 33 = .ok (.iadd, 1) := by decide +kernel
theorem dX3_soByPlan_34 : decode cX3_soByPlan 34 = .ok (.iaload, 1) := by decide +kernel
theorem dX3_soByPlan_35 : decode cX3_soByPlan 35 = .ok (.iload_n 2, 1) := by decide +kernel
theorem dX3_soByPlan_36 : decode cX3_soByPlan 36 = .ok (.iload 5, 2) := by decide +kernel
theorem dX3_soByPlan_38 : decode cX3_soByPlan 38 = .ok (.iconst 2, 1) := by decide +kernel
theorem dX3_soByPlan_39 : decode cX3_soByPlan 39 = .ok (.idiv, 1) := by decide +kernel
theorem dX3_soByPlan_40 : decode cX3_soByPlan 40 = .ok (.ishr, 1) := by decide +kernel
theorem dX3_soByPlan_41 : decode cX3_soByPlan 41 = .ok (.iconst 1, 1) := by decide +kernel
theorem dX3_soByPlan_42 : decode cX3_soByPlan 42 = .ok (.iand, 1) := by decide +kernel
theorem dX3_soByPlan_43 : decode cX3_soByPlan 43 = .ok (.ixor, 1) := by decide +kernel
theorem dX3_soByPlan_44 : decode cX3_soByPlan 44 = .ok (.istore 6, 2) := by decide +kernel
theorem dX3_soByPlan_46 : decode cX3_soByPlan 46 = .ok (.aload_n 0, 1) := by decide +kernel
theorem dX3_soByPlan_47 : decode cX3_soByPlan 47 = .ok (.aload_n 0, 1) := by decide +kernel
theorem dX3_soByPlan_48 : decode cX3_soByPlan 48 = .ok (.getfield 24, 3) := by decide +kernel
theorem dX3_soByPlan_51 : decode cX3_soByPlan 51 = .ok (.getfield 109, 3) := by decide +kernel
theorem dX3_soByPlan_54 : decode cX3_soByPlan 54 = .ok (.aload_n 1, 1) := by decide +kernel
theorem dX3_soByPlan_55 : decode cX3_soByPlan 55 = .ok (.iload 5, 2) := by decide +kernel
theorem dX3_soByPlan_57 : decode cX3_soByPlan 57 = .ok (.iaload, 1) := by decide +kernel
theorem dX3_soByPlan_58 : decode cX3_soByPlan 58 = .ok (.iaload, 1) := by decide +kernel
theorem dX3_soByPlan_59 : decode cX3_soByPlan 59 = .ok (.iload 6, 2) := by decide +kernel
theorem dX3_soByPlan_61 : decode cX3_soByPlan 61 = .ok (.iload_n 3, 1) := by decide +kernel
theorem dX3_soByPlan_62 : decode cX3_soByPlan 62 = .ok (.iload 4, 2) := by decide +kernel
theorem dX3_soByPlan_64 : decode cX3_soByPlan 64 = .ok (.invokevirtual 90, 3) := by decide +kernel
theorem dX3_soByPlan_67 : decode cX3_soByPlan 67 = .ok (.istore_n 3, 1) := by decide +kernel
theorem dX3_soByPlan_68 : decode cX3_soByPlan 68 = .ok (.iload 4, 2) := by decide +kernel
theorem dX3_soByPlan_70 : decode cX3_soByPlan 70 = .ok (.iload 6, 2) := by decide +kernel
theorem dX3_soByPlan_72 : decode cX3_soByPlan 72 = .ok (.invokestatic 83, 3) := by decide +kernel
theorem dX3_soByPlan_75 : decode cX3_soByPlan 75 = .ok (.ior, 1) := by decide +kernel
theorem dX3_soByPlan_76 : decode cX3_soByPlan 76 = .ok (.istore 4, 2) := by decide +kernel
theorem dX3_soByPlan_78 : decode cX3_soByPlan 78 = .ok (.iinc 5 2, 3) := by decide +kernel
theorem dX3_soByPlan_81 : decode cX3_soByPlan 81 = .ok (.goto (-61), 3) := by decide +kernel
theorem dX3_soByPlan_84 : decode cX3_soByPlan 84 = .ok (.iload_n 3, 1) := by decide +kernel
theorem dX3_soByPlan_85 : decode cX3_soByPlan 85 = .ok (.ireturn, 1) := by decide +kernel
def Sp_X3_soByPlan (av : List AV) (m : AM) (Φ : Option AV → AM → Prop) : Prop := ∃ j x, av = [vr 2 20, vr 12 j, vi x] ∧ ∃ C D n s, BR m C ∧ x = nI s ∧ s < 64 ∧ m.2.2.1 j = 2 * n ∧ n ≤ 6 ∧ 125 ≤ j ∧ (∀ k, k < 2 * n → m.1 j k = D k) ∧ planOk C D n ∧ ∀ m2, CU C m m2 → Φ (some (vi (nI (plS C D s n).1))) m2
set_option maxRecDepth 20000 in
set_option maxHeartbeats 4000000 in
theorem S_X3_soByPlan : Snd yX3_soByPlan e_X3_soByPlan Sp_X3_soByPlan := by
  refine Snd.of (by decide +kernel) rfl ?_ ?_
  · rintro av m Φ ⟨j, x, rfl, _⟩; exact Nat.le_of_ble_eq_true rfl
  rintro av m Φ ⟨j, x, rfl, C, D, n, s, hB0, rfl, hs, hl, hn, hj, hD, hok, h⟩ hav hty
  show B e_X3_soByPlan Φ 0 [some (vr 2 20), some (vr 12 j), some (vi (nI s)), none, none, none, none] [] m (0, 0)
  have hv := hB0.1
  have h06 := hv.1
  have h45 := hv.2.2.2.2.1
  have loop : ∀ e k m2 o6, n + 1 ≤ k + e → k ≤ n → CU C m m2 → B e_X3_soByPlan Φ 20 [some (vr 2 20), some (vr 12 j), some (vi (nI s)), some (vi (nI (plS C D s k).1)), some (vi (nI (plS C D s k).2)), some (vi (nI (2 * k))), o6] [] m2 (0, 0) := by
    intro e
    induction e with
    | zero => intro k m2 o6 h1 h2; omega
    | succ e ih =>
      intro k m2 o6 h1 h2 hu
      have hB := hB0.cu hu
      have hl2 : m2.2.2.1 j = 2 * n := by rw [hu.two]; exact hl
      have hw := plS_lt hv (s := s) hok k h2
      by_cases hk : k < n
      · obtain ⟨P, hP, eP⟩ := (inB_iff (by omega)).mp (hok k hk).1
        obtain ⟨Y, hY, eY⟩ := (inB_iff (by omega)).mp (hok k hk).2
        have er : m2.1 j (nI (2 * k)).toNatClampNeg = nI P := by rw [n_cl (by omega), hu.ne (by omega), hD _ (by omega), eP]
        have er2 : m2.1 j (nI (2 * k) + nI 1).toNatClampNeg = nI Y := by rw [n_add, n_cl (by omega), hu.ne (by omega), hD _ (by omega), eY]
        have eb : ((nI s >>> (nI (2 * k) / nI 2 &&& 31)) &&& nI 1) = nI (plB s k) := by
          rw [pk_div (by omega) (by omega) (by omega), show 2 * k / 2 = k by omega, tbit_and1 _ _ (by omega) (by omega)]
          rfl
        have hX := plX_lt (s := s) (k := k) h06.2 hY
        have u1 : (plS C D s (k + 1)).1 = behN C (C (40 + 2 * P)) (plS C D s k).1 (plS C D s k).2 (Y ^^^ plB s k) := by
          show behN C (C (40 + 2 * (D (2 * k)).toNatClampNeg)) (plS C D s k).1 (plS C D s k).2 ((D (2 * k + 1)).toNatClampNeg ^^^ plB s k) = _
          rw [eP, eY, n_cl (by omega), n_cl (by omega)]
        have u2 : (plS C D s (k + 1)).2 = (plS C D s k).2 ||| 2 ^ ((Y ^^^ plB s k) / 2) := by
          show (plS C D s k).2 ||| 2 ^ (((D (2 * k + 1)).toNatClampNeg ^^^ plB s k) / 2) = _
          rw [eY, n_cl (by omega)]
        refine b_iloadG (pc := 20) 5 dX3_soByPlan_20 rfl ?_
        refine b_iconst (pc := 22) (nI 1) dX3_soByPlan_22 (by decide) ?_
        refine b_iadd (pc := 23) dX3_soByPlan_23 ?_
        refine b_aloadN (pc := 24) 1 dX3_soByPlan_24 rfl rfl ?_
        refine b_alenD (pc := 25) dX3_soByPlan_25 ?_
        refine b_icmp_ge (pc := 26) 84 dX3_soByPlan_26 (by decide) (fun c26 => ?_) (fun c26 => ?_)
        rotate_left -- leaf 0: at 84
        refine b_aloadN (pc := 29) 1 dX3_soByPlan_29 rfl rfl ?_
        refine b_iloadG (pc := 30) 5 dX3_soByPlan_30 rfl ?_
        refine b_iconst (pc := 32) (nI 1) dX3_soByPlan_32 (by decide) ?_
        refine b_iadd (pc := 33) dX3_soByPlan_33 ?_
        refine b_ialdD (pc := 34) ?_ dX3_soByPlan_34 ?_
        rotate_left -- leaf 1: index at 34
        refine b_iloadN (pc := 35) 2 dX3_soByPlan_35 rfl rfl ?_
        refine b_iloadG (pc := 36) 5 dX3_soByPlan_36 rfl ?_
        refine b_iconst (pc := 38) (nI 2) dX3_soByPlan_38 (by decide) ?_
        refine b_idiv (pc := 39) dX3_soByPlan_39 ?_ ?_
        rotate_left -- leaf 2: divisor at 39
        refine b_ishr (pc := 40) dX3_soByPlan_40 ?_
        refine b_iconst (pc := 41) (nI 1) dX3_soByPlan_41 (by decide) ?_
        refine b_iand (pc := 42) dX3_soByPlan_42 ?_
        refine b_ixor (pc := 43) dX3_soByPlan_43 ?_
        refine siG6 (pc := 44) notL_i (by decide) dX3_soByPlan_44 ?_
        refine b_aloadN (pc := 46) 0 dX3_soByPlan_46 rfl rfl ?_
        refine b_aloadN (pc := 47) 0 dX3_soByPlan_47 rfl rfl ?_
        refine gf2_0 (pc := 48) 21 rfl k267 dX3_soByPlan_48 ?_
        refine gf5_3 (pc := 51) 25 rfl k140 dX3_soByPlan_51 ?_
        refine b_aloadN (pc := 54) 1 dX3_soByPlan_54 rfl rfl ?_
        refine b_iloadG (pc := 55) 5 dX3_soByPlan_55 rfl ?_
        refine b_ialdD (pc := 57) ?_ dX3_soByPlan_57 ?_
        rotate_left -- leaf 3: index at 57
        refine b_iald (pc := 58) (by decide) ?_ dX3_soByPlan_58 ?_
        rotate_left -- leaf 4: index at 58
        refine b_iloadG (pc := 59) 6 dX3_soByPlan_59 rfl ?_
        refine b_iloadN (pc := 61) 3 dX3_soByPlan_61 rfl rfl ?_
        refine b_iloadG (pc := 62) 4 dX3_soByPlan_62 rfl ?_
        refine call_X2_soBehind (pc := 64) k917 (by decide) ⟨Nat.le_of_ble_eq_true rfl, Nat.le_of_ble_eq_true rfl⟩ (Nat.le_of_ble_eq_true rfl) dX3_soByPlan_64 ?_
        refine ⟨_, _, _, _, rfl, C, C (40 + 2 * P), Y ^^^ plB s k, _, _, hB, ?_, ?_, rfl, rfl, ?_, ?_, ?_, ?_, fun m64 h64 => ?_⟩
        rotate_left -- leaf 5: kd of X2_soBehind at 64
        rotate_left -- leaf 6: sy of X2_soBehind at 64
        rotate_left -- leaf 7: kind of X2_soBehind at 64
        rotate_left -- leaf 8: saying of X2_soBehind at 64
        rotate_left -- leaf 9: so of X2_soBehind at 64
        rotate_left -- leaf 10: said of X2_soBehind at 64
        have hB := hB.cu h64
        refine siN3 (pc := 67) rfl notL_i (by decide) dX3_soByPlan_67 ?_
        refine b_iloadG (pc := 68) 4 dX3_soByPlan_68 rfl ?_
        refine b_iloadG (pc := 70) 6 dX3_soByPlan_70 rfl ?_
        refine call_X2_factOf (pc := 72) k893 (by decide) ⟨Nat.le_of_ble_eq_true rfl, Nat.le_of_ble_eq_true rfl⟩ (Nat.le_of_ble_eq_true rfl) dX3_soByPlan_72 ?_
        refine ⟨_, rfl, Y ^^^ plB s k, ?_, ?_, ?_⟩
        rotate_left -- leaf 11: fy of X2_factOf at 72
        rotate_left -- leaf 12: bound of X2_factOf at 72
        refine b_ior (pc := 75) dX3_soByPlan_75 ?_
        refine siG4 (pc := 76) notL_i (by decide) dX3_soByPlan_76 ?_
        refine inc5 (pc := 78) notL_i (by decide) dX3_soByPlan_78 ?_
        refine b_goto (pc := 81) 20 dX3_soByPlan_81 (by decide) ?_
        rotate_left -- leaf 13: at 20
        -- leaves: 0 at 84; 1 index at 34; 2 divisor at 39; 3 index at 57; 4 index at 58; 5 kd of X2_soBehind at 64; 6 sy of X2_soBehind at 64; 7 kind of X2_soBehind at 64; 8 saying of X2_soBehind at 64; 9 so of X2_soBehind at 64; 10 said of X2_soBehind at 64; 11 fy of X2_factOf at 72; 12 bound of X2_factOf at 72; 13 at 20
        · have c26 : nI (m2.2.2.1 j) ≤ nI (2 * k) + nI 1 := c26
          rw [hl2, n_add, n_le (by omega) (by omega)] at c26
          omega
        · rw [hl2, n_add]; exact n_in (by omega) (by omega)
        · decide
        · rw [hl2]; exact n_in (by omega) (by omega)
        · rw [er]; exact n_in (by omega) (by omega)
        · rw [er, n_cl (by omega)]
          exact hB.2.1.2.2.2.2.2 P hP
        · rw [er2, eb, n_xor]
        · exact (hv.2.2.2.2.2.2.2.2.2 P hP).1
        · exact hX
        · exact hw.1
        · exact hw.2
        · rw [er2, eb, n_xor]
        · omega
        · have nx := ih (k + 1) m64 (some (vi (nI (Y ^^^ plB s k)))) (by omega) (by omega) (hu.tr h64)
          rw [u1, u2] at nx
          rw [er2, eb, n_xor, n_or, n_inc2]
          exact nx
      · have e : k = n := by omega
        subst e
        have t := h m2 hu
        refine b_iloadG (pc := 20) 5 dX3_soByPlan_20 rfl ?_
        refine b_iconst (pc := 22) (nI 1) dX3_soByPlan_22 (by decide) ?_
        refine b_iadd (pc := 23) dX3_soByPlan_23 ?_
        refine b_aloadN (pc := 24) 1 dX3_soByPlan_24 rfl rfl ?_
        refine b_alenD (pc := 25) dX3_soByPlan_25 ?_
        refine b_icmp_ge (pc := 26) 84 dX3_soByPlan_26 (by decide) (fun c26 => ?_) (fun c26 => ?_)
        refine b_iloadN (pc := 84) 3 dX3_soByPlan_84 rfl rfl ?_
        refine b_iret (pc := 85) rfl dX3_soByPlan_85 ⟨Nat.le_of_ble_eq_true rfl, Nat.le_of_ble_eq_true rfl⟩ ?_
        rotate_left -- leaf 0: return at 85
        rotate_left -- leaf 1: at 29
        -- leaves: 0 return at 85; 1 at 29
        · exact t
        · have c26 : ¬ nI (m2.2.2.1 j) ≤ nI (2 * k) + nI 1 := c26
          rw [hl2, n_add, n_le (by omega) (by omega)] at c26
          omega
  refine b_aloadN (pc := 0) 0 dX3_soByPlan_0 rfl rfl ?_
  refine gf2_1 (pc := 1) 26 rfl k273 dX3_soByPlan_1 ?_
  refine gf8_1 (pc := 4) k233 dX3_soByPlan_4 ?_
  refine siN3 (pc := 7) rfl notL_i (by decide) dX3_soByPlan_7 ?_
  refine b_aloadN (pc := 8) 0 dX3_soByPlan_8 rfl rfl ?_
  refine gf2_1 (pc := 9) 26 rfl k273 dX3_soByPlan_9 ?_
  refine gf8_2 (pc := 12) k238 dX3_soByPlan_12 ?_
  refine siG4 (pc := 15) notL_i (by decide) dX3_soByPlan_15 ?_
  refine b_iconst (pc := 17) (nI 0) dX3_soByPlan_17 (by decide) ?_
  refine siG5 (pc := 18) notL_i (by decide) dX3_soByPlan_18 ?_
  rotate_left -- leaf 0: at 20
  -- leaves: 0 at 20
  rw [hB0.2.2.1.1, hB0.2.2.1.2.1]
  exact loop (n + 1) 0 m none (by omega) (by omega) (CU.rf C m)
theorem call_X3_soByPlan {E : ME} {Φ : Option AV → AM → Prop} {pc : Nat} {L : List (Option AV)} {st : List AV} {m : AM} {a : Nat × Nat} {idx : Nat} {x0 x1 x2 : AV} (hl : Cond.methodLink E.2.1 idx yX3_soByPlan ∈ TB) (hdep : 5 + 1 ≤ E.2.2.2.2.2.2) (hroom : a.1 + 0 ≤ E.2.2.2.2.1 ∧ a.2 + 0 ≤ E.2.2.2.2.2.1) (hsr : st.length ≤ 4) (hd : decode E.1 pc = .ok (.invokestatic idx, 3)) (hsp : Sp_X3_soByPlan [x0, x1, x2] m (fun r m2 => B E Φ (pc + 3) L (r.toList ++ st) m2 a)) : B E Φ pc L (x2 :: x1 :: x0 :: st) m a := b_callS S_X3_soByPlan [x0, x1, x2] (Or.inl hl) k936 k77 k937 (show _ ∧ _ ∧ Option.map (fun d => d.parameters.length) (parseMethodDescriptor yX3_soByPlan.desc) = some 3 from by decide +kernel) ⟨hdep, by decide⟩ hroom hsr hd hsp
def tempV (C : Nat → Nat) (D : Nat → Int32) (F p n w : Nat) : Int64 := lN ((if w = 0 then abv C D F p n (2 ^ n) else 10 ^ n) / Nat.gcd (10 ^ n) (abv C D F p n (2 ^ n)))
abbrev e_X3_likelihood : ME := (cX3_likelihood, (RX3, (14, ((some .long), (0, (0, 6))))))
theorem dX3_likelihood_0 : decode cX3_likelihood 0 = .ok (.aload 4, 2) := by decide +kernel
theorem dX3_likelihood_2 : decode cX3_likelihood 2 = .ok (.arraylength, 1) := by decide +kernel
theorem dX3_likelihood_3 : decode cX3_likelihood 3 = .ok (.iconst 2, 1) := by decide +kernel
theorem dX3_likelihood_4 : decode cX3_likelihood 4 = .ok (.idiv, 1) := by decide +kernel
theorem dX3_likelihood_5 : decode cX3_likelihood 5 = .ok (.istore 6, 2) := by decide +kernel
theorem dX3_likelihood_7 : decode cX3_likelihood 7 = .ok (.lconst 0, 1) := by decide +kernel
theorem dX3_likelihood_8 : decode cX3_likelihood 8 = .ok (.lstore 7, 2) := by decide +kernel
theorem dX3_likelihood_10 : decode cX3_likelihood 10 = .ok (.lconst 1, 1) := by decide +kernel
theorem dX3_likelihood_11 : decode cX3_likelihood 11 = .ok (.lstore 9, 2) := by decide +kernel
theorem dX3_likelihood_13 : decode cX3_likelihood 13 = .ok (.iconst 0, 1) := by decide +kernel
theorem dX3_likelihood_14 : decode cX3_likelihood 14 = .ok (.istore 11, 2) := by decide +kernel
theorem dX3_likelihood_16 : decode cX3_likelihood 16 = .ok (.iload 11, 2) := by decide +kernel
theorem dX3_likelihood_18 : decode cX3_likelihood 18 = .ok (.iload 6, 2) := by decide +kernel
theorem dX3_likelihood_20 : decode cX3_likelihood 20 = .ok (.if_icmp .ge 17, 3) := by decide +kernel
theorem dX3_likelihood_23 : decode cX3_likelihood 23 = .ok (.lload 9, 2) := by decide +kernel
theorem dX3_likelihood_25 : decode cX3_likelihood 25 = .ok (.ldc2_w 93, 3) := by decide +kernel
theorem dX3_likelihood_28 : decode cX3_likelihood 28 = .ok (.lmul, 1) := by decide +kernel
theorem dX3_likelihood_29 : decode cX3_likelihood 29 = .ok (.lstore 9, 2) := by decide +kernel
theorem dX3_likelihood_31 : decode cX3_likelihood 31 = .ok (.iinc 11 1, 3) := by decide +kernel
theorem dX3_likelihood_34 : decode cX3_likelihood 34 = .ok (.goto (-18), 3) := by decide +kernel
theorem dX3_likelihood_37 : decode cX3_likelihood 37 = .ok (.iconst 0, 1) := by decide +kernel
theorem dX3_likelihood_38 : decode cX3_likelihood 38 = .ok (.istore 11, 2) := by decide +kernel
theorem dX3_likelihood_40 : decode cX3_likelihood 40 = .ok (.iload 11, 2) := by decide +kernel
theorem dX3_likelihood_42 : decode cX3_likelihood 42 = .ok (.iconst 1, 1) := by decide +kernel
theorem dX3_likelihood_43 : decode cX3_likelihood 43 = .ok (.iload 6, 2) := by decide +kernel
theorem dX3_likelihood_45 : decode cX3_likelihood 45 = .ok (.ishl, 1) := by decide +kernel
theorem dX3_likelihood_46 : decode cX3_likelihood 46 = .ok (.if_icmp .ge 47, 3) := by decide +kernel
theorem dX3_likelihood_49 : decode cX3_likelihood 49 = .ok (.iload_n 3, 1) := by decide +kernel
theorem dX3_likelihood_50 : decode cX3_likelihood 50 = .ok (.iload 11, 2) := by decide +kernel
theorem dX3_likelihood_52 : decode cX3_likelihood 52 = .ok (.iload 6, 2) := by decide +kernel
theorem dX3_likelihood_54 : decode cX3_likelihood 54 = .ok (.invokestatic 95, 3) := by decide +kernel
theorem dX3_likelihood_57 : decode cX3_likelihood 57 = .ok (.lstore 12, 2) := by decide +kernel
theorem dX3_likelihood_59 : decode cX3_likelihood 59 = .ok (.lload 12, 2) := by decide +kernel
theorem dX3_likelihood_61 : decode cX3_likelihood 61 = .ok (.lconst 0, 1) := by decide +kernel
theorem dX3_likelihood_62 : decode cX3_likelihood 62 = .ok (.lcmp, 1) := by decide +kernel
theorem dX3_likelihood_63 : decode cX3_likelihood 63 = .ok (.ifCond .eq 24, 3) := by decide +kernel
theorem dX3_likelihood_66 : decode cX3_likelihood 66 = .ok (.aload_n 1, 1) := by decide +kernel
theorem dX3_likelihood_67 : decode cX3_likelihood 67 = .ok (.aload 4, 2) := by decide +kernel
theorem dX3_likelihood_69 : decode cX3_likelihood 69 = .ok (.iload 11, 2) := by decide +kernel
theorem dX3_likelihood_71 : decode cX3_likelihood 71 = .ok (.invokestatic 99, 3) := by decide +kernel
theorem dX3_likelihood_74 : decode cX3_likelihood 74 = .ok (.iload_n 2, 1) := by decide +kernel
theorem dX3_likelihood_75 : decode cX3_likelihood 75 = .ok (.iand, 1) := by decide +kernel
theorem dX3_likelihood_76 : decode cX3_likelihood 76 = .ok (.iload_n 2, 1) := by decide +kernel
theorem dX3_likelihood_77 : decode cX3_likelihood 77 = .ok (.if_icmp .ne 10, 3) := by decide +kernel
theorem dX3_likelihood_80 : decode cX3_likelihood 80 = .ok (.lload 7, 2) := by decide +kernel
theorem dX3_likelihood_82 : decode cX3_likelihood 82 = .ok (.lload 12, 2) := by decide +kernel
theorem dX3_likelihood_84 : decode cX3_likelihood 84 = .ok (.ladd, 1) := by decide +kernel
theorem dX3_likelihood_85 : decode cX3_likelihood 85 = .ok (.lstore 7, 2) := by decide +kernel
theorem dX3_likelihood_87 : decode cX3_likelihood 87 = .ok (.iinc 11 1, 3) := by decide +kernel
theorem dX3_likelihood_90 : decode cX3_likelihood 90 = .ok (.goto (-50), 3) := by decide +kernel
theorem dX3_likelihood_93 : decode cX3_likelihood 93 = .ok (.lload 9, 2) := by decide +kernel
theorem dX3_likelihood_95 : decode cX3_likelihood 95 = .ok (.lload 7, 2) := by decide +kernel
theorem dX3_likelihood_97 : decode cX3_likelihood 97 = .ok (.invokestatic 103, 3) := by decide +kernel
theorem dX3_likelihood_100 : decode cX3_likelihood 100 = .ok (.lstore 11, 2) := by decide +kernel
theorem dX3_likelihood_102 : decode cX3_likelihood 102 = .ok (.lload 11, 2) := by decide +kernel
theorem dX3_likelihood_104 : decode cX3_likelihood 104 = .ok (.lconst 1, 1) := by decide +kernel
theorem dX3_likelihood_105 : decode cX3_likelihood 105 = .ok (.lcmp, 1) := by decide +kernel
theorem dX3_likelihood_106 : decode cX3_likelihood 106 = .ok (.ifCond .ge 7, 3) := by decide +kernel
theorem dX3_likelihood_109 : decode cX3_likelihood 109 = .ok (.ldc2_w 107, 3) := by decide +kernel
theorem dX3_likelihood_112 : decode cX3_likelihood 112 = .ok (.lreturn, 1) := by decide +kernel
theorem dX3_likelihood_113 : decode cX3_likelihood 113 = .ok (.iload 5, 2) := by decide +kernel
theorem dX3_likelihood_115 : decode cX3_likelihood 115 = .ok (.ifCond .ne 11, 3) := by decide +kernel
theorem dX3_likelihood_118 : decode cX3_likelihood 118 = .ok (.lload 7, 2) := by decide +kernel
theorem dX3_likelihood_120 : decode cX3_likelihood 120 = .ok (.lload 11, 2) := by decide +kernel
theorem dX3_likelihood_122 : decode cX3_likelihood 122 = .ok (.ldiv, 1) := by decide +kernel
theorem dX3_likelihood_123 : decode cX3_likelihood 123 = .ok (.goto 8, 3) := by decide +kernel
theorem dX3_likelihood_126 : decode cX3_likelihood 126 = .ok (.lload 9, 2) := by decide +kernel
theorem dX3_likelihood_128 : decode cX3_likelihood 128 = .ok (.lload 11, 2) := by decide +kernel
theorem dX3_likelihood_130 : decode cX3_likelihood 130 = .ok (.ldiv, 1) := by decide +kernel
theorem dX3_likelihood_131 : decode cX3_likelihood 131 = .ok (.lreturn, 1) := by decide +kernel
def Sp_X3_likelihood (av : List AV) (m : AM) (Φ : Option AV → AM → Prop) : Prop := ∃ x y j z, av = [vr 3 103, vr 2 20, vi x, vi y, vr 12 j, vi z] ∧ ∃ C D F p n w, BR m C ∧ x = nI F ∧ F < 64 ∧ y = nI p ∧ p ≤ 10 ∧ z = nI w ∧ w ≤ 1 ∧ m.2.2.1 j = 2 * n ∧ n ≤ 6 ∧ 125 ≤ j ∧ (∀ k, k < 2 * n → m.1 j k = D k) ∧ planOk C D n ∧ ∀ m2, CU C m m2 → Φ (some (vl (tempV C D F p n w))) m2
set_option maxRecDepth 20000 in
set_option maxHeartbeats 4000000 in
theorem S_X3_likelihood : Snd yX3_likelihood e_X3_likelihood Sp_X3_likelihood := by
  refine Snd.of (by decide +kernel) rfl ?_ ?_
  · rintro av m Φ ⟨x, y, j, z, rfl, _⟩; exact Nat.le_of_ble_eq_true rfl
  rintro av m Φ ⟨x, y, j, z, rfl, C, D, F, p, n, w, hB0, rfl, hF, rfl, hp, rfl, hw, hl, hn, hj, hD, hok, h⟩ hav hty
  show B e_X3_likelihood Φ 0 [some (vr 3 103), some (vr 2 20), some (vi (nI F)), some (vi (nI p)), some (vr 12 j), some (vi (nI w)), none, none, none, none, none, none, none, none] [] m (0, 0)
  have hten := ten_le hn
  have h2n : 2 ^ n ≤ 2 ^ 6 := Nat.pow_le_pow_right (by omega) hn
  have fin : ∀ m2, CU C m m2 → ∀ o11 o12 o13, B e_X3_likelihood Φ 93 [some (vr 3 103), some (vr 2 20), some (vi (nI F)), some (vi (nI p)), some (vr 12 j), some (vi (nI w)), some (vi (nI n)), some (vl (lN (abv C D F p n (2 ^ n)))), none, some (vl (lN (10 ^ n))), none, some (vi o11), o12, o13] [] m2 (0, 0) := by
    intro m2 hu o11 o12 o13
    have ha := abv_lt (C := C) (D := D) (F := F) hp hn (Nat.le_refl (2 ^ n))
    have hG : 0 < Nat.gcd (10 ^ n) (abv C D F p n (2 ^ n)) := Nat.gcd_pos_of_pos_left _ hten.1
    have hG2 : Nat.gcd (10 ^ n) (abv C D F p n (2 ^ n)) ≤ 10 ^ n := Nat.gcd_le_left _ hten.1
    have t := h m2 hu
    unfold tempV at t
    refine b_lloadG (pc := 93) 9 dX3_likelihood_93 rfl ?_
    refine b_lloadG (pc := 95) 7 dX3_likelihood_95 rfl ?_
    refine call_X3_commonDivisor (pc := 97) k938 (by decide) ⟨Nat.le_of_ble_eq_true rfl, Nat.le_of_ble_eq_true rfl⟩ (Nat.le_of_ble_eq_true rfl) dX3_likelihood_97 ?_
    refine ⟨_, _, rfl, _, _, rfl, rfl, ?_, ?_, ?_, ?_⟩
    rotate_left -- leaf 0: le of X3_commonDivisor at 97
    rotate_left -- leaf 1: pos of X3_commonDivisor at 97
    rotate_left -- leaf 2: bound of X3_commonDivisor at 97
    refine slG11 (pc := 100) notL_n (by decide) dX3_likelihood_100 ?_
    refine b_lloadG (pc := 102) 11 dX3_likelihood_102 rfl ?_
    refine b_lconst (pc := 104) 1 dX3_likelihood_104 (by decide) ?_
    refine b_lcmp (pc := 105) dX3_likelihood_105 ?_
    refine b_if_ge (pc := 106) 113 dX3_likelihood_106 (by decide) (fun c106 => ?_) (fun c106 => ?_)
    refine b_iloadG (pc := 113) 5 dX3_likelihood_113 rfl ?_
    refine b_if_ne (pc := 115) 126 dX3_likelihood_115 (by decide) (fun c115 => ?_) (fun c115 => ?_)
    refine b_lloadG (pc := 126) 9 dX3_likelihood_126 rfl ?_
    refine b_lloadG (pc := 128) 11 dX3_likelihood_128 rfl ?_
    refine b_ldiv (pc := 130) dX3_likelihood_130 ?_ ?_
    rotate_left -- leaf 3: divisor at 130
    refine b_lret (pc := 131) rfl dX3_likelihood_131 ⟨Nat.le_of_ble_eq_true rfl, Nat.le_of_ble_eq_true rfl⟩ ?_
    rotate_left -- leaf 4: return at 131
    refine b_lloadG (pc := 118) 7 dX3_likelihood_118 rfl ?_
    refine b_lloadG (pc := 120) 11 dX3_likelihood_120 rfl ?_
    refine b_ldiv (pc := 122) dX3_likelihood_122 ?_ ?_
    rotate_left -- leaf 5: divisor at 122
    refine b_goto (pc := 123) 131 dX3_likelihood_123 (by decide) ?_
    refine b_lret (pc := 131) rfl dX3_likelihood_131 ⟨Nat.le_of_ble_eq_true rfl, Nat.le_of_ble_eq_true rfl⟩ ?_
    rotate_left -- leaf 6: return at 131
    rotate_left -- leaf 7: at 109
    -- leaves: 0 le of X3_commonDivisor at 97; 1 pos of X3_commonDivisor at 97; 2 bound of X3_commonDivisor at 97; 3 divisor at 130; 4 return at 131; 5 divisor at 122; 6 return at 131; 7 at 109
    · exact ha
    · exact hten.1
    · exact hten.2
    · rw [show (0 : Int64) = lN 0 from rfl, pk_lEQ (by omega) (by omega)]; omega
    · rw [n_eq0 (by omega)] at c115
      rw [if_neg c115] at t
      rw [pk_lDiv (by omega) hG (by omega)]
      exact t
    · rw [show (0 : Int64) = lN 0 from rfl, pk_lEQ (by omega) (by omega)]; omega
    · rw [n_eq0 (by omega)] at c115
      rw [if_pos c115] at t
      rw [pk_lDiv (by omega) hG (by omega)]
      exact t
    · rw [lg_cmp_ge, show (1 : Int64) = lN 1 from rfl, pk_lLE (by omega) (by omega)] at c106
      omega
  have loop2 : ∀ e s m2 o12 o13, 2 ^ n + 1 ≤ s + e → s ≤ 2 ^ n → CU C m m2 → B e_X3_likelihood Φ 40 [some (vr 3 103), some (vr 2 20), some (vi (nI F)), some (vi (nI p)), some (vr 12 j), some (vi (nI w)), some (vi (nI n)), some (vl (lN (abv C D F p n s))), none, some (vl (lN (10 ^ n))), none, some (vi (nI s)), o12, o13] [] m2 (0, 0) := by
    intro e
    induction e with
    | zero => intro s m2 o12 o13 h1 h2; omega
    | succ e ih =>
      intro s m2 o12 o13 h1 h2 hu
      have hB := hB0.cu hu
      have un : abv C D F p n (s + 1) = abv C D F p n s + if (plS C D s n).1 &&& F = F then cas p s n else 0 := rfl
      have hcs := cas_le hp s n
      have hpl := plS_lt hB.1 (s := s) hok n (Nat.le_refl n)
      have hpa : (plS C D s n).1 &&& F < 64 := Nat.and_lt_two_pow (n := 6) _ hF
      refine b_iloadG (pc := 40) 11 dX3_likelihood_40 rfl ?_
      refine b_iconst (pc := 42) (nI 1) dX3_likelihood_42 (by decide) ?_
      refine b_iloadG (pc := 43) 6 dX3_likelihood_43 rfl ?_
      refine b_ishl (pc := 45) dX3_likelihood_45 ?_
      refine b_icmp_ge (pc := 46) 93 dX3_likelihood_46 (by decide) (fun c46 => ?_) (fun c46 => ?_)
      rotate_left -- leaf 0: at 93
      refine b_iloadN (pc := 49) 3 dX3_likelihood_49 rfl rfl ?_
      refine b_iloadG (pc := 50) 11 dX3_likelihood_50 rfl ?_
      refine b_iloadG (pc := 52) 6 dX3_likelihood_52 rfl ?_
      refine call_X3_cases (pc := 54) k932 (by decide) ⟨Nat.le_of_ble_eq_true rfl, Nat.le_of_ble_eq_true rfl⟩ (Nat.le_of_ble_eq_true rfl) dX3_likelihood_54 ?_
      refine ⟨_, _, _, rfl, p, s, n, rfl, rfl, rfl, hp, ?_, ?_, ?_⟩
      rotate_left -- leaf 1: s64 of X3_cases at 54
      rotate_left -- leaf 2: n6 of X3_cases at 54
      refine slG12 (pc := 57) notL_i (by decide) dX3_likelihood_57 ?_
      refine b_lloadG (pc := 59) 12 dX3_likelihood_59 rfl ?_
      refine b_lconst (pc := 61) 0 dX3_likelihood_61 (by decide) ?_
      refine b_lcmp (pc := 62) dX3_likelihood_62 ?_
      refine b_if_eq (pc := 63) 87 dX3_likelihood_63 (by decide) (fun c63 => ?_) (fun c63 => ?_)
      refine inc11 (pc := 87) notL_n (by decide) dX3_likelihood_87 ?_
      refine b_goto (pc := 90) 40 dX3_likelihood_90 (by decide) ?_
      rotate_left -- leaf 3: at 40
      refine b_aloadN (pc := 66) 1 dX3_likelihood_66 rfl rfl ?_
      refine b_aloadG (pc := 67) 4 dX3_likelihood_67 rfl ?_
      refine b_iloadG (pc := 69) 11 dX3_likelihood_69 rfl ?_
      refine call_X3_soByPlan (pc := 71) k935 (by decide) ⟨Nat.le_of_ble_eq_true rfl, Nat.le_of_ble_eq_true rfl⟩ (Nat.le_of_ble_eq_true rfl) dX3_likelihood_71 ?_
      refine ⟨_, _, rfl, C, D, n, s, hB, rfl, ?_, ?_, hn, hj, ?_, hok, fun m71 h71 => ?_⟩
      rotate_left -- leaf 4: s64 of X3_soByPlan at 71
      rotate_left -- leaf 5: len of X3_soByPlan at 71
      rotate_left -- leaf 6: dat of X3_soByPlan at 71
      have hB := hB.cu h71
      refine b_iloadN (pc := 74) 2 dX3_likelihood_74 rfl rfl ?_
      refine b_iand (pc := 75) dX3_likelihood_75 ?_
      refine b_iloadN (pc := 76) 2 dX3_likelihood_76 rfl rfl ?_
      refine b_icmp_ne (pc := 77) 87 dX3_likelihood_77 (by decide) (fun c77 => ?_) (fun c77 => ?_)
      refine inc11 (pc := 87) notL_n (by decide) dX3_likelihood_87 ?_
      refine b_goto (pc := 90) 40 dX3_likelihood_90 (by decide) ?_
      rotate_left -- leaf 7: at 40
      refine b_lloadG (pc := 80) 7 dX3_likelihood_80 rfl ?_
      refine b_lloadG (pc := 82) 12 dX3_likelihood_82 rfl ?_
      refine b_ladd (pc := 84) dX3_likelihood_84 ?_
      refine slG7 (pc := 85) notL_i (by decide) dX3_likelihood_85 ?_
      refine inc11 (pc := 87) notL_n (by decide) dX3_likelihood_87 ?_
      refine b_goto (pc := 90) 40 dX3_likelihood_90 (by decide) ?_
      rotate_left -- leaf 8: at 40
      -- leaves: 0 at 93; 1 s64 of X3_cases at 54; 2 n6 of X3_cases at 54; 3 at 40; 4 s64 of X3_soByPlan at 71; 5 len of X3_soByPlan at 71; 6 dat of X3_soByPlan at 71; 7 at 40; 8 at 40
      · rw [n_pow (by omega), n_le (by omega) (by omega)] at c46
        have es : s = 2 ^ n := by omega
        subst es
        exact fin m2 hu _ _ _
      · rw [n_pow (by omega), n_le (by omega) (by omega)] at c46
        omega
      · exact hn
      · rw [lg_cmp_eq, show (0 : Int64) = lN 0 from rfl, pk_lEQ (by omega) (by omega)] at c63
        rw [n_pow (by omega), n_le (by omega) (by omega)] at c46
        have e2 : abv C D F p n (s + 1) = abv C D F p n s := by
          rw [un, c63]
          split <;> omega
        have nx := ih (s + 1) m2 (some (vl (lN (cas p s n)))) none (by omega) (by omega) hu
        rw [e2] at nx
        rw [n_inc]
        exact nx
      · rw [n_pow (by omega), n_le (by omega) (by omega)] at c46
        omega
      · rw [hu.two]; exact hl
      · intro k hk
        rw [hu.ne (by omega)]; exact hD k hk
      · rw [n_pow (by omega), n_le (by omega) (by omega)] at c46
        rw [n_and, n_eq (by omega) (by omega)] at c77
        rw [if_neg c77] at un
        have nx := ih (s + 1) m71 (some (vl (lN (cas p s n)))) none (by omega) (by omega) (hu.tr h71)
        rw [un] at nx
        rw [n_inc]
        exact nx
      · rw [n_pow (by omega), n_le (by omega) (by omega)] at c46
        rw [n_and, n_eq (by omega) (by omega)] at c77
        rw [if_pos c77] at un
        have nx := ih (s + 1) m71 (some (vl (lN (cas p s n)))) none (by omega) (by omega) (hu.tr h71)
        rw [un] at nx
        rw [n_inc, lN_add]
        exact nx
  have loop1 : ∀ e k, n + 1 ≤ k + e → k ≤ n → B e_X3_likelihood Φ 16 [some (vr 3 103), some (vr 2 20), some (vi (nI F)), some (vi (nI p)), some (vr 12 j), some (vi (nI w)), some (vi (nI n)), some (vl (lN 0)), none, some (vl (lN (10 ^ k))), none, some (vi (nI k)), none, none] [] m (0, 0) := by
    intro e
    induction e with
    | zero => intro k h1 h2; omega
    | succ e ih =>
      intro k h1 h2
      refine b_iloadG (pc := 16) 11 dX3_likelihood_16 rfl ?_
      refine b_iloadG (pc := 18) 6 dX3_likelihood_18 rfl ?_
      refine b_icmp_ge (pc := 20) 37 dX3_likelihood_20 (by decide) (fun c20 => ?_) (fun c20 => ?_)
      refine b_iconst (pc := 37) (nI 0) dX3_likelihood_37 (by decide) ?_
      refine siG11 (pc := 38) notL_n (by decide) dX3_likelihood_38 ?_
      rotate_left -- leaf 0: at 40
      refine b_lloadG (pc := 23) 9 dX3_likelihood_23 rfl ?_
      refine b_ldc2 (pc := 25) k931 dX3_likelihood_25 ?_
      refine b_lmul (pc := 28) dX3_likelihood_28 ?_
      refine slG9 (pc := 29) notL_n (by decide) dX3_likelihood_29 ?_
      refine inc11 (pc := 31) notL_n (by decide) dX3_likelihood_31 ?_
      refine b_goto (pc := 34) 16 dX3_likelihood_34 (by decide) ?_
      rotate_left -- leaf 1: at 16
      -- leaves: 0 at 40; 1 at 16
      · rw [n_le (by omega) (by omega)] at c20
        rw [show k = n by omega]
        exact loop2 (2 ^ n + 1) 0 m none none (Nat.le_of_eq (Nat.zero_add _).symm) (Nat.zero_le _) (CU.rf C m)
      · rw [show (10 : Int64) = lN 10 from rfl, lN_mul, ← Nat.pow_succ, n_inc]
        rw [n_le (by omega) (by omega)] at c20
        exact ih (k + 1) (by omega) (by omega)
  refine b_aloadG (pc := 0) 4 dX3_likelihood_0 rfl ?_
  refine b_alenD (pc := 2) dX3_likelihood_2 ?_
  refine b_iconst (pc := 3) (nI 2) dX3_likelihood_3 (by decide) ?_
  refine b_idiv (pc := 4) dX3_likelihood_4 ?_ ?_
  rotate_left -- leaf 0: divisor at 4
  refine siG6 (pc := 5) notL_i (by decide) dX3_likelihood_5 ?_
  refine b_lconst (pc := 7) 0 dX3_likelihood_7 (by decide) ?_
  refine slG7 (pc := 8) notL_i (by decide) dX3_likelihood_8 ?_
  refine b_lconst (pc := 10) 1 dX3_likelihood_10 (by decide) ?_
  refine slG9 (pc := 11) notL_n (by decide) dX3_likelihood_11 ?_
  refine b_iconst (pc := 13) (nI 0) dX3_likelihood_13 (by decide) ?_
  refine siG11 (pc := 14) notL_n (by decide) dX3_likelihood_14 ?_
  rotate_left -- leaf 1: at 16
  -- leaves: 0 divisor at 4; 1 at 16
  · decide
  · have ed : Int32.ofNat (m.2.2.1 j) / nI 2 = nI n := by
      rw [hl]
      show nI (2 * n) / nI 2 = _
      rw [pk_div (by omega) (by omega) (by omega), show 2 * n / 2 = n by omega]
    rw [ed]
    exact loop1 (n + 1) 0 (by omega) (by omega)
theorem call_X3_likelihood {E : ME} {Φ : Option AV → AM → Prop} {pc : Nat} {L : List (Option AV)} {st : List AV} {m : AM} {a : Nat × Nat} {idx : Nat} {x0 x1 x2 x3 x4 : AV} {i : Nat} (hl : Cond.methodLink E.2.1 idx yX3_likelihood ∈ TB) (hdep : 6 + 1 ≤ E.2.2.2.2.2.2) (hroom : a.1 + 0 ≤ E.2.2.2.2.1 ∧ a.2 + 0 ≤ E.2.2.2.2.2.1) (hsr : st.length ≤ 4) (hd : decode E.1 pc = .ok (.invokevirtual idx, 3)) (hsp : Sp_X3_likelihood [vr 3 i, x0, x1, x2, x3, x4] m (fun r m2 => B E Φ (pc + 3) L (r.toList ++ st) m2 a)) : B E Φ pc L (x4 :: x3 :: x2 :: x1 :: x0 :: vr 3 i :: st) m a := b_callV S_X3_likelihood [x0, x1, x2, x3, x4] (RX3, TX3, 4) rfl rfl (by decide) (Or.inl hl) k928 k929 k77 k930 (show _ ∧ _ ∧ Option.map (fun d => d.parameters.length) (parseMethodDescriptor yX3_likelihood.desc) = some 5 from by decide +kernel) ⟨hdep, by decide⟩ hroom hsr hd hsp
