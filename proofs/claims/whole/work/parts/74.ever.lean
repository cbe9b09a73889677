/-! what can be reached, of the class -/
def RchP (C : Nat → Nat) (so : Nat) : Prop := so = C 1 ∨ ∃ n said c f, Wk C 0 n so said c f
def orS (rs : Nat → Bool) : Nat → Nat
  | 0 => 0
  | k + 1 => if rs k = true then orS rs k ||| k else orS rs k
def cntS (rs : Nat → Bool) (n : Nat) : Nat := sumN n (fun i => if rs i = true then 1 else 0)
theorem orS_bit (rs : Nat → Bool) (i : Nat) : ∀ n, (orS rs n).testBit i = true ↔ ∃ k, k < n ∧ rs k = true ∧ k.testBit i = true
  | 0 => by
    constructor
    · intro h
      have h : (0 : Nat).testBit i = true := h
      rw [Nat.zero_testBit] at h
      cases h
    · rintro ⟨k, h, -⟩
      omega
  | n + 1 => by
    have ih := orS_bit rs i n
    unfold orS
    by_cases q : rs n = true
    · rw [if_pos q, Nat.testBit_or, Bool.or_eq_true, ih]
      constructor
      · rintro (⟨k, a, b, c⟩ | h)
        · exact ⟨k, by omega, b, c⟩
        · exact ⟨n, by omega, q, h⟩
      · rintro ⟨k, a, b, c⟩
        by_cases z : k = n
        · subst z; exact Or.inr c
        · exact Or.inl ⟨k, by omega, b, c⟩
    · rw [if_neg q, ih]
      constructor
      · rintro ⟨k, a, b, c⟩
        exact ⟨k, by omega, b, c⟩
      · rintro ⟨k, a, b, c⟩
        by_cases z : k = n
        · subst z; exact absurd b q
        · exact ⟨k, by omega, b, c⟩
theorem orS_lt (rs : Nat → Bool) : ∀ n, n ≤ 64 → orS rs n < 64
  | 0, _ => by show 0 < 64; omega
  | n + 1, h => by
    have ih := orS_lt rs n (by omega)
    unfold orS
    split
    · exact or_lt64 ih (by omega)
    · exact ih
theorem cntS_bit (n : Nat) : ∀ k, sumN k (fun i => n / 2 ^ i % 2) = cntS (fun i => n.testBit i) k := by
  intro k
  refine sumN_cg k (fun i _ => ?_)
  show n / 2 ^ i % 2 = if n.testBit i = true then 1 else 0
  rw [Nat.testBit_eq_decide_div_mod_eq]
  by_cases q : n / 2 ^ i % 2 = 1
  · rw [decide_eq_true q, if_pos rfl]; exact q
  · rw [decide_eq_false q, if_neg (by decide)]; omega
theorem nat_ext64 {a b : Nat} (ha : a < 64) (hb : b < 64) (h : ∀ i, i < 6 → (a.testBit i = true ↔ b.testBit i = true)) : a = b := by
  apply Nat.eq_of_testBit_eq
  intro i
  by_cases q : i < 6
  · have := h i q
    cases x : a.testBit i <;> cases y : b.testBit i
    · rfl
    · rw [x, y] at this; exact absurd (this.mpr rfl) (by decide)
    · rw [x, y] at this; exact absurd (this.mp rfl) (by decide)
    · rfl
  · have p : 2 ^ 6 ≤ 2 ^ i := Nat.pow_le_pow_right (by omega) (by omega)
    rw [Nat.testBit_lt_two_pow (show a < 2 ^ i by omega), Nat.testBit_lt_two_pow (show b < 2 ^ i by omega)]
theorem ex_none {lab : Nat → Option (Nat × Nat)} {k : Nat} {P : Nat → Prop} (h : lab k = none) : (∃ n, n < k ∧ (lab n).isSome = true ∧ P n) ↔ ∃ n, n < k + 1 ∧ (lab n).isSome = true ∧ P n := by
  constructor
  · rintro ⟨n, a, b, c⟩
    exact ⟨n, by omega, b, c⟩
  · rintro ⟨n, a, b, c⟩
    by_cases q : n = k
    · rw [q, h] at b
      cases b
    · exact ⟨n, by omega, b, c⟩
theorem ex_some {lab : Nat → Option (Nat × Nat)} {k : Nat} {x : Nat × Nat} {P : Nat → Prop} (h : lab k = some x) : ((∃ n, n < k ∧ (lab n).isSome = true ∧ P n) ∨ P k) ↔ ∃ n, n < k + 1 ∧ (lab n).isSome = true ∧ P n := by
  constructor
  · rintro (⟨n, a, b, c⟩ | c)
    · exact ⟨n, by omega, b, c⟩
    · exact ⟨k, by omega, by rw [h]; rfl, c⟩
  · rintro ⟨n, a, b, c⟩
    by_cases q : n = k
    · subst q; exact Or.inr c
    · exact Or.inl ⟨n, by omega, b, c⟩
abbrev e_X7_reachable : ME := (cX7_reachable, (RX7, (7, ((some .int), (3, (12288, 7))))))
theorem dX7_reachable_0 : decode cX7_reachable 0 = .ok (.aload_n 0, 1) := by decide +kernel
theorem dX7_reachable_1 : decode cX7_reachable 1 = .ok (.aload_n 1, 1) := by decide +kernel
theorem dX7_reachable_2 : decode cX7_reachable 2 = .ok (.getfield 24, 3) := by decide +kernel
theorem dX7_reachable_5 : decode cX7_reachable 5 = .ok (.bipush 64, 2) := by decide +kernel
theorem dX7_reachable_7 : decode cX7_reachable 7 = .ok (.iconst 0, 1) := by decide +kernel
theorem dX7_reachable_8 : decode cX7_reachable 8 = .ok (.iconst 0, 1) := by decide +kernel
theorem dX7_reachable_9 : decode cX7_reachable 9 = .ok (.invokevirtual 30, 3) := by decide +kernel
theorem dX7_reachable_12 : decode cX7_reachable 12 = .ok (.aload_n 0, 1) := by decide +kernel
theorem dX7_reachable_13 : decode cX7_reachable 13 = .ok (.aload_n 1, 1) := by decide +kernel
theorem dX7_reachable_14 : decode cX7_reachable 14 = .ok (.invokevirtual 49, 3) := by decide +kernel
theorem dX7_reachable_17 : decode cX7_reachable 17 = .ok (.pop, 1) := by decide +kernel
theorem dX7_reachable_18 : decode cX7_reachable 18 = .ok (.aload_n 1, 1) := by decide +kernel
theorem dX7_reachable_19 : decode cX7_reachable 19 = .ok (.getfield 34, 3) := by decide +kernel
theorem dX7_reachable_22 : decode cX7_reachable 22 = .ok (.getfield 38, 3) := by decide +kernel
theorem dX7_reachable_25 : decode cX7_reachable 25 = .ok (.istore_n 3, 1) := by decide +kernel
theorem dX7_reachable_26 : decode cX7_reachable 26 = .ok (.lconst 1, 1) := by decide +kernel
theorem dX7_reachable_27 : decode cX7_reachable 27 = .ok (.aload_n 1, 1) := by decide +kernel
theorem dX7_reachable_28 : decode cX7_reachable 28 = .ok (.getfield 34, 3) := by decide +kernel
theorem dX7_reachable_31 : decode cX7_reachable 31 = .ok (.getfield 38, 3) := by decide +kernel
theorem dX7_reachable_34 : decode cX7_reachable 34 = .ok (.lshl, 1) := by decide +kernel
theorem dX7_reachable_35 : decode cX7_reachable 35 = .ok (.lstore 4, 2) := by decide +kernel
theorem dX7_reachable_37 : decode cX7_reachable 37 = .ok (.iconst 0, 1) := by decide +kernel
theorem dX7_reachable_38 : decode cX7_reachable 38 = .ok (.istore 6, 2) := by decide +kernel
theorem dX7_reachable_40 : decode cX7_reachable 40 = .ok (.iload 6, 2) := by decide +kernel
theorem dX7_reachable_42 : decode cX7_reachable 42 = .ok (.aload_n 0, 1) := by decide +kernel
theorem dX7_reachable_43 : decode cX7_reachable 43 = .ok (.getfield 61, 3) := by decide +kernel
theorem dX7_reachable_46 : decode cX7_reachable 46 = .ok (.if_icmp .ge 45, 3) := by decide +kernel
theorem dX7_reachable_49 : decode cX7_reachable 49 = .ok (.aload_n 0, 1) := by decide +kernel
theorem dX7_reachable_50 : decode cX7_reachable 50 = .ok (.getfield 15, 3) := by decide +kernel
theorem dX7_reachable_53 : decode cX7_reachable 53 = .ok (.iload 6, 2) := by decide +kernel
theorem dX7_reachable_55 : decode cX7_reachable 55 = .ok (.iaload, 1) := by decide +kernel
theorem dX7_reachable_56 : decode cX7_reachable 56 = .ok (.aload_n 0, 1) := by decide +kernel
theorem dX7_reachable_57 : decode cX7_reachable 57 = .ok (.getfield 64, 3) := by decide +kernel
theorem dX7_reachable_60 : decode cX7_reachable 60 = .ok (.if_icmp .ne 25, 3) := by decide +kernel
theorem dX7_reachable_63 : decode cX7_reachable 63 = .ok (.iload_n 3, 1) := by decide +kernel
theorem dX7_reachable_64 : decode cX7_reachable 64 = .ok (.aload_n 0, 1) := by decide +kernel
theorem dX7_reachable_65 : decode cX7_reachable 65 = .ok (.iload 6, 2) := by decide +kernel
theorem dX7_reachable_67 : decode cX7_reachable 67 = .ok (.invokevirtual 67, 3) := by decide +kernel
theorem dX7_reachable_70 : decode cX7_reachable 70 = .ok (.ior, 1) := by decide +kernel
theorem dX7_reachable_71 : decode cX7_reachable 71 = .ok (.istore_n 3, 1) := by decide +kernel
theorem dX7_reachable_72 : decode cX7_reachable 72 = .ok (.lload 4, 2) := by decide +kernel
theorem dX7_reachable_74 : decode cX7_reachable 74 = .ok (.lconst 1, 1) := by decide +kernel
theorem dX7_reachable_75 : decode cX7_reachable 75 = .ok (.aload_n 0, 1) := by decide +kernel
theorem dX7_reachable_76 : decode cX7_reachable 76 = .ok (.iload 6, 2) := by decide +kernel
theorem dX7_reachable_78 : decode cX7_reachable 78 = .ok (.invokevirtual 67, 3) := by decide +kernel
theorem dX7_reachable_81 : decode cX7_reachable 81 = .ok (.lshl, 1) := by decide +kernel
theorem dX7_reachable_82 : decode cX7_reachable 82 = .ok (.lor, 1) := by decide +kernel
theorem dX7_reachable_83 : decode cX7_reachable 83 = .ok (.lstore 4, 2) := by decide +kernel
theorem dX7_reachable_85 : decode cX7_reachable 85 = .ok (.iinc 6 1, 3) := by decide +kernel
theorem dX7_reachable_88 : decode cX7_reachable 88 = .ok (.goto (-48), 3) := by decide +kernel
theorem dX7_reachable_91 : decode cX7_reachable 91 = .ok (.iload_n 2, 1) := by decide +kernel
theorem dX7_reachable_92 : decode cX7_reachable 92 = .ok (.ifCond .ne 7, 3) := by decide +kernel
theorem dX7_reachable_95 : decode cX7_reachable 95 = .ok (.iload_n 3, 1) := by decide +kernel
theorem dX7_reachable_96 : decode cX7_reachable 96 = .ok (.goto 8, 3) := by decide +kernel
theorem dX7_reachable_99 : decode cX7_reachable 99 = .ok (.lload 4, 2) := by decide +kernel
theorem dX7_reachable_101 : decode cX7_reachable 101 = .ok (.invokestatic 71, 3) := by decide +kernel
theorem dX7_reachable_104 : decode cX7_reachable 104 = .ok (.ireturn, 1) := by decide +kernel
def Sp_X7_reachable (av : List AV) (m : AM) (Φ : Option AV → AM → Prop) : Prop := ∃ x, av = [vr 7 98, vr 2 20, vi x] ∧ ∃ (C : Nat → Nat) (w wk : Nat), BR m C ∧ x = nI w ∧ w ≤ 1 ∧ SrI m wk ∧ wk < 999999 ∧ ∀ m2 rs, Xz m m2 → BR m2 C → SrI m2 (wk + 1) → (∀ so, so < 64 → (rs so = true ↔ RchP C so)) → Φ (some (vi (if w = 0 then nI (orS rs 64) else nI (cntS rs 64)))) m2
set_option maxRecDepth 20000 in
set_option maxHeartbeats 4000000 in
theorem S_X7_reachable : Snd yX7_reachable e_X7_reachable Sp_X7_reachable := by
  refine Snd.of (by decide +kernel) rfl ?_ ?_
  · rintro av m Φ ⟨x, rfl, _⟩; exact Nat.le_of_ble_eq_true rfl
  rintro av m Φ ⟨x, rfl, C, w, wk, hB, rfl, hw, hI, hwk, h⟩ hav hty
  show B e_X7_reachable Φ 0 [some (vr 7 98), some (vr 2 20), some (vi (nI w)), none, none, none, none] [] m (0, 0)
  have hv := hB.1
  have h06 := hv.1
  have hp6 := hv.p6
  have hnd := nd_le hv
  have main : ∀ m2 lab far, Xz m m2 → BR m2 C → SrI m2 (wk + 1) → SrS C 0 (wk + 1) 64 0 lab far m2 → SdC C 0 lab → (∀ n so sd c f, CWk C 0 n so sd c f → ∃ x, lab (nodeN C so sd) = some x) → ∀ e k U R, ndN C + 1 ≤ k + e → k ≤ ndN C → U < 64 → R < 18446744073709551616 → (∀ i, i < 6 → (U.testBit i = true ↔ (C 1).testBit i = true ∨ ∃ n, n < k ∧ (lab n).isSome = true ∧ (n % 2 ^ C 0).testBit i = true)) → (∀ i, i < 64 → (R.testBit i = true ↔ i = C 1 ∨ ∃ n, n < k ∧ (lab n).isSome = true ∧ n % 2 ^ C 0 = i)) → B e_X7_reachable Φ 40 [some (vr 7 98), some (vr 2 20), some (vi (nI w)), some (vi (nI U)), some (vl (lN R)), none, some (vi (nI k))] [] m2 (3, 12288) := by
    intro m2 lab far hX hB3 hI3 hS3 hSd3 hAll e
    have r1 := hS3.1.1 1 (by omega) (by omega)
    induction e with
    | zero => intro k U R z1 z2; omega
    | succ e ih =>
      intro k U R z1 z2 hU hR64 hUb hRb
      by_cases hk : k < ndN C
      · have s4 := hS3.2.2.2.1 k hk
        have hso64 : k % 2 ^ C 0 < 64 := by
          have := Nat.mod_lt k (show 0 < 2 ^ C 0 from Nat.pow_pos (by omega))
          omega
        cases hlk : lab k with
        | none =>
          refine b_iloadG (pc := 40) 6 dX7_reachable_40 rfl ?_
          refine b_aloadN (pc := 42) 0 dX7_reachable_42 rfl rfl ?_
          refine gf7_6 (pc := 43) k324 dX7_reachable_43 ?_
          refine b_icmp_ge (pc := 46) 91 dX7_reachable_46 (by decide) (fun c46 => ?_) (fun c46 => ?_)
          refine b_iloadN (pc := 91) 2 dX7_reachable_91 rfl rfl ?_
          refine b_if_ne (pc := 92) 99 dX7_reachable_92 (by decide) (fun c92 => ?_) (fun c92 => ?_)
          refine b_lloadG (pc := 99) 4 dX7_reachable_99 rfl ?_
          refine call_J13_bitCount_95d88 (pc := 101) k852 (by decide) ⟨Nat.le_of_ble_eq_true rfl, Nat.le_of_ble_eq_true rfl⟩ (Nat.le_of_ble_eq_true rfl) dX7_reachable_101 ?_
          refine ⟨_, rfl, R, rfl, hR64, ?_⟩
          refine b_iret (pc := 104) rfl dX7_reachable_104 ⟨Nat.le_of_ble_eq_true rfl, Nat.le_of_ble_eq_true rfl⟩ ?_
          rotate_left -- leaf 0: return at 104
          refine b_iloadN (pc := 95) 3 dX7_reachable_95 rfl rfl ?_
          refine b_goto (pc := 96) 104 dX7_reachable_96 (by decide) ?_
          refine b_iret (pc := 104) rfl dX7_reachable_104 ⟨Nat.le_of_ble_eq_true rfl, Nat.le_of_ble_eq_true rfl⟩ ?_
          rotate_left -- leaf 1: return at 104
          refine b_aloadN (pc := 49) 0 dX7_reachable_49 rfl rfl ?_
          refine gf7_1 (pc := 50) k319 dX7_reachable_50 ?_
          refine b_iloadG (pc := 53) 6 dX7_reachable_53 rfl ?_
          refine b_ialdD (pc := 55) ?_ dX7_reachable_55 ?_
          rotate_left -- leaf 2: index at 55
          refine b_aloadN (pc := 56) 0 dX7_reachable_56 rfl rfl ?_
          refine gf7_9 (pc := 57) k327 dX7_reachable_57 ?_
          refine b_icmp_ne (pc := 60) 85 dX7_reachable_60 (by decide) (fun c60 => ?_) (fun c60 => ?_)
          refine inc6 (pc := 85) notL_n (by decide) dX7_reachable_85 ?_
          refine b_goto (pc := 88) 40 dX7_reachable_88 (by decide) ?_
          rotate_left -- leaf 3: at 40
          rotate_left -- leaf 4: at 63
          -- leaves: 0 return at 104; 1 return at 104; 2 index at 55; 3 at 40; 4 at 63
          · rw [hS3.2.1.2.1, n_le (by omega) (by omega)] at c46; omega
          · rw [hS3.2.1.2.1, n_le (by omega) (by omega)] at c46; omega
          · exact n_in (by omega) (by omega)
          · rw [n_inc]
            exact ih (k + 1) U R (by omega) (by omega) hU hR64 (fun i hi => (hUb i hi).trans (or_congr Iff.rfl (ex_none hlk))) (fun i hi => (hRb i hi).trans (or_congr Iff.rfl (ex_none hlk)))
          · rw [n_cl (by omega), hS3.2.1.2.2.2.2.1] at c60
            exact absurd c60 (s4.1 hlk)
        | some x =>
          have sv := s4.2 x hlk
          refine b_iloadG (pc := 40) 6 dX7_reachable_40 rfl ?_
          refine b_aloadN (pc := 42) 0 dX7_reachable_42 rfl rfl ?_
          refine gf7_6 (pc := 43) k324 dX7_reachable_43 ?_
          refine b_icmp_ge (pc := 46) 91 dX7_reachable_46 (by decide) (fun c46 => ?_) (fun c46 => ?_)
          refine b_iloadN (pc := 91) 2 dX7_reachable_91 rfl rfl ?_
          refine b_if_ne (pc := 92) 99 dX7_reachable_92 (by decide) (fun c92 => ?_) (fun c92 => ?_)
          refine b_lloadG (pc := 99) 4 dX7_reachable_99 rfl ?_
          refine call_J13_bitCount_95d88 (pc := 101) k852 (by decide) ⟨Nat.le_of_ble_eq_true rfl, Nat.le_of_ble_eq_true rfl⟩ (Nat.le_of_ble_eq_true rfl) dX7_reachable_101 ?_
          refine ⟨_, rfl, R, rfl, hR64, ?_⟩
          refine b_iret (pc := 104) rfl dX7_reachable_104 ⟨Nat.le_of_ble_eq_true rfl, Nat.le_of_ble_eq_true rfl⟩ ?_
          rotate_left -- leaf 0: return at 104
          refine b_iloadN (pc := 95) 3 dX7_reachable_95 rfl rfl ?_
          refine b_goto (pc := 96) 104 dX7_reachable_96 (by decide) ?_
          refine b_iret (pc := 104) rfl dX7_reachable_104 ⟨Nat.le_of_ble_eq_true rfl, Nat.le_of_ble_eq_true rfl⟩ ?_
          rotate_left -- leaf 1: return at 104
          refine b_aloadN (pc := 49) 0 dX7_reachable_49 rfl rfl ?_
          refine gf7_1 (pc := 50) k319 dX7_reachable_50 ?_
          refine b_iloadG (pc := 53) 6 dX7_reachable_53 rfl ?_
          refine b_ialdD (pc := 55) ?_ dX7_reachable_55 ?_
          rotate_left -- leaf 2: index at 55
          refine b_aloadN (pc := 56) 0 dX7_reachable_56 rfl rfl ?_
          refine gf7_9 (pc := 57) k327 dX7_reachable_57 ?_
          refine b_icmp_ne (pc := 60) 85 dX7_reachable_60 (by decide) (fun c60 => ?_) (fun c60 => ?_)
          refine inc6 (pc := 85) notL_n (by decide) dX7_reachable_85 ?_
          refine b_goto (pc := 88) 40 dX7_reachable_88 (by decide) ?_
          rotate_left -- leaf 3: at 40
          refine b_iloadN (pc := 63) 3 dX7_reachable_63 rfl rfl ?_
          refine b_aloadN (pc := 64) 0 dX7_reachable_64 rfl rfl ?_
          refine b_iloadG (pc := 65) 6 dX7_reachable_65 rfl ?_
          refine call_X7_soOf (pc := 67) k792 (by decide) ⟨Nat.le_of_ble_eq_true rfl, Nat.le_of_ble_eq_true rfl⟩ (Nat.le_of_ble_eq_true rfl) dX7_reachable_67 ?_
          refine ⟨_, rfl, k, C 0, rfl, hS3.2.1.1, h06.2, ?_⟩
          refine b_ior (pc := 70) dX7_reachable_70 ?_
          refine siN3 (pc := 71) rfl notL_i (by decide) dX7_reachable_71 ?_
          refine b_lloadG (pc := 72) 4 dX7_reachable_72 rfl ?_
          refine b_lconst (pc := 74) 1 dX7_reachable_74 (by decide) ?_
          refine b_aloadN (pc := 75) 0 dX7_reachable_75 rfl rfl ?_
          refine b_iloadG (pc := 76) 6 dX7_reachable_76 rfl ?_
          refine call_X7_soOf (pc := 78) k792 (by decide) ⟨Nat.le_of_ble_eq_true rfl, Nat.le_of_ble_eq_true rfl⟩ (Nat.le_of_ble_eq_true rfl) dX7_reachable_78 ?_
          refine ⟨_, rfl, k, C 0, rfl, hS3.2.1.1, h06.2, ?_⟩
          refine b_lshl (pc := 81) dX7_reachable_81 ?_
          refine b_lor (pc := 82) dX7_reachable_82 ?_
          refine slG4 (pc := 83) notL_i (by decide) dX7_reachable_83 ?_
          refine inc6 (pc := 85) notL_n (by decide) dX7_reachable_85 ?_
          refine b_goto (pc := 88) 40 dX7_reachable_88 (by decide) ?_
          rotate_left -- leaf 4: at 40
          -- leaves: 0 return at 104; 1 return at 104; 2 index at 55; 3 at 40; 4 at 40
          · rw [hS3.2.1.2.1, n_le (by omega) (by omega)] at c46; omega
          · rw [hS3.2.1.2.1, n_le (by omega) (by omega)] at c46; omega
          · exact n_in (by omega) (by omega)
          · rw [n_cl (by omega), hS3.2.1.2.2.2.2.1] at c60
            exact absurd sv.1 c60
          · have e64 : (18446744073709551616 : Nat) = 2 ^ 64 := by decide
            rw [n_inc, n_or, l_shl hso64, l_or]
            refine ih (k + 1) _ _ (by omega) (by omega) (or_lt64 hU hso64) ?_ (fun i hi => ?_) (fun i hi => ?_)
            · rw [e64] at hR64 ⊢
              exact Nat.or_lt_two_pow hR64 (Nat.pow_lt_pow_right (by omega) hso64)
            · rw [Nat.testBit_or, Bool.or_eq_true, hUb i hi, or_assoc, ex_some hlk]
            · rw [Nat.testBit_or, Bool.or_eq_true, hRb i hi, or_assoc, Nat.testBit_two_pow, decide_eq_true_eq, ex_some hlk]
      · have ek : k = ndN C := by omega
        subst ek
        have hrs : ∀ so, so < 64 → ((fun so => R.testBit so) so = true ↔ RchP C so) := by
          intro so hso
          show R.testBit so = true ↔ _
          rw [hRb so hso]
          constructor
          · rintro (z | ⟨n, n1, n2, n3⟩)
            · exact Or.inl z
            · cases hl : lab n with
              | none => rw [hl] at n2; cases n2
              | some x =>
                obtain ⟨-, kk, hw⟩ := hSd3 n x hl
                rw [n3] at hw
                exact Or.inr ((reach_iff hv).mpr ⟨kk, _, _, _, hw⟩)
          · rintro (z | z)
            · exact Or.inl z
            · obtain ⟨n, sd, c, f, hw⟩ := (reach_iff hv).mp z
              obtain ⟨x, hx⟩ := hAll n so sd c f hw
              have l := CWk_lt hv n _ _ _ _ hw
              exact Or.inr ⟨nodeN C so sd, node_lt l.1 l.2.1, by rw [hx]; rfl, node_so l.1⟩
        refine b_iloadG (pc := 40) 6 dX7_reachable_40 rfl ?_
        refine b_aloadN (pc := 42) 0 dX7_reachable_42 rfl rfl ?_
        refine gf7_6 (pc := 43) k324 dX7_reachable_43 ?_
        refine b_icmp_ge (pc := 46) 91 dX7_reachable_46 (by decide) (fun c46 => ?_) (fun c46 => ?_)
        refine b_iloadN (pc := 91) 2 dX7_reachable_91 rfl rfl ?_
        refine b_if_ne (pc := 92) 99 dX7_reachable_92 (by decide) (fun c92 => ?_) (fun c92 => ?_)
        refine b_lloadG (pc := 99) 4 dX7_reachable_99 rfl ?_
        refine call_J13_bitCount_95d88 (pc := 101) k852 (by decide) ⟨Nat.le_of_ble_eq_true rfl, Nat.le_of_ble_eq_true rfl⟩ (Nat.le_of_ble_eq_true rfl) dX7_reachable_101 ?_
        refine ⟨_, rfl, R, rfl, hR64, ?_⟩
        refine b_iret (pc := 104) rfl dX7_reachable_104 ⟨Nat.le_of_ble_eq_true rfl, Nat.le_of_ble_eq_true rfl⟩ ?_
        rotate_left -- leaf 0: return at 104
        refine b_iloadN (pc := 95) 3 dX7_reachable_95 rfl rfl ?_
        refine b_goto (pc := 96) 104 dX7_reachable_96 (by decide) ?_
        refine b_iret (pc := 104) rfl dX7_reachable_104 ⟨Nat.le_of_ble_eq_true rfl, Nat.le_of_ble_eq_true rfl⟩ ?_
        rotate_left -- leaf 1: return at 104
        rotate_left -- leaf 2: at 49
        -- leaves: 0 return at 104; 1 return at 104; 2 at 49
        · have y := h m2 (fun so => R.testBit so) hX hB3 hI3 hrs
          rw [if_neg (fun z => c92 (by rw [z]; rfl)), ← cntS_bit] at y
          exact y
        · have y := h m2 (fun so => R.testBit so) hX hB3 hI3 hrs
          rw [n_eq0 (by omega)] at c92
          have e : orS (fun so => R.testBit so) 64 = U := by
            refine nat_ext64 (orS_lt _ 64 (Nat.le_refl _)) hU (fun i hi => ?_)
            rw [orS_bit, hUb i hi]
            constructor
            · rintro ⟨k, a, b, c⟩
              rcases (hRb k a).mp b with z | ⟨n, n1, n2, n3⟩
              · rw [z] at c; exact Or.inl c
              · exact Or.inr ⟨n, n1, n2, by rw [n3]; exact c⟩
            · rintro (z | ⟨n, n1, n2, n3⟩)
              · exact ⟨C 1, hv.c1, (hRb _ hv.c1).mpr (Or.inl rfl), z⟩
              · have l : n % 2 ^ C 0 < 64 := by
                  have := Nat.mod_lt n (show 0 < 2 ^ C 0 from Nat.pow_pos (by omega))
                  omega
                exact ⟨n % 2 ^ C 0, l, (hRb _ l).mpr (Or.inr ⟨n, n1, n2, rfl⟩), n3⟩
          rw [if_pos c92, e] at y
          exact y
        · rw [hS3.2.1.2.1, n_le (by omega) (by omega)] at c46; omega
  refine b_aloadN (pc := 0) 0 dX7_reachable_0 rfl rfl ?_
  refine b_aloadN (pc := 1) 1 dX7_reachable_1 rfl rfl ?_
  refine gf2_0 (pc := 2) 21 rfl k265 dX7_reachable_2 ?_
  refine b_bipush (pc := 5) (nI 64) dX7_reachable_5 (by decide) ?_
  refine b_iconst (pc := 7) (nI 0) dX7_reachable_7 (by decide) ?_
  refine b_iconst (pc := 8) (nI 0) dX7_reachable_8 (by decide) ?_
  refine call_X7_begin (pc := 9) k753 (by decide) ⟨Nat.le_of_ble_eq_true rfl, Nat.le_of_ble_eq_true rfl⟩ (Nat.le_of_ble_eq_true rfl) dX7_reachable_9 ?_
  refine ⟨_, _, _, rfl, C, 64, 0, 0, wk, hB, rfl, rfl, rfl, by omega, hI, hwk, fun m9 xz9 ea9 hB2 sa9 hS2 eb9 => ?_⟩
  refine b_aloadN (pc := 12) 0 dX7_reachable_12 rfl rfl ?_
  refine b_aloadN (pc := 13) 1 dX7_reachable_13 rfl rfl ?_
  refine call_X7_explore (pc := 14) k770 (by decide) ⟨Nat.le_of_ble_eq_true rfl, Nat.le_of_ble_eq_true rfl⟩ (Nat.le_of_ble_eq_true rfl) dX7_reachable_14 ?_
  refine ⟨rfl, C, 0, wk + 1, 64, 0, hB2, by omega, by omega, by omega, hS2, eb9, fun m14 lab far r xs14 hB3 hS3 hSd3 hBest f13 hLF hAll => ?_⟩
  refine b_pop_i (pc := 17) dX7_reachable_17 ?_
  refine b_aloadN (pc := 18) 1 dX7_reachable_18 rfl rfl ?_
  refine gf2_1 (pc := 19) 26 rfl k271 dX7_reachable_19 ?_
  refine gf8_1 (pc := 22) k232 dX7_reachable_22 ?_
  refine siN3 (pc := 25) rfl notL_i (by decide) dX7_reachable_25 ?_
  refine b_lconst (pc := 26) 1 dX7_reachable_26 (by decide) ?_
  refine b_aloadN (pc := 27) 1 dX7_reachable_27 rfl rfl ?_
  refine gf2_1 (pc := 28) 26 rfl k271 dX7_reachable_28 ?_
  refine gf8_1 (pc := 31) k232 dX7_reachable_31 ?_
  refine b_lshl (pc := 34) dX7_reachable_34 ?_
  refine slG4 (pc := 35) notL_i (by decide) dX7_reachable_35 ?_
  refine b_iconst (pc := 37) (nI 0) dX7_reachable_37 (by decide) ?_
  refine siG6 (pc := 38) notL_n (by decide) dX7_reachable_38 ?_
  rotate_left -- leaf 0: at 40
  -- leaves: 0 at 40
  have hr : r = none := by
    cases r with
    | none => rfl
    | some x =>
      obtain ⟨⟨n, so, said, q1, q2⟩, -⟩ := hBest
      have ok := (Wk_ok hv _ _ _ _ _ q1).1.1
      have a := q2.1
      have b : so &&& 64 ≤ so := Nat.and_le_left
      omega
  rw [hB3.2.2.1.1, l_shl hv.c1]
  refine main m14 lab far (xz9.tr (Xz.xs hS2.1 xs14)) hB3 (SrI.xs sa9 xs14 hS3) hS3 hSd3 (hAll hr) (ndN C + 1) 0 (C 1) (2 ^ C 1) (by omega) (by omega) hv.c1 ?_ (fun i hi => ?_) (fun i hi => ?_)
  · have e64 : (18446744073709551616 : Nat) = 2 ^ 64 := by decide
    rw [e64]
    exact Nat.pow_lt_pow_right (by omega) hv.c1
  · constructor
    · intro z; exact Or.inl z
    · rintro (z | ⟨n, n1, -⟩)
      · exact z
      · omega
  · rw [Nat.testBit_two_pow, decide_eq_true_eq]
    constructor
    · intro z; exact Or.inl z.symm
    · rintro (z | ⟨n, n1, -⟩)
      · exact z.symm
      · omega
theorem call_X7_reachable {E : ME} {Φ : Option AV → AM → Prop} {pc : Nat} {L : List (Option AV)} {st : List AV} {m : AM} {a : Nat × Nat} {idx : Nat} {x0 x1 : AV} {i : Nat} (hl : Cond.methodLink E.2.1 idx yX7_reachable ∈ TB) (hdep : 7 + 1 ≤ E.2.2.2.2.2.2) (hroom : a.1 + 3 ≤ E.2.2.2.2.1 ∧ a.2 + 12288 ≤ E.2.2.2.2.2.1) (hsr : st.length ≤ 4) (hd : decode E.1 pc = .ok (.invokevirtual idx, 3)) (hsp : Sp_X7_reachable [vr 7 i, x0, x1] m (fun r m2 => B E Φ (pc + 3) L (r.toList ++ st) m2 (a.1 + 3, a.2 + 12288))) : B E Φ pc L (x1 :: x0 :: vr 7 i :: st) m a := b_callV S_X7_reachable [x0, x1] (RX7, TX7, 14) rfl rfl (by decide) (Or.inl hl) k849 k850 k76 k851 (show _ ∧ _ ∧ Option.map (fun d => d.parameters.length) (parseMethodDescriptor yX7_reachable.desc) = some 2 from by decide +kernel) ⟨hdep, by decide⟩ hroom hsr hd hsp
