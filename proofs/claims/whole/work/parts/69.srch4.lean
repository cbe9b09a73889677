/-! the class's search: gatherMovers -/
def GmX (C : Nat → Nat) (m m2 : AM) : Prop := m2.2 = m.2 ∧ (∀ a, a ≠ 98 → a ≠ 99 → m2.1 a = m.1 a) ∧ (∀ k, k ≠ 7 → k ≠ 4 → m2.1 98 k = m.1 98 k) ∧ m2.1 98 7 = nI (miN C)
theorem miN_if (C : Nat → Nat) : miN C = if mindP C = true then 1 else 0 := rfl
abbrev e_X7_gatherMovers : ME := (cX7_gatherMovers, (RX7, (3, (none, (0, (0, 2))))))
theorem dX7_gatherMovers_0 : decode cX7_gatherMovers 0 = .ok (.aload_n 1, 1) := by decide +kernel
theorem dX7_gatherMovers_1 : decode cX7_gatherMovers 1 = .ok (.iconst 1, 1) := by decide +kernel
theorem dX7_gatherMovers_2 : decode cX7_gatherMovers 2 = .ok (.invokevirtual 101, 3) := by decide +kernel
theorem dX7_gatherMovers_5 : decode cX7_gatherMovers 5 = .ok (.ifCond .ne 11, 3) := by decide +kernel
theorem dX7_gatherMovers_8 : decode cX7_gatherMovers 8 = .ok (.aload_n 1, 1) := by decide +kernel
theorem dX7_gatherMovers_9 : decode cX7_gatherMovers 9 = .ok (.iconst 3, 1) := by decide +kernel
theorem dX7_gatherMovers_10 : decode cX7_gatherMovers 10 = .ok (.invokevirtual 101, 3) := by decide +kernel
theorem dX7_gatherMovers_13 : decode cX7_gatherMovers 13 = .ok (.ifCond .eq 7, 3) := by decide +kernel
theorem dX7_gatherMovers_16 : decode cX7_gatherMovers 16 = .ok (.iconst 1, 1) := by decide +kernel
theorem dX7_gatherMovers_17 : decode cX7_gatherMovers 17 = .ok (.goto 4, 3) := by decide +kernel
theorem dX7_gatherMovers_20 : decode cX7_gatherMovers 20 = .ok (.iconst 0, 1) := by decide +kernel
theorem dX7_gatherMovers_21 : decode cX7_gatherMovers 21 = .ok (.istore_n 2, 1) := by decide +kernel
theorem dX7_gatherMovers_22 : decode cX7_gatherMovers 22 = .ok (.aload_n 0, 1) := by decide +kernel
theorem dX7_gatherMovers_23 : decode cX7_gatherMovers 23 = .ok (.iload_n 2, 1) := by decide +kernel
theorem dX7_gatherMovers_24 : decode cX7_gatherMovers 24 = .ok (.ifCond .ne 15, 3) := by decide +kernel
theorem dX7_gatherMovers_27 : decode cX7_gatherMovers 27 = .ok (.aload_n 1, 1) := by decide +kernel
theorem dX7_gatherMovers_28 : decode cX7_gatherMovers 28 = .ok (.iconst 5, 1) := by decide +kernel
theorem dX7_gatherMovers_29 : decode cX7_gatherMovers 29 = .ok (.invokevirtual 101, 3) := by decide +kernel
theorem dX7_gatherMovers_32 : decode cX7_gatherMovers 32 = .ok (.ifCond .eq 7, 3) := by decide +kernel
theorem dX7_gatherMovers_35 : decode cX7_gatherMovers 35 = .ok (.iconst 1, 1) := by decide +kernel
theorem dX7_gatherMovers_36 : decode cX7_gatherMovers 36 = .ok (.goto 4, 3) := by decide +kernel
theorem dX7_gatherMovers_39 : decode cX7_gatherMovers 39 = .ok (.iconst 0, 1) := by decide +kernel
theorem dX7_gatherMovers_40 : decode cX7_gatherMovers 40 = .ok (.putfield 85, 3) := by decide +kernel
theorem dX7_gatherMovers_43 : decode cX7_gatherMovers 43 = .ok (.aload_n 0, 1) := by decide +kernel
theorem dX7_gatherMovers_44 : decode cX7_gatherMovers 44 = .ok (.iconst 0, 1) := by decide +kernel
theorem dX7_gatherMovers_45 : decode cX7_gatherMovers 45 = .ok (.putfield 104, 3) := by decide +kernel
theorem dX7_gatherMovers_48 : decode cX7_gatherMovers 48 = .ok (.iload_n 2, 1) := by decide +kernel
theorem dX7_gatherMovers_49 : decode cX7_gatherMovers 49 = .ok (.ifCond .ne 10, 3) := by decide +kernel
theorem dX7_gatherMovers_52 : decode cX7_gatherMovers 52 = .ok (.aload_n 0, 1) := by decide +kernel
theorem dX7_gatherMovers_53 : decode cX7_gatherMovers 53 = .ok (.getfield 85, 3) := by decide +kernel
theorem dX7_gatherMovers_56 : decode cX7_gatherMovers 56 = .ok (.ifCond .eq 31, 3) := by decide +kernel
theorem dX7_gatherMovers_59 : decode cX7_gatherMovers 59 = .ok (.aload_n 0, 1) := by decide +kernel
theorem dX7_gatherMovers_60 : decode cX7_gatherMovers 60 = .ok (.getfield 9, 3) := by decide +kernel
theorem dX7_gatherMovers_63 : decode cX7_gatherMovers 63 = .ok (.aload_n 0, 1) := by decide +kernel
theorem dX7_gatherMovers_64 : decode cX7_gatherMovers 64 = .ok (.getfield 104, 3) := by decide +kernel
theorem dX7_gatherMovers_67 : decode cX7_gatherMovers 67 = .ok (.iload_n 2, 1) := by decide +kernel
theorem dX7_gatherMovers_68 : decode cX7_gatherMovers 68 = .ok (.ifCond .eq 7, 3) := by decide +kernel
theorem dX7_gatherMovers_71 : decode cX7_gatherMovers 71 = .ok (.iconst 1, 1) := by decide +kernel
theorem dX7_gatherMovers_72 : decode cX7_gatherMovers 72 = .ok (.goto 4, 3) := by decide +kernel
theorem dX7_gatherMovers_75 : decode cX7_gatherMovers 75 = .ok (.iconst 5, 1) := by decide +kernel
theorem dX7_gatherMovers_76 : decode cX7_gatherMovers 76 = .ok (.iastore, 1) := by decide +kernel
theorem dX7_gatherMovers_77 : decode cX7_gatherMovers 77 = .ok (.aload_n 0, 1) := by decide +kernel
theorem dX7_gatherMovers_78 : decode cX7_gatherMovers 78 = .ok (.dup, 1) := by decide +kernel
theorem dX7_gatherMovers_79 : decode cX7_gatherMovers 79 = .ok (.getfield 104, 3) := by decide +kernel
theorem dX7_gatherMovers_82 : decode cX7_gatherMovers 82 = .ok (.iconst 1, 1) := by decide +kernel
theorem dX7_gatherMovers_83 : decode cX7_gatherMovers 83 = .ok (.iadd, 1) := by decide +kernel
theorem dX7_gatherMovers_84 : decode cX7_gatherMovers 84 = .ok (.putfield 104, 3) := by decide +kernel
theorem dX7_gatherMovers_87 : decode cX7_gatherMovers 87 = .ok (.aload_n 1, 1) := by decide +kernel
theorem dX7_gatherMovers_88 : decode cX7_gatherMovers 88 = .ok (.iconst 2, 1) := by decide +kernel
theorem dX7_gatherMovers_89 : decode cX7_gatherMovers 89 = .ok (.invokevirtual 101, 3) := by decide +kernel
theorem dX7_gatherMovers_92 : decode cX7_gatherMovers 92 = .ok (.ifCond .eq 23, 3) := by decide +kernel
theorem dX7_gatherMovers_95 : decode cX7_gatherMovers 95 = .ok (.aload_n 0, 1) := by decide +kernel
theorem dX7_gatherMovers_96 : decode cX7_gatherMovers 96 = .ok (.getfield 9, 3) := by decide +kernel
theorem dX7_gatherMovers_99 : decode cX7_gatherMovers 99 = .ok (.aload_n 0, 1) := by decide +kernel
theorem dX7_gatherMovers_100 : decode cX7_gatherMovers 100 = .ok (.getfield 104, 3) := by decide +kernel
theorem dX7_gatherMovers_103 : decode cX7_gatherMovers 103 = .ok (.iconst 2, 1) := by decide +kernel
theorem dX7_gatherMovers_104 : decode cX7_gatherMovers 104 = .ok (.iastore, 1) := by decide +kernel
theorem dX7_gatherMovers_105 : decode cX7_gatherMovers 105 = .ok (.aload_n 0, 1) := by decide +kernel
theorem dX7_gatherMovers_106 : decode cX7_gatherMovers 106 = .ok (.dup, 1) := by decide +kernel
theorem dX7_gatherMovers_107 : decode cX7_gatherMovers 107 = .ok (.getfield 104, 3) := by decide +kernel
theorem dX7_gatherMovers_110 : decode cX7_gatherMovers 110 = .ok (.iconst 1, 1) := by decide +kernel
theorem dX7_gatherMovers_111 : decode cX7_gatherMovers 111 = .ok (.iadd, 1) := by decide +kernel
theorem dX7_gatherMovers_112 : decode cX7_gatherMovers 112 = .ok (.putfield 104, 3) := by decide +kernel
theorem dX7_gatherMovers_115 : decode cX7_gatherMovers 115 = .ok (.return_, 1) := by decide +kernel
def Sp_X7_gatherMovers (av : List AV) (m : AM) (Φ : Option AV → AM → Prop) : Prop := av = [vr 7 98, vr 5 21] ∧ ∃ C, BR m C ∧ ∀ m2, GmX C m m2 → MvR m2 C → Φ none m2
set_option maxRecDepth 20000 in
set_option maxHeartbeats 4000000 in
theorem S_X7_gatherMovers : Snd yX7_gatherMovers e_X7_gatherMovers Sp_X7_gatherMovers := by
  refine Snd.of (by decide +kernel) rfl ?_ ?_
  · rintro av m Φ ⟨rfl, _⟩; exact Nat.le_of_ble_eq_true rfl
  rintro av m Φ ⟨rfl, C, hB, h⟩ hav hty
  show B e_X7_gatherMovers Φ 0 [some (vr 7 98), some (vr 5 21), none] [] m (0, 0)
  have m87 : ∀ M mv fr, BR M C → M.1 98 4 = nI mv → mv ≤ 1 → GmX C m M → (∀ k, k < mv → ∃ q, M.1 99 k = nI q ∧ MvK C q) → (∀ q, q ≠ 2 → MvK C q → ∃ k, k < mv ∧ M.1 99 k = nI q) → B e_X7_gatherMovers Φ 87 [some (vr 7 98), some (vr 5 21), some (vi fr)] [] M (0, 0) := by
    intro M mv fr hB e4 hmv hG g1 g2
    have mv1 : M.1 98 4 = nI mv := e4
    refine b_aloadN (pc := 87) 1 dX7_gatherMovers_87 rfl rfl ?_
    refine b_iconst (pc := 88) (nI 2) dX7_gatherMovers_88 (by decide) ?_
    refine call_X5_hasKind (pc := 89) k761 (by decide) ⟨Nat.le_of_ble_eq_true rfl, Nat.le_of_ble_eq_true rfl⟩ (Nat.le_of_ble_eq_true rfl) dX7_gatherMovers_89 ?_
    refine ⟨_, rfl, C, _, hB, rfl, ?_, ?_⟩
    rotate_left -- leaf 0: small of X5_hasKind at 89
    refine b_if_eq (pc := 92) 115 dX7_gatherMovers_92 (by decide) (fun c92 => ?_) (fun c92 => ?_)
    refine b_vret (pc := 115) rfl dX7_gatherMovers_115 ⟨Nat.le_of_ble_eq_true rfl, Nat.le_of_ble_eq_true rfl⟩ ?_
    rotate_left -- leaf 1: return at 115
    refine b_aloadN (pc := 95) 0 dX7_gatherMovers_95 rfl rfl ?_
    refine gf7_0 (pc := 96) 99 rfl k318 dX7_gatherMovers_96 ?_
    refine b_aloadN (pc := 99) 0 dX7_gatherMovers_99 rfl rfl ?_
    refine gf7_4 (pc := 100) k322 dX7_gatherMovers_100 ?_
    refine b_iconst (pc := 103) (nI 2) dX7_gatherMovers_103 (by decide) ?_
    refine b_iast (pc := 104) (by decide) ?_ dX7_gatherMovers_104 ?_
    rotate_left -- leaf 2: index at 104
    refine b_aloadN (pc := 105) 0 dX7_gatherMovers_105 rfl rfl ?_
    refine b_dup_r (pc := 106) dX7_gatherMovers_106 ?_
    refine gf7_4 (pc := 107) k322 dX7_gatherMovers_107 ?_
    refine b_iconst (pc := 110) (nI 1) dX7_gatherMovers_110 (by decide) ?_
    refine b_iadd (pc := 111) dX7_gatherMovers_111 ?_
    refine pf7_4 (pc := 112) k322 dX7_gatherMovers_112 ?_
    refine b_vret (pc := 115) rfl dX7_gatherMovers_115 ⟨Nat.le_of_ble_eq_true rfl, Nat.le_of_ble_eq_true rfl⟩ ?_
    rotate_left -- leaf 3: return at 115
    -- leaves: 0 small of X5_hasKind at 89; 1 return at 115; 2 index at 104; 3 return at 115
    · omega
    · have k2 : ¬ hasK C 2 (C 4) = true := fun z => by
        rw [if_pos z] at c92
        exact absurd c92 (by decide)
      refine h M hG ⟨mv, e4, by omega, g1, fun q hq => g2 q (fun z => ?_) hq⟩
      subst z
      rcases hq with ⟨w, -⟩ | ⟨w, -⟩ | ⟨-, w⟩
      · exact absurd w (by decide)
      · exact absurd w (by decide)
      · exact k2 w
    · rw [e4]; exact n_in (by omega) (by omega)
    · have k2 : hasK C 2 (C 4) = true := by
        cases z : hasK C 2 (C 4)
        · rw [z] at c92
          exact absurd rfl c92
        · rfl
      rw [e4, n_cl (by omega), mset_ne _ _ _ (show 98 ≠ 99 by decide), e4, n_add]
      have A9 : ∀ k, (mset (mset M 99 mv (nI 2)) 98 4 (nI (mv + 1))).1 99 k = if k = mv then nI 2 else M.1 99 k := fun k => by
        rw [mset_ne _ _ _ (show 99 ≠ 98 by decide), mset_at]
      have A8 : ∀ k, k ≠ 4 → (mset (mset M 99 mv (nI 2)) 98 4 (nI (mv + 1))).1 98 k = M.1 98 k := fun k hk => by
        rw [mset_at, if_neg hk, mset_ne _ _ _ (show 98 ≠ 99 by decide)]
      refine h _ ⟨hG.1, fun a b c => by rw [mset_ne _ _ _ b, mset_ne _ _ _ c]; exact hG.2.1 a b c, fun k b c => (A8 k c).trans (hG.2.2.1 k b c), (A8 7 (by decide)).trans hG.2.2.2⟩ ⟨mv + 1, by rw [mset_at, if_pos rfl], by omega, fun k hk => ?_, fun q hq => ?_⟩
      · rw [A9]
        by_cases z : k = mv
        · rw [if_pos z]
          exact ⟨2, rfl, Or.inr (Or.inr ⟨rfl, k2⟩)⟩
        · rw [if_neg z]
          exact g1 k (by omega)
      · by_cases z : q = 2
        · exact ⟨mv, by omega, by rw [A9, if_pos rfl, z]⟩
        · obtain ⟨k, a, b⟩ := g2 q z hq
          exact ⟨k, by omega, by rw [A9, if_neg (by omega)]; exact b⟩
  have m40 : ∀ fr mi, fr = (if freeP C = true then 1 else 0) → mi = miN C → B e_X7_gatherMovers Φ 40 [some (vr 7 98), some (vr 5 21), some (vi (nI fr))] [vi (nI mi), vr 7 98] m (0, 0) := by
    intro fr mi hfr hmi
    have mi1 : mi ≤ 1 := by
      rw [hmi, miN_if]
      split <;> omega
    have fr1 : fr ≤ 1 := by
      rw [hfr]
      split <;> omega
    have v7 : (mset (mset m 98 7 (nI mi)) 98 4 (nI 0)).1 98 7 = nI mi := by
      rw [mset_at, if_neg (by decide), mset_at, if_pos rfl]
    have v4 : (mset (mset m 98 7 (nI mi)) 98 4 (nI 0)).1 98 4 = nI 0 := by
      rw [mset_at, if_pos rfl]
    have G0 : GmX C m (mset (mset m 98 7 (nI mi)) 98 4 (nI 0)) := ⟨rfl, fun a b c => by rw [mset_ne _ _ _ b, mset_ne _ _ _ b], fun k b c => by rw [mset_at, if_neg c, mset_at, if_neg b], by rw [v7, hmi]⟩
    generalize hM : mset (mset m 98 7 (nI mi)) 98 4 (nI 0) = M at v7 v4 G0
    have none0 : freeP C = false → mindP C = false → B e_X7_gatherMovers Φ 87 [some (vr 7 98), some (vr 5 21), some (vi (nI fr))] [] M (0, 0) := by
      intro a b
      refine m87 M 0 _ (hB.fr (fun a h1 h2 => G0.2.1 a (by omega) (by omega))) v4 (by omega) G0 (fun k z => absurd z (Nat.not_lt_zero k)) (fun q z w => ?_)
      rcases w with ⟨-, w⟩ | ⟨-, w⟩ | ⟨w, -⟩
      · rw [a] at w; cases w
      · rw [b] at w; cases w
      · exact absurd w z
    have one : ∀ q M2, MvK C q → (∀ q2, q2 ≠ 2 → MvK C q2 → q2 = q) → M2 = mset (mset M 99 0 (nI q)) 98 4 (nI 1) → B e_X7_gatherMovers Φ 87 [some (vr 7 98), some (vr 5 21), some (vi (nI fr))] [] M2 (0, 0) := by
      intro q M2 a b e
      subst e
      have A9 : (mset (mset M 99 0 (nI q)) 98 4 (nI 1)).1 99 0 = nI q := by
        rw [mset_ne _ _ _ (show 99 ≠ 98 by decide), mset_at, if_pos rfl]
      have G1 : GmX C m (mset (mset M 99 0 (nI q)) 98 4 (nI 1)) := ⟨G0.1, fun a b c => by rw [mset_ne _ _ _ b, mset_ne _ _ _ c]; exact G0.2.1 a b c, fun k b c => by rw [mset_at, if_neg c, mset_ne _ _ _ (show 98 ≠ 99 by decide)]; exact G0.2.2.1 k b c, by rw [mset_at, if_neg (by decide), mset_ne _ _ _ (show 98 ≠ 99 by decide)]; exact G0.2.2.2⟩
      refine m87 _ 1 _ (hB.fr (fun a h1 h2 => G1.2.1 a (by omega) (by omega))) (by rw [mset_at, if_pos rfl]) (by omega) G1 (fun k z => ⟨q, by rw [show k = 0 by omega]; exact A9, a⟩) (fun q2 z w => ⟨0, by omega, by rw [A9, b q2 z w]⟩)
    refine pf7_7 (pc := 40) k325 ?_ dX7_gatherMovers_40 ?_
    rotate_left -- leaf 0: bool at 40
    refine b_aloadN (pc := 43) 0 dX7_gatherMovers_43 rfl rfl ?_
    refine b_iconst (pc := 44) (nI 0) dX7_gatherMovers_44 (by decide) ?_
    refine pf7_4 (pc := 45) k322 dX7_gatherMovers_45 ?_
    rotate_left -- leaf 1: at 48
    -- leaves: 0 bool at 40; 1 at 48
    · rcases (by omega : mi = 0 ∨ mi = 1) with z | z
      · rw [z]; exact Or.inl rfl
      · rw [z]; exact Or.inr rfl
    · rw [hM]
      have cz : (nI 0).toNatClampNeg = 0 := n_cl (by omega)
      have qT : ∀ (z : ¬ nI fr = 0), freeP C = true := fun c => by
        cases z : freeP C
        · rw [hfr, z] at c
          exact absurd rfl c
        · rfl
      have qF : ∀ (z : nI fr = 0), freeP C = false := fun c => by
        cases z : freeP C
        · rfl
        · rw [hfr, if_pos z] at c
          exact absurd c (by decide)
      have uT : freeP C = true → ∀ q2, q2 ≠ 2 → MvK C q2 → q2 = 1 := fun a q2 z w => by
        rcases w with ⟨w, -⟩ | ⟨-, w⟩ | ⟨w, -⟩
        · exact w
        · unfold mindP at w
          rw [a] at w
          cases w
        · exact absurd w z
      have uF : freeP C = false → ∀ q2, q2 ≠ 2 → MvK C q2 → q2 = 5 := fun a q2 z w => by
        rcases w with ⟨-, w⟩ | ⟨w, -⟩ | ⟨w, -⟩
        · rw [a] at w
          cases w
        · exact w
        · exact absurd w z
      refine b_iloadN (pc := 48) 2 dX7_gatherMovers_48 rfl rfl ?_
      refine b_if_ne (pc := 49) 59 dX7_gatherMovers_49 (by decide) (fun c49 => ?_) (fun c49 => ?_)
      refine b_aloadN (pc := 59) 0 dX7_gatherMovers_59 rfl rfl ?_
      refine gf7_0 (pc := 60) 99 rfl k318 dX7_gatherMovers_60 ?_
      refine b_aloadN (pc := 63) 0 dX7_gatherMovers_63 rfl rfl ?_
      refine gf7_4 (pc := 64) k322 dX7_gatherMovers_64 ?_
      refine b_iloadN (pc := 67) 2 dX7_gatherMovers_67 rfl rfl ?_
      refine b_if_eq (pc := 68) 75 dX7_gatherMovers_68 (by decide) (fun c68 => ?_) (fun c68 => ?_)
      refine b_iconst (pc := 75) (nI 5) dX7_gatherMovers_75 (by decide) ?_
      refine b_iast (pc := 76) (by decide) ?_ dX7_gatherMovers_76 ?_
      rotate_left -- leaf 0: index at 76
      refine b_aloadN (pc := 77) 0 dX7_gatherMovers_77 rfl rfl ?_
      refine b_dup_r (pc := 78) dX7_gatherMovers_78 ?_
      refine gf7_4 (pc := 79) k322 dX7_gatherMovers_79 ?_
      refine b_iconst (pc := 82) (nI 1) dX7_gatherMovers_82 (by decide) ?_
      refine b_iadd (pc := 83) dX7_gatherMovers_83 ?_
      refine pf7_4 (pc := 84) k322 dX7_gatherMovers_84 ?_
      rotate_left -- leaf 1: at 87
      refine b_iconst (pc := 71) (nI 1) dX7_gatherMovers_71 (by decide) ?_
      refine b_goto (pc := 72) 76 dX7_gatherMovers_72 (by decide) ?_
      refine b_iast (pc := 76) (by decide) ?_ dX7_gatherMovers_76 ?_
      rotate_left -- leaf 2: index at 76
      refine b_aloadN (pc := 77) 0 dX7_gatherMovers_77 rfl rfl ?_
      refine b_dup_r (pc := 78) dX7_gatherMovers_78 ?_
      refine gf7_4 (pc := 79) k322 dX7_gatherMovers_79 ?_
      refine b_iconst (pc := 82) (nI 1) dX7_gatherMovers_82 (by decide) ?_
      refine b_iadd (pc := 83) dX7_gatherMovers_83 ?_
      refine pf7_4 (pc := 84) k322 dX7_gatherMovers_84 ?_
      rotate_left -- leaf 3: at 87
      refine b_aloadN (pc := 52) 0 dX7_gatherMovers_52 rfl rfl ?_
      refine gf7_7 (pc := 53) k325 dX7_gatherMovers_53 ?_
      refine b_if_eq (pc := 56) 87 dX7_gatherMovers_56 (by decide) (fun c56 => ?_) (fun c56 => ?_)
      rotate_left -- leaf 4: at 87
      refine b_aloadN (pc := 59) 0 dX7_gatherMovers_59 rfl rfl ?_
      refine gf7_0 (pc := 60) 99 rfl k318 dX7_gatherMovers_60 ?_
      refine b_aloadN (pc := 63) 0 dX7_gatherMovers_63 rfl rfl ?_
      refine gf7_4 (pc := 64) k322 dX7_gatherMovers_64 ?_
      refine b_iloadN (pc := 67) 2 dX7_gatherMovers_67 rfl rfl ?_
      refine b_if_eq (pc := 68) 75 dX7_gatherMovers_68 (by decide) (fun c68 => ?_) (fun c68 => ?_)
      refine b_iconst (pc := 75) (nI 5) dX7_gatherMovers_75 (by decide) ?_
      refine b_iast (pc := 76) (by decide) ?_ dX7_gatherMovers_76 ?_
      rotate_left -- leaf 5: index at 76
      refine b_aloadN (pc := 77) 0 dX7_gatherMovers_77 rfl rfl ?_
      refine b_dup_r (pc := 78) dX7_gatherMovers_78 ?_
      refine gf7_4 (pc := 79) k322 dX7_gatherMovers_79 ?_
      refine b_iconst (pc := 82) (nI 1) dX7_gatherMovers_82 (by decide) ?_
      refine b_iadd (pc := 83) dX7_gatherMovers_83 ?_
      refine pf7_4 (pc := 84) k322 dX7_gatherMovers_84 ?_
      rotate_left -- leaf 6: at 87
      refine b_iconst (pc := 71) (nI 1) dX7_gatherMovers_71 (by decide) ?_
      refine b_goto (pc := 72) 76 dX7_gatherMovers_72 (by decide) ?_
      refine b_iast (pc := 76) (by decide) ?_ dX7_gatherMovers_76 ?_
      rotate_left -- leaf 7: index at 76
      refine b_aloadN (pc := 77) 0 dX7_gatherMovers_77 rfl rfl ?_
      refine b_dup_r (pc := 78) dX7_gatherMovers_78 ?_
      refine gf7_4 (pc := 79) k322 dX7_gatherMovers_79 ?_
      refine b_iconst (pc := 82) (nI 1) dX7_gatherMovers_82 (by decide) ?_
      refine b_iadd (pc := 83) dX7_gatherMovers_83 ?_
      refine pf7_4 (pc := 84) k322 dX7_gatherMovers_84 ?_
      rotate_left -- leaf 8: at 87
      -- leaves: 0 index at 76; 1 at 87; 2 index at 76; 3 at 87; 4 at 87; 5 index at 76; 6 at 87; 7 index at 76; 8 at 87
      · rw [v4]; exact n_in (by omega) (by omega)
      · exact absurd c68 c49
      · rw [v4]; exact n_in (by omega) (by omega)
      · rw [v4, cz, mset_ne _ _ _ (show 98 ≠ 99 by decide), v4, n_add]
        exact one 1 _ (Or.inl ⟨rfl, qT c49⟩) (uT (qT c49)) rfl
      · refine none0 (qF c49) ?_
        rw [v7, hmi, miN_if] at c56
        cases z : mindP C
        · rfl
        · rw [if_pos z] at c56
          exact absurd c56 (by decide)
      · rw [v4]; exact n_in (by omega) (by omega)
      · rw [v4, cz, mset_ne _ _ _ (show 98 ≠ 99 by decide), v4, n_add]
        refine one 5 _ (Or.inr (Or.inl ⟨rfl, ?_⟩)) (uF (qF c49)) rfl
        rw [v7, hmi, miN_if] at c56
        cases z : mindP C
        · rw [z] at c56
          exact absurd rfl c56
        · rfl
      · rw [v4]; exact n_in (by omega) (by omega)
      · exact absurd c49 c68
  have m21 : ∀ fr, fr = (if freeP C = true then 1 else 0) → B e_X7_gatherMovers Φ 21 [some (vr 7 98), some (vr 5 21), none] [vi (nI fr)] m (0, 0) := by
    intro fr hfr
    have fr1 : fr ≤ 1 := by
      rw [hfr]
      split <;> omega
    refine siN2 (pc := 21) rfl notL_r (by decide) dX7_gatherMovers_21 ?_
    refine b_aloadN (pc := 22) 0 dX7_gatherMovers_22 rfl rfl ?_
    refine b_iloadN (pc := 23) 2 dX7_gatherMovers_23 rfl rfl ?_
    refine b_if_ne (pc := 24) 39 dX7_gatherMovers_24 (by decide) (fun c24 => ?_) (fun c24 => ?_)
    refine b_iconst (pc := 39) (nI 0) dX7_gatherMovers_39 (by decide) ?_
    rotate_left -- leaf 0: at 40
    refine b_aloadN (pc := 27) 1 dX7_gatherMovers_27 rfl rfl ?_
    refine b_iconst (pc := 28) (nI 5) dX7_gatherMovers_28 (by decide) ?_
    refine call_X5_hasKind (pc := 29) k761 (by decide) ⟨Nat.le_of_ble_eq_true rfl, Nat.le_of_ble_eq_true rfl⟩ (Nat.le_of_ble_eq_true rfl) dX7_gatherMovers_29 ?_
    refine ⟨_, rfl, C, _, hB, rfl, ?_, ?_⟩
    rotate_left -- leaf 1: small of X5_hasKind at 29
    refine b_if_eq (pc := 32) 39 dX7_gatherMovers_32 (by decide) (fun c32 => ?_) (fun c32 => ?_)
    refine b_iconst (pc := 39) (nI 0) dX7_gatherMovers_39 (by decide) ?_
    rotate_left -- leaf 2: at 40
    refine b_iconst (pc := 35) (nI 1) dX7_gatherMovers_35 (by decide) ?_
    refine b_goto (pc := 36) 40 dX7_gatherMovers_36 (by decide) ?_
    rotate_left -- leaf 3: at 40
    -- leaves: 0 at 40; 1 small of X5_hasKind at 29; 2 at 40; 3 at 40
    · have fT : freeP C = true := by
        cases z : freeP C
        · rw [hfr, z] at c24
          exact absurd rfl c24
        · rfl
      refine m40 fr 0 hfr ?_
      unfold miN mindP
      rw [fT]
      rfl
    · omega
    · have fF : freeP C = false := by
        cases z : freeP C
        · rfl
        · rw [hfr, if_pos z] at c24
          exact absurd c24 (by decide)
      refine m40 fr 0 hfr ?_
      unfold miN mindP
      rw [fF]
      cases z : hasK C 5 (C 4)
      · rfl
      · rw [if_pos z] at c32
        exact absurd c32 (by decide)
    · have fF : freeP C = false := by
        cases z : freeP C
        · rfl
        · rw [hfr, if_pos z] at c24
          exact absurd c24 (by decide)
      refine m40 fr 1 hfr ?_
      unfold miN mindP
      rw [fF]
      cases z : hasK C 5 (C 4)
      · rw [z] at c32
        exact absurd rfl c32
      · rfl
  refine b_aloadN (pc := 0) 1 dX7_gatherMovers_0 rfl rfl ?_
  refine b_iconst (pc := 1) (nI 1) dX7_gatherMovers_1 (by decide) ?_
  refine call_X5_hasKind (pc := 2) k761 (by decide) ⟨Nat.le_of_ble_eq_true rfl, Nat.le_of_ble_eq_true rfl⟩ (Nat.le_of_ble_eq_true rfl) dX7_gatherMovers_2 ?_
  refine ⟨_, rfl, C, _, hB, rfl, ?_, ?_⟩
  rotate_left -- leaf 0: small of X5_hasKind at 2
  refine b_if_ne (pc := 5) 16 dX7_gatherMovers_5 (by decide) (fun c5 => ?_) (fun c5 => ?_)
  refine b_iconst (pc := 16) (nI 1) dX7_gatherMovers_16 (by decide) ?_
  refine b_goto (pc := 17) 21 dX7_gatherMovers_17 (by decide) ?_
  rotate_left -- leaf 1: at 21
  refine b_aloadN (pc := 8) 1 dX7_gatherMovers_8 rfl rfl ?_
  refine b_iconst (pc := 9) (nI 3) dX7_gatherMovers_9 (by decide) ?_
  refine call_X5_hasKind (pc := 10) k761 (by decide) ⟨Nat.le_of_ble_eq_true rfl, Nat.le_of_ble_eq_true rfl⟩ (Nat.le_of_ble_eq_true rfl) dX7_gatherMovers_10 ?_
  refine ⟨_, rfl, C, _, hB, rfl, ?_, ?_⟩
  rotate_left -- leaf 2: small of X5_hasKind at 10
  refine b_if_eq (pc := 13) 20 dX7_gatherMovers_13 (by decide) (fun c13 => ?_) (fun c13 => ?_)
  refine b_iconst (pc := 20) (nI 0) dX7_gatherMovers_20 (by decide) ?_
  rotate_left -- leaf 3: at 21
  refine b_iconst (pc := 16) (nI 1) dX7_gatherMovers_16 (by decide) ?_
  refine b_goto (pc := 17) 21 dX7_gatherMovers_17 (by decide) ?_
  rotate_left -- leaf 4: at 21
  -- leaves: 0 small of X5_hasKind at 2; 1 at 21; 2 small of X5_hasKind at 10; 3 at 21; 4 at 21
  · omega
  · refine m21 1 ?_
    unfold freeP
    cases z : hasK C 1 (C 4)
    · rw [z] at c5
      exact absurd rfl c5
    · rfl
  · omega
  · refine m21 0 ?_
    unfold freeP
    cases z : hasK C 1 (C 4)
    · cases w : hasK C 3 (C 4)
      · rfl
      · rw [if_pos w] at c13
        exact absurd c13 (by decide)
    · rw [if_pos z] at c5
      exact absurd c5 (by decide)
  · refine m21 1 ?_
    unfold freeP
    cases w : hasK C 3 (C 4)
    · rw [w] at c13
      exact absurd rfl c13
    · rw [Bool.or_true]
      rfl
theorem call_X7_gatherMovers {E : ME} {Φ : Option AV → AM → Prop} {pc : Nat} {L : List (Option AV)} {st : List AV} {m : AM} {a : Nat × Nat} {idx : Nat} {x0 : AV} {i : Nat} (hl : Cond.methodLink E.2.1 idx yX7_gatherMovers ∈ TB) (hdep : 2 + 1 ≤ E.2.2.2.2.2.2) (hroom : a.1 + 0 ≤ E.2.2.2.2.1 ∧ a.2 + 0 ≤ E.2.2.2.2.2.1) (hsr : st.length ≤ 4) (hd : decode E.1 pc = .ok (.invokevirtual idx, 3)) (hsp : Sp_X7_gatherMovers [vr 7 i, x0] m (fun r m2 => B E Φ (pc + 3) L (r.toList ++ st) m2 a)) : B E Φ pc L (x0 :: vr 7 i :: st) m a := b_callV S_X7_gatherMovers [x0] (RX7, TX7, 14) rfl rfl (by decide) (Or.inl hl) k759 k17 k76 k760 (show _ ∧ _ ∧ Option.map (fun d => d.parameters.length) (parseMethodDescriptor yX7_gatherMovers.desc) = some 1 from by decide +kernel) ⟨hdep, by decide⟩ hroom hsr hd hsp
