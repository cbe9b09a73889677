/-! the class reads a rule -/
def GR (m : AM) (G : Nat → Nat) : Prop := LawR m 14 G ∧ m.1 14 5 = nI (G 1)
theorem GR.rul {M : AM} {G : Nat → Nat} (h : GR M G) (h3 : G 3 < 8) (s a b : Nat) : GR (mset (mset (mset (mset M 15 (G 3) (nI s)) 16 (G 3) (nI a)) 17 (G 3) (nI b)) 14 7 (nI (G 3 + 1))) (addR G s a b) := by
  obtain ⟨⟨l1, l2, l3, l4, l5, l6⟩, l7⟩ := h
  have o : ∀ k, k ≠ 3 → (k < 8 ∨ 40 ≤ k) → addR G s a b k = G k := fun k h1 h2 => by
    rw [addR_at, if_neg h1, if_neg (by omega), if_neg (by omega), if_neg (by omega)]
  have e3 : addR G s a b 3 = G 3 + 1 := by rw [addR_at, if_pos rfl]
  have m14 : ∀ k, k ≠ 7 → (mset (mset (mset (mset M 15 (G 3) (nI s)) 16 (G 3) (nI a)) 17 (G 3) (nI b)) 14 7 (nI (G 3 + 1))).1 14 k = M.1 14 k := fun k hk => by
    rw [mset_at, if_neg hk, mset_ne _ _ _ (show 14 ≠ 17 by decide), mset_ne _ _ _ (show 14 ≠ 16 by decide), mset_ne _ _ _ (show 14 ≠ 15 by decide)]
  unfold GR LawR
  rw [m14 4 (by decide), m14 6 (by decide), m14 8 (by decide), m14 5 (by decide), o 0 (by omega) (by omega), o 1 (by omega) (by omega), o 2 (by omega) (by omega), o 4 (by omega) (by omega), e3]
  refine ⟨⟨l1, l2, by rw [mset_at, if_pos rfl], l4, fun k hk => ?_, fun p hp => ?_⟩, l7⟩
  · rw [show 14 + 1 = 15 from rfl, show 14 + 2 = 16 from rfl, show 14 + 3 = 17 from rfl, mset_ne _ _ _ (show 15 ≠ 14 by decide), mset_ne _ _ _ (show 15 ≠ 17 by decide), mset_ne _ _ _ (show 15 ≠ 16 by decide), mset_at, mset_ne _ _ _ (show 16 ≠ 14 by decide), mset_ne _ _ _ (show 16 ≠ 17 by decide), mset_at, mset_ne _ _ _ (show 16 ≠ 15 by decide), mset_ne _ _ _ (show 17 ≠ 14 by decide), mset_at, mset_ne _ _ _ (show 17 ≠ 16 by decide), mset_ne _ _ _ (show 17 ≠ 15 by decide)]
    rw [addR_at, addR_at, addR_at, if_neg (show ¬ 8 + 4 * k = 3 by omega), if_neg (show ¬ 8 + 4 * k = 10 + 4 * G 3 by omega), if_neg (show ¬ 8 + 4 * k = 9 + 4 * G 3 by omega), if_neg (show ¬ 9 + 4 * k = 3 by omega), if_neg (show ¬ 9 + 4 * k = 10 + 4 * G 3 by omega), if_neg (show ¬ 10 + 4 * k = 3 by omega)]
    by_cases q : k = G 3
    · subst q
      rw [if_pos rfl, if_pos rfl, if_pos rfl, if_pos rfl, if_pos rfl, if_pos rfl]
      exact ⟨rfl, rfl, rfl⟩
    · rw [if_neg q, if_neg q, if_neg q, if_neg (show ¬ 8 + 4 * k = 8 + 4 * G 3 by omega), if_neg (show ¬ 9 + 4 * k = 9 + 4 * G 3 by omega), if_neg (show ¬ 9 + 4 * k = 8 + 4 * G 3 by omega), if_neg (show ¬ 10 + 4 * k = 10 + 4 * G 3 by omega), if_neg (show ¬ 10 + 4 * k = 9 + 4 * G 3 by omega), if_neg (show ¬ 10 + 4 * k = 8 + 4 * G 3 by omega)]
      exact l5 k (by omega)
  · rw [show 14 + 4 = 18 from rfl, mset_ne _ _ _ (show 18 ≠ 14 by decide), mset_ne _ _ _ (show 18 ≠ 17 by decide), mset_ne _ _ _ (show 18 ≠ 16 by decide), mset_ne _ _ _ (show 18 ≠ 15 by decide), o _ (by omega) (by omega)]
    exact l6 p hp
theorem GR.tp {m m2 : AM} {G : Nat → Nat} {ls : List Nat} (h : GR m G) (f : Tp [] ls m m2) : GR m2 G := by
  have o : ∀ a, a ≠ 13 → m2.1 a = m.1 a := fun a ha => f.2.1 a ha (by simp)
  unfold GR LawR
  rw [o 14 (by decide), o (14 + 1) (by decide), o (14 + 2) (by decide), o (14 + 3) (by decide), o (14 + 4) (by decide)]
  exact h
def rl4 (T : Nat → Nat) (n : Nat) (G : Nat → Nat) (s a b p : Nat) : Except (Nat × Nat) ((Nat → Nat) × Nat) := bnd (tknS T n 59 p) fun q => .ok (addR G s a b, q)
def rl3 (T : Nat → Nat) (n : Nat) (G : Nat → Nat) (s a p : Nat) : Except (Nat × Nat) ((Nat → Nat) × Nat) := bnd (tknN T n 0 (G 0 - 1) p) fun y => if y.1 = a ∨ hasR G s a y.1 (G 3) = true then .error (2, p) else rl4 T n G s a y.1 y.2
def rl2 (T : Nat → Nat) (n : Nat) (G : Nat → Nat) (s a p : Nat) : Except (Nat × Nat) ((Nat → Nat) × Nat) := bnd (tknS T n 44 p) fun q => rl3 T n G s a q
def ruleP (T : Nat → Nat) (n : Nat) (G : Nat → Nat) (s p : Nat) : Except (Nat × Nat) ((Nat → Nat) × Nat) := bnd (tknN T n 0 (G 0 - 1) p) fun x => rl2 T n G s x.1 x.2
abbrev e_X9_readRule : ME := (cX9_readRule, (RX9, (3, ((some .boolean), (0, (0, 4))))))
theorem dX9_readRule_0 : decode cX9_readRule 0 = .ok (.aload_n 0, 1) := by decide +kernel
theorem dX9_readRule_1 : decode cX9_readRule 1 = .ok (.iconst 0, 1) := by decide +kernel
theorem dX9_readRule_2 : decode cX9_readRule 2 = .ok (.aload_n 0, 1) := by decide +kernel
theorem dX9_readRule_3 : decode cX9_readRule 3 = .ok (.getfield 12, 3) := by decide +kernel
theorem dX9_readRule_6 : decode cX9_readRule 6 = .ok (.getfield 60, 3) := by decide +kernel
theorem dX9_readRule_9 : decode cX9_readRule 9 = .ok (.iconst 1, 1) := by decide +kernel
theorem dX9_readRule_10 : decode cX9_readRule 10 = .ok (.isub, 1) := by decide +kernel
theorem dX9_readRule_11 : decode cX9_readRule 11 = .ok (.invokevirtual 53, 3) := by decide +kernel
theorem dX9_readRule_14 : decode cX9_readRule 14 = .ok (.ifCond .ne 5, 3) := by decide +kernel
theorem dX9_readRule_17 : decode cX9_readRule 17 = .ok (.iconst 0, 1) := by decide +kernel
theorem dX9_readRule_18 : decode cX9_readRule 18 = .ok (.ireturn, 1) := by decide +kernel
theorem dX9_readRule_19 : decode cX9_readRule 19 = .ok (.aload_n 0, 1) := by decide +kernel
theorem dX9_readRule_20 : decode cX9_readRule 20 = .ok (.getfield 57, 3) := by decide +kernel
theorem dX9_readRule_23 : decode cX9_readRule 23 = .ok (.istore_n 2, 1) := by decide +kernel
theorem dX9_readRule_24 : decode cX9_readRule 24 = .ok (.aload_n 0, 1) := by decide +kernel
theorem dX9_readRule_25 : decode cX9_readRule 25 = .ok (.bipush 44, 2) := by decide +kernel
theorem dX9_readRule_27 : decode cX9_readRule 27 = .ok (.invokevirtual 49, 3) := by decide +kernel
theorem dX9_readRule_30 : decode cX9_readRule 30 = .ok (.ifCond .eq 20, 3) := by decide +kernel
theorem dX9_readRule_33 : decode cX9_readRule 33 = .ok (.aload_n 0, 1) := by decide +kernel
theorem dX9_readRule_34 : decode cX9_readRule 34 = .ok (.iconst 0, 1) := by decide +kernel
theorem dX9_readRule_35 : decode cX9_readRule 35 = .ok (.aload_n 0, 1) := by decide +kernel
theorem dX9_readRule_36 : decode cX9_readRule 36 = .ok (.getfield 12, 3) := by decide +kernel
theorem dX9_readRule_39 : decode cX9_readRule 39 = .ok (.getfield 60, 3) := by decide +kernel
theorem dX9_readRule_42 : decode cX9_readRule 42 = .ok (.iconst 1, 1) := by decide +kernel
theorem dX9_readRule_43 : decode cX9_readRule 43 = .ok (.isub, 1) := by decide +kernel
theorem dX9_readRule_44 : decode cX9_readRule 44 = .ok (.invokevirtual 53, 3) := by decide +kernel
theorem dX9_readRule_47 : decode cX9_readRule 47 = .ok (.ifCond .ne 5, 3) := by decide +kernel
theorem dX9_readRule_50 : decode cX9_readRule 50 = .ok (.iconst 0, 1) := by decide +kernel
theorem dX9_readRule_51 : decode cX9_readRule 51 = .ok (.ireturn, 1) := by decide +kernel
theorem dX9_readRule_52 : decode cX9_readRule 52 = .ok (.aload_n 0, 1) := by decide +kernel
theorem dX9_readRule_53 : decode cX9_readRule 53 = .ok (.getfield 57, 3) := by decide +kernel
theorem dX9_readRule_56 : decode cX9_readRule 56 = .ok (.iload_n 2, 1) := by decide +kernel
theorem dX9_readRule_57 : decode cX9_readRule 57 = .ok (.if_icmp .eq 19, 3) := by decide +kernel
theorem dX9_readRule_60 : decode cX9_readRule 60 = .ok (.aload_n 0, 1) := by decide +kernel
theorem dX9_readRule_61 : decode cX9_readRule 61 = .ok (.getfield 12, 3) := by decide +kernel
theorem dX9_readRule_64 : decode cX9_readRule 64 = .ok (.iload_n 1, 1) := by decide +kernel
theorem dX9_readRule_65 : decode cX9_readRule 65 = .ok (.iload_n 2, 1) := by decide +kernel
theorem dX9_readRule_66 : decode cX9_readRule 66 = .ok (.aload_n 0, 1) := by decide +kernel
theorem dX9_readRule_67 : decode cX9_readRule 67 = .ok (.getfield 57, 3) := by decide +kernel
theorem dX9_readRule_70 : decode cX9_readRule 70 = .ok (.invokevirtual 84, 3) := by decide +kernel
theorem dX9_readRule_73 : decode cX9_readRule 73 = .ok (.ifCond .eq 9, 3) := by decide +kernel
theorem dX9_readRule_76 : decode cX9_readRule 76 = .ok (.aload_n 0, 1) := by decide +kernel
theorem dX9_readRule_77 : decode cX9_readRule 77 = .ok (.iconst 2, 1) := by decide +kernel
theorem dX9_readRule_78 : decode cX9_readRule 78 = .ok (.invokevirtual 78, 3) := by decide +kernel
theorem dX9_readRule_81 : decode cX9_readRule 81 = .ok (.ireturn, 1) := by decide +kernel
theorem dX9_readRule_82 : decode cX9_readRule 82 = .ok (.aload_n 0, 1) := by decide +kernel
theorem dX9_readRule_83 : decode cX9_readRule 83 = .ok (.getfield 12, 3) := by decide +kernel
theorem dX9_readRule_86 : decode cX9_readRule 86 = .ok (.iload_n 1, 1) := by decide +kernel
theorem dX9_readRule_87 : decode cX9_readRule 87 = .ok (.iload_n 2, 1) := by decide +kernel
theorem dX9_readRule_88 : decode cX9_readRule 88 = .ok (.aload_n 0, 1) := by decide +kernel
theorem dX9_readRule_89 : decode cX9_readRule 89 = .ok (.getfield 57, 3) := by decide +kernel
theorem dX9_readRule_92 : decode cX9_readRule 92 = .ok (.invokevirtual 88, 3) := by decide +kernel
theorem dX9_readRule_95 : decode cX9_readRule 95 = .ok (.aload_n 0, 1) := by decide +kernel
theorem dX9_readRule_96 : decode cX9_readRule 96 = .ok (.bipush 59, 2) := by decide +kernel
theorem dX9_readRule_98 : decode cX9_readRule 98 = .ok (.invokevirtual 49, 3) := by decide +kernel
theorem dX9_readRule_101 : decode cX9_readRule 101 = .ok (.ireturn, 1) := by decide +kernel
def Sp_X9_readRule (av : List AV) (m : AM) (Φ : Option AV → AM → Prop) : Prop := ∃ x, av = [vr 9 13, vi x] ∧ ∃ T n G s p, TapC m T n ∧ PV G ∧ G 3 < 8 ∧ GR m G ∧ m.1 13 4 = nI p ∧ p ≤ n ∧ x = nI s ∧ s ≤ 1 ∧ ∀ b m2, Tp [14, 15, 16, 17] [3, 4, 5, 6, 7, 8] m m2 → (b = 1 ∧ Tp [14, 15, 16, 17] [3, 4, 5, 6] m m2 ∧ (∃ a b q, ruleP T n G s p = .ok (addR G s a b, q) ∧ q ≤ n ∧ a < G 0 ∧ b < G 0 ∧ GR m2 (addR G s a b) ∧ m2.1 13 4 = nI q) ∨ b = 0 ∧ ∃ f pl, ruleP T n G s p = .error (f, pl) ∧ ErR m2 f pl) → Φ (some (vi (nI b))) m2
set_option maxRecDepth 20000 in
set_option maxHeartbeats 4000000 in
theorem S_X9_readRule : Snd yX9_readRule e_X9_readRule Sp_X9_readRule := by
  refine Snd.of (by decide +kernel) rfl ?_ ?_
  · rintro av m Φ ⟨x, rfl, _⟩; exact Nat.le_of_ble_eq_true rfl
  rintro av m Φ ⟨x, rfl, T, n, G, s, p0, hT, hp, h3, hG0, h40, hp0, rfl, hs1, h⟩ hav hty
  show B e_X9_readRule Φ 0 [some (vr 9 13), some (vi (nI s)), none] [] m (0, 0)
  have hpv1 := hp.1
  have hhi : ∀ M : AM, GR M G → M.1 14 4 - nI 1 = nI (G 0 - 1) := fun M hL => by
    rw [hL.1.1, n_sub (by omega)]
  have er : ∀ M f pl, ruleP T n G s p0 = .error (f, pl) → Tp [14, 15, 16, 17] [3, 4, 5, 6, 7, 8] m M → ErR M f pl → Φ (some (vi (nI 0))) M := fun M f pl a b e => h 0 M b (Or.inr ⟨rfl, f, pl, a, e⟩)
  have up : ∀ {M M2 : AM}, Tp [14, 15, 16, 17] [3, 4, 5, 6] m M → Tp [] [3, 4, 5, 6] M M2 → Tp [14, 15, 16, 17] [3, 4, 5, 6] m M2 := fun a b => a.tr (b.mono (fun a z => by cases z) (fun a z => z))
  have wd : ∀ {M : AM}, Tp [14, 15, 16, 17] [3, 4, 5, 6] m M → Tp [14, 15, 16, 17] [3, 4, 5, 6, 7, 8] m M := fun a => a.mono (fun a z => z) (fun a z => by simp at z; simp; omega)
  have upw : ∀ {M M2 : AM}, Tp [14, 15, 16, 17] [3, 4, 5, 6] m M → Tp [] [3, 4, 5, 6, 7, 8] M M2 → Tp [14, 15, 16, 17] [3, 4, 5, 6, 7, 8] m M2 := fun a b => (wd a).tr (b.mono (fun a z => by cases z) (fun a z => z))
  have s95 : ∀ M p a b o2, ruleP T n G s p0 = rl4 T n G s a b p → Tp [14, 15, 16, 17] [3, 4, 5, 6] m M → GR M (addR G s a b) → M.1 13 4 = nI p → p ≤ n → a < G 0 → b < G 0 → B e_X9_readRule Φ 95 [some (vr 9 13), some (vi (nI s)), o2] [] M (0, 0) := by
    intro M p a b o2 hE hF hL h4M hpn ha hb
    have hTM := hT.tp hF (by decide) (by decide)
    refine b_aloadN (pc := 95) 0 dX9_readRule_95 rfl rfl ?_
    refine b_bipush (pc := 96) (nI 59) dX9_readRule_96 (by decide) ?_
    refine call_X9_takes (pc := 98) k529 (by decide) ⟨Nat.le_of_ble_eq_true rfl, Nat.le_of_ble_eq_true rfl⟩ (Nat.le_of_ble_eq_true rfl) dX9_readRule_98 ?_
    refine ⟨_, rfl, T, n, p, _, hTM, h4M, hpn, rfl, by decide, fun b98 m98 tp98 r98 => ?_⟩
    refine b_zret (pc := 101) rfl ?_ dX9_readRule_101 ⟨Nat.le_of_ble_eq_true rfl, Nat.le_of_ble_eq_true rfl⟩ ?_
    rotate_left -- leaf 0: bool at 101
    rotate_left -- leaf 1: return at 101
    -- leaves: 0 bool at 101; 1 return at 101
    · rcases r98 with ⟨z, -⟩ | ⟨z, -⟩
      · rw [z]; exact Or.inr rfl
      · rw [z]; exact Or.inl rfl
    · rcases r98 with ⟨z, ts, q, e, hq, h4q⟩ | ⟨z, f1, pl, e, hr⟩
      · rw [z]
        exact h 1 m98 (upw hF tp98) (Or.inl ⟨rfl, up hF ts, a, b, q, hE.trans (bndS_ok e), hq, ha, hb, hL.tp tp98, h4q⟩)
      · rw [z]
        exact er m98 f1 pl (hE.trans (bndS_er e)) (upw hF tp98) hr
  have s52 : ∀ M p a b q, ruleP T n G s p0 = (if b = a ∨ hasR G s a b (G 3) = true then .error (2, p) else rl4 T n G s a b q) → Tp [14, 15, 16, 17] [3, 4, 5, 6] m M → GR M G → M.1 13 3 = nI p → M.1 13 4 = nI q → q ≤ n → a < G 0 → b < G 0 → M.1 13 6 = nI b → B e_X9_readRule Φ 52 [some (vr 9 13), some (vi (nI s)), some (vi (nI a))] [] M (0, 0) := by
    intro M p a b q hE hF hL h3M h4M hpn ha hb h6
    have hTM := hT.tp hF (by decide) (by decide)
    refine b_aloadN (pc := 52) 0 dX9_readRule_52 rfl rfl ?_
    refine gf9_6 (pc := 53) k191 dX9_readRule_53 ?_
    refine b_iloadN (pc := 56) 2 dX9_readRule_56 rfl rfl ?_
    refine b_icmp_eq (pc := 57) 76 dX9_readRule_57 (by decide) (fun c57 => ?_) (fun c57 => ?_)
    refine b_aloadN (pc := 76) 0 dX9_readRule_76 rfl rfl ?_
    refine b_iconst (pc := 77) (nI 2) dX9_readRule_77 (by decide) ?_
    refine call_X9_fails (pc := 78) k541 (by decide) ⟨Nat.le_of_ble_eq_true rfl, Nat.le_of_ble_eq_true rfl⟩ (Nat.le_of_ble_eq_true rfl) dX9_readRule_78 ?_
    refine ⟨_, rfl, ?_⟩
    refine b_zret (pc := 81) rfl ?_ dX9_readRule_81 ⟨Nat.le_of_ble_eq_true rfl, Nat.le_of_ble_eq_true rfl⟩ ?_
    rotate_left -- leaf 0: bool at 81
    rotate_left -- leaf 1: return at 81
    refine b_aloadN (pc := 60) 0 dX9_readRule_60 rfl rfl ?_
    refine gf9_0 (pc := 61) 14 rfl k183 dX9_readRule_61 ?_
    refine b_iloadN (pc := 64) 1 dX9_readRule_64 rfl rfl ?_
    refine b_iloadN (pc := 65) 2 dX9_readRule_65 rfl rfl ?_
    refine b_aloadN (pc := 66) 0 dX9_readRule_66 rfl rfl ?_
    refine gf9_6 (pc := 67) k191 dX9_readRule_67 ?_
    refine call_X5_hasRule (pc := 70) k557 (by decide) ⟨Nat.le_of_ble_eq_true rfl, Nat.le_of_ble_eq_true rfl⟩ (Nat.le_of_ble_eq_true rfl) dX9_readRule_70 ?_
    refine ⟨_, _, _, rfl, G, s, a, b, hp, hL.1, rfl, rfl, h6, by omega, by omega, by omega, ?_⟩
    refine b_if_eq (pc := 73) 82 dX9_readRule_73 (by decide) (fun c73 => ?_) (fun c73 => ?_)
    refine b_aloadN (pc := 82) 0 dX9_readRule_82 rfl rfl ?_
    refine gf9_0 (pc := 83) 14 rfl k183 dX9_readRule_83 ?_
    refine b_iloadN (pc := 86) 1 dX9_readRule_86 rfl rfl ?_
    refine b_iloadN (pc := 87) 2 dX9_readRule_87 rfl rfl ?_
    refine b_aloadN (pc := 88) 0 dX9_readRule_88 rfl rfl ?_
    refine gf9_6 (pc := 89) k191 dX9_readRule_89 ?_
    refine call_X5_addRule (pc := 92) k561 (by decide) ⟨Nat.le_of_ble_eq_true rfl, Nat.le_of_ble_eq_true rfl⟩ (Nat.le_of_ble_eq_true rfl) dX9_readRule_92 ?_
    refine ⟨_, _, _, rfl, G 3, hL.1.2.2.1, h3, ?_⟩
    rotate_left -- leaf 2: at 95
    refine b_aloadN (pc := 76) 0 dX9_readRule_76 rfl rfl ?_
    refine b_iconst (pc := 77) (nI 2) dX9_readRule_77 (by decide) ?_
    refine call_X9_fails (pc := 78) k541 (by decide) ⟨Nat.le_of_ble_eq_true rfl, Nat.le_of_ble_eq_true rfl⟩ (Nat.le_of_ble_eq_true rfl) dX9_readRule_78 ?_
    refine ⟨_, rfl, ?_⟩
    refine b_zret (pc := 81) rfl ?_ dX9_readRule_81 ⟨Nat.le_of_ble_eq_true rfl, Nat.le_of_ble_eq_true rfl⟩ ?_
    rotate_left -- leaf 3: bool at 81
    rotate_left -- leaf 4: return at 81
    -- leaves: 0 bool at 81; 1 return at 81; 2 at 95; 3 bool at 81; 4 return at 81
    · exact Or.inl rfl
    · rw [h6, n_eq (by omega) (by omega)] at c57
      exact er _ 2 p (hE.trans (if_pos (Or.inl c57))) (((wd hF).m0 (by simp)).m0 (by simp)) (ErR.put h3M)
    · rw [h6, n_eq (by omega) (by omega)] at c57
      rw [h6]
      refine s95 _ q a b _ (hE.trans (if_neg (fun z => ?_))) ((((hF.ms (by decide) (by simp)).ms (by decide) (by simp)).ms (by decide) (by simp)).ms (by decide) (by simp)) (hL.rul h3 s a b) ?_ hpn ha hb
      · rcases z with z | z
        · exact c57 z
        · rw [bF c73] at z
          cases z
      · rw [mset_ne _ _ _ (show 13 ≠ 14 by decide), mset_ne _ _ _ (show 13 ≠ 17 by decide), mset_ne _ _ _ (show 13 ≠ 16 by decide), mset_ne _ _ _ (show 13 ≠ 15 by decide)]
        exact h4M
    · exact Or.inl rfl
    · exact er _ 2 p (hE.trans (if_pos (Or.inr (bT c73)))) (((wd hF).m0 (by simp)).m0 (by simp)) (ErR.put h3M)
  have s33 : ∀ M p a, ruleP T n G s p0 = rl3 T n G s a p → Tp [14, 15, 16, 17] [3, 4, 5, 6] m M → GR M G → M.1 13 4 = nI p → p ≤ n → a < G 0 → B e_X9_readRule Φ 33 [some (vr 9 13), some (vi (nI s)), some (vi (nI a))] [] M (0, 0) := by
    intro M p a hE hF hL h4M hpn ha
    have hTM := hT.tp hF (by decide) (by decide)
    refine b_aloadN (pc := 33) 0 dX9_readRule_33 rfl rfl ?_
    refine b_iconst (pc := 34) (nI 0) dX9_readRule_34 (by decide) ?_
    refine b_aloadN (pc := 35) 0 dX9_readRule_35 rfl rfl ?_
    refine gf9_0 (pc := 36) 14 rfl k183 dX9_readRule_36 ?_
    refine gf5_4 (pc := 39) k146 dX9_readRule_39 ?_
    refine b_iconst (pc := 42) (nI 1) dX9_readRule_42 (by decide) ?_
    refine b_isub (pc := 43) dX9_readRule_43 ?_
    refine call_X9_takesNumber (pc := 44) k545 (by decide) ⟨Nat.le_of_ble_eq_true rfl, Nat.le_of_ble_eq_true rfl⟩ (Nat.le_of_ble_eq_true rfl) dX9_readRule_44 ?_
    refine ⟨_, _, rfl, T, n, p, 0, G 0 - 1, hTM, h4M, hpn, rfl, ?_, by decide, by omega, fun b44 m44 tp44 r44 => ?_⟩
    rotate_left -- leaf 0: hi of X9_takesNumber at 44
    refine b_if_ne (pc := 47) 52 dX9_readRule_47 (by decide) (fun c47 => ?_) (fun c47 => ?_)
    rotate_left -- leaf 1: at 52
    refine b_iconst (pc := 50) (nI 0) dX9_readRule_50 (by decide) ?_
    refine b_zret (pc := 51) rfl ?_ dX9_readRule_51 ⟨Nat.le_of_ble_eq_true rfl, Nat.le_of_ble_eq_true rfl⟩ ?_
    rotate_left -- leaf 2: bool at 51
    rotate_left -- leaf 3: return at 51
    -- leaves: 0 hi of X9_takesNumber at 44; 1 at 52; 2 bool at 51; 3 return at 51
    · exact hhi M hL
    · rcases r44 with ⟨z, ts, v, q, e, hq, hv1, hv2, h3q, h4q, h6⟩ | ⟨z, f1, pl, e, hr⟩
      · exact s52 m44 p a v q (hE.trans (bndN_ok e)) (up hF ts) (hL.tp tp44) h3q h4q hq ha (by omega) h6
      · exact absurd (by rw [z]; rfl) c47
    · exact Or.inl rfl
    · rcases r44 with ⟨z, ts, v, q, e, hq, hv1, hv2, h3q, h4q, h6⟩ | ⟨z, f1, pl, e, hr⟩
      · rw [z] at c47
        exact absurd c47 (by decide)
      · exact er m44 f1 pl (hE.trans (bndN_er e)) (upw hF tp44) hr
  have s24 : ∀ M p a, ruleP T n G s p0 = rl2 T n G s a p → Tp [14, 15, 16, 17] [3, 4, 5, 6] m M → GR M G → M.1 13 4 = nI p → p ≤ n → a < G 0 → B e_X9_readRule Φ 24 [some (vr 9 13), some (vi (nI s)), some (vi (nI a))] [] M (0, 0) := by
    intro M p a hE hF hL h4M hpn ha
    have hTM := hT.tp hF (by decide) (by decide)
    refine b_aloadN (pc := 24) 0 dX9_readRule_24 rfl rfl ?_
    refine b_bipush (pc := 25) (nI 44) dX9_readRule_25 (by decide) ?_
    refine call_X9_takes (pc := 27) k529 (by decide) ⟨Nat.le_of_ble_eq_true rfl, Nat.le_of_ble_eq_true rfl⟩ (Nat.le_of_ble_eq_true rfl) dX9_readRule_27 ?_
    refine ⟨_, rfl, T, n, p, _, hTM, h4M, hpn, rfl, by decide, fun b27 m27 tp27 r27 => ?_⟩
    refine b_if_eq (pc := 30) 50 dX9_readRule_30 (by decide) (fun c30 => ?_) (fun c30 => ?_)
    refine b_iconst (pc := 50) (nI 0) dX9_readRule_50 (by decide) ?_
    refine b_zret (pc := 51) rfl ?_ dX9_readRule_51 ⟨Nat.le_of_ble_eq_true rfl, Nat.le_of_ble_eq_true rfl⟩ ?_
    rotate_left -- leaf 0: bool at 51
    rotate_left -- leaf 1: return at 51
    rotate_left -- leaf 2: at 33
    -- leaves: 0 bool at 51; 1 return at 51; 2 at 33
    · exact Or.inl rfl
    · rcases r27 with ⟨z, ts, q, e, hq, h4q⟩ | ⟨z, f1, pl, e, hr⟩
      · rw [z] at c30
        exact absurd c30 (by decide)
      · exact er m27 f1 pl (hE.trans (bndS_er e)) (upw hF tp27) hr
    · rcases r27 with ⟨z, ts, q, e, hq, h4q⟩ | ⟨z, f1, pl, e, hr⟩
      · exact s33 m27 q a (hE.trans (bndS_ok e)) (up hF ts) (hL.tp tp27) h4q hq ha
      · exact absurd (by rw [z]; rfl) c30
  refine b_aloadN (pc := 0) 0 dX9_readRule_0 rfl rfl ?_
  refine b_iconst (pc := 1) (nI 0) dX9_readRule_1 (by decide) ?_
  refine b_aloadN (pc := 2) 0 dX9_readRule_2 rfl rfl ?_
  refine gf9_0 (pc := 3) 14 rfl k183 dX9_readRule_3 ?_
  refine gf5_4 (pc := 6) k146 dX9_readRule_6 ?_
  refine b_iconst (pc := 9) (nI 1) dX9_readRule_9 (by decide) ?_
  refine b_isub (pc := 10) dX9_readRule_10 ?_
  refine call_X9_takesNumber (pc := 11) k545 (by decide) ⟨Nat.le_of_ble_eq_true rfl, Nat.le_of_ble_eq_true rfl⟩ (Nat.le_of_ble_eq_true rfl) dX9_readRule_11 ?_
  refine ⟨_, _, rfl, T, n, p0, 0, G 0 - 1, hT, h40, hp0, rfl, ?_, by decide, by omega, fun b11 m11 tp11 r11 => ?_⟩
  rotate_left -- leaf 0: hi of X9_takesNumber at 11
  refine b_if_ne (pc := 14) 19 dX9_readRule_14 (by decide) (fun c14 => ?_) (fun c14 => ?_)
  refine b_aloadN (pc := 19) 0 dX9_readRule_19 rfl rfl ?_
  refine gf9_6 (pc := 20) k191 dX9_readRule_20 ?_
  refine siN2 (pc := 23) rfl notL_i (by decide) dX9_readRule_23 ?_
  rotate_left -- leaf 1: at 24
  refine b_iconst (pc := 17) (nI 0) dX9_readRule_17 (by decide) ?_
  refine b_zret (pc := 18) rfl ?_ dX9_readRule_18 ⟨Nat.le_of_ble_eq_true rfl, Nat.le_of_ble_eq_true rfl⟩ ?_
  rotate_left -- leaf 2: bool at 18
  rotate_left -- leaf 3: return at 18
  -- leaves: 0 hi of X9_takesNumber at 11; 1 at 24; 2 bool at 18; 3 return at 18
  · exact hhi m hG0
  · rcases r11 with ⟨z, ts, v, q, e, hq, hv1, hv2, h3q, h4q, h6⟩ | ⟨z, f1, pl, e, hr⟩
    · rw [h6]
      exact s24 m11 q v (bndN_ok e) (up (Tp.rf _ _ m) ts) (hG0.tp tp11) h4q hq (by omega)
    · exact absurd (by rw [z]; rfl) c14
  · exact Or.inl rfl
  · rcases r11 with ⟨z, ts, v, q, e, hq, hv1, hv2, h3q, h4q, h6⟩ | ⟨z, f1, pl, e, hr⟩
    · rw [z] at c14
      exact absurd c14 (by decide)
    · exact er m11 f1 pl (bndN_er e) (upw (Tp.rf _ _ m) tp11) hr
theorem call_X9_readRule {E : ME} {Φ : Option AV → AM → Prop} {pc : Nat} {L : List (Option AV)} {st : List AV} {m : AM} {a : Nat × Nat} {idx : Nat} {x0 : AV} {i : Nat} (hl : Cond.methodLink E.2.1 idx yX9_readRule ∈ TB) (hdep : 4 + 1 ≤ E.2.2.2.2.2.2) (hroom : a.1 + 0 ≤ E.2.2.2.2.1 ∧ a.2 + 0 ≤ E.2.2.2.2.2.1) (hsr : st.length ≤ 4) (hd : decode E.1 pc = .ok (.invokevirtual idx, 3)) (hsp : Sp_X9_readRule [vr 9 i, x0] m (fun r m2 => B E Φ (pc + 3) L (r.toList ++ st) m2 a)) : B E Φ pc L (x0 :: vr 9 i :: st) m a := b_callV S_X9_readRule [x0] (RX9, TX9, 9) rfl rfl (by decide) (Or.inl hl) k555 k9 k71 k556 (show _ ∧ _ ∧ Option.map (fun d => d.parameters.length) (parseMethodDescriptor yX9_readRule.desc) = some 1 from by decide +kernel) ⟨hdep, by decide⟩ hroom hsr hd hsp
