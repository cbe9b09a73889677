/-! the class reads a law: readLaw -/
def bnd {α β : Type} (x : Except (Nat × Nat) α) (f : α → Except (Nat × Nat) β) : Except (Nat × Nat) β := match x with
  | .error e => .error e
  | .ok a => f a
def lw6 (T : Nat → Nat) (n f a pr p : Nat) : Except (Nat × Nat) ((Nat × Nat × Nat) × Nat) := bnd (tknS T n 59 p) fun q => .ok ((f, a, pr), q)
def lw5 (T : Nat → Nat) (n f a p : Nat) : Except (Nat × Nat) ((Nat × Nat × Nat) × Nat) := bnd (tknN T n 1 9 p) fun x => lw6 T n f a x.1 x.2
def lw4 (T : Nat → Nat) (n f a p : Nat) : Except (Nat × Nat) ((Nat × Nat × Nat) × Nat) := bnd (tknS T n 44 p) fun q => lw5 T n f a q
def lw3 (T : Nat → Nat) (n f p : Nat) : Except (Nat × Nat) ((Nat × Nat × Nat) × Nat) := bnd (tknN T n 0 (2 ^ f - 1) p) fun x => lw4 T n f x.1 x.2
def lw2 (T : Nat → Nat) (n f p : Nat) : Except (Nat × Nat) ((Nat × Nat × Nat) × Nat) := bnd (tknS T n 44 p) fun q => lw3 T n f q
def lw1 (T : Nat → Nat) (n p : Nat) : Except (Nat × Nat) ((Nat × Nat × Nat) × Nat) := bnd (tknN T n 1 6 p) fun x => lw2 T n x.1 x.2
def lawP (T : Nat → Nat) (n : Nat) : Except (Nat × Nat) ((Nat × Nat × Nat) × Nat) := bnd (tknS T n 99 0) fun q => lw1 T n q
theorem bndS_ok {β : Type} {T : Nat → Nat} {n v p q : Nat} {f : Nat → Except (Nat × Nat) β} (h : tknS T n v p = .ok q) : bnd (tknS T n v p) f = f q := by
  rw [h]
  rfl
theorem bndS_er {β : Type} {T : Nat → Nat} {n v p : Nat} {e : Nat × Nat} {f : Nat → Except (Nat × Nat) β} (h : tknS T n v p = .error e) : bnd (tknS T n v p) f = .error e := by
  rw [h]
  rfl
theorem bndN_ok {β : Type} {T : Nat → Nat} {n lo hi p v q : Nat} {f : Nat × Nat → Except (Nat × Nat) β} (h : tknN T n lo hi p = .ok (v, q)) : bnd (tknN T n lo hi p) f = f (v, q) := by
  rw [h]
  rfl
theorem bndN_er {β : Type} {T : Nat → Nat} {n lo hi p : Nat} {e : Nat × Nat} {f : Nat × Nat → Except (Nat × Nat) β} (h : tknN T n lo hi p = .error e) : bnd (tknN T n lo hi p) f = .error e := by
  rw [h]
  rfl
theorem pow_6 {f : Nat} (h : f ≤ 6) : 2 ^ f ≤ 64 ∧ 1 ≤ 2 ^ f := by
  have : 2 ^ f ≤ 2 ^ 6 := Nat.pow_le_pow_right (by omega) h
  exact ⟨this, Nat.pow_pos (by omega)⟩
abbrev e_X9_readLaw : ME := (cX9_readLaw, (RX9, (1, ((some .boolean), (0, (0, 4))))))
theorem dX9_readLaw_0 : decode cX9_readLaw 0 = .ok (.aload_n 0, 1) := by decide +kernel
theorem dX9_readLaw_1 : decode cX9_readLaw 1 = .ok (.bipush 99, 2) := by decide +kernel
theorem dX9_readLaw_3 : decode cX9_readLaw 3 = .ok (.invokevirtual 49, 3) := by decide +kernel
theorem dX9_readLaw_6 : decode cX9_readLaw 6 = .ok (.ifCond .eq 13, 3) := by decide +kernel
theorem dX9_readLaw_9 : decode cX9_readLaw 9 = .ok (.aload_n 0, 1) := by decide +kernel
theorem dX9_readLaw_10 : decode cX9_readLaw 10 = .ok (.iconst 1, 1) := by decide +kernel
theorem dX9_readLaw_11 : decode cX9_readLaw 11 = .ok (.bipush 6, 2) := by decide +kernel
theorem dX9_readLaw_13 : decode cX9_readLaw 13 = .ok (.invokevirtual 53, 3) := by decide +kernel
theorem dX9_readLaw_16 : decode cX9_readLaw 16 = .ok (.ifCond .ne 5, 3) := by decide +kernel
theorem dX9_readLaw_19 : decode cX9_readLaw 19 = .ok (.iconst 0, 1) := by decide +kernel
theorem dX9_readLaw_20 : decode cX9_readLaw 20 = .ok (.ireturn, 1) := by decide +kernel
theorem dX9_readLaw_21 : decode cX9_readLaw 21 = .ok (.aload_n 0, 1) := by decide +kernel
theorem dX9_readLaw_22 : decode cX9_readLaw 22 = .ok (.getfield 12, 3) := by decide +kernel
theorem dX9_readLaw_25 : decode cX9_readLaw 25 = .ok (.aload_n 0, 1) := by decide +kernel
theorem dX9_readLaw_26 : decode cX9_readLaw 26 = .ok (.getfield 57, 3) := by decide +kernel
theorem dX9_readLaw_29 : decode cX9_readLaw 29 = .ok (.putfield 60, 3) := by decide +kernel
theorem dX9_readLaw_32 : decode cX9_readLaw 32 = .ok (.aload_n 0, 1) := by decide +kernel
theorem dX9_readLaw_33 : decode cX9_readLaw 33 = .ok (.bipush 44, 2) := by decide +kernel
theorem dX9_readLaw_35 : decode cX9_readLaw 35 = .ok (.invokevirtual 49, 3) := by decide +kernel
theorem dX9_readLaw_38 : decode cX9_readLaw 38 = .ok (.ifCond .eq 22, 3) := by decide +kernel
theorem dX9_readLaw_41 : decode cX9_readLaw 41 = .ok (.aload_n 0, 1) := by decide +kernel
theorem dX9_readLaw_42 : decode cX9_readLaw 42 = .ok (.iconst 0, 1) := by decide +kernel
theorem dX9_readLaw_43 : decode cX9_readLaw 43 = .ok (.iconst 1, 1) := by decide +kernel
theorem dX9_readLaw_44 : decode cX9_readLaw 44 = .ok (.aload_n 0, 1) := by decide +kernel
theorem dX9_readLaw_45 : decode cX9_readLaw 45 = .ok (.getfield 12, 3) := by decide +kernel
theorem dX9_readLaw_48 : decode cX9_readLaw 48 = .ok (.getfield 60, 3) := by decide +kernel
theorem dX9_readLaw_51 : decode cX9_readLaw 51 = .ok (.ishl, 1) := by decide +kernel
theorem dX9_readLaw_52 : decode cX9_readLaw 52 = .ok (.iconst 1, 1) := by decide +kernel
theorem dX9_readLaw_53 : decode cX9_readLaw 53 = .ok (.isub, 1) := by decide +kernel
theorem dX9_readLaw_54 : decode cX9_readLaw 54 = .ok (.invokevirtual 53, 3) := by decide +kernel
theorem dX9_readLaw_57 : decode cX9_readLaw 57 = .ok (.ifCond .ne 5, 3) := by decide +kernel
theorem dX9_readLaw_60 : decode cX9_readLaw 60 = .ok (.iconst 0, 1) := by decide +kernel
theorem dX9_readLaw_61 : decode cX9_readLaw 61 = .ok (.ireturn, 1) := by decide +kernel
theorem dX9_readLaw_62 : decode cX9_readLaw 62 = .ok (.aload_n 0, 1) := by decide +kernel
theorem dX9_readLaw_63 : decode cX9_readLaw 63 = .ok (.getfield 12, 3) := by decide +kernel
theorem dX9_readLaw_66 : decode cX9_readLaw 66 = .ok (.aload_n 0, 1) := by decide +kernel
theorem dX9_readLaw_67 : decode cX9_readLaw 67 = .ok (.getfield 57, 3) := by decide +kernel
theorem dX9_readLaw_70 : decode cX9_readLaw 70 = .ok (.putfield 63, 3) := by decide +kernel
theorem dX9_readLaw_73 : decode cX9_readLaw 73 = .ok (.aload_n 0, 1) := by decide +kernel
theorem dX9_readLaw_74 : decode cX9_readLaw 74 = .ok (.bipush 44, 2) := by decide +kernel
theorem dX9_readLaw_76 : decode cX9_readLaw 76 = .ok (.invokevirtual 49, 3) := by decide +kernel
theorem dX9_readLaw_79 : decode cX9_readLaw 79 = .ok (.ifCond .eq 13, 3) := by decide +kernel
theorem dX9_readLaw_82 : decode cX9_readLaw 82 = .ok (.aload_n 0, 1) := by decide +kernel
theorem dX9_readLaw_83 : decode cX9_readLaw 83 = .ok (.iconst 1, 1) := by decide +kernel
theorem dX9_readLaw_84 : decode cX9_readLaw 84 = .ok (.bipush 9, 2) := by decide +kernel
theorem dX9_readLaw_86 : decode cX9_readLaw 86 = .ok (.invokevirtual 53, 3) := by decide +kernel
theorem dX9_readLaw_89 : decode cX9_readLaw 89 = .ok (.ifCond .ne 5, 3) := by decide +kernel
theorem dX9_readLaw_92 : decode cX9_readLaw 92 = .ok (.iconst 0, 1) := by decide +kernel
theorem dX9_readLaw_93 : decode cX9_readLaw 93 = .ok (.ireturn, 1) := by decide +kernel
theorem dX9_readLaw_94 : decode cX9_readLaw 94 = .ok (.aload_n 0, 1) := by decide +kernel
theorem dX9_readLaw_95 : decode cX9_readLaw 95 = .ok (.getfield 12, 3) := by decide +kernel
theorem dX9_readLaw_98 : decode cX9_readLaw 98 = .ok (.aload_n 0, 1) := by decide +kernel
theorem dX9_readLaw_99 : decode cX9_readLaw 99 = .ok (.getfield 57, 3) := by decide +kernel
theorem dX9_readLaw_102 : decode cX9_readLaw 102 = .ok (.putfield 66, 3) := by decide +kernel
theorem dX9_readLaw_105 : decode cX9_readLaw 105 = .ok (.aload_n 0, 1) := by decide +kernel
theorem dX9_readLaw_106 : decode cX9_readLaw 106 = .ok (.bipush 59, 2) := by decide +kernel
theorem dX9_readLaw_108 : decode cX9_readLaw 108 = .ok (.invokevirtual 49, 3) := by decide +kernel
theorem dX9_readLaw_111 : decode cX9_readLaw 111 = .ok (.ireturn, 1) := by decide +kernel
def Sp_X9_readLaw (av : List AV) (m : AM) (Φ : Option AV → AM → Prop) : Prop := av = [vr 9 13] ∧ ∃ T n, TapC m T n ∧ m.1 13 4 = nI 0 ∧ ∀ b m2, Tp [14] [3, 4, 5, 6, 7, 8] m m2 → m2.1 14 7 = m.1 14 7 → m2.1 14 8 = m.1 14 8 → (b = 1 ∧ Tp [14] [3, 4, 5, 6] m m2 ∧ (∃ f a pr q, lawP T n = .ok ((f, a, pr), q) ∧ q ≤ n ∧ (1 ≤ f ∧ f ≤ 6) ∧ a < 2 ^ f ∧ (1 ≤ pr ∧ pr ≤ 9) ∧ m2.1 13 4 = nI q ∧ m2.1 14 4 = nI f ∧ m2.1 14 5 = nI a ∧ m2.1 14 6 = nI pr) ∨ b = 0 ∧ ∃ f pl, lawP T n = .error (f, pl) ∧ ErR m2 f pl) → Φ (some (vi (nI b))) m2
set_option maxRecDepth 20000 in
set_option maxHeartbeats 4000000 in
theorem S_X9_readLaw : Snd yX9_readLaw e_X9_readLaw Sp_X9_readLaw := by
  refine Snd.of (by decide +kernel) rfl ?_ ?_
  · rintro av m Φ ⟨rfl, _⟩; exact Nat.le_of_ble_eq_true rfl
  rintro av m Φ ⟨rfl, T, n, hT, h4, h⟩ hav hty
  show B e_X9_readLaw Φ 0 [some (vr 9 13)] [] m (0, 0)
  have er : ∀ M f pl, lawP T n = .error (f, pl) → Tp [14] [3, 4, 5, 6, 7, 8] m M → M.1 14 7 = m.1 14 7 → M.1 14 8 = m.1 14 8 → ErR M f pl → Φ (some (vi (nI 0))) M := fun M f pl a b c d e => h 0 M b c d (Or.inr ⟨rfl, f, pl, a, e⟩)
  have up : ∀ {M M2 : AM}, Tp [14] [3, 4, 5, 6] m M → Tp [] [3, 4, 5, 6] M M2 → Tp [14] [3, 4, 5, 6] m M2 := fun a b => a.tr (b.mono (fun a z => by cases z) (fun a z => z))
  have wd : ∀ {M : AM}, Tp [14] [3, 4, 5, 6] m M → Tp [14] [3, 4, 5, 6, 7, 8] m M := fun a => a.mono (fun a z => z) (fun a z => by simp at z; simp; omega)
  have upw : ∀ {M M2 : AM}, Tp [14] [3, 4, 5, 6] m M → Tp [] [3, 4, 5, 6, 7, 8] M M2 → Tp [14] [3, 4, 5, 6, 7, 8] m M2 := fun a b => (wd a).tr (b.mono (fun a z => by cases z) (fun a z => z))
  have s105 : ∀ M p f a pr, lawP T n = lw6 T n f a pr p → Tp [14] [3, 4, 5, 6] m M → M.1 14 7 = m.1 14 7 → M.1 14 8 = m.1 14 8 → M.1 13 4 = nI p → p ≤ n → (1 ≤ f ∧ f ≤ 6) → a < 2 ^ f → (1 ≤ pr ∧ pr ≤ 9) → M.1 14 4 = nI f → M.1 14 5 = nI a → M.1 14 6 = nI pr → B e_X9_readLaw Φ 105 [some (vr 9 13)] [] M (0, 0) := by
    intro M p f a pr hE hF e7 e8 h4M hpn hf ha hpr e4 e5 e6
    have hTM := hT.tp hF (by decide) (by decide)
    refine b_aloadN (pc := 105) 0 dX9_readLaw_105 rfl rfl ?_
    refine b_bipush (pc := 106) (nI 59) dX9_readLaw_106 (by decide) ?_
    refine call_X9_takes (pc := 108) k529 (by decide) ⟨Nat.le_of_ble_eq_true rfl, Nat.le_of_ble_eq_true rfl⟩ (Nat.le_of_ble_eq_true rfl) dX9_readLaw_108 ?_
    refine ⟨_, rfl, T, n, p, _, hTM, h4M, hpn, rfl, by decide, fun b108 m108 tp108 r108 => ?_⟩
    refine b_zret (pc := 111) rfl ?_ dX9_readLaw_111 ⟨Nat.le_of_ble_eq_true rfl, Nat.le_of_ble_eq_true rfl⟩ ?_
    rotate_left -- leaf 0: bool at 111
    rotate_left -- leaf 1: return at 111
    -- leaves: 0 bool at 111; 1 return at 111
    · rcases r108 with ⟨z, -⟩ | ⟨z, -⟩
      · rw [z]; exact Or.inr rfl
      · rw [z]; exact Or.inl rfl
    · rcases r108 with ⟨z, ts, q, e, hq, h4q⟩ | ⟨z, f1, pl, e, hr⟩
      · rw [z]
        exact h 1 m108 (upw hF tp108) ((congrFun (tp108.2.1 14 (by decide) (by simp)) 7).trans e7) ((congrFun (tp108.2.1 14 (by decide) (by simp)) 8).trans e8) (Or.inl ⟨rfl, up hF ts, f, a, pr, q, hE.trans (bndS_ok e), hq, hf, ha, hpr, h4q, (congrFun (tp108.2.1 14 (by decide) (by simp)) 4).trans e4, (congrFun (tp108.2.1 14 (by decide) (by simp)) 5).trans e5, (congrFun (tp108.2.1 14 (by decide) (by simp)) 6).trans e6⟩)
      · rw [z]
        exact er m108 f1 pl (hE.trans (bndS_er e)) (upw hF tp108) ((congrFun (tp108.2.1 14 (by decide) (by simp)) 7).trans e7) ((congrFun (tp108.2.1 14 (by decide) (by simp)) 8).trans e8) hr
  have s82 : ∀ M p f a, lawP T n = lw5 T n f a p → Tp [14] [3, 4, 5, 6] m M → M.1 14 7 = m.1 14 7 → M.1 14 8 = m.1 14 8 → M.1 13 4 = nI p → p ≤ n → (1 ≤ f ∧ f ≤ 6) → a < 2 ^ f → M.1 14 4 = nI f → M.1 14 5 = nI a → B e_X9_readLaw Φ 82 [some (vr 9 13)] [] M (0, 0) := by
    intro M p f a hE hF e7 e8 h4M hpn hf ha e4 e5
    have hTM := hT.tp hF (by decide) (by decide)
    refine b_aloadN (pc := 82) 0 dX9_readLaw_82 rfl rfl ?_
    refine b_iconst (pc := 83) (nI 1) dX9_readLaw_83 (by decide) ?_
    refine b_bipush (pc := 84) (nI 9) dX9_readLaw_84 (by decide) ?_
    refine call_X9_takesNumber (pc := 86) k545 (by decide) ⟨Nat.le_of_ble_eq_true rfl, Nat.le_of_ble_eq_true rfl⟩ (Nat.le_of_ble_eq_true rfl) dX9_readLaw_86 ?_
    refine ⟨_, _, rfl, T, n, p, _, _, hTM, h4M, hpn, rfl, rfl, by decide, by decide, fun b86 m86 tp86 r86 => ?_⟩
    refine b_if_ne (pc := 89) 94 dX9_readLaw_89 (by decide) (fun c89 => ?_) (fun c89 => ?_)
    refine b_aloadN (pc := 94) 0 dX9_readLaw_94 rfl rfl ?_
    refine gf9_0 (pc := 95) 14 rfl k183 dX9_readLaw_95 ?_
    refine b_aloadN (pc := 98) 0 dX9_readLaw_98 rfl rfl ?_
    refine gf9_6 (pc := 99) k191 dX9_readLaw_99 ?_
    refine pf5_6 (pc := 102) k153 dX9_readLaw_102 ?_
    rotate_left -- leaf 0: at 105
    refine b_iconst (pc := 92) (nI 0) dX9_readLaw_92 (by decide) ?_
    refine b_zret (pc := 93) rfl ?_ dX9_readLaw_93 ⟨Nat.le_of_ble_eq_true rfl, Nat.le_of_ble_eq_true rfl⟩ ?_
    rotate_left -- leaf 1: bool at 93
    rotate_left -- leaf 2: return at 93
    -- leaves: 0 at 105; 1 bool at 93; 2 return at 93
    · rcases r86 with ⟨z, ts, v, q, e, hq, hv1, hv2, h3, h4q, h6⟩ | ⟨z, f1, pl, e, hr⟩
      · rw [h6]
        have G : ∀ k, k ≠ 6 → (mset m86 14 6 (nI v)).1 14 k = M.1 14 k := fun k hk => by
          rw [mset_at, if_neg hk]
          exact congrFun (tp86.2.1 14 (by decide) (by simp)) k
        exact s105 _ q f a v (hE.trans (bndN_ok e)) ((up hF ts).ms (by decide) (by simp)) ((G 7 (by decide)).trans e7) ((G 8 (by decide)).trans e8) (by rw [mset_ne _ _ _ (show 13 ≠ 14 by decide)]; exact h4q) hq hf ha ⟨hv2, hv1⟩ ((G 4 (by decide)).trans e4) ((G 5 (by decide)).trans e5) (by rw [mset_at, if_pos rfl])
      · exact absurd (by rw [z]; rfl) c89
    · exact Or.inl rfl
    · rcases r86 with ⟨z, ts, v, q, e, hq, hv1, hv2, h3, h4q, h6⟩ | ⟨z, f1, pl, e, hr⟩
      · rw [z] at c89
        exact absurd c89 (by decide)
      · exact er m86 f1 pl (hE.trans (bndN_er e)) (upw hF tp86) ((congrFun (tp86.2.1 14 (by decide) (by simp)) 7).trans e7) ((congrFun (tp86.2.1 14 (by decide) (by simp)) 8).trans e8) hr
  have s73 : ∀ M p f a, lawP T n = lw4 T n f a p → Tp [14] [3, 4, 5, 6] m M → M.1 14 7 = m.1 14 7 → M.1 14 8 = m.1 14 8 → M.1 13 4 = nI p → p ≤ n → (1 ≤ f ∧ f ≤ 6) → a < 2 ^ f → M.1 14 4 = nI f → M.1 14 5 = nI a → B e_X9_readLaw Φ 73 [some (vr 9 13)] [] M (0, 0) := by
    intro M p f a hE hF e7 e8 h4M hpn hf ha e4 e5
    have hTM := hT.tp hF (by decide) (by decide)
    refine b_aloadN (pc := 73) 0 dX9_readLaw_73 rfl rfl ?_
    refine b_bipush (pc := 74) (nI 44) dX9_readLaw_74 (by decide) ?_
    refine call_X9_takes (pc := 76) k529 (by decide) ⟨Nat.le_of_ble_eq_true rfl, Nat.le_of_ble_eq_true rfl⟩ (Nat.le_of_ble_eq_true rfl) dX9_readLaw_76 ?_
    refine ⟨_, rfl, T, n, p, _, hTM, h4M, hpn, rfl, by decide, fun b76 m76 tp76 r76 => ?_⟩
    refine b_if_eq (pc := 79) 92 dX9_readLaw_79 (by decide) (fun c79 => ?_) (fun c79 => ?_)
    refine b_iconst (pc := 92) (nI 0) dX9_readLaw_92 (by decide) ?_
    refine b_zret (pc := 93) rfl ?_ dX9_readLaw_93 ⟨Nat.le_of_ble_eq_true rfl, Nat.le_of_ble_eq_true rfl⟩ ?_
    rotate_left -- leaf 0: bool at 93
    rotate_left -- leaf 1: return at 93
    rotate_left -- leaf 2: at 82
    -- leaves: 0 bool at 93; 1 return at 93; 2 at 82
    · exact Or.inl rfl
    · rcases r76 with ⟨z, ts, q, e, hq, h4q⟩ | ⟨z, f1, pl, e, hr⟩
      · rw [z] at c79
        exact absurd c79 (by decide)
      · exact er m76 f1 pl (hE.trans (bndS_er e)) (upw hF tp76) ((congrFun (tp76.2.1 14 (by decide) (by simp)) 7).trans e7) ((congrFun (tp76.2.1 14 (by decide) (by simp)) 8).trans e8) hr
    · rcases r76 with ⟨z, ts, q, e, hq, h4q⟩ | ⟨z, f1, pl, e, hr⟩
      · exact s82 m76 q f a (hE.trans (bndS_ok e)) (up hF ts) ((congrFun (tp76.2.1 14 (by decide) (by simp)) 7).trans e7) ((congrFun (tp76.2.1 14 (by decide) (by simp)) 8).trans e8) h4q hq hf ha ((congrFun (tp76.2.1 14 (by decide) (by simp)) 4).trans e4) ((congrFun (tp76.2.1 14 (by decide) (by simp)) 5).trans e5)
      · exact absurd (by rw [z]; rfl) c79
  have s41 : ∀ M p f, lawP T n = lw3 T n f p → Tp [14] [3, 4, 5, 6] m M → M.1 14 7 = m.1 14 7 → M.1 14 8 = m.1 14 8 → M.1 13 4 = nI p → p ≤ n → (1 ≤ f ∧ f ≤ 6) → M.1 14 4 = nI f → B e_X9_readLaw Φ 41 [some (vr 9 13)] [] M (0, 0) := by
    intro M p f hE hF e7 e8 h4M hpn hf e4
    have hTM := hT.tp hF (by decide) (by decide)
    have hp6 := pow_6 hf.2
    have hhi : nI 1 <<< (nI f &&& 31) - nI 1 = nI (2 ^ f - 1) := by
      rw [n_shl (by omega) (by omega), Nat.shiftLeft_eq, Nat.one_mul, n_sub (by omega)]
    rw [← e4] at hhi
    refine b_aloadN (pc := 41) 0 dX9_readLaw_41 rfl rfl ?_
    refine b_iconst (pc := 42) (nI 0) dX9_readLaw_42 (by decide) ?_
    refine b_iconst (pc := 43) (nI 1) dX9_readLaw_43 (by decide) ?_
    refine b_aloadN (pc := 44) 0 dX9_readLaw_44 rfl rfl ?_
    refine gf9_0 (pc := 45) 14 rfl k183 dX9_readLaw_45 ?_
    refine gf5_4 (pc := 48) k146 dX9_readLaw_48 ?_
    refine b_ishl (pc := 51) dX9_readLaw_51 ?_
    refine b_iconst (pc := 52) (nI 1) dX9_readLaw_52 (by decide) ?_
    refine b_isub (pc := 53) dX9_readLaw_53 ?_
    refine call_X9_takesNumber (pc := 54) k545 (by decide) ⟨Nat.le_of_ble_eq_true rfl, Nat.le_of_ble_eq_true rfl⟩ (Nat.le_of_ble_eq_true rfl) dX9_readLaw_54 ?_
    refine ⟨_, _, rfl, T, n, p, 0, 2 ^ f - 1, hTM, h4M, hpn, rfl, hhi, by decide, by omega, fun b54 m54 tp54 r54 => ?_⟩
    refine b_if_ne (pc := 57) 62 dX9_readLaw_57 (by decide) (fun c57 => ?_) (fun c57 => ?_)
    refine b_aloadN (pc := 62) 0 dX9_readLaw_62 rfl rfl ?_
    refine gf9_0 (pc := 63) 14 rfl k183 dX9_readLaw_63 ?_
    refine b_aloadN (pc := 66) 0 dX9_readLaw_66 rfl rfl ?_
    refine gf9_6 (pc := 67) k191 dX9_readLaw_67 ?_
    refine pf5_5 (pc := 70) k150 dX9_readLaw_70 ?_
    rotate_left -- leaf 0: at 73
    refine b_iconst (pc := 60) (nI 0) dX9_readLaw_60 (by decide) ?_
    refine b_zret (pc := 61) rfl ?_ dX9_readLaw_61 ⟨Nat.le_of_ble_eq_true rfl, Nat.le_of_ble_eq_true rfl⟩ ?_
    rotate_left -- leaf 1: bool at 61
    rotate_left -- leaf 2: return at 61
    -- leaves: 0 at 73; 1 bool at 61; 2 return at 61
    · rcases r54 with ⟨z, ts, v, q, e, hq, hv1, hv2, h3, h4q, h6⟩ | ⟨z, f1, pl, e, hr⟩
      · rw [h6]
        have G : ∀ k, k ≠ 5 → (mset m54 14 5 (nI v)).1 14 k = M.1 14 k := fun k hk => by
          rw [mset_at, if_neg hk]
          exact congrFun (tp54.2.1 14 (by decide) (by simp)) k
        exact s73 _ q f v (hE.trans (bndN_ok e)) ((up hF ts).ms (by decide) (by simp)) ((G 7 (by decide)).trans e7) ((G 8 (by decide)).trans e8) (by rw [mset_ne _ _ _ (show 13 ≠ 14 by decide)]; exact h4q) hq hf (by omega) ((G 4 (by decide)).trans e4) (by rw [mset_at, if_pos rfl])
      · exact absurd (by rw [z]; rfl) c57
    · exact Or.inl rfl
    · rcases r54 with ⟨z, ts, v, q, e, hq, hv1, hv2, h3, h4q, h6⟩ | ⟨z, f1, pl, e, hr⟩
      · rw [z] at c57
        exact absurd c57 (by decide)
      · exact er m54 f1 pl (hE.trans (bndN_er e)) (upw hF tp54) ((congrFun (tp54.2.1 14 (by decide) (by simp)) 7).trans e7) ((congrFun (tp54.2.1 14 (by decide) (by simp)) 8).trans e8) hr
  have s32 : ∀ M p f, lawP T n = lw2 T n f p → Tp [14] [3, 4, 5, 6] m M → M.1 14 7 = m.1 14 7 → M.1 14 8 = m.1 14 8 → M.1 13 4 = nI p → p ≤ n → (1 ≤ f ∧ f ≤ 6) → M.1 14 4 = nI f → B e_X9_readLaw Φ 32 [some (vr 9 13)] [] M (0, 0) := by
    intro M p f hE hF e7 e8 h4M hpn hf e4
    have hTM := hT.tp hF (by decide) (by decide)
    refine b_aloadN (pc := 32) 0 dX9_readLaw_32 rfl rfl ?_
    refine b_bipush (pc := 33) (nI 44) dX9_readLaw_33 (by decide) ?_
    refine call_X9_takes (pc := 35) k529 (by decide) ⟨Nat.le_of_ble_eq_true rfl, Nat.le_of_ble_eq_true rfl⟩ (Nat.le_of_ble_eq_true rfl) dX9_readLaw_35 ?_
    refine ⟨_, rfl, T, n, p, _, hTM, h4M, hpn, rfl, by decide, fun b35 m35 tp35 r35 => ?_⟩
    refine b_if_eq (pc := 38) 60 dX9_readLaw_38 (by decide) (fun c38 => ?_) (fun c38 => ?_)
    refine b_iconst (pc := 60) (nI 0) dX9_readLaw_60 (by decide) ?_
    refine b_zret (pc := 61) rfl ?_ dX9_readLaw_61 ⟨Nat.le_of_ble_eq_true rfl, Nat.le_of_ble_eq_true rfl⟩ ?_
    rotate_left -- leaf 0: bool at 61
    rotate_left -- leaf 1: return at 61
    rotate_left -- leaf 2: at 41
    -- leaves: 0 bool at 61; 1 return at 61; 2 at 41
    · exact Or.inl rfl
    · rcases r35 with ⟨z, ts, q, e, hq, h4q⟩ | ⟨z, f1, pl, e, hr⟩
      · rw [z] at c38
        exact absurd c38 (by decide)
      · exact er m35 f1 pl (hE.trans (bndS_er e)) (upw hF tp35) ((congrFun (tp35.2.1 14 (by decide) (by simp)) 7).trans e7) ((congrFun (tp35.2.1 14 (by decide) (by simp)) 8).trans e8) hr
    · rcases r35 with ⟨z, ts, q, e, hq, h4q⟩ | ⟨z, f1, pl, e, hr⟩
      · exact s41 m35 q f (hE.trans (bndS_ok e)) (up hF ts) ((congrFun (tp35.2.1 14 (by decide) (by simp)) 7).trans e7) ((congrFun (tp35.2.1 14 (by decide) (by simp)) 8).trans e8) h4q hq hf ((congrFun (tp35.2.1 14 (by decide) (by simp)) 4).trans e4)
      · exact absurd (by rw [z]; rfl) c38
  have s9 : ∀ M p, lawP T n = lw1 T n p → Tp [14] [3, 4, 5, 6] m M → M.1 14 7 = m.1 14 7 → M.1 14 8 = m.1 14 8 → M.1 13 4 = nI p → p ≤ n → B e_X9_readLaw Φ 9 [some (vr 9 13)] [] M (0, 0) := by
    intro M p hE hF e7 e8 h4M hpn
    have hTM := hT.tp hF (by decide) (by decide)
    refine b_aloadN (pc := 9) 0 dX9_readLaw_9 rfl rfl ?_
    refine b_iconst (pc := 10) (nI 1) dX9_readLaw_10 (by decide) ?_
    refine b_bipush (pc := 11) (nI 6) dX9_readLaw_11 (by decide) ?_
    refine call_X9_takesNumber (pc := 13) k545 (by decide) ⟨Nat.le_of_ble_eq_true rfl, Nat.le_of_ble_eq_true rfl⟩ (Nat.le_of_ble_eq_true rfl) dX9_readLaw_13 ?_
    refine ⟨_, _, rfl, T, n, p, _, _, hTM, h4M, hpn, rfl, rfl, by decide, by decide, fun b13 m13 tp13 r13 => ?_⟩
    refine b_if_ne (pc := 16) 21 dX9_readLaw_16 (by decide) (fun c16 => ?_) (fun c16 => ?_)
    refine b_aloadN (pc := 21) 0 dX9_readLaw_21 rfl rfl ?_
    refine gf9_0 (pc := 22) 14 rfl k183 dX9_readLaw_22 ?_
    refine b_aloadN (pc := 25) 0 dX9_readLaw_25 rfl rfl ?_
    refine gf9_6 (pc := 26) k191 dX9_readLaw_26 ?_
    refine pf5_4 (pc := 29) k146 dX9_readLaw_29 ?_
    rotate_left -- leaf 0: at 32
    refine b_iconst (pc := 19) (nI 0) dX9_readLaw_19 (by decide) ?_
    refine b_zret (pc := 20) rfl ?_ dX9_readLaw_20 ⟨Nat.le_of_ble_eq_true rfl, Nat.le_of_ble_eq_true rfl⟩ ?_
    rotate_left -- leaf 1: bool at 20
    rotate_left -- leaf 2: return at 20
    -- leaves: 0 at 32; 1 bool at 20; 2 return at 20
    · rcases r13 with ⟨z, ts, v, q, e, hq, hv1, hv2, h3, h4q, h6⟩ | ⟨z, f1, pl, e, hr⟩
      · rw [h6]
        have G : ∀ k, k ≠ 4 → (mset m13 14 4 (nI v)).1 14 k = M.1 14 k := fun k hk => by
          rw [mset_at, if_neg hk]
          exact congrFun (tp13.2.1 14 (by decide) (by simp)) k
        exact s32 _ q v (hE.trans (bndN_ok e)) ((up hF ts).ms (by decide) (by simp)) ((G 7 (by decide)).trans e7) ((G 8 (by decide)).trans e8) (by rw [mset_ne _ _ _ (show 13 ≠ 14 by decide)]; exact h4q) hq ⟨hv2, hv1⟩  (by rw [mset_at, if_pos rfl])
      · exact absurd (by rw [z]; rfl) c16
    · exact Or.inl rfl
    · rcases r13 with ⟨z, ts, v, q, e, hq, hv1, hv2, h3, h4q, h6⟩ | ⟨z, f1, pl, e, hr⟩
      · rw [z] at c16
        exact absurd c16 (by decide)
      · exact er m13 f1 pl (hE.trans (bndN_er e)) (upw hF tp13) ((congrFun (tp13.2.1 14 (by decide) (by simp)) 7).trans e7) ((congrFun (tp13.2.1 14 (by decide) (by simp)) 8).trans e8) hr
  refine b_aloadN (pc := 0) 0 dX9_readLaw_0 rfl rfl ?_
  refine b_bipush (pc := 1) (nI 99) dX9_readLaw_1 (by decide) ?_
  refine call_X9_takes (pc := 3) k529 (by decide) ⟨Nat.le_of_ble_eq_true rfl, Nat.le_of_ble_eq_true rfl⟩ (Nat.le_of_ble_eq_true rfl) dX9_readLaw_3 ?_
  refine ⟨_, rfl, T, n, 0, _, hT, h4, Nat.zero_le _, rfl, by decide, fun b3 m3 tp3 r3 => ?_⟩
  refine b_if_eq (pc := 6) 19 dX9_readLaw_6 (by decide) (fun c6 => ?_) (fun c6 => ?_)
  refine b_iconst (pc := 19) (nI 0) dX9_readLaw_19 (by decide) ?_
  refine b_zret (pc := 20) rfl ?_ dX9_readLaw_20 ⟨Nat.le_of_ble_eq_true rfl, Nat.le_of_ble_eq_true rfl⟩ ?_
  rotate_left -- leaf 0: bool at 20
  rotate_left -- leaf 1: return at 20
  rotate_left -- leaf 2: at 9
  -- leaves: 0 bool at 20; 1 return at 20; 2 at 9
  · exact Or.inl rfl
  · rcases r3 with ⟨z, ts, q, e, hq, h4q⟩ | ⟨z, f1, pl, e, hr⟩
    · rw [z] at c6
      exact absurd c6 (by decide)
    · exact er m3 f1 pl (bndS_er e) (upw (Tp.rf _ _ m) tp3) (congrFun (tp3.2.1 14 (by decide) (by simp)) 7) (congrFun (tp3.2.1 14 (by decide) (by simp)) 8) hr
  · rcases r3 with ⟨z, ts, q, e, hq, h4q⟩ | ⟨z, f1, pl, e, hr⟩
    · exact s9 m3 q  (bndS_ok e) (up (Tp.rf _ _ m) ts) (congrFun (tp3.2.1 14 (by decide) (by simp)) 7) (congrFun (tp3.2.1 14 (by decide) (by simp)) 8) h4q hq  
    · exact absurd (by rw [z]; rfl) c6
theorem call_X9_readLaw {E : ME} {Φ : Option AV → AM → Prop} {pc : Nat} {L : List (Option AV)} {st : List AV} {m : AM} {a : Nat × Nat} {idx : Nat} {i : Nat} (hl : Cond.methodLink E.2.1 idx yX9_readLaw ∈ TB) (hdep : 4 + 1 ≤ E.2.2.2.2.2.2) (hroom : a.1 + 0 ≤ E.2.2.2.2.1 ∧ a.2 + 0 ≤ E.2.2.2.2.2.1) (hsr : st.length ≤ 4) (hd : decode E.1 pc = .ok (.invokevirtual idx, 3)) (hsp : Sp_X9_readLaw [vr 9 i] m (fun r m2 => B E Φ (pc + 3) L (r.toList ++ st) m2 a)) : B E Φ pc L (vr 9 i :: st) m a := b_callV S_X9_readLaw [] (RX9, TX9, 9) rfl rfl (by decide) (Or.inl hl) k527 k2 k71 k528 (show _ ∧ _ ∧ Option.map (fun d => d.parameters.length) (parseMethodDescriptor yX9_readLaw.desc) = some 0 from by decide +kernel) ⟨hdep, by decide⟩ hroom hsr hd hsp
