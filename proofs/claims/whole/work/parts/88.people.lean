/-! the class reads the people -/
theorem GR.per {M : AM} {G : Nat → Nat} (h : GR M G) (h3 : G 3 ≤ 8) (q : Nat) : GR (mset (mset M 18 (G 4) (nI q)) 14 8 (nI (G 4 + 1))) (addQ G q) := by
  obtain ⟨⟨l1, l2, l3, l4, l5, l6⟩, l7⟩ := h
  have o : ∀ k, k ≠ 4 → k < 40 → addQ G q k = G k := fun k h1 h2 => by
    rw [addQ_at, if_neg h1, if_neg (by omega)]
  have e4 : addQ G q 4 = G 4 + 1 := by rw [addQ_at, if_pos rfl]
  have m14 : ∀ k, k ≠ 8 → (mset (mset M 18 (G 4) (nI q)) 14 8 (nI (G 4 + 1))).1 14 k = M.1 14 k := fun k hk => by
    rw [mset_at, if_neg hk, mset_ne _ _ _ (show 14 ≠ 18 by decide)]
  have mo : ∀ a, a ≠ 14 → a ≠ 18 → (mset (mset M 18 (G 4) (nI q)) 14 8 (nI (G 4 + 1))).1 a = M.1 a := fun a b c => by
    rw [mset_ne _ _ _ b, mset_ne _ _ _ c]
  unfold GR LawR
  rw [m14 4 (by decide), m14 6 (by decide), m14 7 (by decide), m14 5 (by decide), mo (14 + 1) (by decide) (by decide), mo (14 + 2) (by decide) (by decide), mo (14 + 3) (by decide) (by decide), o 0 (by omega) (by omega), o 1 (by omega) (by omega), o 2 (by omega) (by omega), o 3 (by omega) (by omega), e4]
  refine ⟨⟨l1, l2, l3, by rw [mset_at, if_pos rfl], fun k hk => ?_, fun p hp => ?_⟩, l7⟩
  · rw [o _ (by omega) (by omega), o _ (by omega) (by omega), o _ (by omega) (by omega)]
    exact l5 k hk
  · rw [show 14 + 4 = 18 from rfl, mset_ne _ _ _ (show 18 ≠ 14 by decide), mset_at, addQ_at, if_neg (show ¬ 40 + 2 * p = 4 by omega)]
    by_cases z : p = G 4
    · rw [if_pos z, if_pos (show 40 + 2 * p = 40 + 2 * G 4 by omega)]
    · rw [if_neg z, if_neg (show ¬ 40 + 2 * p = 40 + 2 * G 4 by omega)]
      exact l6 p (by omega)
theorem kindL_le (o : Option Nat) : kindL o ≤ 5 := by
  cases o with
  | none => show 0 ≤ 5; omega
  | some w =>
    show (if w = 108 then 1 else if w = 98 then 2 else if w = 119 then 3 else if w = 113 then 4 else if w = 107 then 5 else 0) ≤ 5
    repeat' split
    all_goals omega
def peopP (T : Nat → Nat) (n : Nat) : Nat → (Nat → Nat) → Nat → Except (Nat × Nat) (Nat → Nat)
  | 0, G, p => .error (if kindL (symO T n p) = 0 then 1 else 3, p)
  | e + 1, G, p => if kindL (symO T n p) = 0 then .error (1, p) else bnd (tknS T n 59 (bhdN T n p)) fun r => if n ≤ r then .ok (addQ G (kindL (symO T n p))) else peopP T n e (addQ G (kindL (symO T n p))) r
abbrev e_X9_readPeople : ME := (cX9_readPeople, (RX9, (3, ((some .boolean), (0, (0, 4))))))
theorem dX9_readPeople_0 : decode cX9_readPeople 0 = .ok (.iconst 0, 1) := by decide +kernel
theorem dX9_readPeople_1 : decode cX9_readPeople 1 = .ok (.istore_n 1, 1) := by decide +kernel
theorem dX9_readPeople_2 : decode cX9_readPeople 2 = .ok (.iload_n 1, 1) := by decide +kernel
theorem dX9_readPeople_3 : decode cX9_readPeople 3 = .ok (.iconst 5, 1) := by decide +kernel
theorem dX9_readPeople_4 : decode cX9_readPeople 4 = .ok (.if_icmp .ge 63, 3) := by decide +kernel
theorem dX9_readPeople_7 : decode cX9_readPeople 7 = .ok (.aload_n 0, 1) := by decide +kernel
theorem dX9_readPeople_8 : decode cX9_readPeople 8 = .ok (.getfield 72, 3) := by decide +kernel
theorem dX9_readPeople_11 : decode cX9_readPeople 11 = .ok (.invokestatic 92, 3) := by decide +kernel
theorem dX9_readPeople_14 : decode cX9_readPeople 14 = .ok (.istore_n 2, 1) := by decide +kernel
theorem dX9_readPeople_15 : decode cX9_readPeople 15 = .ok (.iload_n 2, 1) := by decide +kernel
theorem dX9_readPeople_16 : decode cX9_readPeople 16 = .ok (.ifCond .ne 9, 3) := by decide +kernel
theorem dX9_readPeople_19 : decode cX9_readPeople 19 = .ok (.aload_n 0, 1) := by decide +kernel
theorem dX9_readPeople_20 : decode cX9_readPeople 20 = .ok (.iconst 1, 1) := by decide +kernel
theorem dX9_readPeople_21 : decode cX9_readPeople 21 = .ok (.invokevirtual 78, 3) := by decide +kernel
theorem dX9_readPeople_24 : decode cX9_readPeople 24 = .ok (.ireturn, 1) := by decide +kernel
theorem dX9_readPeople_25 : decode cX9_readPeople 25 = .ok (.aload_n 0, 1) := by decide +kernel
theorem dX9_readPeople_26 : decode cX9_readPeople 26 = .ok (.getfield 12, 3) := by decide +kernel
theorem dX9_readPeople_29 : decode cX9_readPeople 29 = .ok (.iload_n 2, 1) := by decide +kernel
theorem dX9_readPeople_30 : decode cX9_readPeople 30 = .ok (.invokevirtual 96, 3) := by decide +kernel
theorem dX9_readPeople_33 : decode cX9_readPeople 33 = .ok (.aload_n 0, 1) := by decide +kernel
theorem dX9_readPeople_34 : decode cX9_readPeople 34 = .ok (.bipush 59, 2) := by decide +kernel
theorem dX9_readPeople_36 : decode cX9_readPeople 36 = .ok (.invokevirtual 49, 3) := by decide +kernel
theorem dX9_readPeople_39 : decode cX9_readPeople 39 = .ok (.ifCond .ne 5, 3) := by decide +kernel
theorem dX9_readPeople_42 : decode cX9_readPeople 42 = .ok (.iconst 0, 1) := by decide +kernel
theorem dX9_readPeople_43 : decode cX9_readPeople 43 = .ok (.ireturn, 1) := by decide +kernel
theorem dX9_readPeople_44 : decode cX9_readPeople 44 = .ok (.aload_n 0, 1) := by decide +kernel
theorem dX9_readPeople_45 : decode cX9_readPeople 45 = .ok (.invokevirtual 69, 3) := by decide +kernel
theorem dX9_readPeople_48 : decode cX9_readPeople 48 = .ok (.aload_n 0, 1) := by decide +kernel
theorem dX9_readPeople_49 : decode cX9_readPeople 49 = .ok (.getfield 100, 3) := by decide +kernel
theorem dX9_readPeople_52 : decode cX9_readPeople 52 = .ok (.aload_n 0, 1) := by decide +kernel
theorem dX9_readPeople_53 : decode cX9_readPeople 53 = .ok (.getfield 22, 3) := by decide +kernel
theorem dX9_readPeople_56 : decode cX9_readPeople 56 = .ok (.if_icmp .lt 5, 3) := by decide +kernel
theorem dX9_readPeople_59 : decode cX9_readPeople 59 = .ok (.iconst 1, 1) := by decide +kernel
theorem dX9_readPeople_60 : decode cX9_readPeople 60 = .ok (.ireturn, 1) := by decide +kernel
theorem dX9_readPeople_61 : decode cX9_readPeople 61 = .ok (.iinc 1 1, 3) := by decide +kernel
theorem dX9_readPeople_64 : decode cX9_readPeople 64 = .ok (.goto (-62), 3) := by decide +kernel
theorem dX9_readPeople_67 : decode cX9_readPeople 67 = .ok (.aload_n 0, 1) := by decide +kernel
theorem dX9_readPeople_68 : decode cX9_readPeople 68 = .ok (.aload_n 0, 1) := by decide +kernel
theorem dX9_readPeople_69 : decode cX9_readPeople 69 = .ok (.getfield 72, 3) := by decide +kernel
theorem dX9_readPeople_72 : decode cX9_readPeople 72 = .ok (.invokestatic 92, 3) := by decide +kernel
theorem dX9_readPeople_75 : decode cX9_readPeople 75 = .ok (.ifCond .ne 7, 3) := by decide +kernel
theorem dX9_readPeople_78 : decode cX9_readPeople 78 = .ok (.iconst 1, 1) := by decide +kernel
theorem dX9_readPeople_79 : decode cX9_readPeople 79 = .ok (.goto 4, 3) := by decide +kernel
theorem dX9_readPeople_82 : decode cX9_readPeople 82 = .ok (.iconst 3, 1) := by decide +kernel
theorem dX9_readPeople_83 : decode cX9_readPeople 83 = .ok (.invokevirtual 78, 3) := by decide +kernel
theorem dX9_readPeople_86 : decode cX9_readPeople 86 = .ok (.ireturn, 1) := by decide +kernel
def Sp_X9_readPeople (av : List AV) (m : AM) (Φ : Option AV → AM → Prop) : Prop := av = [vr 9 13] ∧ ∃ T n G p, TapC m T n ∧ PV G ∧ PZ G ∧ G 4 = 0 ∧ GR m G ∧ StpR T n p m ∧ p ≤ n ∧ ∀ b m2, Tp [14, 18] [3, 4, 5, 6, 7, 8] m m2 → (b = 1 ∧ Tp [14, 18] [3, 4, 5, 6] m m2 ∧ (∃ G2, peopP T n 5 G p = .ok G2 ∧ PV G2 ∧ PZ G2 ∧ 1 ≤ G2 4 ∧ GR m2 G2) ∨ b = 0 ∧ ∃ f pl, peopP T n 5 G p = .error (f, pl) ∧ ErR m2 f pl) → Φ (some (vi (nI b))) m2
set_option maxRecDepth 20000 in
set_option maxHeartbeats 4000000 in
theorem S_X9_readPeople : Snd yX9_readPeople e_X9_readPeople Sp_X9_readPeople := by
  refine Snd.of (by decide +kernel) rfl ?_ ?_
  · rintro av m Φ ⟨rfl, _⟩; exact Nat.le_of_ble_eq_true rfl
  rintro av m Φ ⟨rfl, T, n, G0, p0, hT, hp0, hz0, h40, hG0, hst0, hpn0, h⟩ hav hty
  show B e_X9_readPeople Φ 0 [some (vr 9 13), none, none] [] m (0, 0)
  have hn := hT.2.1
  have er : ∀ M f pl, peopP T n 5 G0 p0 = .error (f, pl) → Tp [14, 18] [3, 4, 5, 6, 7, 8] m M → ErR M f pl → Φ (some (vi (nI 0))) M := fun M f pl a b e => h 0 M b (Or.inr ⟨rfl, f, pl, a, e⟩)
  have wd : ∀ {M : AM}, Tp [14, 18] [3, 4, 5, 6] m M → Tp [14, 18] [3, 4, 5, 6, 7, 8] m M := fun a => a.mono (fun a z => z) (fun a z => by simp at z; simp; omega)
  have up6 : ∀ {M M2 : AM}, Tp [14, 18] [3, 4, 5, 6] m M → Tp [] [3, 4, 5, 6, 7, 8] M M2 → Tp [14, 18] [3, 4, 5, 6, 7, 8] m M2 := fun a b => (wd a).tr (b.mono (fun a z => by cases z) (fun a z => z))
  have up3 : ∀ {M M2 : AM}, Tp [14, 18] [3, 4, 5, 6] m M → Tp [] [3, 4, 5, 6] M M2 → Tp [14, 18] [3, 4, 5, 6] m M2 := fun a b => a.tr (b.mono (fun a z => by cases z) (fun a z => z))
  have loop : ∀ e M G p o2, e + G 4 = 5 → peopP T n 5 G0 p0 = peopP T n e G p → Tp [14, 18] [3, 4, 5, 6] m M → PV G → PZ G → GR M G → StpR T n p M → p ≤ n → B e_X9_readPeople Φ 2 [some (vr 9 13), some (vi (nI (G 4))), o2] [] M (0, 0) := by
    intro e
    induction e with
    | zero =>
      intro M G p o2 z1 hE hF hp hz hL st hpn
      have hTM := hT.tp hF (by decide) (by decide)
      have hE : peopP T n 5 G0 p0 = .error (if kindL (symO T n p) = 0 then 1 else 3, p) := hE
      have kl := kindL_le (symO T n p)
      refine b_iloadN (pc := 2) 1 dX9_readPeople_2 rfl rfl ?_
      refine b_iconst (pc := 3) (nI 5) dX9_readPeople_3 (by decide) ?_
      refine b_icmp_ge (pc := 4) 67 dX9_readPeople_4 (by decide) (fun c4 => ?_) (fun c4 => ?_)
      refine b_aloadN (pc := 67) 0 dX9_readPeople_67 rfl rfl ?_
      refine b_aloadN (pc := 68) 0 dX9_readPeople_68 rfl rfl ?_
      refine gf9_5 (pc := 69) k190 dX9_readPeople_69 ?_
      refine call_X9_kindBy (pc := 72) k569 (by decide) ⟨Nat.le_of_ble_eq_true rfl, Nat.le_of_ble_eq_true rfl⟩ (Nat.le_of_ble_eq_true rfl) dX9_readPeople_72 ?_
      refine ⟨_, rfl, symO T n p, st.2.2.1, fun w hw => sym_lt hw, ?_⟩
      refine b_if_ne (pc := 75) 82 dX9_readPeople_75 (by decide) (fun c75 => ?_) (fun c75 => ?_)
      refine b_iconst (pc := 82) (nI 3) dX9_readPeople_82 (by decide) ?_
      refine call_X9_fails (pc := 83) k541 (by decide) ⟨Nat.le_of_ble_eq_true rfl, Nat.le_of_ble_eq_true rfl⟩ (Nat.le_of_ble_eq_true rfl) dX9_readPeople_83 ?_
      refine ⟨_, rfl, ?_⟩
      refine b_zret (pc := 86) rfl ?_ dX9_readPeople_86 ⟨Nat.le_of_ble_eq_true rfl, Nat.le_of_ble_eq_true rfl⟩ ?_
      rotate_left -- leaf 0: bool at 86
      rotate_left -- leaf 1: return at 86
      refine b_iconst (pc := 78) (nI 1) dX9_readPeople_78 (by decide) ?_
      refine b_goto (pc := 79) 83 dX9_readPeople_79 (by decide) ?_
      refine call_X9_fails (pc := 83) k541 (by decide) ⟨Nat.le_of_ble_eq_true rfl, Nat.le_of_ble_eq_true rfl⟩ (Nat.le_of_ble_eq_true rfl) dX9_readPeople_83 ?_
      refine ⟨_, rfl, ?_⟩
      refine b_zret (pc := 86) rfl ?_ dX9_readPeople_86 ⟨Nat.le_of_ble_eq_true rfl, Nat.le_of_ble_eq_true rfl⟩ ?_
      rotate_left -- leaf 2: bool at 86
      rotate_left -- leaf 3: return at 86
      rotate_left -- leaf 4: at 7
      -- leaves: 0 bool at 86; 1 return at 86; 2 bool at 86; 3 return at 86; 4 at 7
      · exact Or.inl rfl
      · rw [if_neg (fun z => c75 (by rw [z]; rfl))] at hE
        exact er _ 3 p hE (((wd hF).m0 (by simp)).m0 (by simp)) (ErR.put st.1)
      · exact Or.inl rfl
      · rw [n_eq0 (by omega)] at c75
        rw [if_pos c75] at hE
        exact er _ 1 p hE (((wd hF).m0 (by simp)).m0 (by simp)) (ErR.put st.1)
      · rw [n_le (by omega) (by omega)] at c4; omega
    | succ e ih =>
      intro M G p o2 z1 hE hF hp hz hL st hpn
      have hTM := hT.tp hF (by decide) (by decide)
      have h45 : G 4 < 5 := by omega
      have hbl := bhd_le (T := T) hn hpn
      have kl := kindL_le (symO T n p)
      have u : peopP T n (e + 1) G p = if kindL (symO T n p) = 0 then .error (1, p) else bnd (tknS T n 59 (bhdN T n p)) fun r => if n ≤ r then .ok (addQ G (kindL (symO T n p))) else peopP T n e (addQ G (kindL (symO T n p))) r := rfl
      rw [u] at hE
      by_cases hk : kindL (symO T n p) = 0
      · rw [if_pos hk] at hE
        refine b_iloadN (pc := 2) 1 dX9_readPeople_2 rfl rfl ?_
        refine b_iconst (pc := 3) (nI 5) dX9_readPeople_3 (by decide) ?_
        refine b_icmp_ge (pc := 4) 67 dX9_readPeople_4 (by decide) (fun c4 => ?_) (fun c4 => ?_)
        rotate_left -- leaf 0: at 67
        refine b_aloadN (pc := 7) 0 dX9_readPeople_7 rfl rfl ?_
        refine gf9_5 (pc := 8) k190 dX9_readPeople_8 ?_
        refine call_X9_kindBy (pc := 11) k569 (by decide) ⟨Nat.le_of_ble_eq_true rfl, Nat.le_of_ble_eq_true rfl⟩ (Nat.le_of_ble_eq_true rfl) dX9_readPeople_11 ?_
        refine ⟨_, rfl, symO T n p, st.2.2.1, fun w hw => sym_lt hw, ?_⟩
        refine siN2 (pc := 14) rfl notL_i (by decide) dX9_readPeople_14 ?_
        refine b_iloadN (pc := 15) 2 dX9_readPeople_15 rfl rfl ?_
        refine b_if_ne (pc := 16) 25 dX9_readPeople_16 (by decide) (fun c16 => ?_) (fun c16 => ?_)
        rotate_left -- leaf 1: at 25
        refine b_aloadN (pc := 19) 0 dX9_readPeople_19 rfl rfl ?_
        refine b_iconst (pc := 20) (nI 1) dX9_readPeople_20 (by decide) ?_
        refine call_X9_fails (pc := 21) k541 (by decide) ⟨Nat.le_of_ble_eq_true rfl, Nat.le_of_ble_eq_true rfl⟩ (Nat.le_of_ble_eq_true rfl) dX9_readPeople_21 ?_
        refine ⟨_, rfl, ?_⟩
        refine b_zret (pc := 24) rfl ?_ dX9_readPeople_24 ⟨Nat.le_of_ble_eq_true rfl, Nat.le_of_ble_eq_true rfl⟩ ?_
        rotate_left -- leaf 2: bool at 24
        rotate_left -- leaf 3: return at 24
        -- leaves: 0 at 67; 1 at 25; 2 bool at 24; 3 return at 24
        · rw [n_le (by omega) (by omega)] at c4; omega
        · exact absurd (by rw [hk]; rfl) c16
        · exact Or.inl rfl
        · exact er _ 1 p hE (((wd hF).m0 (by simp)).m0 (by simp)) (ErR.put st.1)
      · rw [if_neg hk] at hE
        have hpQ := hp.per h45 (show 1 ≤ kindL (symO T n p) ∧ kindL (symO T n p) ≤ 5 from ⟨by omega, kl⟩)
        have hzQ := hz.per h45 (kindL (symO T n p))
        have eQ : addQ G (kindL (symO T n p)) 4 = G 4 + 1 := by rw [addQ_at, if_pos rfl]
        have hLQ := hL.per hp.2.2.2.1 (kindL (symO T n p))
        generalize addQ G (kindL (symO T n p)) = G2 at hpQ hzQ eQ hE hLQ
        have s44 : ∀ M q o2, tknS T n 59 (bhdN T n p) = .ok q → Tp [14, 18] [3, 4, 5, 6] m M → GR M G2 → M.1 13 4 = nI q → q ≤ n → B e_X9_readPeople Φ 44 [some (vr 9 13), some (vi (nI (G 4))), o2] [] M (0, 0) := by
          intro M q o2 e1 hF hL2 hq hqn
          have hTM := hT.tp hF (by decide) (by decide)
          refine b_aloadN (pc := 44) 0 dX9_readPeople_44 rfl rfl ?_
          refine call_X9_step (pc := 45) k533 (by decide) ⟨Nat.le_of_ble_eq_true rfl, Nat.le_of_ble_eq_true rfl⟩ (Nat.le_of_ble_eq_true rfl) dX9_readPeople_45 ?_
          refine ⟨rfl, T, n, q, hTM, hq, hqn, fun m45 tp45 st45 => ?_⟩
          refine b_aloadN (pc := 48) 0 dX9_readPeople_48 rfl rfl ?_
          refine gf9_3 (pc := 49) k188 dX9_readPeople_49 ?_
          refine b_aloadN (pc := 52) 0 dX9_readPeople_52 rfl rfl ?_
          refine gf9_2 (pc := 53) k186 dX9_readPeople_53 ?_
          refine b_icmp_lt (pc := 56) 61 dX9_readPeople_56 (by decide) (fun c56 => ?_) (fun c56 => ?_)
          refine inc1 (pc := 61) notL_r (by decide) dX9_readPeople_61 ?_
          refine b_goto (pc := 64) 2 dX9_readPeople_64 (by decide) ?_
          rotate_left -- leaf 0: at 2
          refine b_iconst (pc := 59) (nI 1) dX9_readPeople_59 (by decide) ?_
          refine b_zret (pc := 60) rfl ?_ dX9_readPeople_60 ⟨Nat.le_of_ble_eq_true rfl, Nat.le_of_ble_eq_true rfl⟩ ?_
          rotate_left -- leaf 1: bool at 60
          rotate_left -- leaf 2: return at 60
          -- leaves: 0 at 2; 1 bool at 60; 2 return at 60
          · rw [st45.1, (hTM.tp tp45 (by decide) (by decide)).1, n_lt (by omega) (by omega)] at c56
            rw [n_inc]
            have t := ih m45 G2 q o2 (by omega) ((hE.trans (bndS_ok e1)).trans (if_neg (by omega))) (up3 hF tp45) hpQ hzQ (hL2.tp tp45) st45 hqn
            rw [eQ] at t
            exact t
          · exact Or.inr rfl
          · rw [st45.1, (hTM.tp tp45 (by decide) (by decide)).1, n_lt (by omega) (by omega)] at c56
            exact h 1 m45 (wd (up3 hF tp45)) (Or.inl ⟨rfl, up3 hF tp45, G2, (hE.trans (bndS_ok e1)).trans (if_pos (by omega)), hpQ, hzQ, by omega, hL2.tp tp45⟩)
        have s33 : ∀ M o2, Tp [14, 18] [3, 4, 5, 6] m M → GR M G2 → M.1 13 4 = nI (bhdN T n p) → B e_X9_readPeople Φ 33 [some (vr 9 13), some (vi (nI (G 4))), o2] [] M (0, 0) := by
          intro M o2 hF hL2 hq
          have hTM := hT.tp hF (by decide) (by decide)
          refine b_aloadN (pc := 33) 0 dX9_readPeople_33 rfl rfl ?_
          refine b_bipush (pc := 34) (nI 59) dX9_readPeople_34 (by decide) ?_
          refine call_X9_takes (pc := 36) k529 (by decide) ⟨Nat.le_of_ble_eq_true rfl, Nat.le_of_ble_eq_true rfl⟩ (Nat.le_of_ble_eq_true rfl) dX9_readPeople_36 ?_
          refine ⟨_, rfl, T, n, bhdN T n p, _, hTM, hq, hbl.2, rfl, by decide, fun b36 m36 tp36 r36 => ?_⟩
          refine b_if_ne (pc := 39) 44 dX9_readPeople_39 (by decide) (fun c39 => ?_) (fun c39 => ?_)
          rotate_left -- leaf 0: at 44
          refine b_iconst (pc := 42) (nI 0) dX9_readPeople_42 (by decide) ?_
          refine b_zret (pc := 43) rfl ?_ dX9_readPeople_43 ⟨Nat.le_of_ble_eq_true rfl, Nat.le_of_ble_eq_true rfl⟩ ?_
          rotate_left -- leaf 1: bool at 43
          rotate_left -- leaf 2: return at 43
          -- leaves: 0 at 44; 1 bool at 43; 2 return at 43
          · rcases r36 with ⟨z, ts, q, e1, hq, h4q⟩ | ⟨z, f1, pl, e1, hr⟩
            · exact s44 m36 q _ e1 (up3 hF ts) (hL2.tp tp36) h4q hq
            · exact absurd (by rw [z]; rfl) c39
          · exact Or.inl rfl
          · rcases r36 with ⟨z, ts, q, e1, hq, h4q⟩ | ⟨z, f1, pl, e1, hr⟩
            · rw [z] at c39
              exact absurd c39 (by decide)
            · exact er m36 f1 pl (hE.trans (bndS_er e1)) (up6 hF tp36) hr
        refine b_iloadN (pc := 2) 1 dX9_readPeople_2 rfl rfl ?_
        refine b_iconst (pc := 3) (nI 5) dX9_readPeople_3 (by decide) ?_
        refine b_icmp_ge (pc := 4) 67 dX9_readPeople_4 (by decide) (fun c4 => ?_) (fun c4 => ?_)
        rotate_left -- leaf 0: at 67
        refine b_aloadN (pc := 7) 0 dX9_readPeople_7 rfl rfl ?_
        refine gf9_5 (pc := 8) k190 dX9_readPeople_8 ?_
        refine call_X9_kindBy (pc := 11) k569 (by decide) ⟨Nat.le_of_ble_eq_true rfl, Nat.le_of_ble_eq_true rfl⟩ (Nat.le_of_ble_eq_true rfl) dX9_readPeople_11 ?_
        refine ⟨_, rfl, symO T n p, st.2.2.1, fun w hw => sym_lt hw, ?_⟩
        refine siN2 (pc := 14) rfl notL_i (by decide) dX9_readPeople_14 ?_
        refine b_iloadN (pc := 15) 2 dX9_readPeople_15 rfl rfl ?_
        refine b_if_ne (pc := 16) 25 dX9_readPeople_16 (by decide) (fun c16 => ?_) (fun c16 => ?_)
        refine b_aloadN (pc := 25) 0 dX9_readPeople_25 rfl rfl ?_
        refine gf9_0 (pc := 26) 14 rfl k183 dX9_readPeople_26 ?_
        refine b_iloadN (pc := 29) 2 dX9_readPeople_29 rfl rfl ?_
        refine call_X5_addPerson (pc := 30) k572 (by decide) ⟨Nat.le_of_ble_eq_true rfl, Nat.le_of_ble_eq_true rfl⟩ (Nat.le_of_ble_eq_true rfl) dX9_readPeople_30 ?_
        refine ⟨_, rfl, G 4, hL.1.2.2.2.1, h45, ?_⟩
        rotate_left -- leaf 1: at 33
        refine b_aloadN (pc := 19) 0 dX9_readPeople_19 rfl rfl ?_
        refine b_iconst (pc := 20) (nI 1) dX9_readPeople_20 (by decide) ?_
        refine call_X9_fails (pc := 21) k541 (by decide) ⟨Nat.le_of_ble_eq_true rfl, Nat.le_of_ble_eq_true rfl⟩ (Nat.le_of_ble_eq_true rfl) dX9_readPeople_21 ?_
        refine ⟨_, rfl, ?_⟩
        refine b_zret (pc := 24) rfl ?_ dX9_readPeople_24 ⟨Nat.le_of_ble_eq_true rfl, Nat.le_of_ble_eq_true rfl⟩ ?_
        rotate_left -- leaf 2: bool at 24
        rotate_left -- leaf 3: return at 24
        -- leaves: 0 at 67; 1 at 33; 2 bool at 24; 3 return at 24
        · rw [n_le (by omega) (by omega)] at c4; omega
        · refine s33 _ _ ((hF.ms (by decide) (by simp)).ms (by decide) (by simp)) hLQ ?_
          rw [mset_ne _ _ _ (show 13 ≠ 14 by decide), mset_ne _ _ _ (show 13 ≠ 18 by decide)]
          exact st.2.1
        · exact Or.inl rfl
        · rw [n_eq0 (by omega)] at c16
          exact absurd c16 hk
  refine b_iconst (pc := 0) (nI 0) dX9_readPeople_0 (by decide) ?_
  refine siN1 (pc := 1) rfl notL_r (by decide) dX9_readPeople_1 ?_
  rotate_left -- leaf 0: at 2
  -- leaves: 0 at 2
  have t := loop 5 m G0 p0 none (by omega) rfl (Tp.rf _ _ m) hp0 hz0 hG0 hst0 hpn0
  rw [h40] at t
  exact t
theorem call_X9_readPeople {E : ME} {Φ : Option AV → AM → Prop} {pc : Nat} {L : List (Option AV)} {st : List AV} {m : AM} {a : Nat × Nat} {idx : Nat} {i : Nat} (hl : Cond.methodLink E.2.1 idx yX9_readPeople ∈ TB) (hdep : 4 + 1 ≤ E.2.2.2.2.2.2) (hroom : a.1 + 0 ≤ E.2.2.2.2.1 ∧ a.2 + 0 ≤ E.2.2.2.2.2.1) (hsr : st.length ≤ 4) (hd : decode E.1 pc = .ok (.invokevirtual idx, 3)) (hsp : Sp_X9_readPeople [vr 9 i] m (fun r m2 => B E Φ (pc + 3) L (r.toList ++ st) m2 a)) : B E Φ pc L (vr 9 i :: st) m a := b_callV S_X9_readPeople [] (RX9, TX9, 9) rfl rfl (by decide) (Or.inl hl) k567 k10 k71 k568 (show _ ∧ _ ∧ Option.map (fun d => d.parameters.length) (parseMethodDescriptor yX9_readPeople.desc) = some 0 from by decide +kernel) ⟨hdep, by decide⟩ hroom hsr hd hsp
