/-! the class reads: read, court -/
def g0 (f a pr : Nat) : Nat → Nat := fun k => if k = 0 then f else if k = 1 then a else if k = 2 then pr else 0
def parP (T : Nat → Nat) (n : Nat) : Except (Nat × Nat) (Nat → Nat) := bnd (lawP T n) fun x => bnd (rulesP T n 9 (g0 x.1.1 x.1.2.1 x.1.2.2) x.2) fun y => peopP T n 5 y.1 y.2
theorem g0_big {f a pr k : Nat} (h : 3 ≤ k) : g0 f a pr k = 0 := by
  unfold g0
  rw [if_neg (by omega), if_neg (by omega), if_neg (by omega)]
theorem PV.fresh {f a pr : Nat} (hf : 1 ≤ f ∧ f ≤ 6) (ha : a < 2 ^ f) (hp : 1 ≤ pr ∧ pr ≤ 9) : PV (g0 f a pr) := by
  have e3 : g0 f a pr 3 = 0 := g0_big (by omega)
  have e4 : g0 f a pr 4 = 0 := g0_big (by omega)
  refine ⟨hf, ha, hp, by rw [e3]; omega, by rw [e4]; omega, fun k hk => ?_, fun p hk => ?_⟩
  · rw [e3] at hk; omega
  · rw [e4] at hk; omega
abbrev e_X9_read : ME := (cX9_read, (RX9, (1, ((some .boolean), (0, (0, 6))))))
theorem dX9_read_0 : decode cX9_read 0 = .ok (.aload_n 0, 1) := by decide +kernel
theorem dX9_read_1 : decode cX9_read 1 = .ok (.getfield 12, 3) := by decide +kernel
theorem dX9_read_4 : decode cX9_read 4 = .ok (.invokevirtual 33, 3) := by decide +kernel
theorem dX9_read_7 : decode cX9_read 7 = .ok (.aload_n 0, 1) := by decide +kernel
theorem dX9_read_8 : decode cX9_read 8 = .ok (.iconst 0, 1) := by decide +kernel
theorem dX9_read_9 : decode cX9_read 9 = .ok (.putfield 36, 3) := by decide +kernel
theorem dX9_read_12 : decode cX9_read 12 = .ok (.aload_n 0, 1) := by decide +kernel
theorem dX9_read_13 : decode cX9_read 13 = .ok (.invokevirtual 39, 3) := by decide +kernel
theorem dX9_read_16 : decode cX9_read 16 = .ok (.ifCond .eq 21, 3) := by decide +kernel
theorem dX9_read_19 : decode cX9_read 19 = .ok (.aload_n 0, 1) := by decide +kernel
theorem dX9_read_20 : decode cX9_read 20 = .ok (.invokevirtual 43, 3) := by decide +kernel
theorem dX9_read_23 : decode cX9_read 23 = .ok (.ifCond .eq 14, 3) := by decide +kernel
theorem dX9_read_26 : decode cX9_read 26 = .ok (.aload_n 0, 1) := by decide +kernel
theorem dX9_read_27 : decode cX9_read 27 = .ok (.invokevirtual 46, 3) := by decide +kernel
theorem dX9_read_30 : decode cX9_read 30 = .ok (.ifCond .eq 7, 3) := by decide +kernel
theorem dX9_read_33 : decode cX9_read 33 = .ok (.iconst 1, 1) := by decide +kernel
theorem dX9_read_34 : decode cX9_read 34 = .ok (.goto 4, 3) := by decide +kernel
theorem dX9_read_37 : decode cX9_read 37 = .ok (.iconst 0, 1) := by decide +kernel
theorem dX9_read_38 : decode cX9_read 38 = .ok (.ireturn, 1) := by decide +kernel
def Sp_X9_read (av : List AV) (m : AM) (Φ : Option AV → AM → Prop) : Prop := av = [vr 9 13] ∧ ∃ T n, TapC m T n ∧ ∀ b m2, Tp [14, 15, 16, 17, 18] [3, 4, 5, 6, 7, 8] m m2 → (b = 1 ∧ Tp [14, 15, 16, 17, 18] [3, 4, 5, 6] m m2 ∧ (∃ G, parP T n = .ok G ∧ PV G ∧ PZ G ∧ 1 ≤ G 4 ∧ GR m2 G) ∨ b = 0 ∧ ∃ f pl, parP T n = .error (f, pl) ∧ ErR m2 f pl) → Φ (some (vi (nI b))) m2
set_option maxRecDepth 20000 in
set_option maxHeartbeats 4000000 in
theorem S_X9_read : Snd yX9_read e_X9_read Sp_X9_read := by
  refine Snd.of (by decide +kernel) rfl ?_ ?_
  · rintro av m Φ ⟨rfl, _⟩; exact Nat.le_of_ble_eq_true rfl
  rintro av m Φ ⟨rfl, T, n, hT, h⟩ hav hty
  show B e_X9_read Φ 0 [some (vr 9 13)] [] m (0, 0)
  have er : ∀ M f pl, parP T n = .error (f, pl) → Tp [14, 15, 16, 17, 18] [3, 4, 5, 6, 7, 8] m M → ErR M f pl → Φ (some (vi (nI 0))) M := fun M f pl a b e => h 0 M b (Or.inr ⟨rfl, f, pl, a, e⟩)
  have wd : ∀ {M : AM}, Tp [14, 15, 16, 17, 18] [3, 4, 5, 6] m M → Tp [14, 15, 16, 17, 18] [3, 4, 5, 6, 7, 8] m M := fun a => a.mono (fun a z => z) (fun a z => by simp at z; simp; omega)
  have s26 : ∀ M G p, parP T n = peopP T n 5 G p → Tp [14, 15, 16, 17, 18] [3, 4, 5, 6] m M → PV G → PZ G → G 4 = 0 → GR M G → StpR T n p M → p ≤ n → B e_X9_read Φ 26 [some (vr 9 13)] [] M (0, 0) := by
    intro M G p hE hF hp hz h40 hL st hpn
    have hTM := hT.tp hF (by decide) (by decide)
    refine b_aloadN (pc := 26) 0 dX9_read_26 rfl rfl ?_
    refine call_X9_readPeople (pc := 27) k565 (by decide) ⟨Nat.le_of_ble_eq_true rfl, Nat.le_of_ble_eq_true rfl⟩ (Nat.le_of_ble_eq_true rfl) dX9_read_27 ?_
    refine ⟨rfl, T, n, G, p, hTM, hp, hz, h40, hL, st, hpn, fun b27 m27 tp27 r27 => ?_⟩
    refine b_if_eq (pc := 30) 37 dX9_read_30 (by decide) (fun c30 => ?_) (fun c30 => ?_)
    refine b_iconst (pc := 37) (nI 0) dX9_read_37 (by decide) ?_
    refine b_zret (pc := 38) rfl ?_ dX9_read_38 ⟨Nat.le_of_ble_eq_true rfl, Nat.le_of_ble_eq_true rfl⟩ ?_
    rotate_left -- leaf 0: bool at 38
    rotate_left -- leaf 1: return at 38
    refine b_iconst (pc := 33) (nI 1) dX9_read_33 (by decide) ?_
    refine b_goto (pc := 34) 38 dX9_read_34 (by decide) ?_
    refine b_zret (pc := 38) rfl ?_ dX9_read_38 ⟨Nat.le_of_ble_eq_true rfl, Nat.le_of_ble_eq_true rfl⟩ ?_
    rotate_left -- leaf 2: bool at 38
    rotate_left -- leaf 3: return at 38
    -- leaves: 0 bool at 38; 1 return at 38; 2 bool at 38; 3 return at 38
    · exact Or.inl rfl
    · rcases r27 with ⟨z, ts, G2, e, hp2, hz2, h1, hL2⟩ | ⟨z, f1, pl, e, hr⟩
      · rw [z] at c30
        exact absurd c30 (by decide)
      · exact er m27 f1 pl (hE.trans e) ((wd hF).tr (tp27.mono (fun a z => by simp at z; simp; omega) (fun a z => z))) hr
    · exact Or.inr rfl
    · rcases r27 with ⟨z, ts, G2, e, hp2, hz2, h1, hL2⟩ | ⟨z, f1, pl, e, hr⟩
      · have hF2 := hF.tr (ts.mono (li2 := [14, 15, 16, 17, 18]) (ls2 := [3, 4, 5, 6]) (fun a z => by simp at z; simp; omega) (fun a z => z))
        exact h 1 m27 (wd hF2) (Or.inl ⟨rfl, hF2, G2, hE.trans e, hp2, hz2, h1, hL2⟩)
      · exact absurd (by rw [z]; rfl) c30
  have s19 : ∀ M G p, parP T n = bnd (rulesP T n 9 G p) (fun y => peopP T n 5 y.1 y.2) → Tp [14, 15, 16, 17, 18] [3, 4, 5, 6] m M → PV G → PZ G → G 3 = 0 → G 4 = 0 → GR M G → M.1 13 4 = nI p → p ≤ n → B e_X9_read Φ 19 [some (vr 9 13)] [] M (0, 0) := by
    intro M G p hE hF hp hz h30 h40 hL h4 hpn
    have hTM := hT.tp hF (by decide) (by decide)
    refine b_aloadN (pc := 19) 0 dX9_read_19 rfl rfl ?_
    refine call_X9_readRules (pc := 20) k549 (by decide) ⟨Nat.le_of_ble_eq_true rfl, Nat.le_of_ble_eq_true rfl⟩ (Nat.le_of_ble_eq_true rfl) dX9_read_20 ?_
    refine ⟨rfl, T, n, G, p, hTM, hp, hz, h30, h40, hL, h4, hpn, fun b20 m20 tp20 r20 => ?_⟩
    refine b_if_eq (pc := 23) 37 dX9_read_23 (by decide) (fun c23 => ?_) (fun c23 => ?_)
    refine b_iconst (pc := 37) (nI 0) dX9_read_37 (by decide) ?_
    refine b_zret (pc := 38) rfl ?_ dX9_read_38 ⟨Nat.le_of_ble_eq_true rfl, Nat.le_of_ble_eq_true rfl⟩ ?_
    rotate_left -- leaf 0: bool at 38
    rotate_left -- leaf 1: return at 38
    rotate_left -- leaf 2: at 26
    -- leaves: 0 bool at 38; 1 return at 38; 2 at 26
    · exact Or.inl rfl
    · rcases r20 with ⟨z, ts, G2, q, e, hq, hp2, hz2, h42, hL2, st⟩ | ⟨z, f1, pl, e, hr⟩
      · rw [z] at c23
        exact absurd c23 (by decide)
      · exact er m20 f1 pl (by rw [hE, e]; rfl) ((wd hF).tr (tp20.mono (fun a z => by simp at z; simp; omega) (fun a z => z))) hr
    · rcases r20 with ⟨z, ts, G2, q, e, hq, hp2, hz2, h42, hL2, st⟩ | ⟨z, f1, pl, e, hr⟩
      · have e2 : parP T n = peopP T n 5 G2 q := by
          rw [hE, e]
          rfl
        exact s26 m20 G2 q e2 (hF.tr (ts.mono (fun a z => by simp at z; simp; omega) (fun a z => z))) hp2 hz2 h42 hL2 st hq
      · exact absurd (by rw [z]; rfl) c23
  have s12 : ∀ M, M = mset (mset (mset (mset (mset (mset m 14 4 (nI 0)) 14 5 (nI 0)) 14 6 (nI 0)) 14 7 (nI 0)) 14 8 (nI 0)) 13 4 (nI 0) → B e_X9_read Φ 12 [some (vr 9 13)] [] M (0, 0) := by
    intro M hM
    have hF : Tp [14, 15, 16, 17, 18] [3, 4, 5, 6] m M := by
      rw [hM]
      exact ((((((Tp.rf _ _ m).ms (by decide) (by simp)).ms (by decide) (by simp)).ms (by decide) (by simp)).ms (by decide) (by simp)).ms (by decide) (by simp)).m0 (by simp)
    have hTM := hT.tp hF (by decide) (by decide)
    have h40 : M.1 13 4 = nI 0 := by rw [hM, mset_at, if_pos rfl]
    have e7 : M.1 14 7 = nI 0 := by
      rw [hM, mset_ne _ _ _ (show 14 ≠ 13 by decide), mset_at, if_neg (by decide), mset_at, if_pos rfl]
    have e8 : M.1 14 8 = nI 0 := by
      rw [hM, mset_ne _ _ _ (show 14 ≠ 13 by decide), mset_at, if_pos rfl]
    refine b_aloadN (pc := 12) 0 dX9_read_12 rfl rfl ?_
    refine call_X9_readLaw (pc := 13) k525 (by decide) ⟨Nat.le_of_ble_eq_true rfl, Nat.le_of_ble_eq_true rfl⟩ (Nat.le_of_ble_eq_true rfl) dX9_read_13 ?_
    refine ⟨rfl, T, n, hTM, h40, fun b13 m13 tp13 f713 f813 r13 => ?_⟩
    refine b_if_eq (pc := 16) 37 dX9_read_16 (by decide) (fun c16 => ?_) (fun c16 => ?_)
    refine b_iconst (pc := 37) (nI 0) dX9_read_37 (by decide) ?_
    refine b_zret (pc := 38) rfl ?_ dX9_read_38 ⟨Nat.le_of_ble_eq_true rfl, Nat.le_of_ble_eq_true rfl⟩ ?_
    rotate_left -- leaf 0: bool at 38
    rotate_left -- leaf 1: return at 38
    rotate_left -- leaf 2: at 19
    -- leaves: 0 bool at 38; 1 return at 38; 2 at 19
    · exact Or.inl rfl
    · rcases r13 with ⟨z, ts, f, a, pr, q, e, hq, hf, ha, hpr, h4q, e4, e5, e6⟩ | ⟨z, f1, pl, e, hr⟩
      · rw [z] at c16
        exact absurd c16 (by decide)
      · exact er m13 f1 pl (by unfold parP; rw [e]; rfl) ((wd hF).tr (tp13.mono (fun a z => by simp at z; simp; omega) (fun a z => z))) hr
    · rcases r13 with ⟨z, ts, f, a, pr, q, e, hq, hf, ha, hpr, h4q, e4, e5, e6⟩ | ⟨z, f1, pl, e, hr⟩
      · have e2 : parP T n = bnd (rulesP T n 9 (g0 f a pr) q) (fun y => peopP T n 5 y.1 y.2) := by
          unfold parP
          rw [e]
          rfl
        exact s19 m13 (g0 f a pr) q e2 (hF.tr (ts.mono (fun a z => by simp at z; simp; omega) (fun a z => z))) (PV.fresh hf ha hpr) ⟨⟨g0_big (by omega), g0_big (by omega), g0_big (by omega)⟩, fun k hk => g0_big (by omega), fun p hp => g0_big (by omega)⟩ (g0_big (by omega)) (g0_big (by omega)) ⟨⟨e4, e6, f713.trans e7, f813.trans e8, fun r hr => absurd hr (Nat.not_lt_zero r), fun p hp => absurd hp (Nat.not_lt_zero p)⟩, e5⟩ h4q hq
      · exact absurd (by rw [z]; rfl) c16
  refine b_aloadN (pc := 0) 0 dX9_read_0 rfl rfl ?_
  refine gf9_0 (pc := 1) 14 rfl k183 dX9_read_1 ?_
  refine call_X5_clear (pc := 4) k521 (by decide) ⟨Nat.le_of_ble_eq_true rfl, Nat.le_of_ble_eq_true rfl⟩ (Nat.le_of_ble_eq_true rfl) dX9_read_4 ?_
  refine ⟨rfl, ?_⟩
  refine b_aloadN (pc := 7) 0 dX9_read_7 rfl rfl ?_
  refine b_iconst (pc := 8) (nI 0) dX9_read_8 (by decide) ?_
  refine pf9_4 (pc := 9) k189 dX9_read_9 ?_
  rotate_left -- leaf 0: at 12
  -- leaves: 0 at 12
  exact s12 _ rfl
theorem call_X9_read {E : ME} {Φ : Option AV → AM → Prop} {pc : Nat} {L : List (Option AV)} {st : List AV} {m : AM} {a : Nat × Nat} {idx : Nat} {i : Nat} (hl : Cond.methodLink E.2.1 idx yX9_read ∈ TB) (hdep : 6 + 1 ≤ E.2.2.2.2.2.2) (hroom : a.1 + 0 ≤ E.2.2.2.2.1 ∧ a.2 + 0 ≤ E.2.2.2.2.2.1) (hsr : st.length ≤ 4) (hd : decode E.1 pc = .ok (.invokevirtual idx, 3)) (hsp : Sp_X9_read [vr 9 i] m (fun r m2 => B E Φ (pc + 3) L (r.toList ++ st) m2 a)) : B E Φ pc L (vr 9 i :: st) m a := b_callV S_X9_read [] (RX9, TX9, 9) rfl rfl (by decide) (Or.inl hl) k518 k519 k71 k520 (show _ ∧ _ ∧ Option.map (fun d => d.parameters.length) (parseMethodDescriptor yX9_read.desc) = some 0 from by decide +kernel) ⟨hdep, by decide⟩ hroom hsr hd hsp


