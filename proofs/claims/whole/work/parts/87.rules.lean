/-! the class reads the rules -/
def rulesP (T : Nat → Nat) (n : Nat) : Nat → (Nat → Nat) → Nat → Except (Nat × Nat) ((Nat → Nat) × Nat)
  | 0, G, p => .ok (G, p)
  | e + 1, G, p => if symO T n p = some 109 ∨ symO T n p = some 120 then (if G 3 = 8 then .error (3, p) else bnd (ruleP T n G (if symO T n p = some 109 then 0 else 1) (bhdN T n p)) fun x => rulesP T n e x.1 x.2) else .ok (G, p)
theorem bndR_ok {α β : Type} {x : Except (Nat × Nat) α} {v : α} {f : α → Except (Nat × Nat) β} (h : x = .ok v) : bnd x f = f v := by
  rw [h]
  rfl
theorem bndR_er {α β : Type} {x : Except (Nat × Nat) α} {e : Nat × Nat} {f : α → Except (Nat × Nat) β} (h : x = .error e) : bnd x f = .error e := by
  rw [h]
  rfl
abbrev e_X9_readRules : ME := (cX9_readRules, (RX9, (2, ((some .boolean), (0, (0, 5))))))
theorem dX9_readRules_0 : decode cX9_readRules 0 = .ok (.aload_n 0, 1) := by decide +kernel
theorem dX9_readRules_1 : decode cX9_readRules 1 = .ok (.invokevirtual 69, 3) := by decide +kernel
theorem dX9_readRules_4 : decode cX9_readRules 4 = .ok (.iconst 0, 1) := by decide +kernel
theorem dX9_readRules_5 : decode cX9_readRules 5 = .ok (.istore_n 1, 1) := by decide +kernel
theorem dX9_readRules_6 : decode cX9_readRules 6 = .ok (.iload_n 1, 1) := by decide +kernel
theorem dX9_readRules_7 : decode cX9_readRules 7 = .ok (.bipush 8, 2) := by decide +kernel
theorem dX9_readRules_9 : decode cX9_readRules 9 = .ok (.if_icmp .gt 72, 3) := by decide +kernel
theorem dX9_readRules_12 : decode cX9_readRules 12 = .ok (.aload_n 0, 1) := by decide +kernel
theorem dX9_readRules_13 : decode cX9_readRules 13 = .ok (.getfield 72, 3) := by decide +kernel
theorem dX9_readRules_16 : decode cX9_readRules 16 = .ok (.bipush 109, 2) := by decide +kernel
theorem dX9_readRules_18 : decode cX9_readRules 18 = .ok (.if_icmp .eq 12, 3) := by decide +kernel
theorem dX9_readRules_21 : decode cX9_readRules 21 = .ok (.aload_n 0, 1) := by decide +kernel
theorem dX9_readRules_22 : decode cX9_readRules 22 = .ok (.getfield 72, 3) := by decide +kernel
theorem dX9_readRules_25 : decode cX9_readRules 25 = .ok (.bipush 120, 2) := by decide +kernel
theorem dX9_readRules_27 : decode cX9_readRules 27 = .ok (.if_icmp .ne 54, 3) := by decide +kernel
theorem dX9_readRules_30 : decode cX9_readRules 30 = .ok (.aload_n 0, 1) := by decide +kernel
theorem dX9_readRules_31 : decode cX9_readRules 31 = .ok (.getfield 12, 3) := by decide +kernel
theorem dX9_readRules_34 : decode cX9_readRules 34 = .ok (.getfield 75, 3) := by decide +kernel
theorem dX9_readRules_37 : decode cX9_readRules 37 = .ok (.bipush 8, 2) := by decide +kernel
theorem dX9_readRules_39 : decode cX9_readRules 39 = .ok (.if_icmp .ne 9, 3) := by decide +kernel
theorem dX9_readRules_42 : decode cX9_readRules 42 = .ok (.aload_n 0, 1) := by decide +kernel
theorem dX9_readRules_43 : decode cX9_readRules 43 = .ok (.iconst 3, 1) := by decide +kernel
theorem dX9_readRules_44 : decode cX9_readRules 44 = .ok (.invokevirtual 78, 3) := by decide +kernel
theorem dX9_readRules_47 : decode cX9_readRules 47 = .ok (.ireturn, 1) := by decide +kernel
theorem dX9_readRules_48 : decode cX9_readRules 48 = .ok (.aload_n 0, 1) := by decide +kernel
theorem dX9_readRules_49 : decode cX9_readRules 49 = .ok (.aload_n 0, 1) := by decide +kernel
theorem dX9_readRules_50 : decode cX9_readRules 50 = .ok (.getfield 72, 3) := by decide +kernel
theorem dX9_readRules_53 : decode cX9_readRules 53 = .ok (.bipush 109, 2) := by decide +kernel
theorem dX9_readRules_55 : decode cX9_readRules 55 = .ok (.if_icmp .ne 7, 3) := by decide +kernel
theorem dX9_readRules_58 : decode cX9_readRules 58 = .ok (.iconst 0, 1) := by decide +kernel
theorem dX9_readRules_59 : decode cX9_readRules 59 = .ok (.goto 4, 3) := by decide +kernel
theorem dX9_readRules_62 : decode cX9_readRules 62 = .ok (.iconst 1, 1) := by decide +kernel
theorem dX9_readRules_63 : decode cX9_readRules 63 = .ok (.invokevirtual 81, 3) := by decide +kernel
theorem dX9_readRules_66 : decode cX9_readRules 66 = .ok (.ifCond .ne 5, 3) := by decide +kernel
theorem dX9_readRules_69 : decode cX9_readRules 69 = .ok (.iconst 0, 1) := by decide +kernel
theorem dX9_readRules_70 : decode cX9_readRules 70 = .ok (.ireturn, 1) := by decide +kernel
theorem dX9_readRules_71 : decode cX9_readRules 71 = .ok (.aload_n 0, 1) := by decide +kernel
theorem dX9_readRules_72 : decode cX9_readRules 72 = .ok (.invokevirtual 69, 3) := by decide +kernel
theorem dX9_readRules_75 : decode cX9_readRules 75 = .ok (.iinc 1 1, 3) := by decide +kernel
theorem dX9_readRules_78 : decode cX9_readRules 78 = .ok (.goto (-72), 3) := by decide +kernel
theorem dX9_readRules_81 : decode cX9_readRules 81 = .ok (.iconst 1, 1) := by decide +kernel
theorem dX9_readRules_82 : decode cX9_readRules 82 = .ok (.ireturn, 1) := by decide +kernel
def Sp_X9_readRules (av : List AV) (m : AM) (Φ : Option AV → AM → Prop) : Prop := av = [vr 9 13] ∧ ∃ T n G p, TapC m T n ∧ PV G ∧ PZ G ∧ G 3 = 0 ∧ G 4 = 0 ∧ GR m G ∧ m.1 13 4 = nI p ∧ p ≤ n ∧ ∀ b m2, Tp [14, 15, 16, 17] [3, 4, 5, 6, 7, 8] m m2 → (b = 1 ∧ Tp [14, 15, 16, 17] [3, 4, 5, 6] m m2 ∧ (∃ G2 q, rulesP T n 9 G p = .ok (G2, q) ∧ q ≤ n ∧ PV G2 ∧ PZ G2 ∧ G2 4 = 0 ∧ GR m2 G2 ∧ StpR T n q m2) ∨ b = 0 ∧ ∃ f pl, rulesP T n 9 G p = .error (f, pl) ∧ ErR m2 f pl) → Φ (some (vi (nI b))) m2
set_option maxRecDepth 20000 in
set_option maxHeartbeats 4000000 in
theorem S_X9_readRules : Snd yX9_readRules e_X9_readRules Sp_X9_readRules := by
  refine Snd.of (by decide +kernel) rfl ?_ ?_
  · rintro av m Φ ⟨rfl, _⟩; exact Nat.le_of_ble_eq_true rfl
  rintro av m Φ ⟨rfl, T, n, G0, p0, hT, hp0, hz0, h30, h40, hG0, h4, hpn0, h⟩ hav hty
  show B e_X9_readRules Φ 0 [some (vr 9 13), none] [] m (0, 0)
  have hn := hT.2.1
  have er : ∀ M f pl, rulesP T n 9 G0 p0 = .error (f, pl) → Tp [14, 15, 16, 17] [3, 4, 5, 6, 7, 8] m M → ErR M f pl → Φ (some (vi (nI 0))) M := fun M f pl a b e => h 0 M b (Or.inr ⟨rfl, f, pl, a, e⟩)
  have up3 : ∀ {M M2 : AM}, Tp [14, 15, 16, 17] [3, 4, 5, 6] m M → Tp [] [3, 4, 5, 6] M M2 → Tp [14, 15, 16, 17] [3, 4, 5, 6] m M2 := fun a b => a.tr (b.mono (fun a z => by cases z) (fun a z => z))
  have wd : ∀ {M : AM}, Tp [14, 15, 16, 17] [3, 4, 5, 6] m M → Tp [14, 15, 16, 17] [3, 4, 5, 6, 7, 8] m M := fun a => a.mono (fun a z => z) (fun a z => by simp at z; simp; omega)
  have loop : ∀ e M G p, e + G 3 = 9 → rulesP T n 9 G0 p0 = rulesP T n e G p → Tp [14, 15, 16, 17] [3, 4, 5, 6] m M → PV G → PZ G → G 4 = 0 → GR M G → StpR T n p M → p ≤ n → B e_X9_readRules Φ 6 [some (vr 9 13), some (vi (nI (G 3)))] [] M (0, 0) := by
    intro e
    induction e with
    | zero =>
      intro M G p z1 hE hF hp
      have := hp.2.2.2.1
      omega
    | succ e ih =>
      intro M G p z1 hE hF hp hz h4z hL st hpn
      have hTM := hT.tp hF (by decide) (by decide)
      have g3 := hp.2.2.2.1
      have hbl := bhd_le (T := T) hn hpn
      have sl : ∀ w, symO T n p = some w → w < 2147483648 := fun w hw => by have := sym_lt hw; omega
      have s71 : ∀ M G2 q, rulesP T n 9 G0 p0 = rulesP T n e G2 q → G2 3 = G 3 + 1 → Tp [14, 15, 16, 17] [3, 4, 5, 6] m M → PV G2 → PZ G2 → G2 4 = 0 → GR M G2 → M.1 13 4 = nI q → q ≤ n → B e_X9_readRules Φ 71 [some (vr 9 13), some (vi (nI (G 3)))] [] M (0, 0) := by
        intro M G2 q hE2 e3 hF hp2 hz2 h42 hL2 hq hqn
        have hTM := hT.tp hF (by decide) (by decide)
        refine b_aloadN (pc := 71) 0 dX9_readRules_71 rfl rfl ?_
        refine call_X9_step (pc := 72) k533 (by decide) ⟨Nat.le_of_ble_eq_true rfl, Nat.le_of_ble_eq_true rfl⟩ (Nat.le_of_ble_eq_true rfl) dX9_readRules_72 ?_
        refine ⟨rfl, T, n, q, hTM, hq, hqn, fun m72 tp72 st72 => ?_⟩
        refine inc1 (pc := 75) notL_r (by decide) dX9_readRules_75 ?_
        refine b_goto (pc := 78) 6 dX9_readRules_78 (by decide) ?_
        rotate_left -- leaf 0: at 6
        -- leaves: 0 at 6
        rw [n_inc]
        have t := ih m72 G2 q (by omega) hE2 (up3 hF tp72) hp2 hz2 h42 (hL2.tp tp72) st72 hqn
        rw [e3] at t
        exact t
      have s66 : ∀ s M2 b, rulesP T n 9 G0 p0 = bnd (ruleP T n G s (bhdN T n p)) (fun x => rulesP T n e x.1 x.2) → G 3 < 8 → s ≤ 1 → Tp [14, 15, 16, 17] [3, 4, 5, 6, 7, 8] m M2 → (b = 1 ∧ Tp [14, 15, 16, 17] [3, 4, 5, 6] M M2 ∧ (∃ a b q, ruleP T n G s (bhdN T n p) = .ok (addR G s a b, q) ∧ q ≤ n ∧ a < G 0 ∧ b < G 0 ∧ GR M2 (addR G s a b) ∧ M2.1 13 4 = nI q) ∨ b = 0 ∧ ∃ f pl, ruleP T n G s (bhdN T n p) = .error (f, pl) ∧ ErR M2 f pl) → B e_X9_readRules Φ 66 [some (vr 9 13), some (vi (nI (G 3)))] [vi (nI b)] M2 (0, 0) := by
        intro s M2 b hE2 h38 hs1 hF2 hr
        refine b_if_ne (pc := 66) 71 dX9_readRules_66 (by decide) (fun c66 => ?_) (fun c66 => ?_)
        rotate_left -- leaf 0: at 71
        refine b_iconst (pc := 69) (nI 0) dX9_readRules_69 (by decide) ?_
        refine b_zret (pc := 70) rfl ?_ dX9_readRules_70 ⟨Nat.le_of_ble_eq_true rfl, Nat.le_of_ble_eq_true rfl⟩ ?_
        rotate_left -- leaf 1: bool at 70
        rotate_left -- leaf 2: return at 70
        -- leaves: 0 at 71; 1 bool at 70; 2 return at 70
        · rcases hr with ⟨z, ts, a, b2, q, e1, hq, ha, hb, hG, h4q⟩ | ⟨z, f1, pl, e1, hr⟩
          · exact s71 M2 (addR G s a b2) q (hE2.trans (bndR_ok e1)) (by rw [addR_at, if_pos rfl]) (hF.tr ts) (hp.rul h38 hs1 ha hb) (hz.rul h38 s a b2) (by rw [addR_at, if_neg (by omega), if_neg (by omega), if_neg (by omega), if_neg (by omega)]; exact h4z) hG h4q hq
          · exact absurd (by rw [z]; rfl) c66
        · exact Or.inl rfl
        · rcases hr with ⟨z, ts, a, b2, q, e1, hq, ha, hb, hG, h4q⟩ | ⟨z, f1, pl, e1, hr⟩
          · rw [z] at c66
            exact absurd c66 (by decide)
          · exact er M2 f1 pl (hE2.trans (bndR_er e1)) hF2 hr
      by_cases q9 : symO T n p = some 109
      · have u : rulesP T n (e + 1) G p = if G 3 = 8 then .error (3, p) else bnd (ruleP T n G 0 (bhdN T n p)) fun x => rulesP T n e x.1 x.2 := by
          show (if symO T n p = some 109 ∨ symO T n p = some 120 then _ else _) = _
          rw [if_pos (Or.inl q9), if_pos q9]
        rw [u] at hE
        by_cases h8 : G 3 = 8
        · rw [if_pos h8] at hE
          refine b_iloadN (pc := 6) 1 dX9_readRules_6 rfl rfl ?_
          refine b_bipush (pc := 7) (nI 8) dX9_readRules_7 (by decide) ?_
          refine b_icmp_gt (pc := 9) 81 dX9_readRules_9 (by decide) (fun c9 => ?_) (fun c9 => ?_)
          rotate_left -- leaf 0: at 81
          refine b_aloadN (pc := 12) 0 dX9_readRules_12 rfl rfl ?_
          refine gf9_5 (pc := 13) k190 dX9_readRules_13 ?_
          refine b_bipush (pc := 16) (nI 109) dX9_readRules_16 (by decide) ?_
          refine b_icmp_eq (pc := 18) 30 dX9_readRules_18 (by decide) (fun c18 => ?_) (fun c18 => ?_)
          refine b_aloadN (pc := 30) 0 dX9_readRules_30 rfl rfl ?_
          refine gf9_0 (pc := 31) 14 rfl k183 dX9_readRules_31 ?_
          refine gf5_7 (pc := 34) k158 dX9_readRules_34 ?_
          refine b_bipush (pc := 37) (nI 8) dX9_readRules_37 (by decide) ?_
          refine b_icmp_ne (pc := 39) 48 dX9_readRules_39 (by decide) (fun c39 => ?_) (fun c39 => ?_)
          rotate_left -- leaf 1: at 48
          refine b_aloadN (pc := 42) 0 dX9_readRules_42 rfl rfl ?_
          refine b_iconst (pc := 43) (nI 3) dX9_readRules_43 (by decide) ?_
          refine call_X9_fails (pc := 44) k541 (by decide) ⟨Nat.le_of_ble_eq_true rfl, Nat.le_of_ble_eq_true rfl⟩ (Nat.le_of_ble_eq_true rfl) dX9_readRules_44 ?_
          refine ⟨_, rfl, ?_⟩
          refine b_zret (pc := 47) rfl ?_ dX9_readRules_47 ⟨Nat.le_of_ble_eq_true rfl, Nat.le_of_ble_eq_true rfl⟩ ?_
          rotate_left -- leaf 2: bool at 47
          rotate_left -- leaf 3: return at 47
          refine b_aloadN (pc := 21) 0 dX9_readRules_21 rfl rfl ?_
          refine gf9_5 (pc := 22) k190 dX9_readRules_22 ?_
          refine b_bipush (pc := 25) (nI 120) dX9_readRules_25 (by decide) ?_
          refine b_icmp_ne (pc := 27) 81 dX9_readRules_27 (by decide) (fun c27 => ?_) (fun c27 => ?_)
          rotate_left -- leaf 4: at 81
          refine b_aloadN (pc := 30) 0 dX9_readRules_30 rfl rfl ?_
          refine gf9_0 (pc := 31) 14 rfl k183 dX9_readRules_31 ?_
          refine gf5_7 (pc := 34) k158 dX9_readRules_34 ?_
          refine b_bipush (pc := 37) (nI 8) dX9_readRules_37 (by decide) ?_
          refine b_icmp_ne (pc := 39) 48 dX9_readRules_39 (by decide) (fun c39 => ?_) (fun c39 => ?_)
          rotate_left -- leaf 5: at 48
          refine b_aloadN (pc := 42) 0 dX9_readRules_42 rfl rfl ?_
          refine b_iconst (pc := 43) (nI 3) dX9_readRules_43 (by decide) ?_
          refine call_X9_fails (pc := 44) k541 (by decide) ⟨Nat.le_of_ble_eq_true rfl, Nat.le_of_ble_eq_true rfl⟩ (Nat.le_of_ble_eq_true rfl) dX9_readRules_44 ?_
          refine ⟨_, rfl, ?_⟩
          refine b_zret (pc := 47) rfl ?_ dX9_readRules_47 ⟨Nat.le_of_ble_eq_true rfl, Nat.le_of_ble_eq_true rfl⟩ ?_
          rotate_left -- leaf 6: bool at 47
          rotate_left -- leaf 7: return at 47
          -- leaves: 0 at 81; 1 at 48; 2 bool at 47; 3 return at 47; 4 at 81; 5 at 48; 6 bool at 47; 7 return at 47
          · rw [n_lt (by omega) (by omega)] at c9; omega
          · rw [hL.1.2.2.1, h8] at c39
            exact absurd rfl c39
          · exact Or.inl rfl
          · exact er _ 3 p hE (((wd hF).m0 (by simp)).m0 (by simp)) (ErR.put st.1)
          · rw [st.2.2.1, mI_ne (by omega) _ sl] at c18
            exact absurd q9 c18
          · rw [hL.1.2.2.1, h8] at c39
            exact absurd rfl c39
          · exact Or.inl rfl
          · exact er _ 3 p hE (((wd hF).m0 (by simp)).m0 (by simp)) (ErR.put st.1)
        · rw [if_neg h8] at hE
          refine b_iloadN (pc := 6) 1 dX9_readRules_6 rfl rfl ?_
          refine b_bipush (pc := 7) (nI 8) dX9_readRules_7 (by decide) ?_
          refine b_icmp_gt (pc := 9) 81 dX9_readRules_9 (by decide) (fun c9 => ?_) (fun c9 => ?_)
          rotate_left -- leaf 0: at 81
          refine b_aloadN (pc := 12) 0 dX9_readRules_12 rfl rfl ?_
          refine gf9_5 (pc := 13) k190 dX9_readRules_13 ?_
          refine b_bipush (pc := 16) (nI 109) dX9_readRules_16 (by decide) ?_
          refine b_icmp_eq (pc := 18) 30 dX9_readRules_18 (by decide) (fun c18 => ?_) (fun c18 => ?_)
          refine b_aloadN (pc := 30) 0 dX9_readRules_30 rfl rfl ?_
          refine gf9_0 (pc := 31) 14 rfl k183 dX9_readRules_31 ?_
          refine gf5_7 (pc := 34) k158 dX9_readRules_34 ?_
          refine b_bipush (pc := 37) (nI 8) dX9_readRules_37 (by decide) ?_
          refine b_icmp_ne (pc := 39) 48 dX9_readRules_39 (by decide) (fun c39 => ?_) (fun c39 => ?_)
          refine b_aloadN (pc := 48) 0 dX9_readRules_48 rfl rfl ?_
          refine b_aloadN (pc := 49) 0 dX9_readRules_49 rfl rfl ?_
          refine gf9_5 (pc := 50) k190 dX9_readRules_50 ?_
          refine b_bipush (pc := 53) (nI 109) dX9_readRules_53 (by decide) ?_
          refine b_icmp_ne (pc := 55) 62 dX9_readRules_55 (by decide) (fun c55 => ?_) (fun c55 => ?_)
          refine b_iconst (pc := 62) (nI 1) dX9_readRules_62 (by decide) ?_
          refine call_X9_readRule (pc := 63) k553 (by decide) ⟨Nat.le_of_ble_eq_true rfl, Nat.le_of_ble_eq_true rfl⟩ (Nat.le_of_ble_eq_true rfl) dX9_readRules_63 ?_
          refine ⟨_, rfl, T, n, G, _, bhdN T n p, hTM, hp, by omega, hL, st.2.1, hbl.2, rfl, by decide, fun b63 m63 tp63 r63 => ?_⟩
          rotate_left -- leaf 1: at 66
          refine b_iconst (pc := 58) (nI 0) dX9_readRules_58 (by decide) ?_
          refine b_goto (pc := 59) 63 dX9_readRules_59 (by decide) ?_
          refine call_X9_readRule (pc := 63) k553 (by decide) ⟨Nat.le_of_ble_eq_true rfl, Nat.le_of_ble_eq_true rfl⟩ (Nat.le_of_ble_eq_true rfl) dX9_readRules_63 ?_
          refine ⟨_, rfl, T, n, G, _, bhdN T n p, hTM, hp, by omega, hL, st.2.1, hbl.2, rfl, by decide, fun b63 m63 tp63 r63 => ?_⟩
          rotate_left -- leaf 2: at 66
          refine b_aloadN (pc := 42) 0 dX9_readRules_42 rfl rfl ?_
          refine b_iconst (pc := 43) (nI 3) dX9_readRules_43 (by decide) ?_
          refine call_X9_fails (pc := 44) k541 (by decide) ⟨Nat.le_of_ble_eq_true rfl, Nat.le_of_ble_eq_true rfl⟩ (Nat.le_of_ble_eq_true rfl) dX9_readRules_44 ?_
          refine ⟨_, rfl, ?_⟩
          refine b_zret (pc := 47) rfl ?_ dX9_readRules_47 ⟨Nat.le_of_ble_eq_true rfl, Nat.le_of_ble_eq_true rfl⟩ ?_
          rotate_left -- leaf 3: bool at 47
          rotate_left -- leaf 4: return at 47
          refine b_aloadN (pc := 21) 0 dX9_readRules_21 rfl rfl ?_
          refine gf9_5 (pc := 22) k190 dX9_readRules_22 ?_
          refine b_bipush (pc := 25) (nI 120) dX9_readRules_25 (by decide) ?_
          refine b_icmp_ne (pc := 27) 81 dX9_readRules_27 (by decide) (fun c27 => ?_) (fun c27 => ?_)
          rotate_left -- leaf 5: at 81
          refine b_aloadN (pc := 30) 0 dX9_readRules_30 rfl rfl ?_
          refine gf9_0 (pc := 31) 14 rfl k183 dX9_readRules_31 ?_
          refine gf5_7 (pc := 34) k158 dX9_readRules_34 ?_
          refine b_bipush (pc := 37) (nI 8) dX9_readRules_37 (by decide) ?_
          refine b_icmp_ne (pc := 39) 48 dX9_readRules_39 (by decide) (fun c39 => ?_) (fun c39 => ?_)
          refine b_aloadN (pc := 48) 0 dX9_readRules_48 rfl rfl ?_
          refine b_aloadN (pc := 49) 0 dX9_readRules_49 rfl rfl ?_
          refine gf9_5 (pc := 50) k190 dX9_readRules_50 ?_
          refine b_bipush (pc := 53) (nI 109) dX9_readRules_53 (by decide) ?_
          refine b_icmp_ne (pc := 55) 62 dX9_readRules_55 (by decide) (fun c55 => ?_) (fun c55 => ?_)
          refine b_iconst (pc := 62) (nI 1) dX9_readRules_62 (by decide) ?_
          refine call_X9_readRule (pc := 63) k553 (by decide) ⟨Nat.le_of_ble_eq_true rfl, Nat.le_of_ble_eq_true rfl⟩ (Nat.le_of_ble_eq_true rfl) dX9_readRules_63 ?_
          refine ⟨_, rfl, T, n, G, _, bhdN T n p, hTM, hp, by omega, hL, st.2.1, hbl.2, rfl, by decide, fun b63 m63 tp63 r63 => ?_⟩
          rotate_left -- leaf 6: at 66
          refine b_iconst (pc := 58) (nI 0) dX9_readRules_58 (by decide) ?_
          refine b_goto (pc := 59) 63 dX9_readRules_59 (by decide) ?_
          refine call_X9_readRule (pc := 63) k553 (by decide) ⟨Nat.le_of_ble_eq_true rfl, Nat.le_of_ble_eq_true rfl⟩ (Nat.le_of_ble_eq_true rfl) dX9_readRules_63 ?_
          refine ⟨_, rfl, T, n, G, _, bhdN T n p, hTM, hp, by omega, hL, st.2.1, hbl.2, rfl, by decide, fun b63 m63 tp63 r63 => ?_⟩
          rotate_left -- leaf 7: at 66
          refine b_aloadN (pc := 42) 0 dX9_readRules_42 rfl rfl ?_
          refine b_iconst (pc := 43) (nI 3) dX9_readRules_43 (by decide) ?_
          refine call_X9_fails (pc := 44) k541 (by decide) ⟨Nat.le_of_ble_eq_true rfl, Nat.le_of_ble_eq_true rfl⟩ (Nat.le_of_ble_eq_true rfl) dX9_readRules_44 ?_
          refine ⟨_, rfl, ?_⟩
          refine b_zret (pc := 47) rfl ?_ dX9_readRules_47 ⟨Nat.le_of_ble_eq_true rfl, Nat.le_of_ble_eq_true rfl⟩ ?_
          rotate_left -- leaf 8: bool at 47
          rotate_left -- leaf 9: return at 47
          -- leaves: 0 at 81; 1 at 66; 2 at 66; 3 bool at 47; 4 return at 47; 5 at 81; 6 at 66; 7 at 66; 8 bool at 47; 9 return at 47
          · rw [n_lt (by omega) (by omega)] at c9; omega
          · rw [st.2.2.1, mI_ne (by omega) _ sl] at c55
            exact absurd q9 c55
          · exact s66 0 m63 b63 hE (by omega) (by omega) ((wd hF).tr tp63) r63
          · exact Or.inl rfl
          · rw [hL.1.2.2.1, n_eq (by omega) (by omega)] at c39
            exact absurd c39 h8
          · rw [st.2.2.1, mI_ne (by omega) _ sl] at c18
            exact absurd q9 c18
          · rw [st.2.2.1, mI_ne (by omega) _ sl] at c18
            exact absurd q9 c18
          · exact s66 0 m63 b63 hE (by omega) (by omega) ((wd hF).tr tp63) r63
          · exact Or.inl rfl
          · rw [hL.1.2.2.1, n_eq (by omega) (by omega)] at c39
            exact absurd c39 h8
      · by_cases q20 : symO T n p = some 120
        · have u : rulesP T n (e + 1) G p = if G 3 = 8 then .error (3, p) else bnd (ruleP T n G 1 (bhdN T n p)) fun x => rulesP T n e x.1 x.2 := by
            show (if symO T n p = some 109 ∨ symO T n p = some 120 then _ else _) = _
            rw [if_pos (Or.inr q20), if_neg q9]
          rw [u] at hE
          by_cases h8 : G 3 = 8
          · rw [if_pos h8] at hE
            refine b_iloadN (pc := 6) 1 dX9_readRules_6 rfl rfl ?_
            refine b_bipush (pc := 7) (nI 8) dX9_readRules_7 (by decide) ?_
            refine b_icmp_gt (pc := 9) 81 dX9_readRules_9 (by decide) (fun c9 => ?_) (fun c9 => ?_)
            rotate_left -- leaf 0: at 81
            refine b_aloadN (pc := 12) 0 dX9_readRules_12 rfl rfl ?_
            refine gf9_5 (pc := 13) k190 dX9_readRules_13 ?_
            refine b_bipush (pc := 16) (nI 109) dX9_readRules_16 (by decide) ?_
            refine b_icmp_eq (pc := 18) 30 dX9_readRules_18 (by decide) (fun c18 => ?_) (fun c18 => ?_)
            refine b_aloadN (pc := 30) 0 dX9_readRules_30 rfl rfl ?_
            refine gf9_0 (pc := 31) 14 rfl k183 dX9_readRules_31 ?_
            refine gf5_7 (pc := 34) k158 dX9_readRules_34 ?_
            refine b_bipush (pc := 37) (nI 8) dX9_readRules_37 (by decide) ?_
            refine b_icmp_ne (pc := 39) 48 dX9_readRules_39 (by decide) (fun c39 => ?_) (fun c39 => ?_)
            rotate_left -- leaf 1: at 48
            refine b_aloadN (pc := 42) 0 dX9_readRules_42 rfl rfl ?_
            refine b_iconst (pc := 43) (nI 3) dX9_readRules_43 (by decide) ?_
            refine call_X9_fails (pc := 44) k541 (by decide) ⟨Nat.le_of_ble_eq_true rfl, Nat.le_of_ble_eq_true rfl⟩ (Nat.le_of_ble_eq_true rfl) dX9_readRules_44 ?_
            refine ⟨_, rfl, ?_⟩
            refine b_zret (pc := 47) rfl ?_ dX9_readRules_47 ⟨Nat.le_of_ble_eq_true rfl, Nat.le_of_ble_eq_true rfl⟩ ?_
            rotate_left -- leaf 2: bool at 47
            rotate_left -- leaf 3: return at 47
            refine b_aloadN (pc := 21) 0 dX9_readRules_21 rfl rfl ?_
            refine gf9_5 (pc := 22) k190 dX9_readRules_22 ?_
            refine b_bipush (pc := 25) (nI 120) dX9_readRules_25 (by decide) ?_
            refine b_icmp_ne (pc := 27) 81 dX9_readRules_27 (by decide) (fun c27 => ?_) (fun c27 => ?_)
            rotate_left -- leaf 4: at 81
            refine b_aloadN (pc := 30) 0 dX9_readRules_30 rfl rfl ?_
            refine gf9_0 (pc := 31) 14 rfl k183 dX9_readRules_31 ?_
            refine gf5_7 (pc := 34) k158 dX9_readRules_34 ?_
            refine b_bipush (pc := 37) (nI 8) dX9_readRules_37 (by decide) ?_
            refine b_icmp_ne (pc := 39) 48 dX9_readRules_39 (by decide) (fun c39 => ?_) (fun c39 => ?_)
            rotate_left -- leaf 5: at 48
            refine b_aloadN (pc := 42) 0 dX9_readRules_42 rfl rfl ?_
            refine b_iconst (pc := 43) (nI 3) dX9_readRules_43 (by decide) ?_
            refine call_X9_fails (pc := 44) k541 (by decide) ⟨Nat.le_of_ble_eq_true rfl, Nat.le_of_ble_eq_true rfl⟩ (Nat.le_of_ble_eq_true rfl) dX9_readRules_44 ?_
            refine ⟨_, rfl, ?_⟩
            refine b_zret (pc := 47) rfl ?_ dX9_readRules_47 ⟨Nat.le_of_ble_eq_true rfl, Nat.le_of_ble_eq_true rfl⟩ ?_
            rotate_left -- leaf 6: bool at 47
            rotate_left -- leaf 7: return at 47
            -- leaves: 0 at 81; 1 at 48; 2 bool at 47; 3 return at 47; 4 at 81; 5 at 48; 6 bool at 47; 7 return at 47
            · rw [n_lt (by omega) (by omega)] at c9; omega
            · rw [hL.1.2.2.1, h8] at c39
              exact absurd rfl c39
            · exact Or.inl rfl
            · exact er _ 3 p hE (((wd hF).m0 (by simp)).m0 (by simp)) (ErR.put st.1)
            · rw [st.2.2.1, mI_ne (by omega) _ sl] at c27
              exact absurd q20 c27
            · rw [hL.1.2.2.1, h8] at c39
              exact absurd rfl c39
            · exact Or.inl rfl
            · exact er _ 3 p hE (((wd hF).m0 (by simp)).m0 (by simp)) (ErR.put st.1)
          · rw [if_neg h8] at hE
            refine b_iloadN (pc := 6) 1 dX9_readRules_6 rfl rfl ?_
            refine b_bipush (pc := 7) (nI 8) dX9_readRules_7 (by decide) ?_
            refine b_icmp_gt (pc := 9) 81 dX9_readRules_9 (by decide) (fun c9 => ?_) (fun c9 => ?_)
            rotate_left -- leaf 0: at 81
            refine b_aloadN (pc := 12) 0 dX9_readRules_12 rfl rfl ?_
            refine gf9_5 (pc := 13) k190 dX9_readRules_13 ?_
            refine b_bipush (pc := 16) (nI 109) dX9_readRules_16 (by decide) ?_
            refine b_icmp_eq (pc := 18) 30 dX9_readRules_18 (by decide) (fun c18 => ?_) (fun c18 => ?_)
            refine b_aloadN (pc := 30) 0 dX9_readRules_30 rfl rfl ?_
            refine gf9_0 (pc := 31) 14 rfl k183 dX9_readRules_31 ?_
            refine gf5_7 (pc := 34) k158 dX9_readRules_34 ?_
            refine b_bipush (pc := 37) (nI 8) dX9_readRules_37 (by decide) ?_
            refine b_icmp_ne (pc := 39) 48 dX9_readRules_39 (by decide) (fun c39 => ?_) (fun c39 => ?_)
            refine b_aloadN (pc := 48) 0 dX9_readRules_48 rfl rfl ?_
            refine b_aloadN (pc := 49) 0 dX9_readRules_49 rfl rfl ?_
            refine gf9_5 (pc := 50) k190 dX9_readRules_50 ?_
            refine b_bipush (pc := 53) (nI 109) dX9_readRules_53 (by decide) ?_
            refine b_icmp_ne (pc := 55) 62 dX9_readRules_55 (by decide) (fun c55 => ?_) (fun c55 => ?_)
            refine b_iconst (pc := 62) (nI 1) dX9_readRules_62 (by decide) ?_
            refine call_X9_readRule (pc := 63) k553 (by decide) ⟨Nat.le_of_ble_eq_true rfl, Nat.le_of_ble_eq_true rfl⟩ (Nat.le_of_ble_eq_true rfl) dX9_readRules_63 ?_
            refine ⟨_, rfl, T, n, G, _, bhdN T n p, hTM, hp, by omega, hL, st.2.1, hbl.2, rfl, by decide, fun b63 m63 tp63 r63 => ?_⟩
            rotate_left -- leaf 1: at 66
            refine b_iconst (pc := 58) (nI 0) dX9_readRules_58 (by decide) ?_
            refine b_goto (pc := 59) 63 dX9_readRules_59 (by decide) ?_
            refine call_X9_readRule (pc := 63) k553 (by decide) ⟨Nat.le_of_ble_eq_true rfl, Nat.le_of_ble_eq_true rfl⟩ (Nat.le_of_ble_eq_true rfl) dX9_readRules_63 ?_
            refine ⟨_, rfl, T, n, G, _, bhdN T n p, hTM, hp, by omega, hL, st.2.1, hbl.2, rfl, by decide, fun b63 m63 tp63 r63 => ?_⟩
            rotate_left -- leaf 2: at 66
            refine b_aloadN (pc := 42) 0 dX9_readRules_42 rfl rfl ?_
            refine b_iconst (pc := 43) (nI 3) dX9_readRules_43 (by decide) ?_
            refine call_X9_fails (pc := 44) k541 (by decide) ⟨Nat.le_of_ble_eq_true rfl, Nat.le_of_ble_eq_true rfl⟩ (Nat.le_of_ble_eq_true rfl) dX9_readRules_44 ?_
            refine ⟨_, rfl, ?_⟩
            refine b_zret (pc := 47) rfl ?_ dX9_readRules_47 ⟨Nat.le_of_ble_eq_true rfl, Nat.le_of_ble_eq_true rfl⟩ ?_
            rotate_left -- leaf 3: bool at 47
            rotate_left -- leaf 4: return at 47
            refine b_aloadN (pc := 21) 0 dX9_readRules_21 rfl rfl ?_
            refine gf9_5 (pc := 22) k190 dX9_readRules_22 ?_
            refine b_bipush (pc := 25) (nI 120) dX9_readRules_25 (by decide) ?_
            refine b_icmp_ne (pc := 27) 81 dX9_readRules_27 (by decide) (fun c27 => ?_) (fun c27 => ?_)
            rotate_left -- leaf 5: at 81
            refine b_aloadN (pc := 30) 0 dX9_readRules_30 rfl rfl ?_
            refine gf9_0 (pc := 31) 14 rfl k183 dX9_readRules_31 ?_
            refine gf5_7 (pc := 34) k158 dX9_readRules_34 ?_
            refine b_bipush (pc := 37) (nI 8) dX9_readRules_37 (by decide) ?_
            refine b_icmp_ne (pc := 39) 48 dX9_readRules_39 (by decide) (fun c39 => ?_) (fun c39 => ?_)
            refine b_aloadN (pc := 48) 0 dX9_readRules_48 rfl rfl ?_
            refine b_aloadN (pc := 49) 0 dX9_readRules_49 rfl rfl ?_
            refine gf9_5 (pc := 50) k190 dX9_readRules_50 ?_
            refine b_bipush (pc := 53) (nI 109) dX9_readRules_53 (by decide) ?_
            refine b_icmp_ne (pc := 55) 62 dX9_readRules_55 (by decide) (fun c55 => ?_) (fun c55 => ?_)
            refine b_iconst (pc := 62) (nI 1) dX9_readRules_62 (by decide) ?_
            refine call_X9_readRule (pc := 63) k553 (by decide) ⟨Nat.le_of_ble_eq_true rfl, Nat.le_of_ble_eq_true rfl⟩ (Nat.le_of_ble_eq_true rfl) dX9_readRules_63 ?_
            refine ⟨_, rfl, T, n, G, _, bhdN T n p, hTM, hp, by omega, hL, st.2.1, hbl.2, rfl, by decide, fun b63 m63 tp63 r63 => ?_⟩
            rotate_left -- leaf 6: at 66
            refine b_iconst (pc := 58) (nI 0) dX9_readRules_58 (by decide) ?_
            refine b_goto (pc := 59) 63 dX9_readRules_59 (by decide) ?_
            refine call_X9_readRule (pc := 63) k553 (by decide) ⟨Nat.le_of_ble_eq_true rfl, Nat.le_of_ble_eq_true rfl⟩ (Nat.le_of_ble_eq_true rfl) dX9_readRules_63 ?_
            refine ⟨_, rfl, T, n, G, _, bhdN T n p, hTM, hp, by omega, hL, st.2.1, hbl.2, rfl, by decide, fun b63 m63 tp63 r63 => ?_⟩
            rotate_left -- leaf 7: at 66
            refine b_aloadN (pc := 42) 0 dX9_readRules_42 rfl rfl ?_
            refine b_iconst (pc := 43) (nI 3) dX9_readRules_43 (by decide) ?_
            refine call_X9_fails (pc := 44) k541 (by decide) ⟨Nat.le_of_ble_eq_true rfl, Nat.le_of_ble_eq_true rfl⟩ (Nat.le_of_ble_eq_true rfl) dX9_readRules_44 ?_
            refine ⟨_, rfl, ?_⟩
            refine b_zret (pc := 47) rfl ?_ dX9_readRules_47 ⟨Nat.le_of_ble_eq_true rfl, Nat.le_of_ble_eq_true rfl⟩ ?_
            rotate_left -- leaf 8: bool at 47
            rotate_left -- leaf 9: return at 47
            -- leaves: 0 at 81; 1 at 66; 2 at 66; 3 bool at 47; 4 return at 47; 5 at 81; 6 at 66; 7 at 66; 8 bool at 47; 9 return at 47
            · rw [n_lt (by omega) (by omega)] at c9; omega
            · rw [st.2.2.1, mI_ne (by omega) _ sl] at c18
              exact absurd c18 q9
            · rw [st.2.2.1, mI_ne (by omega) _ sl] at c18
              exact absurd c18 q9
            · exact Or.inl rfl
            · rw [hL.1.2.2.1, n_eq (by omega) (by omega)] at c39
              exact absurd c39 h8
            · rw [st.2.2.1, mI_ne (by omega) _ sl] at c27
              exact absurd q20 c27
            · exact s66 1 m63 b63 hE (by omega) (by omega) ((wd hF).tr tp63) r63
            · rw [st.2.2.1, mI_ne (by omega) _ sl] at c55
              exact absurd c55 q9
            · exact Or.inl rfl
            · rw [hL.1.2.2.1, n_eq (by omega) (by omega)] at c39
              exact absurd c39 h8
        · have u : rulesP T n (e + 1) G p = .ok (G, p) := by
            show (if symO T n p = some 109 ∨ symO T n p = some 120 then _ else _) = _
            rw [if_neg (fun z => by rcases z with z | z; exact q9 z; exact q20 z)]
          refine b_iloadN (pc := 6) 1 dX9_readRules_6 rfl rfl ?_
          refine b_bipush (pc := 7) (nI 8) dX9_readRules_7 (by decide) ?_
          refine b_icmp_gt (pc := 9) 81 dX9_readRules_9 (by decide) (fun c9 => ?_) (fun c9 => ?_)
          refine b_iconst (pc := 81) (nI 1) dX9_readRules_81 (by decide) ?_
          refine b_zret (pc := 82) rfl ?_ dX9_readRules_82 ⟨Nat.le_of_ble_eq_true rfl, Nat.le_of_ble_eq_true rfl⟩ ?_
          rotate_left -- leaf 0: bool at 82
          rotate_left -- leaf 1: return at 82
          refine b_aloadN (pc := 12) 0 dX9_readRules_12 rfl rfl ?_
          refine gf9_5 (pc := 13) k190 dX9_readRules_13 ?_
          refine b_bipush (pc := 16) (nI 109) dX9_readRules_16 (by decide) ?_
          refine b_icmp_eq (pc := 18) 30 dX9_readRules_18 (by decide) (fun c18 => ?_) (fun c18 => ?_)
          rotate_left -- leaf 2: at 30
          refine b_aloadN (pc := 21) 0 dX9_readRules_21 rfl rfl ?_
          refine gf9_5 (pc := 22) k190 dX9_readRules_22 ?_
          refine b_bipush (pc := 25) (nI 120) dX9_readRules_25 (by decide) ?_
          refine b_icmp_ne (pc := 27) 81 dX9_readRules_27 (by decide) (fun c27 => ?_) (fun c27 => ?_)
          refine b_iconst (pc := 81) (nI 1) dX9_readRules_81 (by decide) ?_
          refine b_zret (pc := 82) rfl ?_ dX9_readRules_82 ⟨Nat.le_of_ble_eq_true rfl, Nat.le_of_ble_eq_true rfl⟩ ?_
          rotate_left -- leaf 3: bool at 82
          rotate_left -- leaf 4: return at 82
          rotate_left -- leaf 5: at 30
          -- leaves: 0 bool at 82; 1 return at 82; 2 at 30; 3 bool at 82; 4 return at 82; 5 at 30
          · exact Or.inr rfl
          · exact h 1 M (wd hF) (Or.inl ⟨rfl, hF, G, p, hE.trans u, hpn, hp, hz, h4z, hL, st⟩)
          · rw [st.2.2.1, mI_ne (by omega) _ sl] at c18
            exact absurd c18 q9
          · exact Or.inr rfl
          · exact h 1 M (wd hF) (Or.inl ⟨rfl, hF, G, p, hE.trans u, hpn, hp, hz, h4z, hL, st⟩)
          · rw [st.2.2.1, mI_ne (by omega) _ sl] at c27
            exact absurd c27 q20
  refine b_aloadN (pc := 0) 0 dX9_readRules_0 rfl rfl ?_
  refine call_X9_step (pc := 1) k533 (by decide) ⟨Nat.le_of_ble_eq_true rfl, Nat.le_of_ble_eq_true rfl⟩ (Nat.le_of_ble_eq_true rfl) dX9_readRules_1 ?_
  refine ⟨rfl, T, n, p0, hT, h4, hpn0, fun m1 tp1 st1 => ?_⟩
  refine b_iconst (pc := 4) (nI 0) dX9_readRules_4 (by decide) ?_
  refine siN1 (pc := 5) rfl notL_r (by decide) dX9_readRules_5 ?_
  rotate_left -- leaf 0: at 6
  -- leaves: 0 at 6
  have t := loop 9 m1 G0 p0 (by omega) rfl (up3 (Tp.rf _ _ m) tp1) hp0 hz0 h40 (hG0.tp tp1) st1 hpn0
  rw [h30] at t
  exact t
theorem call_X9_readRules {E : ME} {Φ : Option AV → AM → Prop} {pc : Nat} {L : List (Option AV)} {st : List AV} {m : AM} {a : Nat × Nat} {idx : Nat} {i : Nat} (hl : Cond.methodLink E.2.1 idx yX9_readRules ∈ TB) (hdep : 5 + 1 ≤ E.2.2.2.2.2.2) (hroom : a.1 + 0 ≤ E.2.2.2.2.1 ∧ a.2 + 0 ≤ E.2.2.2.2.2.1) (hsr : st.length ≤ 4) (hd : decode E.1 pc = .ok (.invokevirtual idx, 3)) (hsp : Sp_X9_readRules [vr 9 i] m (fun r m2 => B E Φ (pc + 3) L (r.toList ++ st) m2 a)) : B E Φ pc L (vr 9 i :: st) m a := b_callV S_X9_readRules [] (RX9, TX9, 9) rfl rfl (by decide) (Or.inl hl) k551 k8 k71 k552 (show _ ∧ _ ∧ Option.map (fun d => d.parameters.length) (parseMethodDescriptor yX9_readRules.desc) = some 0 from by decide +kernel) ⟨hdep, by decide⟩ hroom hsr hd hsp
