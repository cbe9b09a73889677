/-! the law told: clear, hasRule, addRule, addPerson, kindBy -/
abbrev e_X5_clear : ME := (cX5_clear, (RX5, (1, (none, (0, (0, 1))))))
theorem dX5_clear_0 : decode cX5_clear 0 = .ok (.aload_n 0, 1) := by decide +kernel
theorem dX5_clear_1 : decode cX5_clear 1 = .ok (.iconst 0, 1) := by decide +kernel
theorem dX5_clear_2 : decode cX5_clear 2 = .ok (.putfield 24, 3) := by decide +kernel
theorem dX5_clear_5 : decode cX5_clear 5 = .ok (.aload_n 0, 1) := by decide +kernel
theorem dX5_clear_6 : decode cX5_clear 6 = .ok (.iconst 0, 1) := by decide +kernel
theorem dX5_clear_7 : decode cX5_clear 7 = .ok (.putfield 28, 3) := by decide +kernel
theorem dX5_clear_10 : decode cX5_clear 10 = .ok (.aload_n 0, 1) := by decide +kernel
theorem dX5_clear_11 : decode cX5_clear 11 = .ok (.iconst 0, 1) := by decide +kernel
theorem dX5_clear_12 : decode cX5_clear 12 = .ok (.putfield 31, 3) := by decide +kernel
theorem dX5_clear_15 : decode cX5_clear 15 = .ok (.aload_n 0, 1) := by decide +kernel
theorem dX5_clear_16 : decode cX5_clear 16 = .ok (.iconst 0, 1) := by decide +kernel
theorem dX5_clear_17 : decode cX5_clear 17 = .ok (.putfield 34, 3) := by decide +kernel
theorem dX5_clear_20 : decode cX5_clear 20 = .ok (.aload_n 0, 1) := by decide +kernel
theorem dX5_clear_21 : decode cX5_clear 21 = .ok (.iconst 0, 1) := by decide +kernel
theorem dX5_clear_22 : decode cX5_clear 22 = .ok (.putfield 37, 3) := by decide +kernel
theorem dX5_clear_25 : decode cX5_clear 25 = .ok (.return_, 1) := by decide +kernel
def Sp_X5_clear (av : List AV) (m : AM) (Φ : Option AV → AM → Prop) : Prop := av = [vr 5 14] ∧ Φ none (mset (mset (mset (mset (mset m 14 4 (nI 0)) 14 5 (nI 0)) 14 6 (nI 0)) 14 7 (nI 0)) 14 8 (nI 0))
set_option maxRecDepth 20000 in
set_option maxHeartbeats 4000000 in
theorem S_X5_clear : Snd yX5_clear e_X5_clear Sp_X5_clear := by
  refine Snd.of (by decide +kernel) rfl ?_ ?_
  · rintro av m Φ ⟨rfl, _⟩; exact Nat.le_of_ble_eq_true rfl
  rintro av m Φ ⟨rfl, h⟩ hav hty
  show B e_X5_clear Φ 0 [some (vr 5 14)] [] m (0, 0)
  refine b_aloadN (pc := 0) 0 dX5_clear_0 rfl rfl ?_
  refine b_iconst (pc := 1) (nI 0) dX5_clear_1 (by decide) ?_
  refine pf5_4 (pc := 2) k142 dX5_clear_2 ?_
  refine b_aloadN (pc := 5) 0 dX5_clear_5 rfl rfl ?_
  refine b_iconst (pc := 6) (nI 0) dX5_clear_6 (by decide) ?_
  refine pf5_5 (pc := 7) k148 dX5_clear_7 ?_
  refine b_aloadN (pc := 10) 0 dX5_clear_10 rfl rfl ?_
  refine b_iconst (pc := 11) (nI 0) dX5_clear_11 (by decide) ?_
  refine pf5_6 (pc := 12) k151 dX5_clear_12 ?_
  refine b_aloadN (pc := 15) 0 dX5_clear_15 rfl rfl ?_
  refine b_iconst (pc := 16) (nI 0) dX5_clear_16 (by decide) ?_
  refine pf5_7 (pc := 17) k156 dX5_clear_17 ?_
  refine b_aloadN (pc := 20) 0 dX5_clear_20 rfl rfl ?_
  refine b_iconst (pc := 21) (nI 0) dX5_clear_21 (by decide) ?_
  refine pf5_8 (pc := 22) k160 dX5_clear_22 ?_
  refine b_vret (pc := 25) rfl dX5_clear_25 ⟨Nat.le_of_ble_eq_true rfl, Nat.le_of_ble_eq_true rfl⟩ ?_
  rotate_left -- leaf 0: return at 25
  -- leaves: 0 return at 25
  exact h
theorem call_X5_clear {E : ME} {Φ : Option AV → AM → Prop} {pc : Nat} {L : List (Option AV)} {st : List AV} {m : AM} {a : Nat × Nat} {idx : Nat} {i : Nat} (hl : Cond.methodLink E.2.1 idx yX5_clear ∈ TB) (hdep : 1 + 1 ≤ E.2.2.2.2.2.2) (hroom : a.1 + 0 ≤ E.2.2.2.2.1 ∧ a.2 + 0 ≤ E.2.2.2.2.2.1) (hsr : st.length ≤ 4) (hd : decode E.1 pc = .ok (.invokevirtual idx, 3)) (hsp : Sp_X5_clear [vr 5 i] m (fun r m2 => B E Φ (pc + 3) L (r.toList ++ st) m2 a)) : B E Φ pc L (vr 5 i :: st) m a := b_callV S_X5_clear [] (RX5, TX5, 9) rfl rfl (by decide) (Or.inl hl) k522 k523 k72 k524 (show _ ∧ _ ∧ Option.map (fun d => d.parameters.length) (parseMethodDescriptor yX5_clear.desc) = some 0 from by decide +kernel) ⟨hdep, by decide⟩ hroom hsr hd hsp
def hasR (G : Nat → Nat) (s a b : Nat) : Nat → Bool
  | 0 => false
  | n + 1 => hasR G s a b n || (decide (G (8 + 4 * n) = s) && (decide (G (9 + 4 * n) = a) && decide (G (10 + 4 * n) = b)))
def PV (G : Nat → Nat) : Prop := (1 ≤ G 0 ∧ G 0 ≤ 6) ∧ G 1 < 2 ^ G 0 ∧ (1 ≤ G 2 ∧ G 2 ≤ 9) ∧ G 3 ≤ 8 ∧ G 4 ≤ 5 ∧ (∀ k, k < G 3 → (G (8 + 4 * k) = 0 ∨ G (8 + 4 * k) = 1) ∧ G (9 + 4 * k) < G 0 ∧ G (10 + 4 * k) < G 0) ∧ (∀ p, p < G 4 → 1 ≤ G (40 + 2 * p) ∧ G (40 + 2 * p) ≤ 5)
def PZ (G : Nat → Nat) : Prop := (G 5 = 0 ∧ G 6 = 0 ∧ G 7 = 0) ∧ (∀ k, k < 8 → G (11 + 4 * k) = 0) ∧ ∀ p, p < 5 → G (41 + 2 * p) = 0
def addR (G : Nat → Nat) (s a b : Nat) : Nat → Nat := upC (upC (upC (upC G (8 + 4 * G 3) s) (9 + 4 * G 3) a) (10 + 4 * G 3) b) 3 (G 3 + 1)
def addQ (G : Nat → Nat) (q : Nat) : Nat → Nat := upC (upC G (40 + 2 * G 4) q) 4 (G 4 + 1)
theorem addR_at {G : Nat → Nat} {s a b : Nat} (k : Nat) : addR G s a b k = if k = 3 then G 3 + 1 else if k = 10 + 4 * G 3 then b else if k = 9 + 4 * G 3 then a else if k = 8 + 4 * G 3 then s else G k := rfl
theorem addQ_at {G : Nat → Nat} {q : Nat} (k : Nat) : addQ G q k = if k = 4 then G 4 + 1 else if k = 40 + 2 * G 4 then q else G k := rfl
theorem PV.rul {G : Nat → Nat} (h : PV G) (h3 : G 3 < 8) {s a b : Nat} (hs : s ≤ 1) (ha : a < G 0) (hb : b < G 0) : PV (addR G s a b) := by
  obtain ⟨p1, p2, p3, p4, p5, p6, p7⟩ := h
  have o : ∀ k, k ≠ 3 → (k < 8 ∨ 40 ≤ k) → addR G s a b k = G k := fun k h1 h2 => by
    rw [addR_at, if_neg h1, if_neg (by omega), if_neg (by omega), if_neg (by omega)]
  have e3 : addR G s a b 3 = G 3 + 1 := by rw [addR_at, if_pos rfl]
  unfold PV
  rw [o 0 (by omega) (by omega), o 1 (by omega) (by omega), o 2 (by omega) (by omega), o 4 (by omega) (by omega), e3]
  refine ⟨p1, p2, p3, by omega, p5, fun k hk => ?_, fun p hp => ?_⟩
  · rw [addR_at, addR_at, addR_at, if_neg (by omega), if_neg (by omega), if_neg (by omega), if_neg (show ¬ 9 + 4 * k = 3 by omega), if_neg (show ¬ 9 + 4 * k = 10 + 4 * G 3 by omega), if_neg (show ¬ 10 + 4 * k = 3 by omega)]
    by_cases q : k = G 3
    · subst q
      rw [if_pos rfl, if_pos rfl, if_pos rfl]
      exact ⟨by omega, ha, hb⟩
    · have t := p6 k (by omega)
      rw [if_neg (show ¬ 8 + 4 * k = 8 + 4 * G 3 by omega), if_neg (show ¬ 9 + 4 * k = 9 + 4 * G 3 by omega), if_neg (show ¬ 9 + 4 * k = 8 + 4 * G 3 by omega), if_neg (show ¬ 10 + 4 * k = 10 + 4 * G 3 by omega), if_neg (show ¬ 10 + 4 * k = 9 + 4 * G 3 by omega), if_neg (show ¬ 10 + 4 * k = 8 + 4 * G 3 by omega)]
      exact t
  · rw [o _ (by omega) (by omega)]
    exact p7 p hp
theorem PV.per {G : Nat → Nat} (h : PV G) (h4 : G 4 < 5) {q : Nat} (hq : 1 ≤ q ∧ q ≤ 5) : PV (addQ G q) := by
  obtain ⟨p1, p2, p3, p4, p5, p6, p7⟩ := h
  have o : ∀ k, k ≠ 4 → k < 40 → addQ G q k = G k := fun k h1 h2 => by
    rw [addQ_at, if_neg h1, if_neg (by omega)]
  have e4 : addQ G q 4 = G 4 + 1 := by rw [addQ_at, if_pos rfl]
  unfold PV
  rw [o 0 (by omega) (by omega), o 1 (by omega) (by omega), o 2 (by omega) (by omega), o 3 (by omega) (by omega), e4]
  refine ⟨p1, p2, p3, p4, by omega, fun k hk => ?_, fun p hp => ?_⟩
  · rw [o _ (by omega) (by omega), o _ (by omega) (by omega), o _ (by omega) (by omega)]
    exact p6 k hk
  · rw [addQ_at, if_neg (by omega)]
    by_cases z : p = G 4
    · rw [if_pos (by omega)]; exact hq
    · rw [if_neg (by omega)]; exact p7 p (by omega)
theorem PZ.rul {G : Nat → Nat} (h : PZ G) (h3 : G 3 < 8) (s a b : Nat) : PZ (addR G s a b) := by
  obtain ⟨⟨a1, a2, a3⟩, p2, p3⟩ := h
  have o : ∀ k, k ≠ 3 → (k < 8 ∨ 40 ≤ k) → addR G s a b k = G k := fun k h1 h2 => by
    rw [addR_at, if_neg h1, if_neg (by omega), if_neg (by omega), if_neg (by omega)]
  refine ⟨⟨(o 5 (by omega) (by omega)).trans a1, (o 6 (by omega) (by omega)).trans a2, (o 7 (by omega) (by omega)).trans a3⟩, fun k hk => ?_, fun p hp => (o _ (by omega) (by omega)).trans (p3 p hp)⟩
  rw [addR_at, if_neg (by omega), if_neg (by omega), if_neg (by omega), if_neg (by omega)]
  exact p2 k hk
theorem PZ.per {G : Nat → Nat} (h : PZ G) (h4 : G 4 < 5) (q : Nat) : PZ (addQ G q) := by
  obtain ⟨⟨a1, a2, a3⟩, p2, p3⟩ := h
  have o : ∀ k, k ≠ 4 → k ≠ 40 + 2 * G 4 → addQ G q k = G k := fun k h1 h2 => by
    rw [addQ_at, if_neg h1, if_neg h2]
  exact ⟨⟨(o 5 (by omega) (by omega)).trans a1, (o 6 (by omega) (by omega)).trans a2, (o 7 (by omega) (by omega)).trans a3⟩, fun k hk => (o _ (by omega) (by omega)).trans (p2 k hk), fun p hp => (o _ (by omega) (by omega)).trans (p3 p hp)⟩
abbrev e_X5_hasRule : ME := (cX5_hasRule, (RX5, (5, ((some .boolean), (0, (0, 1))))))
theorem dX5_hasRule_0 : decode cX5_hasRule 0 = .ok (.iconst 0, 1) := by decide +kernel
theorem dX5_hasRule_1 : decode cX5_hasRule 1 = .ok (.istore 4, 2) := by decide +kernel
theorem dX5_hasRule_3 : decode cX5_hasRule 3 = .ok (.iload 4, 2) := by decide +kernel
theorem dX5_hasRule_5 : decode cX5_hasRule 5 = .ok (.aload_n 0, 1) := by decide +kernel
theorem dX5_hasRule_6 : decode cX5_hasRule 6 = .ok (.getfield 34, 3) := by decide +kernel
theorem dX5_hasRule_9 : decode cX5_hasRule 9 = .ok (.if_icmp .ge 44, 3) := by decide +kernel
theorem dX5_hasRule_12 : decode cX5_hasRule 12 = .ok (.aload_n 0, 1) := by decide +kernel
theorem dX5_hasRule_13 : decode cX5_hasRule 13 = .ok (.getfield 9, 3) := by decide +kernel
theorem dX5_hasRule_16 : decode cX5_hasRule 16 = .ok (.iload 4, 2) := by decide +kernel
theorem dX5_hasRule_18 : decode cX5_hasRule 18 = .ok (.iaload, 1) := by decide +kernel
theorem dX5_hasRule_19 : decode cX5_hasRule 19 = .ok (.iload_n 1, 1) := by decide +kernel
theorem dX5_hasRule_20 : decode cX5_hasRule 20 = .ok (.if_icmp .ne 27, 3) := by decide +kernel
theorem dX5_hasRule_23 : decode cX5_hasRule 23 = .ok (.aload_n 0, 1) := by decide +kernel
theorem dX5_hasRule_24 : decode cX5_hasRule 24 = .ok (.getfield 15, 3) := by decide +kernel
theorem dX5_hasRule_27 : decode cX5_hasRule 27 = .ok (.iload 4, 2) := by decide +kernel
theorem dX5_hasRule_29 : decode cX5_hasRule 29 = .ok (.iaload, 1) := by decide +kernel
theorem dX5_hasRule_30 : decode cX5_hasRule 30 = .ok (.iload_n 2, 1) := by decide +kernel
theorem dX5_hasRule_31 : decode cX5_hasRule 31 = .ok (.if_icmp .ne 16, 3) := by decide +kernel
theorem dX5_hasRule_34 : decode cX5_hasRule 34 = .ok (.aload_n 0, 1) := by decide +kernel
theorem dX5_hasRule_35 : decode cX5_hasRule 35 = .ok (.getfield 18, 3) := by decide +kernel
theorem dX5_hasRule_38 : decode cX5_hasRule 38 = .ok (.iload 4, 2) := by decide +kernel
theorem dX5_hasRule_40 : decode cX5_hasRule 40 = .ok (.iaload, 1) := by decide +kernel
theorem dX5_hasRule_41 : decode cX5_hasRule 41 = .ok (.iload_n 3, 1) := by decide +kernel
theorem dX5_hasRule_42 : decode cX5_hasRule 42 = .ok (.if_icmp .ne 5, 3) := by decide +kernel
theorem dX5_hasRule_45 : decode cX5_hasRule 45 = .ok (.iconst 1, 1) := by decide +kernel
theorem dX5_hasRule_46 : decode cX5_hasRule 46 = .ok (.ireturn, 1) := by decide +kernel
theorem dX5_hasRule_47 : decode cX5_hasRule 47 = .ok (.iinc 4 1, 3) := by decide +kernel
theorem dX5_hasRule_50 : decode cX5_hasRule 50 = .ok (.goto (-47), 3) := by decide +kernel
theorem dX5_hasRule_53 : decode cX5_hasRule 53 = .ok (.iconst 0, 1) := by decide +kernel
theorem dX5_hasRule_54 : decode cX5_hasRule 54 = .ok (.ireturn, 1) := by decide +kernel
def Sp_X5_hasRule (av : List AV) (m : AM) (Φ : Option AV → AM → Prop) : Prop := ∃ x y z, av = [vr 5 14, vi x, vi y, vi z] ∧ ∃ G s a b, PV G ∧ LawR m 14 G ∧ x = nI s ∧ y = nI a ∧ z = nI b ∧ s < 256 ∧ a < 256 ∧ b < 256 ∧ Φ (some (vi (nI (if hasR G s a b (G 3) = true then 1 else 0)))) m
set_option maxRecDepth 20000 in
set_option maxHeartbeats 4000000 in
theorem S_X5_hasRule : Snd yX5_hasRule e_X5_hasRule Sp_X5_hasRule := by
  refine Snd.of (by decide +kernel) rfl ?_ ?_
  · rintro av m Φ ⟨x, y, z, rfl, _⟩; exact Nat.le_of_ble_eq_true rfl
  rintro av m Φ ⟨x, y, z, rfl, G, s, a, b, hp, hL, rfl, rfl, rfl, hs, ha, hb, h⟩ hav hty
  show B e_X5_hasRule Φ 0 [some (vr 5 14), some (vi (nI s)), some (vi (nI a)), some (vi (nI b)), none] [] m (0, 0)
  have h3 := hp.2.2.2.1
  have loop : ∀ e k, G 3 + 1 ≤ k + e → k ≤ G 3 → hasR G s a b k = false → B e_X5_hasRule Φ 3 [some (vr 5 14), some (vi (nI s)), some (vi (nI a)), some (vi (nI b)), some (vi (nI k))] [] m (0, 0) := by
    intro e
    induction e with
    | zero => intro k z1 z2; omega
    | succ e ih =>
      intro k z1 z2 hk
      by_cases q : k < G 3
      · have r := hL.2.2.2.2.1 k q
        have pv := hp.2.2.2.2.2.1 k q
        have p0 := hp.1
        have yes : (G (8 + 4 * k) = s ∧ G (9 + 4 * k) = a ∧ G (10 + 4 * k) = b) → hasR G s a b (G 3) = true := by
          intro t
          have mono : ∀ n, hasR G s a b (k + 1 + n) = true := by
            intro n
            induction n with
            | zero =>
              show (hasR G s a b k || _) = true
              rw [decide_eq_true t.1, decide_eq_true t.2.1, decide_eq_true t.2.2, hk]
              rfl
            | succ n ihn =>
              show (hasR G s a b (k + 1 + n) || _) = true
              rw [ihn, Bool.true_or]
          have := mono (G 3 - (k + 1))
          rw [show k + 1 + (G 3 - (k + 1)) = G 3 by omega] at this
          exact this
        have no : ¬ (G (8 + 4 * k) = s ∧ G (9 + 4 * k) = a ∧ G (10 + 4 * k) = b) → hasR G s a b (k + 1) = false := by
          intro t
          show (hasR G s a b k || _) = false
          rw [hk, Bool.false_or]
          cases x1 : decide (G (8 + 4 * k) = s) with
          | false => rfl
          | true =>
            cases x2 : decide (G (9 + 4 * k) = a) with
            | false => rfl
            | true =>
              cases x3 : decide (G (10 + 4 * k) = b) with
              | false => rfl
              | true => exact absurd ⟨of_decide_eq_true x1, of_decide_eq_true x2, of_decide_eq_true x3⟩ t
        refine b_iloadG (pc := 3) 4 dX5_hasRule_3 rfl ?_
        refine b_aloadN (pc := 5) 0 dX5_hasRule_5 rfl rfl ?_
        refine gf5_7 (pc := 6) k156 dX5_hasRule_6 ?_
        refine b_icmp_ge (pc := 9) 53 dX5_hasRule_9 (by decide) (fun c9 => ?_) (fun c9 => ?_)
        rotate_left -- leaf 0: at 53
        refine b_aloadN (pc := 12) 0 dX5_hasRule_12 rfl rfl ?_
        refine gf5_0 (pc := 13) 15 rfl k127 dX5_hasRule_13 ?_
        refine b_iloadG (pc := 16) 4 dX5_hasRule_16 rfl ?_
        refine b_iald (pc := 18) (by decide) ?_ dX5_hasRule_18 ?_
        rotate_left -- leaf 1: index at 18
        refine b_iloadN (pc := 19) 1 dX5_hasRule_19 rfl rfl ?_
        refine b_icmp_ne (pc := 20) 47 dX5_hasRule_20 (by decide) (fun c20 => ?_) (fun c20 => ?_)
        refine inc4 (pc := 47) notL_i (by decide) dX5_hasRule_47 ?_
        refine b_goto (pc := 50) 3 dX5_hasRule_50 (by decide) ?_
        rotate_left -- leaf 2: at 3
        refine b_aloadN (pc := 23) 0 dX5_hasRule_23 rfl rfl ?_
        refine gf5_1 (pc := 24) 16 rfl k130 dX5_hasRule_24 ?_
        refine b_iloadG (pc := 27) 4 dX5_hasRule_27 rfl ?_
        refine b_iald (pc := 29) (by decide) ?_ dX5_hasRule_29 ?_
        rotate_left -- leaf 3: index at 29
        refine b_iloadN (pc := 30) 2 dX5_hasRule_30 rfl rfl ?_
        refine b_icmp_ne (pc := 31) 47 dX5_hasRule_31 (by decide) (fun c31 => ?_) (fun c31 => ?_)
        refine inc4 (pc := 47) notL_i (by decide) dX5_hasRule_47 ?_
        refine b_goto (pc := 50) 3 dX5_hasRule_50 (by decide) ?_
        rotate_left -- leaf 4: at 3
        refine b_aloadN (pc := 34) 0 dX5_hasRule_34 rfl rfl ?_
        refine gf5_2 (pc := 35) 17 rfl k133 dX5_hasRule_35 ?_
        refine b_iloadG (pc := 38) 4 dX5_hasRule_38 rfl ?_
        refine b_iald (pc := 40) (by decide) ?_ dX5_hasRule_40 ?_
        rotate_left -- leaf 5: index at 40
        refine b_iloadN (pc := 41) 3 dX5_hasRule_41 rfl rfl ?_
        refine b_icmp_ne (pc := 42) 47 dX5_hasRule_42 (by decide) (fun c42 => ?_) (fun c42 => ?_)
        refine inc4 (pc := 47) notL_i (by decide) dX5_hasRule_47 ?_
        refine b_goto (pc := 50) 3 dX5_hasRule_50 (by decide) ?_
        rotate_left -- leaf 6: at 3
        refine b_iconst (pc := 45) (nI 1) dX5_hasRule_45 (by decide) ?_
        refine b_zret (pc := 46) rfl ?_ dX5_hasRule_46 ⟨Nat.le_of_ble_eq_true rfl, Nat.le_of_ble_eq_true rfl⟩ ?_
        rotate_left -- leaf 7: bool at 46
        rotate_left -- leaf 8: return at 46
        -- leaves: 0 at 53; 1 index at 18; 2 at 3; 3 index at 29; 4 at 3; 5 index at 40; 6 at 3; 7 bool at 46; 8 return at 46
        · rw [hL.2.2.1, n_le (by omega) (by omega)] at c9; omega
        · exact n_in (by omega) (by omega)
        · rw [n_cl (by omega), r.1, n_eq (by omega) (by omega)] at c20
          rw [n_inc]
          exact ih (k + 1) (by omega) (by omega) (no (fun t => c20 t.1))
        · exact n_in (by omega) (by omega)
        · rw [n_cl (by omega), r.2.1, n_eq (by omega) (by omega)] at c31
          rw [n_inc]
          exact ih (k + 1) (by omega) (by omega) (no (fun t => c31 t.2.1))
        · exact n_in (by omega) (by omega)
        · rw [n_cl (by omega), r.2.2, n_eq (by omega) (by omega)] at c42
          rw [n_inc]
          exact ih (k + 1) (by omega) (by omega) (no (fun t => c42 t.2.2))
        · exact Or.inr rfl
        · rw [n_cl (by omega), r.1, n_eq (by omega) (by omega)] at c20
          rw [n_cl (by omega), r.2.1, n_eq (by omega) (by omega)] at c31
          rw [n_cl (by omega), r.2.2, n_eq (by omega) (by omega)] at c42
          rw [yes ⟨c20, c31, c42⟩] at h
          exact h
      · have ek : k = G 3 := by omega
        rw [ek] at hk
        rw [hk] at h
        refine b_iloadG (pc := 3) 4 dX5_hasRule_3 rfl ?_
        refine b_aloadN (pc := 5) 0 dX5_hasRule_5 rfl rfl ?_
        refine gf5_7 (pc := 6) k156 dX5_hasRule_6 ?_
        refine b_icmp_ge (pc := 9) 53 dX5_hasRule_9 (by decide) (fun c9 => ?_) (fun c9 => ?_)
        refine b_iconst (pc := 53) (nI 0) dX5_hasRule_53 (by decide) ?_
        refine b_zret (pc := 54) rfl ?_ dX5_hasRule_54 ⟨Nat.le_of_ble_eq_true rfl, Nat.le_of_ble_eq_true rfl⟩ ?_
        rotate_left -- leaf 0: bool at 54
        rotate_left -- leaf 1: return at 54
        rotate_left -- leaf 2: at 12
        -- leaves: 0 bool at 54; 1 return at 54; 2 at 12
        · exact Or.inl rfl
        · exact h
        · rw [hL.2.2.1, n_le (by omega) (by omega)] at c9; omega
  refine b_iconst (pc := 0) (nI 0) dX5_hasRule_0 (by decide) ?_
  refine siG4 (pc := 1) notL_i (by decide) dX5_hasRule_1 ?_
  rotate_left -- leaf 0: at 3
  -- leaves: 0 at 3
  exact loop (G 3 + 1) 0 (by omega) (Nat.zero_le _) rfl
theorem call_X5_hasRule {E : ME} {Φ : Option AV → AM → Prop} {pc : Nat} {L : List (Option AV)} {st : List AV} {m : AM} {a : Nat × Nat} {idx : Nat} {x0 x1 x2 : AV} {i : Nat} (hl : Cond.methodLink E.2.1 idx yX5_hasRule ∈ TB) (hdep : 1 + 1 ≤ E.2.2.2.2.2.2) (hroom : a.1 + 0 ≤ E.2.2.2.2.1 ∧ a.2 + 0 ≤ E.2.2.2.2.2.1) (hsr : st.length ≤ 4) (hd : decode E.1 pc = .ok (.invokevirtual idx, 3)) (hsp : Sp_X5_hasRule [vr 5 i, x0, x1, x2] m (fun r m2 => B E Φ (pc + 3) L (r.toList ++ st) m2 a)) : B E Φ pc L (x2 :: x1 :: x0 :: vr 5 i :: st) m a := b_callV S_X5_hasRule [x0, x1, x2] (RX5, TX5, 9) rfl rfl (by decide) (Or.inl hl) k558 k559 k72 k560 (show _ ∧ _ ∧ Option.map (fun d => d.parameters.length) (parseMethodDescriptor yX5_hasRule.desc) = some 3 from by decide +kernel) ⟨hdep, by decide⟩ hroom hsr hd hsp
abbrev e_X5_addRule : ME := (cX5_addRule, (RX5, (4, (none, (0, (0, 1))))))
theorem dX5_addRule_0 : decode cX5_addRule 0 = .ok (.aload_n 0, 1) := by decide +kernel
theorem dX5_addRule_1 : decode cX5_addRule 1 = .ok (.getfield 9, 3) := by decide +kernel
theorem dX5_addRule_4 : decode cX5_addRule 4 = .ok (.aload_n 0, 1) := by decide +kernel
theorem dX5_addRule_5 : decode cX5_addRule 5 = .ok (.getfield 34, 3) := by decide +kernel
theorem dX5_addRule_8 : decode cX5_addRule 8 = .ok (.iload_n 1, 1) := by decide +kernel
theorem dX5_addRule_9 : decode cX5_addRule 9 = .ok (.iastore, 1) := by decide +kernel
theorem dX5_addRule_10 : decode cX5_addRule 10 = .ok (.aload_n 0, 1) := by decide +kernel
theorem dX5_addRule_11 : decode cX5_addRule 11 = .ok (.getfield 15, 3) := by decide +kernel
theorem dX5_addRule_14 : decode cX5_addRule 14 = .ok (.aload_n 0, 1) := by decide +kernel
theorem dX5_addRule_15 : decode cX5_addRule 15 = .ok (.getfield 34, 3) := by decide +kernel
theorem dX5_addRule_18 : decode cX5_addRule 18 = .ok (.iload_n 2, 1) := by decide +kernel
theorem dX5_addRule_19 : decode cX5_addRule 19 = .ok (.iastore, 1) := by decide +kernel
theorem dX5_addRule_20 : decode cX5_addRule 20 = .ok (.aload_n 0, 1) := by decide +kernel
theorem dX5_addRule_21 : decode cX5_addRule 21 = .ok (.getfield 18, 3) := by decide +kernel
theorem dX5_addRule_24 : decode cX5_addRule 24 = .ok (.aload_n 0, 1) := by decide +kernel
theorem dX5_addRule_25 : decode cX5_addRule 25 = .ok (.getfield 34, 3) := by decide +kernel
theorem dX5_addRule_28 : decode cX5_addRule 28 = .ok (.iload_n 3, 1) := by decide +kernel
theorem dX5_addRule_29 : decode cX5_addRule 29 = .ok (.iastore, 1) := by decide +kernel
theorem dX5_addRule_30 : decode cX5_addRule 30 = .ok (.aload_n 0, 1) := by decide +kernel
theorem dX5_addRule_31 : decode cX5_addRule 31 = .ok (.dup, 1) := by decide +kernel
theorem dX5_addRule_32 : decode cX5_addRule 32 = .ok (.getfield 34, 3) := by decide +kernel
theorem dX5_addRule_35 : decode cX5_addRule 35 = .ok (.iconst 1, 1) := by decide +kernel
theorem dX5_addRule_36 : decode cX5_addRule 36 = .ok (.iadd, 1) := by decide +kernel
theorem dX5_addRule_37 : decode cX5_addRule 37 = .ok (.putfield 34, 3) := by decide +kernel
theorem dX5_addRule_40 : decode cX5_addRule 40 = .ok (.return_, 1) := by decide +kernel
def Sp_X5_addRule (av : List AV) (m : AM) (Φ : Option AV → AM → Prop) : Prop := ∃ x y z, av = [vr 5 14, vi x, vi y, vi z] ∧ ∃ r, m.1 14 7 = nI r ∧ r < 8 ∧ Φ none (mset (mset (mset (mset m 15 r x) 16 r y) 17 r z) 14 7 (nI (r + 1)))
set_option maxRecDepth 20000 in
set_option maxHeartbeats 4000000 in
theorem S_X5_addRule : Snd yX5_addRule e_X5_addRule Sp_X5_addRule := by
  refine Snd.of (by decide +kernel) rfl ?_ ?_
  · rintro av m Φ ⟨x, y, z, rfl, _⟩; exact Nat.le_of_ble_eq_true rfl
  rintro av m Φ ⟨x, y, z, rfl, r, h7, hr, h⟩ hav hty
  show B e_X5_addRule Φ 0 [some (vr 5 14), some (vi x), some (vi y), some (vi z)] [] m (0, 0)
  have e1 : (mset m 15 r x).1 14 7 = nI r := by
    rw [mset_ne _ _ _ (show 14 ≠ 15 by decide)]; exact h7
  have e2 : (mset (mset m 15 r x) 16 r y).1 14 7 = nI r := by
    rw [mset_ne _ _ _ (show 14 ≠ 16 by decide)]; exact e1
  have e3 : (mset (mset (mset m 15 r x) 16 r y) 17 r z).1 14 7 = nI r := by
    rw [mset_ne _ _ _ (show 14 ≠ 17 by decide)]; exact e2
  refine b_aloadN (pc := 0) 0 dX5_addRule_0 rfl rfl ?_
  refine gf5_0 (pc := 1) 15 rfl k127 dX5_addRule_1 ?_
  refine b_aloadN (pc := 4) 0 dX5_addRule_4 rfl rfl ?_
  refine gf5_7 (pc := 5) k156 dX5_addRule_5 ?_
  refine b_iloadN (pc := 8) 1 dX5_addRule_8 rfl rfl ?_
  refine b_iast (pc := 9) (by decide) ?_ dX5_addRule_9 ?_
  rotate_left -- leaf 0: index at 9
  refine b_aloadN (pc := 10) 0 dX5_addRule_10 rfl rfl ?_
  refine gf5_1 (pc := 11) 16 rfl k130 dX5_addRule_11 ?_
  refine b_aloadN (pc := 14) 0 dX5_addRule_14 rfl rfl ?_
  refine gf5_7 (pc := 15) k156 dX5_addRule_15 ?_
  refine b_iloadN (pc := 18) 2 dX5_addRule_18 rfl rfl ?_
  refine b_iast (pc := 19) (by decide) ?_ dX5_addRule_19 ?_
  rotate_left -- leaf 1: index at 19
  refine b_aloadN (pc := 20) 0 dX5_addRule_20 rfl rfl ?_
  refine gf5_2 (pc := 21) 17 rfl k133 dX5_addRule_21 ?_
  refine b_aloadN (pc := 24) 0 dX5_addRule_24 rfl rfl ?_
  refine gf5_7 (pc := 25) k156 dX5_addRule_25 ?_
  refine b_iloadN (pc := 28) 3 dX5_addRule_28 rfl rfl ?_
  refine b_iast (pc := 29) (by decide) ?_ dX5_addRule_29 ?_
  rotate_left -- leaf 2: index at 29
  refine b_aloadN (pc := 30) 0 dX5_addRule_30 rfl rfl ?_
  refine b_dup_r (pc := 31) dX5_addRule_31 ?_
  refine gf5_7 (pc := 32) k156 dX5_addRule_32 ?_
  refine b_iconst (pc := 35) (nI 1) dX5_addRule_35 (by decide) ?_
  refine b_iadd (pc := 36) dX5_addRule_36 ?_
  refine pf5_7 (pc := 37) k156 dX5_addRule_37 ?_
  refine b_vret (pc := 40) rfl dX5_addRule_40 ⟨Nat.le_of_ble_eq_true rfl, Nat.le_of_ble_eq_true rfl⟩ ?_
  rotate_left -- leaf 3: return at 40
  -- leaves: 0 index at 9; 1 index at 19; 2 index at 29; 3 return at 40
  · rw [h7]; exact n_in (by omega) (by omega)
  · rw [h7, n_cl (by omega), e1]; exact n_in (by omega) (by omega)
  · rw [h7, n_cl (by omega), e1, n_cl (by omega), e2]; exact n_in (by omega) (by omega)
  · rw [h7, n_cl (by omega), e1, n_cl (by omega), e2, n_cl (by omega), e3, n_add]
    exact h
theorem call_X5_addRule {E : ME} {Φ : Option AV → AM → Prop} {pc : Nat} {L : List (Option AV)} {st : List AV} {m : AM} {a : Nat × Nat} {idx : Nat} {x0 x1 x2 : AV} {i : Nat} (hl : Cond.methodLink E.2.1 idx yX5_addRule ∈ TB) (hdep : 1 + 1 ≤ E.2.2.2.2.2.2) (hroom : a.1 + 0 ≤ E.2.2.2.2.1 ∧ a.2 + 0 ≤ E.2.2.2.2.2.1) (hsr : st.length ≤ 4) (hd : decode E.1 pc = .ok (.invokevirtual idx, 3)) (hsp : Sp_X5_addRule [vr 5 i, x0, x1, x2] m (fun r m2 => B E Φ (pc + 3) L (r.toList ++ st) m2 a)) : B E Φ pc L (x2 :: x1 :: x0 :: vr 5 i :: st) m a := b_callV S_X5_addRule [x0, x1, x2] (RX5, TX5, 9) rfl rfl (by decide) (Or.inl hl) k562 k563 k72 k564 (show _ ∧ _ ∧ Option.map (fun d => d.parameters.length) (parseMethodDescriptor yX5_addRule.desc) = some 3 from by decide +kernel) ⟨hdep, by decide⟩ hroom hsr hd hsp
abbrev e_X5_addPerson : ME := (cX5_addPerson, (RX5, (2, (none, (0, (0, 1))))))
theorem dX5_addPerson_0 : decode cX5_addPerson 0 = .ok (.aload_n 0, 1) := by decide +kernel
theorem dX5_addPerson_1 : decode cX5_addPerson 1 = .ok (.getfield 21, 3) := by decide +kernel
theorem dX5_addPerson_4 : decode cX5_addPerson 4 = .ok (.aload_n 0, 1) := by decide +kernel
theorem dX5_addPerson_5 : decode cX5_addPerson 5 = .ok (.getfield 37, 3) := by decide +kernel
theorem dX5_addPerson_8 : decode cX5_addPerson 8 = .ok (.iload_n 1, 1) := by decide +kernel
theorem dX5_addPerson_9 : decode cX5_addPerson 9 = .ok (.iastore, 1) := by decide +kernel
theorem dX5_addPerson_10 : decode cX5_addPerson 10 = .ok (.aload_n 0, 1) := by decide +kernel
theorem dX5_addPerson_11 : decode cX5_addPerson 11 = .ok (.dup, 1) := by decide +kernel
theorem dX5_addPerson_12 : decode cX5_addPerson 12 = .ok (.getfield 37, 3) := by decide +kernel
theorem dX5_addPerson_15 : decode cX5_addPerson 15 = .ok (.iconst 1, 1) := by decide +kernel
theorem dX5_addPerson_16 : decode cX5_addPerson 16 = .ok (.iadd, 1) := by decide +kernel
theorem dX5_addPerson_17 : decode cX5_addPerson 17 = .ok (.putfield 37, 3) := by decide +kernel
theorem dX5_addPerson_20 : decode cX5_addPerson 20 = .ok (.return_, 1) := by decide +kernel
def Sp_X5_addPerson (av : List AV) (m : AM) (Φ : Option AV → AM → Prop) : Prop := ∃ x, av = [vr 5 14, vi x] ∧ ∃ r, m.1 14 8 = nI r ∧ r < 5 ∧ Φ none (mset (mset m 18 r x) 14 8 (nI (r + 1)))
set_option maxRecDepth 20000 in
set_option maxHeartbeats 4000000 in
theorem S_X5_addPerson : Snd yX5_addPerson e_X5_addPerson Sp_X5_addPerson := by
  refine Snd.of (by decide +kernel) rfl ?_ ?_
  · rintro av m Φ ⟨x, rfl, _⟩; exact Nat.le_of_ble_eq_true rfl
  rintro av m Φ ⟨x, rfl, r, h8, hr, h⟩ hav hty
  show B e_X5_addPerson Φ 0 [some (vr 5 14), some (vi x)] [] m (0, 0)
  have e1 : (mset m 18 r x).1 14 8 = nI r := by
    rw [mset_ne _ _ _ (show 14 ≠ 18 by decide)]; exact h8
  refine b_aloadN (pc := 0) 0 dX5_addPerson_0 rfl rfl ?_
  refine gf5_3 (pc := 1) 18 rfl k136 dX5_addPerson_1 ?_
  refine b_aloadN (pc := 4) 0 dX5_addPerson_4 rfl rfl ?_
  refine gf5_8 (pc := 5) k160 dX5_addPerson_5 ?_
  refine b_iloadN (pc := 8) 1 dX5_addPerson_8 rfl rfl ?_
  refine b_iast (pc := 9) (by decide) ?_ dX5_addPerson_9 ?_
  rotate_left -- leaf 0: index at 9
  refine b_aloadN (pc := 10) 0 dX5_addPerson_10 rfl rfl ?_
  refine b_dup_r (pc := 11) dX5_addPerson_11 ?_
  refine gf5_8 (pc := 12) k160 dX5_addPerson_12 ?_
  refine b_iconst (pc := 15) (nI 1) dX5_addPerson_15 (by decide) ?_
  refine b_iadd (pc := 16) dX5_addPerson_16 ?_
  refine pf5_8 (pc := 17) k160 dX5_addPerson_17 ?_
  refine b_vret (pc := 20) rfl dX5_addPerson_20 ⟨Nat.le_of_ble_eq_true rfl, Nat.le_of_ble_eq_true rfl⟩ ?_
  rotate_left -- leaf 1: return at 20
  -- leaves: 0 index at 9; 1 return at 20
  · rw [h8]; exact n_in (by omega) (by omega)
  · rw [h8, n_cl (by omega), e1, n_add]
    exact h
theorem call_X5_addPerson {E : ME} {Φ : Option AV → AM → Prop} {pc : Nat} {L : List (Option AV)} {st : List AV} {m : AM} {a : Nat × Nat} {idx : Nat} {x0 : AV} {i : Nat} (hl : Cond.methodLink E.2.1 idx yX5_addPerson ∈ TB) (hdep : 1 + 1 ≤ E.2.2.2.2.2.2) (hroom : a.1 + 0 ≤ E.2.2.2.2.1 ∧ a.2 + 0 ≤ E.2.2.2.2.2.1) (hsr : st.length ≤ 4) (hd : decode E.1 pc = .ok (.invokevirtual idx, 3)) (hsp : Sp_X5_addPerson [vr 5 i, x0] m (fun r m2 => B E Φ (pc + 3) L (r.toList ++ st) m2 a)) : B E Φ pc L (x0 :: vr 5 i :: st) m a := b_callV S_X5_addPerson [x0] (RX5, TX5, 9) rfl rfl (by decide) (Or.inl hl) k573 k574 k72 k575 (show _ ∧ _ ∧ Option.map (fun d => d.parameters.length) (parseMethodDescriptor yX5_addPerson.desc) = some 1 from by decide +kernel) ⟨hdep, by decide⟩ hroom hsr hd hsp
def kindL (o : Option Nat) : Nat := match o with
  | none => 0
  | some w => if w = 108 then 1 else if w = 98 then 2 else if w = 119 then 3 else if w = 113 then 4 else if w = 107 then 5 else 0
def kbO (w : Nat) : Int := if w = 98 then 53 else if w = 107 then 59 else if w = 108 then 51 else if w = 113 then 57 else if w = 119 then 55 else 61
theorem kb_off : ∀ w, w < 123 → Op.lookupswitch.offset (#[(98, 53), (107, 59), (108, 51), (113, 57), (119, 55)] : Array (Int × Int)).toList 61 (nI w).toInt = kbO w := by decide +kernel
abbrev e_X9_kindBy : ME := (cX9_kindBy, (RX9, (1, ((some .int), (0, (0, 1))))))
theorem dX9_kindBy_0 : decode cX9_kindBy 0 = .ok (.iload_n 0, 1) := by decide +kernel
theorem dX9_kindBy_1 : decode cX9_kindBy 1 = .ok (.lookupswitch 61 #[(98, 53), (107, 59), (108, 51), (113, 57), (119, 55)], 51) := by decide +kernel
theorem dX9_kindBy_52 : decode cX9_kindBy 52 = .ok (.iconst 1, 1) := by decide +kernel
theorem dX9_kindBy_53 : decode cX9_kindBy 53 = .ok (.ireturn, 1) := by decide +kernel
theorem dX9_kindBy_54 : decode cX9_kindBy 54 = .ok (.iconst 2, 1) := by decide +kernel
theorem dX9_kindBy_55 : decode cX9_kindBy 55 = .ok (.ireturn, 1) := by decide +kernel
theorem dX9_kindBy_56 : decode cX9_kindBy 56 = .ok (.iconst 3, 1) := by decide +kernel
theorem dX9_kindBy_57 : decode cX9_kindBy 57 = .ok (.ireturn, 1) := by decide +kernel
theorem dX9_kindBy_58 : decode cX9_kindBy 58 = .ok (.iconst 4, 1) := by decide +kernel
theorem dX9_kindBy_59 : decode cX9_kindBy 59 = .ok (.ireturn, 1) := by decide +kernel
theorem dX9_kindBy_60 : decode cX9_kindBy 60 = .ok (.iconst 5, 1) := by decide +kernel
theorem dX9_kindBy_61 : decode cX9_kindBy 61 = .ok (.ireturn, 1) := by decide +kernel
theorem dX9_kindBy_62 : decode cX9_kindBy 62 = .ok (.iconst 0, 1) := by decide +kernel
theorem dX9_kindBy_63 : decode cX9_kindBy 63 = .ok (.ireturn, 1) := by decide +kernel
def Sp_X9_kindBy (av : List AV) (m : AM) (Φ : Option AV → AM → Prop) : Prop := ∃ x, av = [vi x] ∧ ∃ o, x = mI o ∧ (∀ w, o = some w → w ≤ 122) ∧ Φ (some (vi (nI (kindL o)))) m
set_option maxRecDepth 20000 in
set_option maxHeartbeats 4000000 in
theorem S_X9_kindBy : Snd yX9_kindBy e_X9_kindBy Sp_X9_kindBy := by
  refine Snd.of (by decide +kernel) rfl ?_ ?_
  · rintro av m Φ ⟨x, rfl, _⟩; exact Nat.le_of_ble_eq_true rfl
  rintro av m Φ ⟨x, rfl, o, rfl, ho, h⟩ hav hty
  show B e_X9_kindBy Φ 0 [some (vi (mI o))] [] m (0, 0)
  refine b_iloadN (pc := 0) 0 dX9_kindBy_0 rfl rfl ?_
  rotate_left -- leaf 0: lookupswitch at 1
  -- leaves: 0 lookupswitch at 1
  cases o with
  | none =>
    refine b_lookup (pc := 1) 62 dX9_kindBy_1 (by decide) (show Op.lookupswitch.offset _ 61 (-1 : Int32).toInt = 61 from by decide +kernel) (by decide) ?_
    refine b_iconst (pc := 62) (nI 0) dX9_kindBy_62 (by decide) ?_
    refine b_iret (pc := 63) rfl dX9_kindBy_63 ⟨Nat.le_of_ble_eq_true rfl, Nat.le_of_ble_eq_true rfl⟩ ?_
    rotate_left -- leaf 0: return at 63
    -- leaves: 0 return at 63
    exact h
  | some w =>
    have hw := ho w rfl
    have ko := kb_off w (by omega)
    by_cases q98 : w = 98
    · subst w
      refine b_lookup (pc := 1) 54 dX9_kindBy_1 (by decide) ko (by decide) ?_
      refine b_iconst (pc := 54) (nI 2) dX9_kindBy_54 (by decide) ?_
      refine b_iret (pc := 55) rfl dX9_kindBy_55 ⟨Nat.le_of_ble_eq_true rfl, Nat.le_of_ble_eq_true rfl⟩ ?_
      rotate_left -- leaf 0: return at 55
      -- leaves: 0 return at 55
      exact h
    by_cases q107 : w = 107
    · subst w
      refine b_lookup (pc := 1) 60 dX9_kindBy_1 (by decide) ko (by decide) ?_
      refine b_iconst (pc := 60) (nI 5) dX9_kindBy_60 (by decide) ?_
      refine b_iret (pc := 61) rfl dX9_kindBy_61 ⟨Nat.le_of_ble_eq_true rfl, Nat.le_of_ble_eq_true rfl⟩ ?_
      rotate_left -- leaf 0: return at 61
      -- leaves: 0 return at 61
      exact h
    by_cases q108 : w = 108
    · subst w
      refine b_lookup (pc := 1) 52 dX9_kindBy_1 (by decide) ko (by decide) ?_
      refine b_iconst (pc := 52) (nI 1) dX9_kindBy_52 (by decide) ?_
      refine b_iret (pc := 53) rfl dX9_kindBy_53 ⟨Nat.le_of_ble_eq_true rfl, Nat.le_of_ble_eq_true rfl⟩ ?_
      rotate_left -- leaf 0: return at 53
      -- leaves: 0 return at 53
      exact h
    by_cases q113 : w = 113
    · subst w
      refine b_lookup (pc := 1) 58 dX9_kindBy_1 (by decide) ko (by decide) ?_
      refine b_iconst (pc := 58) (nI 4) dX9_kindBy_58 (by decide) ?_
      refine b_iret (pc := 59) rfl dX9_kindBy_59 ⟨Nat.le_of_ble_eq_true rfl, Nat.le_of_ble_eq_true rfl⟩ ?_
      rotate_left -- leaf 0: return at 59
      -- leaves: 0 return at 59
      exact h
    by_cases q119 : w = 119
    · subst w
      refine b_lookup (pc := 1) 56 dX9_kindBy_1 (by decide) ko (by decide) ?_
      refine b_iconst (pc := 56) (nI 3) dX9_kindBy_56 (by decide) ?_
      refine b_iret (pc := 57) rfl dX9_kindBy_57 ⟨Nat.le_of_ble_eq_true rfl, Nat.le_of_ble_eq_true rfl⟩ ?_
      rotate_left -- leaf 0: return at 57
      -- leaves: 0 return at 57
      exact h
    have e : kbO w = 61 := by
      unfold kbO
      rw [if_neg q98, if_neg q107, if_neg q108, if_neg q113, if_neg q119]
    have e2 : kindL (some w) = 0 := by
      show (if w = 108 then 1 else if w = 98 then 2 else if w = 119 then 3 else if w = 113 then 4 else if w = 107 then 5 else 0) = 0
      rw [if_neg q108, if_neg q98, if_neg q119, if_neg q113, if_neg q107]
    rw [e] at ko
    rw [e2] at h
    refine b_lookup (pc := 1) 62 dX9_kindBy_1 (by decide) ko (by decide) ?_
    refine b_iconst (pc := 62) (nI 0) dX9_kindBy_62 (by decide) ?_
    refine b_iret (pc := 63) rfl dX9_kindBy_63 ⟨Nat.le_of_ble_eq_true rfl, Nat.le_of_ble_eq_true rfl⟩ ?_
    rotate_left -- leaf 0: return at 63
    -- leaves: 0 return at 63
    exact h
theorem call_X9_kindBy {E : ME} {Φ : Option AV → AM → Prop} {pc : Nat} {L : List (Option AV)} {st : List AV} {m : AM} {a : Nat × Nat} {idx : Nat} {x0 : AV} (hl : Cond.methodLink E.2.1 idx yX9_kindBy ∈ TB) (hdep : 1 + 1 ≤ E.2.2.2.2.2.2) (hroom : a.1 + 0 ≤ E.2.2.2.2.1 ∧ a.2 + 0 ≤ E.2.2.2.2.2.1) (hsr : st.length ≤ 4) (hd : decode E.1 pc = .ok (.invokestatic idx, 3)) (hsp : Sp_X9_kindBy [x0] m (fun r m2 => B E Φ (pc + 3) L (r.toList ++ st) m2 a)) : B E Φ pc L (x0 :: st) m a := b_callS S_X9_kindBy [x0] (Or.inl hl) k570 k71 k571 (show _ ∧ _ ∧ Option.map (fun d => d.parameters.length) (parseMethodDescriptor yX9_kindBy.desc) = some 1 from by decide +kernel) ⟨hdep, by decide⟩ hroom hsr hd hsp
