/-! THE REFERENCE: its court is MC -/
def MC (m : AM) (C : Nat → Nat) : Prop := ∀ k, k < 50 → m.1 114 k = nI (C k)
theorem l_lt {a b : Int64} : a < b ↔ a.toInt < b.toInt := Int64.lt_iff_toInt_lt
theorem cmp_lt (x y : Int64) : lg_cmp x y < 0 ↔ x.toInt < y.toInt := by
  unfold lg_cmp
  by_cases h1 : x > y
  · rw [if_pos h1]
    have h2 : y < x := h1
    rw [l_lt] at h2
    constructor
    · intro h; exact absurd h (by decide)
    · intro h; omega
  · rw [if_neg h1]
    have h2 : ¬ y < x := h1
    rw [l_lt] at h2
    by_cases h3 : x = y
    · rw [if_pos h3, h3]
      constructor
      · intro h; exact absurd h (by decide)
      · intro h; omega
    · rw [if_neg h3]
      constructor
      · intro _
        have h4 : x.toInt ≠ y.toInt := fun e => h3 (Int64.toInt_inj.mp e)
        omega
      · intro _; decide
theorem cmp_gt (x y : Int64) : 0 < lg_cmp x y ↔ y.toInt < x.toInt := by
  unfold lg_cmp
  by_cases h1 : x > y
  · rw [if_pos h1]
    have h2 : y < x := h1
    rw [l_lt] at h2
    exact ⟨fun _ => h2, fun _ => by decide⟩
  · rw [if_neg h1]
    have h2 : ¬ y < x := h1
    rw [l_lt] at h2
    by_cases h3 : x = y
    · rw [if_pos h3]
      constructor
      · intro h; exact absurd h (by decide)
      · intro h; omega
    · rw [if_neg h3]
      constructor
      · intro h; exact absurd h (by decide)
      · intro h; omega
abbrev e_X11_in : ME := (cX11_in, (RX11, (6, ((some .boolean), (0, (0, 1))))))
theorem dX11_in_0 : decode cX11_in 0 = .ok (.lload_n 0, 1) := by decide +kernel
theorem dX11_in_1 : decode cX11_in 1 = .ok (.lload_n 2, 1) := by decide +kernel
theorem dX11_in_2 : decode cX11_in 2 = .ok (.lcmp, 1) := by decide +kernel
theorem dX11_in_3 : decode cX11_in 3 = .ok (.ifCond .lt 14, 3) := by decide +kernel
theorem dX11_in_6 : decode cX11_in 6 = .ok (.lload_n 0, 1) := by decide +kernel
theorem dX11_in_7 : decode cX11_in 7 = .ok (.lload 4, 2) := by decide +kernel
theorem dX11_in_9 : decode cX11_in 9 = .ok (.lcmp, 1) := by decide +kernel
theorem dX11_in_10 : decode cX11_in 10 = .ok (.ifCond .gt 7, 3) := by decide +kernel
theorem dX11_in_13 : decode cX11_in 13 = .ok (.iconst 1, 1) := by decide +kernel
theorem dX11_in_14 : decode cX11_in 14 = .ok (.goto 4, 3) := by decide +kernel
theorem dX11_in_17 : decode cX11_in 17 = .ok (.iconst 0, 1) := by decide +kernel
theorem dX11_in_18 : decode cX11_in 18 = .ok (.ireturn, 1) := by decide +kernel
def Sp_X11_in (av : List AV) (m : AM) (Φ : Option AV → AM → Prop) : Prop := ∃ v a b, av = [vl v, vl a, vl b] ∧ Φ (some (vi (nI (if a.toInt ≤ v.toInt ∧ v.toInt ≤ b.toInt then 1 else 0)))) m
set_option maxRecDepth 20000 in
set_option maxHeartbeats 4000000 in
theorem S_X11_in : Snd yX11_in e_X11_in Sp_X11_in := by
  refine Snd.of (by decide +kernel) rfl ?_ ?_
  · rintro av m Φ ⟨v, a, b, rfl, _⟩; exact Nat.le_of_ble_eq_true rfl
  rintro av m Φ ⟨v, a, b, rfl, h⟩ hav hty
  show B e_X11_in Φ 0 [some (vl v), none, some (vl a), none, some (vl b), none] [] m (0, 0)
  refine b_lloadN (pc := 0) 0 dX11_in_0 rfl rfl ?_
  refine b_lloadN (pc := 1) 2 dX11_in_1 rfl rfl ?_
  refine b_lcmp (pc := 2) dX11_in_2 ?_
  refine b_if_lt (pc := 3) 17 dX11_in_3 (by decide) (fun c3 => ?_) (fun c3 => ?_)
  refine b_iconst (pc := 17) (nI 0) dX11_in_17 (by decide) ?_
  refine b_zret (pc := 18) rfl ?_ dX11_in_18 ⟨Nat.le_of_ble_eq_true rfl, Nat.le_of_ble_eq_true rfl⟩ ?_
  rotate_left -- leaf 0: bool at 18
  rotate_left -- leaf 1: return at 18
  refine b_lloadN (pc := 6) 0 dX11_in_6 rfl rfl ?_
  refine b_lloadG (pc := 7) 4 dX11_in_7 rfl ?_
  refine b_lcmp (pc := 9) dX11_in_9 ?_
  refine b_if_gt (pc := 10) 17 dX11_in_10 (by decide) (fun c10 => ?_) (fun c10 => ?_)
  refine b_iconst (pc := 17) (nI 0) dX11_in_17 (by decide) ?_
  refine b_zret (pc := 18) rfl ?_ dX11_in_18 ⟨Nat.le_of_ble_eq_true rfl, Nat.le_of_ble_eq_true rfl⟩ ?_
  rotate_left -- leaf 2: bool at 18
  rotate_left -- leaf 3: return at 18
  refine b_iconst (pc := 13) (nI 1) dX11_in_13 (by decide) ?_
  refine b_goto (pc := 14) 18 dX11_in_14 (by decide) ?_
  refine b_zret (pc := 18) rfl ?_ dX11_in_18 ⟨Nat.le_of_ble_eq_true rfl, Nat.le_of_ble_eq_true rfl⟩ ?_
  rotate_left -- leaf 4: bool at 18
  rotate_left -- leaf 5: return at 18
  -- leaves: 0 bool at 18; 1 return at 18; 2 bool at 18; 3 return at 18; 4 bool at 18; 5 return at 18
  · exact Or.inl rfl
  · rw [cmp_lt] at c3
    rw [if_neg (fun q => by omega)] at h
    exact h
  · exact Or.inl rfl
  · rw [cmp_gt] at c10
    rw [if_neg (fun q => by omega)] at h
    exact h
  · exact Or.inr rfl
  · rw [cmp_lt] at c3
    rw [cmp_gt] at c10
    rw [if_pos ⟨by omega, by omega⟩] at h
    exact h
theorem call_X11_in {E : ME} {Φ : Option AV → AM → Prop} {pc : Nat} {L : List (Option AV)} {st : List AV} {m : AM} {a : Nat × Nat} {idx : Nat} {x0 x1 x2 : AV} (hl : Cond.methodLink E.2.1 idx yX11_in ∈ TB) (hdep : 1 + 1 ≤ E.2.2.2.2.2.2) (hroom : a.1 + 0 ≤ E.2.2.2.2.1 ∧ a.2 + 0 ≤ E.2.2.2.2.2.1) (hsr : st.length ≤ 4) (hd : decode E.1 pc = .ok (.invokestatic idx, 3)) (hsp : Sp_X11_in [x0, x1, x2] m (fun r m2 => B E Φ (pc + 3) L (r.toList ++ st) m2 a)) : B E Φ pc L (x2 :: x1 :: x0 :: st) m a := b_callS S_X11_in [x0, x1, x2] (Or.inl hl) k1137 k80 k1138 (show _ ∧ _ ∧ Option.map (fun d => d.parameters.length) (parseMethodDescriptor yX11_in.desc) = some 3 from by decide +kernel) ⟨hdep, by decide⟩ hroom hsr hd hsp
theorem inL {p : Int32} {n : Nat} (hn : n < 2147483647) : (if (0 : Int64).toInt ≤ p.toInt64.toInt ∧ p.toInt64.toInt ≤ (nI n - nI 1).toInt64.toInt then 1 else 0) = (if inB p n = true then 1 else 0) := by
  rw [Int32.toInt_toInt64, Int32.toInt_toInt64, i_sub (by rw [nI_toInt (by omega), nI_toInt (by omega)]; omega) (by rw [nI_toInt (by omega), nI_toInt (by omega)]; omega), nI_toInt (by omega), nI_toInt (by omega), show (0 : Int64).toInt = 0 from rfl]
  by_cases q : inB p n = true
  · rw [if_pos q]
    obtain ⟨j, hj, rfl⟩ := (inB_iff (by omega)).mp q
    rw [nI_toInt (by omega), if_pos ⟨by omega, by omega⟩]
  · rw [if_neg q, if_neg]
    rintro ⟨h1, h2⟩
    apply q
    unfold inB
    rw [decide_eq_true (show ¬ p < 0 by rw [i_lt, i_0]; omega), decide_eq_true (show p < nI n by rw [i_lt, nI_toInt (by omega)]; omega)]
    rfl
abbrev e_X11_isPerson : ME := (cX11_isPerson, (RX11, (2, ((some .boolean), (0, (0, 2))))))
theorem dX11_isPerson_0 : decode cX11_isPerson 0 = .ok (.iload_n 1, 1) := by decide +kernel
theorem dX11_isPerson_1 : decode cX11_isPerson 1 = .ok (.i2l, 1) := by decide +kernel
theorem dX11_isPerson_2 : decode cX11_isPerson 2 = .ok (.lconst 0, 1) := by decide +kernel
theorem dX11_isPerson_3 : decode cX11_isPerson 3 = .ok (.aload_n 0, 1) := by decide +kernel
theorem dX11_isPerson_4 : decode cX11_isPerson 4 = .ok (.getfield 19, 3) := by decide +kernel
theorem dX11_isPerson_7 : decode cX11_isPerson 7 = .ok (.iconst 4, 1) := by decide +kernel
theorem dX11_isPerson_8 : decode cX11_isPerson 8 = .ok (.iaload, 1) := by decide +kernel
theorem dX11_isPerson_9 : decode cX11_isPerson 9 = .ok (.iconst 1, 1) := by decide +kernel
theorem dX11_isPerson_10 : decode cX11_isPerson 10 = .ok (.isub, 1) := by decide +kernel
theorem dX11_isPerson_11 : decode cX11_isPerson 11 = .ok (.i2l, 1) := by decide +kernel
theorem dX11_isPerson_12 : decode cX11_isPerson 12 = .ok (.invokestatic 63, 3) := by decide +kernel
theorem dX11_isPerson_15 : decode cX11_isPerson 15 = .ok (.ireturn, 1) := by decide +kernel
def Sp_X11_isPerson (av : List AV) (m : AM) (Φ : Option AV → AM → Prop) : Prop := ∃ p, av = [vr 11 110, vi p] ∧ ∃ n, m.1 114 4 = nI n ∧ n < 1000 ∧ Φ (some (vi (nI (if inB p n = true then 1 else 0)))) m
set_option maxRecDepth 20000 in
set_option maxHeartbeats 4000000 in
theorem S_X11_isPerson : Snd yX11_isPerson e_X11_isPerson Sp_X11_isPerson := by
  refine Snd.of (by decide +kernel) rfl ?_ ?_
  · rintro av m Φ ⟨p, rfl, _⟩; exact Nat.le_of_ble_eq_true rfl
  rintro av m Φ ⟨p, rfl, n, hn, hl, h⟩ hav hty
  show B e_X11_isPerson Φ 0 [some (vr 11 110), some (vi p)] [] m (0, 0)
  refine b_iloadN (pc := 0) 1 dX11_isPerson_0 rfl rfl ?_
  refine b_i2l (pc := 1) dX11_isPerson_1 ?_
  refine b_lconst (pc := 2) 0 dX11_isPerson_2 (by decide) ?_
  refine b_aloadN (pc := 3) 0 dX11_isPerson_3 rfl rfl ?_
  refine gf11_5 (pc := 4) 114 rfl k1047 dX11_isPerson_4 ?_
  refine b_iconst (pc := 7) (nI 4) dX11_isPerson_7 (by decide) ?_
  refine b_iald (pc := 8) (by decide) ?_ dX11_isPerson_8 ?_
  rotate_left -- leaf 0: index at 8
  refine b_iconst (pc := 9) (nI 1) dX11_isPerson_9 (by decide) ?_
  refine b_isub (pc := 10) dX11_isPerson_10 ?_
  refine b_i2l (pc := 11) dX11_isPerson_11 ?_
  refine call_X11_in (pc := 12) k1136 (by decide) ⟨Nat.le_of_ble_eq_true rfl, Nat.le_of_ble_eq_true rfl⟩ (Nat.le_of_ble_eq_true rfl) dX11_isPerson_12 ?_
  refine ⟨_, _, _, rfl, ?_⟩
  refine b_zret (pc := 15) rfl ?_ dX11_isPerson_15 ⟨Nat.le_of_ble_eq_true rfl, Nat.le_of_ble_eq_true rfl⟩ ?_
  rotate_left -- leaf 1: bool at 15
  rotate_left -- leaf 2: return at 15
  -- leaves: 0 index at 8; 1 bool at 15; 2 return at 15
  · exact n_in (by omega) (by omega)
  · split <;> first | exact Or.inr rfl | exact Or.inl rfl
  · rw [n_cl (by omega), hn, inL (by omega)]
    exact h
theorem call_X11_isPerson {E : ME} {Φ : Option AV → AM → Prop} {pc : Nat} {L : List (Option AV)} {st : List AV} {m : AM} {a : Nat × Nat} {idx : Nat} {x0 : AV} {i : Nat} (hl : Cond.methodLink E.2.1 idx yX11_isPerson ∈ TB) (hdep : 2 + 1 ≤ E.2.2.2.2.2.2) (hroom : a.1 + 0 ≤ E.2.2.2.2.1 ∧ a.2 + 0 ≤ E.2.2.2.2.2.1) (hsr : st.length ≤ 4) (hd : decode E.1 pc = .ok (.invokevirtual idx, 3)) (hsp : Sp_X11_isPerson [vr 11 i, x0] m (fun r m2 => B E Φ (pc + 3) L (r.toList ++ st) m2 a)) : B E Φ pc L (x0 :: vr 11 i :: st) m a := b_callV S_X11_isPerson [x0] (RX11, TX11, 28) rfl rfl (by decide) (Or.inl hl) k1231 k42 k80 k1232 (show _ ∧ _ ∧ Option.map (fun d => d.parameters.length) (parseMethodDescriptor yX11_isPerson.desc) = some 1 from by decide +kernel) ⟨hdep, by decide⟩ hroom hsr hd hsp
abbrev e_X11_isRule : ME := (cX11_isRule, (RX11, (2, ((some .boolean), (0, (0, 2))))))
theorem dX11_isRule_0 : decode cX11_isRule 0 = .ok (.iload_n 1, 1) := by decide +kernel
theorem dX11_isRule_1 : decode cX11_isRule 1 = .ok (.i2l, 1) := by decide +kernel
theorem dX11_isRule_2 : decode cX11_isRule 2 = .ok (.lconst 0, 1) := by decide +kernel
theorem dX11_isRule_3 : decode cX11_isRule 3 = .ok (.aload_n 0, 1) := by decide +kernel
theorem dX11_isRule_4 : decode cX11_isRule 4 = .ok (.getfield 19, 3) := by decide +kernel
theorem dX11_isRule_7 : decode cX11_isRule 7 = .ok (.iconst 3, 1) := by decide +kernel
theorem dX11_isRule_8 : decode cX11_isRule 8 = .ok (.iaload, 1) := by decide +kernel
theorem dX11_isRule_9 : decode cX11_isRule 9 = .ok (.iconst 1, 1) := by decide +kernel
theorem dX11_isRule_10 : decode cX11_isRule 10 = .ok (.isub, 1) := by decide +kernel
theorem dX11_isRule_11 : decode cX11_isRule 11 = .ok (.i2l, 1) := by decide +kernel
theorem dX11_isRule_12 : decode cX11_isRule 12 = .ok (.invokestatic 63, 3) := by decide +kernel
theorem dX11_isRule_15 : decode cX11_isRule 15 = .ok (.ireturn, 1) := by decide +kernel
def Sp_X11_isRule (av : List AV) (m : AM) (Φ : Option AV → AM → Prop) : Prop := ∃ p, av = [vr 11 110, vi p] ∧ ∃ n, m.1 114 3 = nI n ∧ n < 1000 ∧ Φ (some (vi (nI (if inB p n = true then 1 else 0)))) m
set_option maxRecDepth 20000 in
set_option maxHeartbeats 4000000 in
theorem S_X11_isRule : Snd yX11_isRule e_X11_isRule Sp_X11_isRule := by
  refine Snd.of (by decide +kernel) rfl ?_ ?_
  · rintro av m Φ ⟨p, rfl, _⟩; exact Nat.le_of_ble_eq_true rfl
  rintro av m Φ ⟨p, rfl, n, hn, hl, h⟩ hav hty
  show B e_X11_isRule Φ 0 [some (vr 11 110), some (vi p)] [] m (0, 0)
  refine b_iloadN (pc := 0) 1 dX11_isRule_0 rfl rfl ?_
  refine b_i2l (pc := 1) dX11_isRule_1 ?_
  refine b_lconst (pc := 2) 0 dX11_isRule_2 (by decide) ?_
  refine b_aloadN (pc := 3) 0 dX11_isRule_3 rfl rfl ?_
  refine gf11_5 (pc := 4) 114 rfl k1047 dX11_isRule_4 ?_
  refine b_iconst (pc := 7) (nI 3) dX11_isRule_7 (by decide) ?_
  refine b_iald (pc := 8) (by decide) ?_ dX11_isRule_8 ?_
  rotate_left -- leaf 0: index at 8
  refine b_iconst (pc := 9) (nI 1) dX11_isRule_9 (by decide) ?_
  refine b_isub (pc := 10) dX11_isRule_10 ?_
  refine b_i2l (pc := 11) dX11_isRule_11 ?_
  refine call_X11_in (pc := 12) k1136 (by decide) ⟨Nat.le_of_ble_eq_true rfl, Nat.le_of_ble_eq_true rfl⟩ (Nat.le_of_ble_eq_true rfl) dX11_isRule_12 ?_
  refine ⟨_, _, _, rfl, ?_⟩
  refine b_zret (pc := 15) rfl ?_ dX11_isRule_15 ⟨Nat.le_of_ble_eq_true rfl, Nat.le_of_ble_eq_true rfl⟩ ?_
  rotate_left -- leaf 1: bool at 15
  rotate_left -- leaf 2: return at 15
  -- leaves: 0 index at 8; 1 bool at 15; 2 return at 15
  · exact n_in (by omega) (by omega)
  · split <;> first | exact Or.inr rfl | exact Or.inl rfl
  · rw [n_cl (by omega), hn, inL (by omega)]
    exact h
theorem call_X11_isRule {E : ME} {Φ : Option AV → AM → Prop} {pc : Nat} {L : List (Option AV)} {st : List AV} {m : AM} {a : Nat × Nat} {idx : Nat} {x0 : AV} {i : Nat} (hl : Cond.methodLink E.2.1 idx yX11_isRule ∈ TB) (hdep : 2 + 1 ≤ E.2.2.2.2.2.2) (hroom : a.1 + 0 ≤ E.2.2.2.2.1 ∧ a.2 + 0 ≤ E.2.2.2.2.2.1) (hsr : st.length ≤ 4) (hd : decode E.1 pc = .ok (.invokevirtual idx, 3)) (hsp : Sp_X11_isRule [vr 11 i, x0] m (fun r m2 => B E Φ (pc + 3) L (r.toList ++ st) m2 a)) : B E Φ pc L (x0 :: vr 11 i :: st) m a := b_callV S_X11_isRule [x0] (RX11, TX11, 28) rfl rfl (by decide) (Or.inl hl) k1282 k51 k80 k1283 (show _ ∧ _ ∧ Option.map (fun d => d.parameters.length) (parseMethodDescriptor yX11_isRule.desc) = some 1 from by decide +kernel) ⟨hdep, by decide⟩ hroom hsr hd hsp
abbrev e_X11_isFact : ME := (cX11_isFact, (RX11, (2, ((some .boolean), (0, (0, 2))))))
theorem dX11_isFact_0 : decode cX11_isFact 0 = .ok (.iload_n 1, 1) := by decide +kernel
theorem dX11_isFact_1 : decode cX11_isFact 1 = .ok (.i2l, 1) := by decide +kernel
theorem dX11_isFact_2 : decode cX11_isFact 2 = .ok (.lconst 0, 1) := by decide +kernel
theorem dX11_isFact_3 : decode cX11_isFact 3 = .ok (.aload_n 0, 1) := by decide +kernel
theorem dX11_isFact_4 : decode cX11_isFact 4 = .ok (.getfield 19, 3) := by decide +kernel
theorem dX11_isFact_7 : decode cX11_isFact 7 = .ok (.iconst 0, 1) := by decide +kernel
theorem dX11_isFact_8 : decode cX11_isFact 8 = .ok (.iaload, 1) := by decide +kernel
theorem dX11_isFact_9 : decode cX11_isFact 9 = .ok (.iconst 1, 1) := by decide +kernel
theorem dX11_isFact_10 : decode cX11_isFact 10 = .ok (.isub, 1) := by decide +kernel
theorem dX11_isFact_11 : decode cX11_isFact 11 = .ok (.i2l, 1) := by decide +kernel
theorem dX11_isFact_12 : decode cX11_isFact 12 = .ok (.invokestatic 63, 3) := by decide +kernel
theorem dX11_isFact_15 : decode cX11_isFact 15 = .ok (.ireturn, 1) := by decide +kernel
def Sp_X11_isFact (av : List AV) (m : AM) (Φ : Option AV → AM → Prop) : Prop := ∃ p, av = [vr 11 110, vi p] ∧ ∃ n, m.1 114 0 = nI n ∧ n < 1000 ∧ Φ (some (vi (nI (if inB p n = true then 1 else 0)))) m
set_option maxRecDepth 20000 in
set_option maxHeartbeats 4000000 in
theorem S_X11_isFact : Snd yX11_isFact e_X11_isFact Sp_X11_isFact := by
  refine Snd.of (by decide +kernel) rfl ?_ ?_
  · rintro av m Φ ⟨p, rfl, _⟩; exact Nat.le_of_ble_eq_true rfl
  rintro av m Φ ⟨p, rfl, n, hn, hl, h⟩ hav hty
  show B e_X11_isFact Φ 0 [some (vr 11 110), some (vi p)] [] m (0, 0)
  refine b_iloadN (pc := 0) 1 dX11_isFact_0 rfl rfl ?_
  refine b_i2l (pc := 1) dX11_isFact_1 ?_
  refine b_lconst (pc := 2) 0 dX11_isFact_2 (by decide) ?_
  refine b_aloadN (pc := 3) 0 dX11_isFact_3 rfl rfl ?_
  refine gf11_5 (pc := 4) 114 rfl k1047 dX11_isFact_4 ?_
  refine b_iconst (pc := 7) (nI 0) dX11_isFact_7 (by decide) ?_
  refine b_iald (pc := 8) (by decide) ?_ dX11_isFact_8 ?_
  rotate_left -- leaf 0: index at 8
  refine b_iconst (pc := 9) (nI 1) dX11_isFact_9 (by decide) ?_
  refine b_isub (pc := 10) dX11_isFact_10 ?_
  refine b_i2l (pc := 11) dX11_isFact_11 ?_
  refine call_X11_in (pc := 12) k1136 (by decide) ⟨Nat.le_of_ble_eq_true rfl, Nat.le_of_ble_eq_true rfl⟩ (Nat.le_of_ble_eq_true rfl) dX11_isFact_12 ?_
  refine ⟨_, _, _, rfl, ?_⟩
  refine b_zret (pc := 15) rfl ?_ dX11_isFact_15 ⟨Nat.le_of_ble_eq_true rfl, Nat.le_of_ble_eq_true rfl⟩ ?_
  rotate_left -- leaf 1: bool at 15
  rotate_left -- leaf 2: return at 15
  -- leaves: 0 index at 8; 1 bool at 15; 2 return at 15
  · exact n_in (by omega) (by omega)
  · split <;> first | exact Or.inr rfl | exact Or.inl rfl
  · rw [n_cl (by omega), hn, inL (by omega)]
    exact h
theorem call_X11_isFact {E : ME} {Φ : Option AV → AM → Prop} {pc : Nat} {L : List (Option AV)} {st : List AV} {m : AM} {a : Nat × Nat} {idx : Nat} {x0 : AV} {i : Nat} (hl : Cond.methodLink E.2.1 idx yX11_isFact ∈ TB) (hdep : 2 + 1 ≤ E.2.2.2.2.2.2) (hroom : a.1 + 0 ≤ E.2.2.2.2.1 ∧ a.2 + 0 ≤ E.2.2.2.2.2.1) (hsr : st.length ≤ 4) (hd : decode E.1 pc = .ok (.invokevirtual idx, 3)) (hsp : Sp_X11_isFact [vr 11 i, x0] m (fun r m2 => B E Φ (pc + 3) L (r.toList ++ st) m2 a)) : B E Φ pc L (x0 :: vr 11 i :: st) m a := b_callV S_X11_isFact [x0] (RX11, TX11, 28) rfl rfl (by decide) (Or.inl hl) k1273 k50 k80 k1274 (show _ ∧ _ ∧ Option.map (fun d => d.parameters.length) (parseMethodDescriptor yX11_isFact.desc) = some 1 from by decide +kernel) ⟨hdep, by decide⟩ hroom hsr hd hsp
abbrev e_X11_areFacts : ME := (cX11_areFacts, (RX11, (2, ((some .boolean), (0, (0, 2))))))
theorem dX11_areFacts_0 : decode cX11_areFacts 0 = .ok (.iload_n 1, 1) := by decide +kernel
theorem dX11_areFacts_1 : decode cX11_areFacts 1 = .ok (.i2l, 1) := by decide +kernel
theorem dX11_areFacts_2 : decode cX11_areFacts 2 = .ok (.lconst 0, 1) := by decide +kernel
theorem dX11_areFacts_3 : decode cX11_areFacts 3 = .ok (.iconst 1, 1) := by decide +kernel
theorem dX11_areFacts_4 : decode cX11_areFacts 4 = .ok (.aload_n 0, 1) := by decide +kernel
theorem dX11_areFacts_5 : decode cX11_areFacts 5 = .ok (.getfield 19, 3) := by decide +kernel
theorem dX11_areFacts_8 : decode cX11_areFacts 8 = .ok (.iconst 0, 1) := by decide +kernel
theorem dX11_areFacts_9 : decode cX11_areFacts 9 = .ok (.iaload, 1) := by decide +kernel
theorem dX11_areFacts_10 : decode cX11_areFacts 10 = .ok (.ishl, 1) := by decide +kernel
theorem dX11_areFacts_11 : decode cX11_areFacts 11 = .ok (.iconst 1, 1) := by decide +kernel
theorem dX11_areFacts_12 : decode cX11_areFacts 12 = .ok (.isub, 1) := by decide +kernel
theorem dX11_areFacts_13 : decode cX11_areFacts 13 = .ok (.i2l, 1) := by decide +kernel
theorem dX11_areFacts_14 : decode cX11_areFacts 14 = .ok (.invokestatic 63, 3) := by decide +kernel
theorem dX11_areFacts_17 : decode cX11_areFacts 17 = .ok (.ireturn, 1) := by decide +kernel
def Sp_X11_areFacts (av : List AV) (m : AM) (Φ : Option AV → AM → Prop) : Prop := ∃ p, av = [vr 11 110, vi p] ∧ ∃ n, m.1 114 0 = nI n ∧ n ≤ 6 ∧ Φ (some (vi (nI (if inB p (2 ^ n) = true then 1 else 0)))) m
set_option maxRecDepth 20000 in
set_option maxHeartbeats 4000000 in
theorem S_X11_areFacts : Snd yX11_areFacts e_X11_areFacts Sp_X11_areFacts := by
  refine Snd.of (by decide +kernel) rfl ?_ ?_
  · rintro av m Φ ⟨p, rfl, _⟩; exact Nat.le_of_ble_eq_true rfl
  rintro av m Φ ⟨p, rfl, n, hn, hl, h⟩ hav hty
  show B e_X11_areFacts Φ 0 [some (vr 11 110), some (vi p)] [] m (0, 0)
  have hp : 2 ^ n ≤ 2 ^ 6 := Nat.pow_le_pow_right (by omega) hl
  refine b_iloadN (pc := 0) 1 dX11_areFacts_0 rfl rfl ?_
  refine b_i2l (pc := 1) dX11_areFacts_1 ?_
  refine b_lconst (pc := 2) 0 dX11_areFacts_2 (by decide) ?_
  refine b_iconst (pc := 3) (nI 1) dX11_areFacts_3 (by decide) ?_
  refine b_aloadN (pc := 4) 0 dX11_areFacts_4 rfl rfl ?_
  refine gf11_5 (pc := 5) 114 rfl k1047 dX11_areFacts_5 ?_
  refine b_iconst (pc := 8) (nI 0) dX11_areFacts_8 (by decide) ?_
  refine b_iald (pc := 9) (by decide) ?_ dX11_areFacts_9 ?_
  rotate_left -- leaf 0: index at 9
  refine b_ishl (pc := 10) dX11_areFacts_10 ?_
  refine b_iconst (pc := 11) (nI 1) dX11_areFacts_11 (by decide) ?_
  refine b_isub (pc := 12) dX11_areFacts_12 ?_
  refine b_i2l (pc := 13) dX11_areFacts_13 ?_
  refine call_X11_in (pc := 14) k1136 (by decide) ⟨Nat.le_of_ble_eq_true rfl, Nat.le_of_ble_eq_true rfl⟩ (Nat.le_of_ble_eq_true rfl) dX11_areFacts_14 ?_
  refine ⟨_, _, _, rfl, ?_⟩
  refine b_zret (pc := 17) rfl ?_ dX11_areFacts_17 ⟨Nat.le_of_ble_eq_true rfl, Nat.le_of_ble_eq_true rfl⟩ ?_
  rotate_left -- leaf 1: bool at 17
  rotate_left -- leaf 2: return at 17
  -- leaves: 0 index at 9; 1 bool at 17; 2 return at 17
  · exact n_in (by omega) (by omega)
  · split <;> first | exact Or.inr rfl | exact Or.inl rfl
  · rw [n_cl (by omega), hn, n_pow (by omega), inL (by omega)]
    exact h
theorem call_X11_areFacts {E : ME} {Φ : Option AV → AM → Prop} {pc : Nat} {L : List (Option AV)} {st : List AV} {m : AM} {a : Nat × Nat} {idx : Nat} {x0 : AV} {i : Nat} (hl : Cond.methodLink E.2.1 idx yX11_areFacts ∈ TB) (hdep : 2 + 1 ≤ E.2.2.2.2.2.2) (hroom : a.1 + 0 ≤ E.2.2.2.2.1 ∧ a.2 + 0 ≤ E.2.2.2.2.2.1) (hsr : st.length ≤ 4) (hd : decode E.1 pc = .ok (.invokevirtual idx, 3)) (hsp : Sp_X11_areFacts [vr 11 i, x0] m (fun r m2 => B E Φ (pc + 3) L (r.toList ++ st) m2 a)) : B E Φ pc L (x0 :: vr 11 i :: st) m a := b_callV S_X11_areFacts [x0] (RX11, TX11, 28) rfl rfl (by decide) (Or.inl hl) k1319 k54 k80 k1320 (show _ ∧ _ ∧ Option.map (fun d => d.parameters.length) (parseMethodDescriptor yX11_areFacts.desc) = some 1 from by decide +kernel) ⟨hdep, by decide⟩ hroom hsr hd hsp
abbrev e_X11_isSaying : ME := (cX11_isSaying, (RX11, (3, ((some .boolean), (0, (0, 2))))))
theorem dX11_isSaying_0 : decode cX11_isSaying 0 = .ok (.lload_n 1, 1) := by decide +kernel
theorem dX11_isSaying_1 : decode cX11_isSaying 1 = .ok (.lconst 0, 1) := by decide +kernel
theorem dX11_isSaying_2 : decode cX11_isSaying 2 = .ok (.iconst 2, 1) := by decide +kernel
theorem dX11_isSaying_3 : decode cX11_isSaying 3 = .ok (.aload_n 0, 1) := by decide +kernel
theorem dX11_isSaying_4 : decode cX11_isSaying 4 = .ok (.getfield 19, 3) := by decide +kernel
theorem dX11_isSaying_7 : decode cX11_isSaying 7 = .ok (.iconst 0, 1) := by decide +kernel
theorem dX11_isSaying_8 : decode cX11_isSaying 8 = .ok (.iaload, 1) := by decide +kernel
theorem dX11_isSaying_9 : decode cX11_isSaying 9 = .ok (.imul, 1) := by decide +kernel
theorem dX11_isSaying_10 : decode cX11_isSaying 10 = .ok (.iconst 1, 1) := by decide +kernel
theorem dX11_isSaying_11 : decode cX11_isSaying 11 = .ok (.isub, 1) := by decide +kernel
theorem dX11_isSaying_12 : decode cX11_isSaying 12 = .ok (.i2l, 1) := by decide +kernel
theorem dX11_isSaying_13 : decode cX11_isSaying 13 = .ok (.invokestatic 63, 3) := by decide +kernel
theorem dX11_isSaying_16 : decode cX11_isSaying 16 = .ok (.ireturn, 1) := by decide +kernel
def Sp_X11_isSaying (av : List AV) (m : AM) (Φ : Option AV → AM → Prop) : Prop := ∃ p : Int32, av = [vr 11 110, vl p.toInt64] ∧ ∃ n, m.1 114 0 = nI n ∧ n ≤ 6 ∧ Φ (some (vi (nI (if inB p (2 * n) = true then 1 else 0)))) m
set_option maxRecDepth 20000 in
set_option maxHeartbeats 4000000 in
theorem S_X11_isSaying : Snd yX11_isSaying e_X11_isSaying Sp_X11_isSaying := by
  refine Snd.of (by decide +kernel) rfl ?_ ?_
  · rintro av m Φ ⟨p, rfl, _⟩; exact Nat.le_of_ble_eq_true rfl
  rintro av m Φ ⟨p, rfl, n, hn, hl, h⟩ hav hty
  show B e_X11_isSaying Φ 0 [some (vr 11 110), some (vl (p.toInt64)), none] [] m (0, 0)
  refine b_lloadN (pc := 0) 1 dX11_isSaying_0 rfl rfl ?_
  refine b_lconst (pc := 1) 0 dX11_isSaying_1 (by decide) ?_
  refine b_iconst (pc := 2) (nI 2) dX11_isSaying_2 (by decide) ?_
  refine b_aloadN (pc := 3) 0 dX11_isSaying_3 rfl rfl ?_
  refine gf11_5 (pc := 4) 114 rfl k1047 dX11_isSaying_4 ?_
  refine b_iconst (pc := 7) (nI 0) dX11_isSaying_7 (by decide) ?_
  refine b_iald (pc := 8) (by decide) ?_ dX11_isSaying_8 ?_
  rotate_left -- leaf 0: index at 8
  refine b_imul (pc := 9) dX11_isSaying_9 ?_
  refine b_iconst (pc := 10) (nI 1) dX11_isSaying_10 (by decide) ?_
  refine b_isub (pc := 11) dX11_isSaying_11 ?_
  refine b_i2l (pc := 12) dX11_isSaying_12 ?_
  refine call_X11_in (pc := 13) k1136 (by decide) ⟨Nat.le_of_ble_eq_true rfl, Nat.le_of_ble_eq_true rfl⟩ (Nat.le_of_ble_eq_true rfl) dX11_isSaying_13 ?_
  refine ⟨_, _, _, rfl, ?_⟩
  refine b_zret (pc := 16) rfl ?_ dX11_isSaying_16 ⟨Nat.le_of_ble_eq_true rfl, Nat.le_of_ble_eq_true rfl⟩ ?_
  rotate_left -- leaf 1: bool at 16
  rotate_left -- leaf 2: return at 16
  -- leaves: 0 index at 8; 1 bool at 16; 2 return at 16
  · exact n_in (by omega) (by omega)
  · split <;> first | exact Or.inr rfl | exact Or.inl rfl
  · rw [n_cl (by omega), hn, n_mul, inL (by omega)]
    exact h
theorem call_X11_isSaying {E : ME} {Φ : Option AV → AM → Prop} {pc : Nat} {L : List (Option AV)} {st : List AV} {m : AM} {a : Nat × Nat} {idx : Nat} {x0 : AV} {i : Nat} (hl : Cond.methodLink E.2.1 idx yX11_isSaying ∈ TB) (hdep : 2 + 1 ≤ E.2.2.2.2.2.2) (hroom : a.1 + 0 ≤ E.2.2.2.2.1 ∧ a.2 + 0 ≤ E.2.2.2.2.2.1) (hsr : st.length ≤ 4) (hd : decode E.1 pc = .ok (.invokevirtual idx, 3)) (hsp : Sp_X11_isSaying [vr 11 i, x0] m (fun r m2 => B E Φ (pc + 3) L (r.toList ++ st) m2 a)) : B E Φ pc L (x0 :: vr 11 i :: st) m a := b_callV S_X11_isSaying [x0] (RX11, TX11, 28) rfl rfl (by decide) (Or.inl hl) k1235 k43 k80 k1236 (show _ ∧ _ ∧ Option.map (fun d => d.parameters.length) (parseMethodDescriptor yX11_isSaying.desc) = some 1 from by decide +kernel) ⟨hdep, by decide⟩ hroom hsr hd hsp
abbrev e_X11_isThere : ME := (cX11_isThere, (RX11, (1, ((some .boolean), (0, (0, 1))))))
theorem dX11_isThere_0 : decode cX11_isThere 0 = .ok (.aload_n 0, 1) := by decide +kernel
theorem dX11_isThere_1 : decode cX11_isThere 1 = .ok (.getfield 19, 3) := by decide +kernel
theorem dX11_isThere_4 : decode cX11_isThere 4 = .ok (.iconst 0, 1) := by decide +kernel
theorem dX11_isThere_5 : decode cX11_isThere 5 = .ok (.iaload, 1) := by decide +kernel
theorem dX11_isThere_6 : decode cX11_isThere 6 = .ok (.ifCond .le 7, 3) := by decide +kernel
theorem dX11_isThere_9 : decode cX11_isThere 9 = .ok (.iconst 1, 1) := by decide +kernel
theorem dX11_isThere_10 : decode cX11_isThere 10 = .ok (.goto 4, 3) := by decide +kernel
theorem dX11_isThere_13 : decode cX11_isThere 13 = .ok (.iconst 0, 1) := by decide +kernel
theorem dX11_isThere_14 : decode cX11_isThere 14 = .ok (.ireturn, 1) := by decide +kernel
def Sp_X11_isThere (av : List AV) (m : AM) (Φ : Option AV → AM → Prop) : Prop := av = [vr 11 110] ∧ ∃ n, m.1 114 0 = nI n ∧ n ≤ 6 ∧ Φ (some (vi (nI (if n = 0 then 0 else 1)))) m
set_option maxRecDepth 20000 in
set_option maxHeartbeats 4000000 in
theorem S_X11_isThere : Snd yX11_isThere e_X11_isThere Sp_X11_isThere := by
  refine Snd.of (by decide +kernel) rfl ?_ ?_
  · rintro av m Φ ⟨rfl, _⟩; exact Nat.le_of_ble_eq_true rfl
  rintro av m Φ ⟨rfl, n, hn, hl, h⟩ hav hty
  show B e_X11_isThere Φ 0 [some (vr 11 110)] [] m (0, 0)
  refine b_aloadN (pc := 0) 0 dX11_isThere_0 rfl rfl ?_
  refine gf11_5 (pc := 1) 114 rfl k1047 dX11_isThere_1 ?_
  refine b_iconst (pc := 4) (nI 0) dX11_isThere_4 (by decide) ?_
  refine b_iald (pc := 5) (by decide) ?_ dX11_isThere_5 ?_
  rotate_left -- leaf 0: index at 5
  refine b_if_le (pc := 6) 13 dX11_isThere_6 (by decide) (fun c6 => ?_) (fun c6 => ?_)
  refine b_iconst (pc := 13) (nI 0) dX11_isThere_13 (by decide) ?_
  refine b_zret (pc := 14) rfl ?_ dX11_isThere_14 ⟨Nat.le_of_ble_eq_true rfl, Nat.le_of_ble_eq_true rfl⟩ ?_
  rotate_left -- leaf 1: bool at 14
  rotate_left -- leaf 2: return at 14
  refine b_iconst (pc := 9) (nI 1) dX11_isThere_9 (by decide) ?_
  refine b_goto (pc := 10) 14 dX11_isThere_10 (by decide) ?_
  refine b_zret (pc := 14) rfl ?_ dX11_isThere_14 ⟨Nat.le_of_ble_eq_true rfl, Nat.le_of_ble_eq_true rfl⟩ ?_
  rotate_left -- leaf 3: bool at 14
  rotate_left -- leaf 4: return at 14
  -- leaves: 0 index at 5; 1 bool at 14; 2 return at 14; 3 bool at 14; 4 return at 14
  · exact n_in (by omega) (by omega)
  · exact Or.inl rfl
  · rw [n_cl (by omega), hn, n_le0 (by omega)] at c6
    rw [if_pos c6] at h; exact h
  · exact Or.inr rfl
  · rw [n_cl (by omega), hn, n_le0 (by omega)] at c6
    rw [if_neg c6] at h; exact h
theorem call_X11_isThere {E : ME} {Φ : Option AV → AM → Prop} {pc : Nat} {L : List (Option AV)} {st : List AV} {m : AM} {a : Nat × Nat} {idx : Nat} {i : Nat} (hl : Cond.methodLink E.2.1 idx yX11_isThere ∈ TB) (hdep : 1 + 1 ≤ E.2.2.2.2.2.2) (hroom : a.1 + 0 ≤ E.2.2.2.2.1 ∧ a.2 + 0 ≤ E.2.2.2.2.2.1) (hsr : st.length ≤ 4) (hd : decode E.1 pc = .ok (.invokevirtual idx, 3)) (hsp : Sp_X11_isThere [vr 11 i] m (fun r m2 => B E Φ (pc + 3) L (r.toList ++ st) m2 a)) : B E Φ pc L (vr 11 i :: st) m a := b_callV S_X11_isThere [] (RX11, TX11, 28) rfl rfl (by decide) (Or.inl hl) k1294 k52 k80 k1295 (show _ ∧ _ ∧ Option.map (fun d => d.parameters.length) (parseMethodDescriptor yX11_isThere.desc) = some 0 from by decide +kernel) ⟨hdep, by decide⟩ hroom hsr hd hsp
abbrev e_X11_kindOf : ME := (cX11_kindOf, (RX11, (2, ((some .int), (0, (0, 1))))))
theorem dX11_kindOf_0 : decode cX11_kindOf 0 = .ok (.aload_n 0, 1) := by decide +kernel
theorem dX11_kindOf_1 : decode cX11_kindOf 1 = .ok (.getfield 19, 3) := by decide +kernel
theorem dX11_kindOf_4 : decode cX11_kindOf 4 = .ok (.bipush 40, 2) := by decide +kernel
theorem dX11_kindOf_6 : decode cX11_kindOf 6 = .ok (.iconst 2, 1) := by decide +kernel
theorem dX11_kindOf_7 : decode cX11_kindOf 7 = .ok (.iload_n 1, 1) := by decide +kernel
theorem dX11_kindOf_8 : decode cX11_kindOf 8 = .ok (.imul, 1) := by decide +kernel
theorem dX11_kindOf_9 : decode cX11_kindOf 9 = .ok (.iadd, 1) := by decide +kernel
theorem dX11_kindOf_10 : decode cX11_kindOf 10 = .ok (.iaload, 1) := by decide +kernel
theorem dX11_kindOf_11 : decode cX11_kindOf 11 = .ok (.ireturn, 1) := by decide +kernel
def Sp_X11_kindOf (av : List AV) (m : AM) (Φ : Option AV → AM → Prop) : Prop := ∃ x, av = [vr 11 110, vi x] ∧ ∃ C p, MC m C ∧ x = nI p ∧ p < 5 ∧ Φ (some (vi (nI (C (40 + 2 * p))))) m
set_option maxRecDepth 20000 in
set_option maxHeartbeats 4000000 in
theorem S_X11_kindOf : Snd yX11_kindOf e_X11_kindOf Sp_X11_kindOf := by
  refine Snd.of (by decide +kernel) rfl ?_ ?_
  · rintro av m Φ ⟨x, rfl, _⟩; exact Nat.le_of_ble_eq_true rfl
  rintro av m Φ ⟨x, rfl, C, p, hM, rfl, hp, h⟩ hav hty
  show B e_X11_kindOf Φ 0 [some (vr 11 110), some (vi (nI p))] [] m (0, 0)
  refine b_aloadN (pc := 0) 0 dX11_kindOf_0 rfl rfl ?_
  refine gf11_5 (pc := 1) 114 rfl k1047 dX11_kindOf_1 ?_
  refine b_bipush (pc := 4) (nI 40) dX11_kindOf_4 (by decide) ?_
  refine b_iconst (pc := 6) (nI 2) dX11_kindOf_6 (by decide) ?_
  refine b_iloadN (pc := 7) 1 dX11_kindOf_7 rfl rfl ?_
  refine b_imul (pc := 8) dX11_kindOf_8 ?_
  refine b_iadd (pc := 9) dX11_kindOf_9 ?_
  refine b_iald (pc := 10) (by decide) ?_ dX11_kindOf_10 ?_
  rotate_left -- leaf 0: index at 10
  refine b_iret (pc := 11) rfl dX11_kindOf_11 ⟨Nat.le_of_ble_eq_true rfl, Nat.le_of_ble_eq_true rfl⟩ ?_
  rotate_left -- leaf 1: return at 11
  -- leaves: 0 index at 10; 1 return at 11
  · rw [n_mul, n_add]; exact n_in (by omega) (by omega)
  · rw [n_mul, n_add, n_cl (by omega), hM _ (by omega)]
    exact h
theorem call_X11_kindOf {E : ME} {Φ : Option AV → AM → Prop} {pc : Nat} {L : List (Option AV)} {st : List AV} {m : AM} {a : Nat × Nat} {idx : Nat} {x0 : AV} {i : Nat} (hl : Cond.methodLink E.2.1 idx yX11_kindOf ∈ TB) (hdep : 1 + 1 ≤ E.2.2.2.2.2.2) (hroom : a.1 + 0 ≤ E.2.2.2.2.1 ∧ a.2 + 0 ≤ E.2.2.2.2.2.1) (hsr : st.length ≤ 4) (hd : decode E.1 pc = .ok (.invokevirtual idx, 3)) (hsp : Sp_X11_kindOf [vr 11 i, x0] m (fun r m2 => B E Φ (pc + 3) L (r.toList ++ st) m2 a)) : B E Φ pc L (x0 :: vr 11 i :: st) m a := b_callV S_X11_kindOf [x0] (RX11, TX11, 28) rfl rfl (by decide) (Or.inl hl) k1247 k46 k80 k1248 (show _ ∧ _ ∧ Option.map (fun d => d.parameters.length) (parseMethodDescriptor yX11_kindOf.desc) = some 1 from by decide +kernel) ⟨hdep, by decide⟩ hroom hsr hd hsp
def bsum (k : Nat) : Nat → Nat
  | 0 => 0
  | j + 1 => bsum k j + if k.testBit j = true then 1 else 0
theorem bsum_le (k : Nat) : ∀ j, bsum k j ≤ j
  | 0 => Nat.le_refl 0
  | j + 1 => by
    have := bsum_le k j
    unfold bsum
    split <;> omega
theorem bsum_6 {k : Nat} (hk : k < 64) : bsum k 6 = pc6 k := by
  have q : ∀ k, k < 64 → bsum k 6 = pc6 k := by decide +kernel
  exact q k hk
abbrev e_X11_bits : ME := (cX11_bits, (RX11, (3, ((some .int), (0, (0, 1))))))
theorem dX11_bits_0 : decode cX11_bits 0 = .ok (.iconst 0, 1) := by decide +kernel
theorem dX11_bits_1 : decode cX11_bits 1 = .ok (.istore_n 1, 1) := by decide +kernel
theorem dX11_bits_2 : decode cX11_bits 2 = .ok (.iconst 0, 1) := by decide +kernel
theorem dX11_bits_3 : decode cX11_bits 3 = .ok (.istore_n 2, 1) := by decide +kernel
theorem dX11_bits_4 : decode cX11_bits 4 = .ok (.iload_n 2, 1) := by decide +kernel
theorem dX11_bits_5 : decode cX11_bits 5 = .ok (.bipush 6, 2) := by decide +kernel
theorem dX11_bits_7 : decode cX11_bits 7 = .ok (.if_icmp .ge 17, 3) := by decide +kernel
theorem dX11_bits_10 : decode cX11_bits 10 = .ok (.iload_n 1, 1) := by decide +kernel
theorem dX11_bits_11 : decode cX11_bits 11 = .ok (.iload_n 0, 1) := by decide +kernel
theorem dX11_bits_12 : decode cX11_bits 12 = .ok (.iload_n 2, 1) := by decide +kernel
theorem dX11_bits_13 : decode cX11_bits 13 = .ok (.ishr, 1) := by decide +kernel
theorem dX11_bits_14 : decode cX11_bits 14 = .ok (.iconst 1, 1) := by decide +kernel
theorem dX11_bits_15 : decode cX11_bits 15 = .ok (.iand, 1) := by decide +kernel
theorem dX11_bits_16 : decode cX11_bits 16 = .ok (.iadd, 1) := by decide +kernel
theorem dX11_bits_17 : decode cX11_bits 17 = .ok (.istore_n 1, 1) := by decide +kernel
theorem dX11_bits_18 : decode cX11_bits 18 = .ok (.iinc 2 1, 3) := by decide +kernel
theorem dX11_bits_21 : decode cX11_bits 21 = .ok (.goto (-17), 3) := by decide +kernel
theorem dX11_bits_24 : decode cX11_bits 24 = .ok (.iload_n 1, 1) := by decide +kernel
theorem dX11_bits_25 : decode cX11_bits 25 = .ok (.ireturn, 1) := by decide +kernel
def Sp_X11_bits (av : List AV) (m : AM) (Φ : Option AV → AM → Prop) : Prop := ∃ x, av = [vi x] ∧ ∃ k, x = nI k ∧ k < 64 ∧ Φ (some (vi (nI (pc6 k)))) m
set_option maxRecDepth 20000 in
set_option maxHeartbeats 4000000 in
theorem S_X11_bits : Snd yX11_bits e_X11_bits Sp_X11_bits := by
  refine Snd.of (by decide +kernel) rfl ?_ ?_
  · rintro av m Φ ⟨x, rfl, _⟩; exact Nat.le_of_ble_eq_true rfl
  rintro av m Φ ⟨x, rfl, k, rfl, hk, h⟩ hav hty
  show B e_X11_bits Φ 0 [some (vi (nI k)), none, none] [] m (0, 0)
  have loop : ∀ n j, 7 ≤ j + n → j ≤ 6 → B e_X11_bits Φ 4 [some (vi (nI k)), some (vi (nI (bsum k j))), some (vi (nI j))] [] m (0, 0) := by
    intro n
    induction n with
    | zero => intro j h1 h2; omega
    | succ n ih =>
      intro j h1 h2
      have := bsum_le k j
      refine b_iloadN (pc := 4) 2 dX11_bits_4 rfl rfl ?_
      refine b_bipush (pc := 5) (nI 6) dX11_bits_5 (by decide) ?_
      refine b_icmp_ge (pc := 7) 24 dX11_bits_7 (by decide) (fun c7 => ?_) (fun c7 => ?_)
      refine b_iloadN (pc := 24) 1 dX11_bits_24 rfl rfl ?_
      refine b_iret (pc := 25) rfl dX11_bits_25 ⟨Nat.le_of_ble_eq_true rfl, Nat.le_of_ble_eq_true rfl⟩ ?_
      rotate_left -- leaf 0: return at 25
      refine b_iloadN (pc := 10) 1 dX11_bits_10 rfl rfl ?_
      refine b_iloadN (pc := 11) 0 dX11_bits_11 rfl rfl ?_
      refine b_iloadN (pc := 12) 2 dX11_bits_12 rfl rfl ?_
      refine b_ishr (pc := 13) dX11_bits_13 ?_
      refine b_iconst (pc := 14) (nI 1) dX11_bits_14 (by decide) ?_
      refine b_iand (pc := 15) dX11_bits_15 ?_
      refine b_iadd (pc := 16) dX11_bits_16 ?_
      refine siN1 (pc := 17) rfl notL_i (by decide) dX11_bits_17 ?_
      refine inc2 (pc := 18) notL_i (by decide) dX11_bits_18 ?_
      refine b_goto (pc := 21) 4 dX11_bits_21 (by decide) ?_
      rotate_left -- leaf 1: at 4
      -- leaves: 0 return at 25; 1 at 4
      · rw [n_le (by omega) (by omega)] at c7
        rw [show j = 6 by omega, bsum_6 hk]
        exact h
      · rw [n_le (by omega) (by omega)] at c7
        rw [tbit_and1 _ _ (by omega) (by omega), n_add, n_inc]
        exact ih (j + 1) (by omega) (by omega)
  refine b_iconst (pc := 0) (nI 0) dX11_bits_0 (by decide) ?_
  refine siN1 (pc := 1) rfl notL_i (by decide) dX11_bits_1 ?_
  refine b_iconst (pc := 2) (nI 0) dX11_bits_2 (by decide) ?_
  refine siN2 (pc := 3) rfl notL_i (by decide) dX11_bits_3 ?_
  rotate_left -- leaf 0: at 4
  -- leaves: 0 at 4
  exact loop 7 0 (by omega) (by omega)
theorem call_X11_bits {E : ME} {Φ : Option AV → AM → Prop} {pc : Nat} {L : List (Option AV)} {st : List AV} {m : AM} {a : Nat × Nat} {idx : Nat} {x0 : AV} (hl : Cond.methodLink E.2.1 idx yX11_bits ∈ TB) (hdep : 1 + 1 ≤ E.2.2.2.2.2.2) (hroom : a.1 + 0 ≤ E.2.2.2.2.1 ∧ a.2 + 0 ≤ E.2.2.2.2.2.1) (hsr : st.length ≤ 4) (hd : decode E.1 pc = .ok (.invokestatic idx, 3)) (hsp : Sp_X11_bits [x0] m (fun r m2 => B E Φ (pc + 3) L (r.toList ++ st) m2 a)) : B E Φ pc L (x0 :: st) m a := b_callS S_X11_bits [x0] (Or.inl hl) k1265 k80 k1266 (show _ ∧ _ ∧ Option.map (fun d => d.parameters.length) (parseMethodDescriptor yX11_bits.desc) = some 1 from by decide +kernel) ⟨hdep, by decide⟩ hroom hsr hd hsp
theorem withN_ref (s f b : Nat) : nDel s (2 ^ f) ||| b * 2 ^ f = if b = 0 then nDel s (2 ^ f) else nDel s (2 ^ f) ||| b * 2 ^ f := by
  by_cases h : b = 0
  · rw [if_pos h, h, Nat.zero_mul, Nat.or_zero]
  · rw [if_neg h]
abbrev e_X11_with : ME := (cX11_with, (RX11, (3, ((some .int), (0, (0, 1))))))
theorem dX11_with_0 : decode cX11_with 0 = .ok (.iload_n 0, 1) := by decide +kernel
theorem dX11_with_1 : decode cX11_with 1 = .ok (.iconst 1, 1) := by decide +kernel
theorem dX11_with_2 : decode cX11_with 2 = .ok (.iload_n 1, 1) := by decide +kernel
theorem dX11_with_3 : decode cX11_with 3 = .ok (.ishl, 1) := by decide +kernel
theorem dX11_with_4 : decode cX11_with 4 = .ok (.iconst (-1), 1) := by decide +kernel
theorem dX11_with_5 : decode cX11_with 5 = .ok (.ixor, 1) := by decide +kernel
theorem dX11_with_6 : decode cX11_with 6 = .ok (.iand, 1) := by decide +kernel
theorem dX11_with_7 : decode cX11_with 7 = .ok (.iload_n 2, 1) := by decide +kernel
theorem dX11_with_8 : decode cX11_with 8 = .ok (.iload_n 1, 1) := by decide +kernel
theorem dX11_with_9 : decode cX11_with 9 = .ok (.ishl, 1) := by decide +kernel
theorem dX11_with_10 : decode cX11_with 10 = .ok (.ior, 1) := by decide +kernel
theorem dX11_with_11 : decode cX11_with 11 = .ok (.ireturn, 1) := by decide +kernel
def Sp_X11_with (av : List AV) (m : AM) (Φ : Option AV → AM → Prop) : Prop := ∃ x y z, av = [vi x, vi y, vi z] ∧ ∃ s f b, x = nI s ∧ y = nI f ∧ z = nI b ∧ s < 64 ∧ f < 6 ∧ b ≤ 1 ∧ Φ (some (vi (nI (withN s f b)))) m
set_option maxRecDepth 20000 in
set_option maxHeartbeats 4000000 in
theorem S_X11_with : Snd yX11_with e_X11_with Sp_X11_with := by
  refine Snd.of (by decide +kernel) rfl ?_ ?_
  · rintro av m Φ ⟨x, y, z, rfl, _⟩; exact Nat.le_of_ble_eq_true rfl
  rintro av m Φ ⟨x, y, z, rfl, s, f, b, rfl, rfl, rfl, hs, hf, hb, h⟩ hav hty
  show B e_X11_with Φ 0 [some (vi (nI s)), some (vi (nI f)), some (vi (nI b))] [] m (0, 0)
  have hp := pow_lt64 hf
  refine b_iloadN (pc := 0) 0 dX11_with_0 rfl rfl ?_
  refine b_iconst (pc := 1) (nI 1) dX11_with_1 (by decide) ?_
  refine b_iloadN (pc := 2) 1 dX11_with_2 rfl rfl ?_
  refine b_ishl (pc := 3) dX11_with_3 ?_
  refine b_iconst (pc := 4) (-1) dX11_with_4 (by decide) ?_
  refine b_ixor (pc := 5) dX11_with_5 ?_
  refine b_iand (pc := 6) dX11_with_6 ?_
  refine b_iloadN (pc := 7) 2 dX11_with_7 rfl rfl ?_
  refine b_iloadN (pc := 8) 1 dX11_with_8 rfl rfl ?_
  refine b_ishl (pc := 9) dX11_with_9 ?_
  refine b_ior (pc := 10) dX11_with_10 ?_
  refine b_iret (pc := 11) rfl dX11_with_11 ⟨Nat.le_of_ble_eq_true rfl, Nat.le_of_ble_eq_true rfl⟩ ?_
  rotate_left -- leaf 0: return at 11
  -- leaves: 0 return at 11
  rcases (by omega : b = 0 ∨ b = 1) with rfl | rfl
  · rw [n_pow (by omega), n_del, n_shl (by omega) (by omega), Nat.zero_shiftLeft, n_or, Nat.or_zero]
    exact h
  · rw [n_pow (by omega), n_del, n_or]
    have e : nDel s (2 ^ f) ||| 2 ^ f = s ||| 2 ^ f := Nat.eq_of_testBit_eq fun i => by
      rw [Nat.testBit_or, Nat.testBit_or, nDel_bit]
      generalize s.testBit i = p
      generalize (2 ^ f).testBit i = q
      revert p q
      decide
    rw [e]
    exact h
theorem call_X11_with {E : ME} {Φ : Option AV → AM → Prop} {pc : Nat} {L : List (Option AV)} {st : List AV} {m : AM} {a : Nat × Nat} {idx : Nat} {x0 x1 x2 : AV} (hl : Cond.methodLink E.2.1 idx yX11_with ∈ TB) (hdep : 1 + 1 ≤ E.2.2.2.2.2.2) (hroom : a.1 + 0 ≤ E.2.2.2.2.1 ∧ a.2 + 0 ≤ E.2.2.2.2.2.1) (hsr : st.length ≤ 4) (hd : decode E.1 pc = .ok (.invokestatic idx, 3)) (hsp : Sp_X11_with [x0, x1, x2] m (fun r m2 => B E Φ (pc + 3) L (r.toList ++ st) m2 a)) : B E Φ pc L (x2 :: x1 :: x0 :: st) m a := b_callS S_X11_with [x0, x1, x2] (Or.inl hl) k1254 k80 k1255 (show _ ∧ _ ∧ Option.map (fun d => d.parameters.length) (parseMethodDescriptor yX11_with.desc) = some 3 from by decide +kernel) ⟨hdep, by decide⟩ hroom hsr hd hsp
