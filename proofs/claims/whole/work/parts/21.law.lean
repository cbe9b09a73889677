/-! tests of numbers: within 0 .. n - 1 -/
def inB (p : Int32) (n : Nat) : Bool := decide (¬ p < 0) && decide (p < nI n)
theorem inB_iff {p : Int32} {n : Nat} (hn : n < 2147483648) : inB p n = true ↔ ∃ j, j < n ∧ p = nI j := by
  unfold inB
  rw [Bool.and_eq_true, decide_eq_true_eq, decide_eq_true_eq]
  constructor
  · rintro ⟨h1, h2⟩
    obtain ⟨j, hj, rfl⟩ := nI_of h1
    exact ⟨j, by rw [n_lt (by omega) hn] at h2; exact h2, rfl⟩
  · rintro ⟨j, hj, rfl⟩
    rw [n_lt0 (by omega), n_lt (by omega) hn]
    exact ⟨fun h => h, hj⟩
theorem inB_not {p : Int32} {n : Nat} (h : inB p n = false) : p < 0 ∨ nI n ≤ p := by
  unfold inB at h
  rcases Bool.and_eq_false_iff.mp h with q | q
  · left
    by_cases z : p < 0
    · exact z
    · rw [decide_eq_true z] at q; cases q
  · right
    have q2 : ¬ p < nI n := of_decide_eq_false q
    exact Int32.not_lt.mp q2
theorem inB_f1 {p : Int32} {n : Nat} (h : p < 0) : inB p n = false := by unfold inB; simp [h]
theorem inB_f2 {p : Int32} {n : Nat} (h : nI n ≤ p) : inB p n = false := by
  unfold inB
  rw [decide_eq_false (Int32.not_lt.mpr h), Bool.and_false]
theorem inB_t {p : Int32} {n : Nat} (h : ¬ p < 0) (h2 : ¬ nI n ≤ p) : inB p n = true := by
  unfold inB
  rw [decide_eq_true h, decide_eq_true (Int32.not_le.mp h2)]
  rfl
theorem nb0 (b : Bool) : nI (if b = true then 1 else 0) = 0 ↔ b = false := by
  cases b
  · simp [nI_0]
  · constructor
    · intro h; exact absurd h (by decide)
    · intro h; cases h
abbrev e_X5_isPerson : ME := (cX5_isPerson, (RX5, (2, ((some .boolean), (0, (0, 1))))))
theorem dX5_isPerson_0 : decode cX5_isPerson 0 = .ok (.iload_n 1, 1) := by decide +kernel
theorem dX5_isPerson_1 : decode cX5_isPerson 1 = .ok (.ifCond .lt 15, 3) := by decide +kernel
theorem dX5_isPerson_4 : decode cX5_isPerson 4 = .ok (.iload_n 1, 1) := by decide +kernel
theorem dX5_isPerson_5 : decode cX5_isPerson 5 = .ok (.aload_n 0, 1) := by decide +kernel
theorem dX5_isPerson_6 : decode cX5_isPerson 6 = .ok (.getfield 37, 3) := by decide +kernel
theorem dX5_isPerson_9 : decode cX5_isPerson 9 = .ok (.if_icmp .ge 7, 3) := by decide +kernel
theorem dX5_isPerson_12 : decode cX5_isPerson 12 = .ok (.iconst 1, 1) := by decide +kernel
theorem dX5_isPerson_13 : decode cX5_isPerson 13 = .ok (.goto 4, 3) := by decide +kernel
theorem dX5_isPerson_16 : decode cX5_isPerson 16 = .ok (.iconst 0, 1) := by decide +kernel
theorem dX5_isPerson_17 : decode cX5_isPerson 17 = .ok (.ireturn, 1) := by decide +kernel
def Sp_X5_isPerson (av : List AV) (m : AM) (Φ : Option AV → AM → Prop) : Prop := ∃ p, av = [vr 5 21, vi p] ∧ ∃ n, m.1 21 8 = nI n ∧ Φ (some (vi (nI (if inB p n = true then 1 else 0)))) m
set_option maxRecDepth 20000 in
set_option maxHeartbeats 4000000 in
theorem S_X5_isPerson : Snd yX5_isPerson e_X5_isPerson Sp_X5_isPerson := by
  refine Snd.of (by decide +kernel) rfl ?_ ?_
  · rintro av m Φ ⟨p, rfl, _⟩; exact Nat.le_of_ble_eq_true rfl
  rintro av m Φ ⟨p, rfl, n, hn, h⟩ hav hty
  show B e_X5_isPerson Φ 0 [some (vr 5 21), some (vi p)] [] m (0, 0)
  refine b_iloadN (pc := 0) 1 dX5_isPerson_0 rfl rfl ?_
  refine b_if_lt (pc := 1) 16 dX5_isPerson_1 (by decide) (fun c1 => ?_) (fun c1 => ?_)
  refine b_iconst (pc := 16) (nI 0) dX5_isPerson_16 (by decide) ?_
  refine b_zret (pc := 17) rfl ?_ dX5_isPerson_17 ⟨Nat.le_of_ble_eq_true rfl, Nat.le_of_ble_eq_true rfl⟩ ?_
  rotate_left -- leaf 0: bool at 17
  rotate_left -- leaf 1: return at 17
  refine b_iloadN (pc := 4) 1 dX5_isPerson_4 rfl rfl ?_
  refine b_aloadN (pc := 5) 0 dX5_isPerson_5 rfl rfl ?_
  refine gf5_8 (pc := 6) k160 dX5_isPerson_6 ?_
  refine b_icmp_ge (pc := 9) 16 dX5_isPerson_9 (by decide) (fun c9 => ?_) (fun c9 => ?_)
  refine b_iconst (pc := 16) (nI 0) dX5_isPerson_16 (by decide) ?_
  refine b_zret (pc := 17) rfl ?_ dX5_isPerson_17 ⟨Nat.le_of_ble_eq_true rfl, Nat.le_of_ble_eq_true rfl⟩ ?_
  rotate_left -- leaf 2: bool at 17
  rotate_left -- leaf 3: return at 17
  refine b_iconst (pc := 12) (nI 1) dX5_isPerson_12 (by decide) ?_
  refine b_goto (pc := 13) 17 dX5_isPerson_13 (by decide) ?_
  refine b_zret (pc := 17) rfl ?_ dX5_isPerson_17 ⟨Nat.le_of_ble_eq_true rfl, Nat.le_of_ble_eq_true rfl⟩ ?_
  rotate_left -- leaf 4: bool at 17
  rotate_left -- leaf 5: return at 17
  -- leaves: 0 bool at 17; 1 return at 17; 2 bool at 17; 3 return at 17; 4 bool at 17; 5 return at 17
  · exact Or.inl rfl
  · rw [inB_f1 c1] at h; exact h
  · exact Or.inl rfl
  · rw [hn] at c9; rw [inB_f2 c9] at h; exact h
  · exact Or.inr rfl
  · rw [hn] at c9; rw [inB_t c1 c9] at h; exact h
theorem call_X5_isPerson {E : ME} {Φ : Option AV → AM → Prop} {pc : Nat} {L : List (Option AV)} {st : List AV} {m : AM} {a : Nat × Nat} {idx : Nat} {x0 : AV} {i : Nat} (hl : Cond.methodLink E.2.1 idx yX5_isPerson ∈ TB) (hdep : 1 + 1 ≤ E.2.2.2.2.2.2) (hroom : a.1 + 0 ≤ E.2.2.2.2.1 ∧ a.2 + 0 ≤ E.2.2.2.2.2.1) (hsr : st.length ≤ 4) (hd : decode E.1 pc = .ok (.invokevirtual idx, 3)) (hsp : Sp_X5_isPerson [vr 5 i, x0] m (fun r m2 => B E Φ (pc + 3) L (r.toList ++ st) m2 a)) : B E Φ pc L (x0 :: vr 5 i :: st) m a := b_callV S_X5_isPerson [x0] (RX5, TX5, 9) rfl rfl (by decide) (Or.inl hl) k643 k644 k72 k645 (show _ ∧ _ ∧ Option.map (fun d => d.parameters.length) (parseMethodDescriptor yX5_isPerson.desc) = some 1 from by decide +kernel) ⟨hdep, by decide⟩ hroom hsr hd hsp
abbrev e_X5_isRule : ME := (cX5_isRule, (RX5, (2, ((some .boolean), (0, (0, 1))))))
theorem dX5_isRule_0 : decode cX5_isRule 0 = .ok (.iload_n 1, 1) := by decide +kernel
theorem dX5_isRule_1 : decode cX5_isRule 1 = .ok (.ifCond .lt 15, 3) := by decide +kernel
theorem dX5_isRule_4 : decode cX5_isRule 4 = .ok (.iload_n 1, 1) := by decide +kernel
theorem dX5_isRule_5 : decode cX5_isRule 5 = .ok (.aload_n 0, 1) := by decide +kernel
theorem dX5_isRule_6 : decode cX5_isRule 6 = .ok (.getfield 34, 3) := by decide +kernel
theorem dX5_isRule_9 : decode cX5_isRule 9 = .ok (.if_icmp .ge 7, 3) := by decide +kernel
theorem dX5_isRule_12 : decode cX5_isRule 12 = .ok (.iconst 1, 1) := by decide +kernel
theorem dX5_isRule_13 : decode cX5_isRule 13 = .ok (.goto 4, 3) := by decide +kernel
theorem dX5_isRule_16 : decode cX5_isRule 16 = .ok (.iconst 0, 1) := by decide +kernel
theorem dX5_isRule_17 : decode cX5_isRule 17 = .ok (.ireturn, 1) := by decide +kernel
def Sp_X5_isRule (av : List AV) (m : AM) (Φ : Option AV → AM → Prop) : Prop := ∃ p, av = [vr 5 21, vi p] ∧ ∃ n, m.1 21 7 = nI n ∧ Φ (some (vi (nI (if inB p n = true then 1 else 0)))) m
set_option maxRecDepth 20000 in
set_option maxHeartbeats 4000000 in
theorem S_X5_isRule : Snd yX5_isRule e_X5_isRule Sp_X5_isRule := by
  refine Snd.of (by decide +kernel) rfl ?_ ?_
  · rintro av m Φ ⟨p, rfl, _⟩; exact Nat.le_of_ble_eq_true rfl
  rintro av m Φ ⟨p, rfl, n, hn, h⟩ hav hty
  show B e_X5_isRule Φ 0 [some (vr 5 21), some (vi p)] [] m (0, 0)
  refine b_iloadN (pc := 0) 1 dX5_isRule_0 rfl rfl ?_
  refine b_if_lt (pc := 1) 16 dX5_isRule_1 (by decide) (fun c1 => ?_) (fun c1 => ?_)
  refine b_iconst (pc := 16) (nI 0) dX5_isRule_16 (by decide) ?_
  refine b_zret (pc := 17) rfl ?_ dX5_isRule_17 ⟨Nat.le_of_ble_eq_true rfl, Nat.le_of_ble_eq_true rfl⟩ ?_
  rotate_left -- leaf 0: bool at 17
  rotate_left -- leaf 1: return at 17
  refine b_iloadN (pc := 4) 1 dX5_isRule_4 rfl rfl ?_
  refine b_aloadN (pc := 5) 0 dX5_isRule_5 rfl rfl ?_
  refine gf5_7 (pc := 6) k156 dX5_isRule_6 ?_
  refine b_icmp_ge (pc := 9) 16 dX5_isRule_9 (by decide) (fun c9 => ?_) (fun c9 => ?_)
  refine b_iconst (pc := 16) (nI 0) dX5_isRule_16 (by decide) ?_
  refine b_zret (pc := 17) rfl ?_ dX5_isRule_17 ⟨Nat.le_of_ble_eq_true rfl, Nat.le_of_ble_eq_true rfl⟩ ?_
  rotate_left -- leaf 2: bool at 17
  rotate_left -- leaf 3: return at 17
  refine b_iconst (pc := 12) (nI 1) dX5_isRule_12 (by decide) ?_
  refine b_goto (pc := 13) 17 dX5_isRule_13 (by decide) ?_
  refine b_zret (pc := 17) rfl ?_ dX5_isRule_17 ⟨Nat.le_of_ble_eq_true rfl, Nat.le_of_ble_eq_true rfl⟩ ?_
  rotate_left -- leaf 4: bool at 17
  rotate_left -- leaf 5: return at 17
  -- leaves: 0 bool at 17; 1 return at 17; 2 bool at 17; 3 return at 17; 4 bool at 17; 5 return at 17
  · exact Or.inl rfl
  · rw [inB_f1 c1] at h; exact h
  · exact Or.inl rfl
  · rw [hn] at c9; rw [inB_f2 c9] at h; exact h
  · exact Or.inr rfl
  · rw [hn] at c9; rw [inB_t c1 c9] at h; exact h
theorem call_X5_isRule {E : ME} {Φ : Option AV → AM → Prop} {pc : Nat} {L : List (Option AV)} {st : List AV} {m : AM} {a : Nat × Nat} {idx : Nat} {x0 : AV} {i : Nat} (hl : Cond.methodLink E.2.1 idx yX5_isRule ∈ TB) (hdep : 1 + 1 ≤ E.2.2.2.2.2.2) (hroom : a.1 + 0 ≤ E.2.2.2.2.1 ∧ a.2 + 0 ≤ E.2.2.2.2.2.1) (hsr : st.length ≤ 4) (hd : decode E.1 pc = .ok (.invokevirtual idx, 3)) (hsp : Sp_X5_isRule [vr 5 i, x0] m (fun r m2 => B E Φ (pc + 3) L (r.toList ++ st) m2 a)) : B E Φ pc L (x0 :: vr 5 i :: st) m a := b_callV S_X5_isRule [x0] (RX5, TX5, 9) rfl rfl (by decide) (Or.inl hl) k706 k707 k72 k708 (show _ ∧ _ ∧ Option.map (fun d => d.parameters.length) (parseMethodDescriptor yX5_isRule.desc) = some 1 from by decide +kernel) ⟨hdep, by decide⟩ hroom hsr hd hsp
abbrev e_X5_isSaying : ME := (cX5_isSaying, (RX5, (2, ((some .boolean), (0, (0, 1))))))
theorem dX5_isSaying_0 : decode cX5_isSaying 0 = .ok (.iload_n 1, 1) := by decide +kernel
theorem dX5_isSaying_1 : decode cX5_isSaying 1 = .ok (.ifCond .lt 17, 3) := by decide +kernel
theorem dX5_isSaying_4 : decode cX5_isSaying 4 = .ok (.iload_n 1, 1) := by decide +kernel
theorem dX5_isSaying_5 : decode cX5_isSaying 5 = .ok (.iconst 2, 1) := by decide +kernel
theorem dX5_isSaying_6 : decode cX5_isSaying 6 = .ok (.aload_n 0, 1) := by decide +kernel
theorem dX5_isSaying_7 : decode cX5_isSaying 7 = .ok (.getfield 24, 3) := by decide +kernel
theorem dX5_isSaying_10 : decode cX5_isSaying 10 = .ok (.imul, 1) := by decide +kernel
theorem dX5_isSaying_11 : decode cX5_isSaying 11 = .ok (.if_icmp .ge 7, 3) := by decide +kernel
theorem dX5_isSaying_14 : decode cX5_isSaying 14 = .ok (.iconst 1, 1) := by decide +kernel
theorem dX5_isSaying_15 : decode cX5_isSaying 15 = .ok (.goto 4, 3) := by decide +kernel
theorem dX5_isSaying_18 : decode cX5_isSaying 18 = .ok (.iconst 0, 1) := by decide +kernel
theorem dX5_isSaying_19 : decode cX5_isSaying 19 = .ok (.ireturn, 1) := by decide +kernel
def Sp_X5_isSaying (av : List AV) (m : AM) (Φ : Option AV → AM → Prop) : Prop := ∃ p, av = [vr 5 21, vi p] ∧ ∃ n, m.1 21 4 = nI n ∧ Φ (some (vi (nI (if inB p (2 * n) = true then 1 else 0)))) m
set_option maxRecDepth 20000 in
set_option maxHeartbeats 4000000 in
theorem S_X5_isSaying : Snd yX5_isSaying e_X5_isSaying Sp_X5_isSaying := by
  refine Snd.of (by decide +kernel) rfl ?_ ?_
  · rintro av m Φ ⟨p, rfl, _⟩; exact Nat.le_of_ble_eq_true rfl
  rintro av m Φ ⟨p, rfl, n, hn, h⟩ hav hty
  show B e_X5_isSaying Φ 0 [some (vr 5 21), some (vi p)] [] m (0, 0)
  refine b_iloadN (pc := 0) 1 dX5_isSaying_0 rfl rfl ?_
  refine b_if_lt (pc := 1) 18 dX5_isSaying_1 (by decide) (fun c1 => ?_) (fun c1 => ?_)
  refine b_iconst (pc := 18) (nI 0) dX5_isSaying_18 (by decide) ?_
  refine b_zret (pc := 19) rfl ?_ dX5_isSaying_19 ⟨Nat.le_of_ble_eq_true rfl, Nat.le_of_ble_eq_true rfl⟩ ?_
  rotate_left -- leaf 0: bool at 19
  rotate_left -- leaf 1: return at 19
  refine b_iloadN (pc := 4) 1 dX5_isSaying_4 rfl rfl ?_
  refine b_iconst (pc := 5) (nI 2) dX5_isSaying_5 (by decide) ?_
  refine b_aloadN (pc := 6) 0 dX5_isSaying_6 rfl rfl ?_
  refine gf5_4 (pc := 7) k142 dX5_isSaying_7 ?_
  refine b_imul (pc := 10) dX5_isSaying_10 ?_
  refine b_icmp_ge (pc := 11) 18 dX5_isSaying_11 (by decide) (fun c11 => ?_) (fun c11 => ?_)
  refine b_iconst (pc := 18) (nI 0) dX5_isSaying_18 (by decide) ?_
  refine b_zret (pc := 19) rfl ?_ dX5_isSaying_19 ⟨Nat.le_of_ble_eq_true rfl, Nat.le_of_ble_eq_true rfl⟩ ?_
  rotate_left -- leaf 2: bool at 19
  rotate_left -- leaf 3: return at 19
  refine b_iconst (pc := 14) (nI 1) dX5_isSaying_14 (by decide) ?_
  refine b_goto (pc := 15) 19 dX5_isSaying_15 (by decide) ?_
  refine b_zret (pc := 19) rfl ?_ dX5_isSaying_19 ⟨Nat.le_of_ble_eq_true rfl, Nat.le_of_ble_eq_true rfl⟩ ?_
  rotate_left -- leaf 4: bool at 19
  rotate_left -- leaf 5: return at 19
  -- leaves: 0 bool at 19; 1 return at 19; 2 bool at 19; 3 return at 19; 4 bool at 19; 5 return at 19
  · exact Or.inl rfl
  · rw [inB_f1 c1] at h; exact h
  · exact Or.inl rfl
  · rw [hn, n_mul] at c11; rw [inB_f2 c11] at h; exact h
  · exact Or.inr rfl
  · rw [hn, n_mul] at c11; rw [inB_t c1 c11] at h; exact h
theorem call_X5_isSaying {E : ME} {Φ : Option AV → AM → Prop} {pc : Nat} {L : List (Option AV)} {st : List AV} {m : AM} {a : Nat × Nat} {idx : Nat} {x0 : AV} {i : Nat} (hl : Cond.methodLink E.2.1 idx yX5_isSaying ∈ TB) (hdep : 1 + 1 ≤ E.2.2.2.2.2.2) (hroom : a.1 + 0 ≤ E.2.2.2.2.1 ∧ a.2 + 0 ≤ E.2.2.2.2.2.1) (hsr : st.length ≤ 4) (hd : decode E.1 pc = .ok (.invokevirtual idx, 3)) (hsp : Sp_X5_isSaying [vr 5 i, x0] m (fun r m2 => B E Φ (pc + 3) L (r.toList ++ st) m2 a)) : B E Φ pc L (x0 :: vr 5 i :: st) m a := b_callV S_X5_isSaying [x0] (RX5, TX5, 9) rfl rfl (by decide) (Or.inl hl) k647 k648 k72 k649 (show _ ∧ _ ∧ Option.map (fun d => d.parameters.length) (parseMethodDescriptor yX5_isSaying.desc) = some 1 from by decide +kernel) ⟨hdep, by decide⟩ hroom hsr hd hsp
abbrev e_X5_areFacts : ME := (cX5_areFacts, (RX5, (2, ((some .boolean), (0, (0, 1))))))
theorem dX5_areFacts_0 : decode cX5_areFacts 0 = .ok (.iload_n 1, 1) := by decide +kernel
theorem dX5_areFacts_1 : decode cX5_areFacts 1 = .ok (.ifCond .lt 17, 3) := by decide +kernel
theorem dX5_areFacts_4 : decode cX5_areFacts 4 = .ok (.iload_n 1, 1) := by decide +kernel
theorem dX5_areFacts_5 : decode cX5_areFacts 5 = .ok (.iconst 1, 1) := by decide +kernel
theorem dX5_areFacts_6 : decode cX5_areFacts 6 = .ok (.aload_n 0, 1) := by decide +kernel
theorem dX5_areFacts_7 : decode cX5_areFacts 7 = .ok (.getfield 24, 3) := by decide +kernel
theorem dX5_areFacts_10 : decode cX5_areFacts 10 = .ok (.ishl, 1) := by decide +kernel
theorem dX5_areFacts_11 : decode cX5_areFacts 11 = .ok (.if_icmp .ge 7, 3) := by decide +kernel
theorem dX5_areFacts_14 : decode cX5_areFacts 14 = .ok (.iconst 1, 1) := by decide +kernel
theorem dX5_areFacts_15 : decode cX5_areFacts 15 = .ok (.goto 4, 3) := by decide +kernel
theorem dX5_areFacts_18 : decode cX5_areFacts 18 = .ok (.iconst 0, 1) := by decide +kernel
theorem dX5_areFacts_19 : decode cX5_areFacts 19 = .ok (.ireturn, 1) := by decide +kernel
def Sp_X5_areFacts (av : List AV) (m : AM) (Φ : Option AV → AM → Prop) : Prop := ∃ p, av = [vr 5 21, vi p] ∧ ∃ n, m.1 21 4 = nI n ∧ n ≤ 6 ∧ Φ (some (vi (nI (if inB p (2 ^ n) = true then 1 else 0)))) m
set_option maxRecDepth 20000 in
set_option maxHeartbeats 4000000 in
theorem S_X5_areFacts : Snd yX5_areFacts e_X5_areFacts Sp_X5_areFacts := by
  refine Snd.of (by decide +kernel) rfl ?_ ?_
  · rintro av m Φ ⟨p, rfl, _⟩; exact Nat.le_of_ble_eq_true rfl
  rintro av m Φ ⟨p, rfl, n, hn, hn6, h⟩ hav hty
  show B e_X5_areFacts Φ 0 [some (vr 5 21), some (vi p)] [] m (0, 0)
  refine b_iloadN (pc := 0) 1 dX5_areFacts_0 rfl rfl ?_
  refine b_if_lt (pc := 1) 18 dX5_areFacts_1 (by decide) (fun c1 => ?_) (fun c1 => ?_)
  refine b_iconst (pc := 18) (nI 0) dX5_areFacts_18 (by decide) ?_
  refine b_zret (pc := 19) rfl ?_ dX5_areFacts_19 ⟨Nat.le_of_ble_eq_true rfl, Nat.le_of_ble_eq_true rfl⟩ ?_
  rotate_left -- leaf 0: bool at 19
  rotate_left -- leaf 1: return at 19
  refine b_iloadN (pc := 4) 1 dX5_areFacts_4 rfl rfl ?_
  refine b_iconst (pc := 5) (nI 1) dX5_areFacts_5 (by decide) ?_
  refine b_aloadN (pc := 6) 0 dX5_areFacts_6 rfl rfl ?_
  refine gf5_4 (pc := 7) k142 dX5_areFacts_7 ?_
  refine b_ishl (pc := 10) dX5_areFacts_10 ?_
  refine b_icmp_ge (pc := 11) 18 dX5_areFacts_11 (by decide) (fun c11 => ?_) (fun c11 => ?_)
  refine b_iconst (pc := 18) (nI 0) dX5_areFacts_18 (by decide) ?_
  refine b_zret (pc := 19) rfl ?_ dX5_areFacts_19 ⟨Nat.le_of_ble_eq_true rfl, Nat.le_of_ble_eq_true rfl⟩ ?_
  rotate_left -- leaf 2: bool at 19
  rotate_left -- leaf 3: return at 19
  refine b_iconst (pc := 14) (nI 1) dX5_areFacts_14 (by decide) ?_
  refine b_goto (pc := 15) 19 dX5_areFacts_15 (by decide) ?_
  refine b_zret (pc := 19) rfl ?_ dX5_areFacts_19 ⟨Nat.le_of_ble_eq_true rfl, Nat.le_of_ble_eq_true rfl⟩ ?_
  rotate_left -- leaf 4: bool at 19
  rotate_left -- leaf 5: return at 19
  -- leaves: 0 bool at 19; 1 return at 19; 2 bool at 19; 3 return at 19; 4 bool at 19; 5 return at 19
  · exact Or.inl rfl
  · rw [inB_f1 c1] at h; exact h
  · exact Or.inl rfl
  · rw [hn, n_pow (by omega)] at c11; rw [inB_f2 c11] at h; exact h
  · exact Or.inr rfl
  · rw [hn, n_pow (by omega)] at c11; rw [inB_t c1 c11] at h; exact h
theorem call_X5_areFacts {E : ME} {Φ : Option AV → AM → Prop} {pc : Nat} {L : List (Option AV)} {st : List AV} {m : AM} {a : Nat × Nat} {idx : Nat} {x0 : AV} {i : Nat} (hl : Cond.methodLink E.2.1 idx yX5_areFacts ∈ TB) (hdep : 1 + 1 ≤ E.2.2.2.2.2.2) (hroom : a.1 + 0 ≤ E.2.2.2.2.1 ∧ a.2 + 0 ≤ E.2.2.2.2.2.1) (hsr : st.length ≤ 4) (hd : decode E.1 pc = .ok (.invokevirtual idx, 3)) (hsp : Sp_X5_areFacts [vr 5 i, x0] m (fun r m2 => B E Φ (pc + 3) L (r.toList ++ st) m2 a)) : B E Φ pc L (x0 :: vr 5 i :: st) m a := b_callV S_X5_areFacts [x0] (RX5, TX5, 9) rfl rfl (by decide) (Or.inl hl) k746 k747 k72 k748 (show _ ∧ _ ∧ Option.map (fun d => d.parameters.length) (parseMethodDescriptor yX5_areFacts.desc) = some 1 from by decide +kernel) ⟨hdep, by decide⟩ hroom hsr hd hsp
/-- a person of kind q is among the first n -/
def hasK (C : Nat → Nat) (q : Nat) : Nat → Bool
  | 0 => false
  | n + 1 => hasK C q n || decide (C (40 + 2 * n) = q)
abbrev e_X5_hasKind : ME := (cX5_hasKind, (RX5, (3, ((some .boolean), (0, (0, 1))))))
theorem dX5_hasKind_0 : decode cX5_hasKind 0 = .ok (.iconst 0, 1) := by decide +kernel
theorem dX5_hasKind_1 : decode cX5_hasKind 1 = .ok (.istore_n 2, 1) := by decide +kernel
theorem dX5_hasKind_2 : decode cX5_hasKind 2 = .ok (.iload_n 2, 1) := by decide +kernel
theorem dX5_hasKind_3 : decode cX5_hasKind 3 = .ok (.aload_n 0, 1) := by decide +kernel
theorem dX5_hasKind_4 : decode cX5_hasKind 4 = .ok (.getfield 37, 3) := by decide +kernel
theorem dX5_hasKind_7 : decode cX5_hasKind 7 = .ok (.if_icmp .ge 21, 3) := by decide +kernel
theorem dX5_hasKind_10 : decode cX5_hasKind 10 = .ok (.aload_n 0, 1) := by decide +kernel
theorem dX5_hasKind_11 : decode cX5_hasKind 11 = .ok (.getfield 21, 3) := by decide +kernel
theorem dX5_hasKind_14 : decode cX5_hasKind 14 = .ok (.iload_n 2, 1) := by decide +kernel
theorem dX5_hasKind_15 : decode cX5_hasKind 15 = .ok (.iaload, 1) := by decide +kernel
theorem dX5_hasKind_16 : decode cX5_hasKind 16 = .ok (.iload_n 1, 1) := by decide +kernel
theorem dX5_hasKind_17 : decode cX5_hasKind 17 = .ok (.if_icmp .ne 5, 3) := by decide +kernel
theorem dX5_hasKind_20 : decode cX5_hasKind 20 = .ok (.iconst 1, 1) := by decide +kernel
theorem dX5_hasKind_21 : decode cX5_hasKind 21 = .ok (.ireturn, 1) := by decide +kernel
theorem dX5_hasKind_22 : decode cX5_hasKind 22 = .ok (.iinc 2 1, 3) := by decide +kernel
theorem dX5_hasKind_25 : decode cX5_hasKind 25 = .ok (.goto (-23), 3) := by decide +kernel
theorem dX5_hasKind_28 : decode cX5_hasKind 28 = .ok (.iconst 0, 1) := by decide +kernel
theorem dX5_hasKind_29 : decode cX5_hasKind 29 = .ok (.ireturn, 1) := by decide +kernel
def Sp_X5_hasKind (av : List AV) (m : AM) (Φ : Option AV → AM → Prop) : Prop := ∃ x, av = [vr 5 21, vi x] ∧ ∃ C q, BR m C ∧ x = nI q ∧ q ≤ 5 ∧ Φ (some (vi (nI (if hasK C q (C 4) = true then 1 else 0)))) m
theorem hasK_iff (C : Nat → Nat) (q : Nat) : ∀ n, hasK C q n = true ↔ ∃ p, p < n ∧ C (40 + 2 * p) = q
  | 0 => by simp [hasK]
  | n + 1 => by
    have ih := hasK_iff C q n
    unfold hasK
    rw [Bool.or_eq_true, ih, decide_eq_true_eq]
    constructor
    · rintro (⟨p, h1, h2⟩ | h)
      · exact ⟨p, by omega, h2⟩
      · exact ⟨n, by omega, h⟩
    · rintro ⟨p, h1, h2⟩
      rcases Nat.lt_or_ge p n with z | z
      · exact Or.inl ⟨p, z, h2⟩
      · right
        rw [show n = p by omega]; exact h2
set_option maxRecDepth 20000 in
set_option maxHeartbeats 4000000 in
theorem S_X5_hasKind : Snd yX5_hasKind e_X5_hasKind Sp_X5_hasKind := by
  refine Snd.of (by decide +kernel) rfl ?_ ?_
  · rintro av m Φ ⟨x, rfl, _⟩; exact Nat.le_of_ble_eq_true rfl
  rintro av m Φ ⟨x, rfl, C, q, hB, rfl, hq, h⟩ hav hty
  show B e_X5_hasKind Φ 0 [some (vr 5 21), some (vi (nI q)), none] [] m (0, 0)
  obtain ⟨hv, hL, hS, hM, hC⟩ := hB
  have h5 := hv.2.2.2.2.1.2
  have loop : ∀ n p, C 4 + 1 ≤ p + n → p ≤ C 4 → hasK C q p = false → B e_X5_hasKind Φ 2 [some (vr 5 21), some (vi (nI q)), some (vi (nI p))] [] m (0, 0) := by
    intro n
    induction n with
    | zero => intro p h1 h2; omega
    | succ n ih =>
      intro p h1 h2 h3
      refine b_iloadN (pc := 2) 2 dX5_hasKind_2 rfl rfl ?_
      refine b_aloadN (pc := 3) 0 dX5_hasKind_3 rfl rfl ?_
      refine gf5_8 (pc := 4) k160 dX5_hasKind_4 ?_
      refine b_icmp_ge (pc := 7) 28 dX5_hasKind_7 (by decide) (fun c7 => ?_) (fun c7 => ?_)
      refine b_iconst (pc := 28) (nI 0) dX5_hasKind_28 (by decide) ?_
      refine b_zret (pc := 29) rfl ?_ dX5_hasKind_29 ⟨Nat.le_of_ble_eq_true rfl, Nat.le_of_ble_eq_true rfl⟩ ?_
      rotate_left -- leaf 0: bool at 29
      rotate_left -- leaf 1: return at 29
      refine b_aloadN (pc := 10) 0 dX5_hasKind_10 rfl rfl ?_
      refine gf5_3 (pc := 11) 25 rfl k136 dX5_hasKind_11 ?_
      refine b_iloadN (pc := 14) 2 dX5_hasKind_14 rfl rfl ?_
      refine b_iald (pc := 15) (by decide) ?_ dX5_hasKind_15 ?_
      rotate_left -- leaf 2: index at 15
      refine b_iloadN (pc := 16) 1 dX5_hasKind_16 rfl rfl ?_
      refine b_icmp_ne (pc := 17) 22 dX5_hasKind_17 (by decide) (fun c17 => ?_) (fun c17 => ?_)
      refine inc2 (pc := 22) notL_i (by decide) dX5_hasKind_22 ?_
      refine b_goto (pc := 25) 2 dX5_hasKind_25 (by decide) ?_
      rotate_left -- leaf 3: at 2
      refine b_iconst (pc := 20) (nI 1) dX5_hasKind_20 (by decide) ?_
      refine b_zret (pc := 21) rfl ?_ dX5_hasKind_21 ⟨Nat.le_of_ble_eq_true rfl, Nat.le_of_ble_eq_true rfl⟩ ?_
      rotate_left -- leaf 4: bool at 21
      rotate_left -- leaf 5: return at 21
      -- leaves: 0 bool at 29; 1 return at 29; 2 index at 15; 3 at 2; 4 bool at 21; 5 return at 21
      · exact Or.inl rfl
      · rw [hL.2.2.2.1, n_le (by omega) (by omega)] at c7
        rw [show p = C 4 by omega] at h3
        rw [h3] at h
        exact h
      · rw [hL.2.2.2.1, n_le (by omega) (by omega)] at c7
        exact n_in (by omega) (by omega)
      · rw [hL.2.2.2.1, n_le (by omega) (by omega)] at c7
        have hk := (hv.2.2.2.2.2.2.2.2.2 p (by omega)).1
        rw [n_cl (by omega), hL.2.2.2.2.2 p (by omega), n_eq (by omega) (by omega)] at c17
        rw [n_inc]
        refine ih (p + 1) (by omega) (by omega) ?_
        unfold hasK
        rw [h3, decide_eq_false c17]
        rfl
      · exact Or.inr rfl
      · rw [hL.2.2.2.1, n_le (by omega) (by omega)] at c7
        have hk := (hv.2.2.2.2.2.2.2.2.2 p (by omega)).1
        rw [n_cl (by omega), hL.2.2.2.2.2 p (by omega), n_eq (by omega) (by omega)] at c17
        rw [(hasK_iff C q (C 4)).mpr ⟨p, by omega, c17⟩] at h
        exact h
  refine b_iconst (pc := 0) (nI 0) dX5_hasKind_0 (by decide) ?_
  refine siN2 (pc := 1) rfl notL_i (by decide) dX5_hasKind_1 ?_
  rotate_left -- leaf 0: at 2
  -- leaves: 0 at 2
  exact loop (C 4 + 1) 0 (by omega) (by omega) rfl
theorem call_X5_hasKind {E : ME} {Φ : Option AV → AM → Prop} {pc : Nat} {L : List (Option AV)} {st : List AV} {m : AM} {a : Nat × Nat} {idx : Nat} {x0 : AV} {i : Nat} (hl : Cond.methodLink E.2.1 idx yX5_hasKind ∈ TB) (hdep : 1 + 1 ≤ E.2.2.2.2.2.2) (hroom : a.1 + 0 ≤ E.2.2.2.2.1 ∧ a.2 + 0 ≤ E.2.2.2.2.2.1) (hsr : st.length ≤ 4) (hd : decode E.1 pc = .ok (.invokevirtual idx, 3)) (hsp : Sp_X5_hasKind [vr 5 i, x0] m (fun r m2 => B E Φ (pc + 3) L (r.toList ++ st) m2 a)) : B E Φ pc L (x0 :: vr 5 i :: st) m a := b_callV S_X5_hasKind [x0] (RX5, TX5, 9) rfl rfl (by decide) (Or.inl hl) k762 k763 k72 k764 (show _ ∧ _ ∧ Option.map (fun d => d.parameters.length) (parseMethodDescriptor yX5_hasKind.desc) = some 1 from by decide +kernel) ⟨hdep, by decide⟩ hroom hsr hd hsp
abbrev e_X10_isNoBit : ME := (cX10_isNoBit, (RX10, (1, ((some .boolean), (0, (0, 1))))))
theorem dX10_isNoBit_0 : decode cX10_isNoBit 0 = .ok (.iload_n 0, 1) := by decide +kernel
theorem dX10_isNoBit_1 : decode cX10_isNoBit 1 = .ok (.ifCond .eq 12, 3) := by decide +kernel
theorem dX10_isNoBit_4 : decode cX10_isNoBit 4 = .ok (.iload_n 0, 1) := by decide +kernel
theorem dX10_isNoBit_5 : decode cX10_isNoBit 5 = .ok (.iconst 1, 1) := by decide +kernel
theorem dX10_isNoBit_6 : decode cX10_isNoBit 6 = .ok (.if_icmp .eq 7, 3) := by decide +kernel
theorem dX10_isNoBit_9 : decode cX10_isNoBit 9 = .ok (.iconst 1, 1) := by decide +kernel
theorem dX10_isNoBit_10 : decode cX10_isNoBit 10 = .ok (.goto 4, 3) := by decide +kernel
theorem dX10_isNoBit_13 : decode cX10_isNoBit 13 = .ok (.iconst 0, 1) := by decide +kernel
theorem dX10_isNoBit_14 : decode cX10_isNoBit 14 = .ok (.ireturn, 1) := by decide +kernel
def Sp_X10_isNoBit (av : List AV) (m : AM) (Φ : Option AV → AM → Prop) : Prop := ∃ p, av = [vi p] ∧ Φ (some (vi (nI (if inB p 2 = true then 0 else 1)))) m
theorem inB2 (p : Int32) : inB p 2 = true ↔ p = nI 0 ∨ p = nI 1 := by
  rw [inB_iff (by omega)]
  constructor
  · rintro ⟨j, hj, rfl⟩
    rcases (by omega : j = 0 ∨ j = 1) with rfl | rfl
    · exact Or.inl rfl
    · exact Or.inr rfl
  · rintro (rfl | rfl)
    · exact ⟨0, by omega, rfl⟩
    · exact ⟨1, by omega, rfl⟩
set_option maxRecDepth 20000 in
set_option maxHeartbeats 4000000 in
theorem S_X10_isNoBit : Snd yX10_isNoBit e_X10_isNoBit Sp_X10_isNoBit := by
  refine Snd.of (by decide +kernel) rfl ?_ ?_
  · rintro av m Φ ⟨p, rfl, _⟩; exact Nat.le_of_ble_eq_true rfl
  rintro av m Φ ⟨p, rfl, h⟩ hav hty
  show B e_X10_isNoBit Φ 0 [some (vi p)] [] m (0, 0)
  refine b_iloadN (pc := 0) 0 dX10_isNoBit_0 rfl rfl ?_
  refine b_if_eq (pc := 1) 13 dX10_isNoBit_1 (by decide) (fun c1 => ?_) (fun c1 => ?_)
  refine b_iconst (pc := 13) (nI 0) dX10_isNoBit_13 (by decide) ?_
  refine b_zret (pc := 14) rfl ?_ dX10_isNoBit_14 ⟨Nat.le_of_ble_eq_true rfl, Nat.le_of_ble_eq_true rfl⟩ ?_
  rotate_left -- leaf 0: bool at 14
  rotate_left -- leaf 1: return at 14
  refine b_iloadN (pc := 4) 0 dX10_isNoBit_4 rfl rfl ?_
  refine b_iconst (pc := 5) (nI 1) dX10_isNoBit_5 (by decide) ?_
  refine b_icmp_eq (pc := 6) 13 dX10_isNoBit_6 (by decide) (fun c6 => ?_) (fun c6 => ?_)
  refine b_iconst (pc := 13) (nI 0) dX10_isNoBit_13 (by decide) ?_
  refine b_zret (pc := 14) rfl ?_ dX10_isNoBit_14 ⟨Nat.le_of_ble_eq_true rfl, Nat.le_of_ble_eq_true rfl⟩ ?_
  rotate_left -- leaf 2: bool at 14
  rotate_left -- leaf 3: return at 14
  refine b_iconst (pc := 9) (nI 1) dX10_isNoBit_9 (by decide) ?_
  refine b_goto (pc := 10) 14 dX10_isNoBit_10 (by decide) ?_
  refine b_zret (pc := 14) rfl ?_ dX10_isNoBit_14 ⟨Nat.le_of_ble_eq_true rfl, Nat.le_of_ble_eq_true rfl⟩ ?_
  rotate_left -- leaf 4: bool at 14
  rotate_left -- leaf 5: return at 14
  -- leaves: 0 bool at 14; 1 return at 14; 2 bool at 14; 3 return at 14; 4 bool at 14; 5 return at 14
  all_goals first | exact Or.inl rfl | exact Or.inr rfl | skip
  · rw [if_pos ((inB2 p).mpr (Or.inl c1))] at h; exact h
  · rw [if_pos ((inB2 p).mpr (Or.inr c6))] at h; exact h
  · have e : ¬ inB p 2 = true := fun q => by
      rcases (inB2 p).mp q with z | z
      · exact c1 z
      · exact c6 z
    rw [if_neg e] at h; exact h
theorem call_X10_isNoBit {E : ME} {Φ : Option AV → AM → Prop} {pc : Nat} {L : List (Option AV)} {st : List AV} {m : AM} {a : Nat × Nat} {idx : Nat} {x0 : AV} (hl : Cond.methodLink E.2.1 idx yX10_isNoBit ∈ TB) (hdep : 1 + 1 ≤ E.2.2.2.2.2.2) (hroom : a.1 + 0 ≤ E.2.2.2.2.1 ∧ a.2 + 0 ≤ E.2.2.2.2.2.1) (hsr : st.length ≤ 4) (hd : decode E.1 pc = .ok (.invokestatic idx, 3)) (hsp : Sp_X10_isNoBit [x0] m (fun r m2 => B E Φ (pc + 3) L (r.toList ++ st) m2 a)) : B E Φ pc L (x0 :: st) m a := b_callS S_X10_isNoBit [x0] (Or.inl hl) k710 k68 k711 (show _ ∧ _ ∧ Option.map (fun d => d.parameters.length) (parseMethodDescriptor yX10_isNoBit.desc) = some 1 from by decide +kernel) ⟨hdep, by decide⟩ hroom hsr hd hsp
abbrev e_X10_isRow : ME := (cX10_isRow, (RX10, (1, ((some .boolean), (0, (0, 1))))))
theorem dX10_isRow_0 : decode cX10_isRow 0 = .ok (.iload_n 0, 1) := by decide +kernel
theorem dX10_isRow_1 : decode cX10_isRow 1 = .ok (.ifCond .lt 13, 3) := by decide +kernel
theorem dX10_isRow_4 : decode cX10_isRow 4 = .ok (.iload_n 0, 1) := by decide +kernel
theorem dX10_isRow_5 : decode cX10_isRow 5 = .ok (.bipush 8, 2) := by decide +kernel
theorem dX10_isRow_7 : decode cX10_isRow 7 = .ok (.if_icmp .ge 7, 3) := by decide +kernel
theorem dX10_isRow_10 : decode cX10_isRow 10 = .ok (.iconst 1, 1) := by decide +kernel
theorem dX10_isRow_11 : decode cX10_isRow 11 = .ok (.goto 4, 3) := by decide +kernel
theorem dX10_isRow_14 : decode cX10_isRow 14 = .ok (.iconst 0, 1) := by decide +kernel
theorem dX10_isRow_15 : decode cX10_isRow 15 = .ok (.ireturn, 1) := by decide +kernel
def Sp_X10_isRow (av : List AV) (m : AM) (Φ : Option AV → AM → Prop) : Prop := ∃ p, av = [vi p] ∧ Φ (some (vi (nI (if inB p 8 = true then 1 else 0)))) m
set_option maxRecDepth 20000 in
set_option maxHeartbeats 4000000 in
theorem S_X10_isRow : Snd yX10_isRow e_X10_isRow Sp_X10_isRow := by
  refine Snd.of (by decide +kernel) rfl ?_ ?_
  · rintro av m Φ ⟨p, rfl, _⟩; exact Nat.le_of_ble_eq_true rfl
  rintro av m Φ ⟨p, rfl, h⟩ hav hty
  show B e_X10_isRow Φ 0 [some (vi p)] [] m (0, 0)
  refine b_iloadN (pc := 0) 0 dX10_isRow_0 rfl rfl ?_
  refine b_if_lt (pc := 1) 14 dX10_isRow_1 (by decide) (fun c1 => ?_) (fun c1 => ?_)
  refine b_iconst (pc := 14) (nI 0) dX10_isRow_14 (by decide) ?_
  refine b_zret (pc := 15) rfl ?_ dX10_isRow_15 ⟨Nat.le_of_ble_eq_true rfl, Nat.le_of_ble_eq_true rfl⟩ ?_
  rotate_left -- leaf 0: bool at 15
  rotate_left -- leaf 1: return at 15
  refine b_iloadN (pc := 4) 0 dX10_isRow_4 rfl rfl ?_
  refine b_bipush (pc := 5) (nI 8) dX10_isRow_5 (by decide) ?_
  refine b_icmp_ge (pc := 7) 14 dX10_isRow_7 (by decide) (fun c7 => ?_) (fun c7 => ?_)
  refine b_iconst (pc := 14) (nI 0) dX10_isRow_14 (by decide) ?_
  refine b_zret (pc := 15) rfl ?_ dX10_isRow_15 ⟨Nat.le_of_ble_eq_true rfl, Nat.le_of_ble_eq_true rfl⟩ ?_
  rotate_left -- leaf 2: bool at 15
  rotate_left -- leaf 3: return at 15
  refine b_iconst (pc := 10) (nI 1) dX10_isRow_10 (by decide) ?_
  refine b_goto (pc := 11) 15 dX10_isRow_11 (by decide) ?_
  refine b_zret (pc := 15) rfl ?_ dX10_isRow_15 ⟨Nat.le_of_ble_eq_true rfl, Nat.le_of_ble_eq_true rfl⟩ ?_
  rotate_left -- leaf 4: bool at 15
  rotate_left -- leaf 5: return at 15
  -- leaves: 0 bool at 15; 1 return at 15; 2 bool at 15; 3 return at 15; 4 bool at 15; 5 return at 15
  · exact Or.inl rfl
  · rw [inB_f1 c1] at h; exact h
  · exact Or.inl rfl
  · rw [inB_f2 c7] at h; exact h
  · exact Or.inr rfl
  · rw [inB_t c1 c7] at h; exact h
theorem call_X10_isRow {E : ME} {Φ : Option AV → AM → Prop} {pc : Nat} {L : List (Option AV)} {st : List AV} {m : AM} {a : Nat × Nat} {idx : Nat} {x0 : AV} (hl : Cond.methodLink E.2.1 idx yX10_isRow ∈ TB) (hdep : 1 + 1 ≤ E.2.2.2.2.2.2) (hroom : a.1 + 0 ≤ E.2.2.2.2.1 ∧ a.2 + 0 ≤ E.2.2.2.2.2.1) (hsr : st.length ≤ 4) (hd : decode E.1 pc = .ok (.invokestatic idx, 3)) (hsp : Sp_X10_isRow [x0] m (fun r m2 => B E Φ (pc + 3) L (r.toList ++ st) m2 a)) : B E Φ pc L (x0 :: st) m a := b_callS S_X10_isRow [x0] (Or.inl hl) k448 k68 k449 (show _ ∧ _ ∧ Option.map (fun d => d.parameters.length) (parseMethodDescriptor yX10_isRow.desc) = some 1 from by decide +kernel) ⟨hdep, by decide⟩ hroom hsr hd hsp
abbrev e_X10_isImage : ME := (cX10_isImage, (RX10, (1, ((some .boolean), (0, (0, 1))))))
theorem dX10_isImage_0 : decode cX10_isImage 0 = .ok (.iload_n 0, 1) := by decide +kernel
theorem dX10_isImage_1 : decode cX10_isImage 1 = .ok (.ifCond .lt 12, 3) := by decide +kernel
theorem dX10_isImage_4 : decode cX10_isImage 4 = .ok (.iload_n 0, 1) := by decide +kernel
theorem dX10_isImage_5 : decode cX10_isImage 5 = .ok (.iconst 2, 1) := by decide +kernel
theorem dX10_isImage_6 : decode cX10_isImage 6 = .ok (.if_icmp .ge 7, 3) := by decide +kernel
theorem dX10_isImage_9 : decode cX10_isImage 9 = .ok (.iconst 1, 1) := by decide +kernel
theorem dX10_isImage_10 : decode cX10_isImage 10 = .ok (.goto 4, 3) := by decide +kernel
theorem dX10_isImage_13 : decode cX10_isImage 13 = .ok (.iconst 0, 1) := by decide +kernel
theorem dX10_isImage_14 : decode cX10_isImage 14 = .ok (.ireturn, 1) := by decide +kernel
def Sp_X10_isImage (av : List AV) (m : AM) (Φ : Option AV → AM → Prop) : Prop := ∃ p, av = [vi p] ∧ Φ (some (vi (nI (if inB p 2 = true then 1 else 0)))) m
set_option maxRecDepth 20000 in
set_option maxHeartbeats 4000000 in
theorem S_X10_isImage : Snd yX10_isImage e_X10_isImage Sp_X10_isImage := by
  refine Snd.of (by decide +kernel) rfl ?_ ?_
  · rintro av m Φ ⟨p, rfl, _⟩; exact Nat.le_of_ble_eq_true rfl
  rintro av m Φ ⟨p, rfl, h⟩ hav hty
  show B e_X10_isImage Φ 0 [some (vi p)] [] m (0, 0)
  refine b_iloadN (pc := 0) 0 dX10_isImage_0 rfl rfl ?_
  refine b_if_lt (pc := 1) 13 dX10_isImage_1 (by decide) (fun c1 => ?_) (fun c1 => ?_)
  refine b_iconst (pc := 13) (nI 0) dX10_isImage_13 (by decide) ?_
  refine b_zret (pc := 14) rfl ?_ dX10_isImage_14 ⟨Nat.le_of_ble_eq_true rfl, Nat.le_of_ble_eq_true rfl⟩ ?_
  rotate_left -- leaf 0: bool at 14
  rotate_left -- leaf 1: return at 14
  refine b_iloadN (pc := 4) 0 dX10_isImage_4 rfl rfl ?_
  refine b_iconst (pc := 5) (nI 2) dX10_isImage_5 (by decide) ?_
  refine b_icmp_ge (pc := 6) 13 dX10_isImage_6 (by decide) (fun c6 => ?_) (fun c6 => ?_)
  refine b_iconst (pc := 13) (nI 0) dX10_isImage_13 (by decide) ?_
  refine b_zret (pc := 14) rfl ?_ dX10_isImage_14 ⟨Nat.le_of_ble_eq_true rfl, Nat.le_of_ble_eq_true rfl⟩ ?_
  rotate_left -- leaf 2: bool at 14
  rotate_left -- leaf 3: return at 14
  refine b_iconst (pc := 9) (nI 1) dX10_isImage_9 (by decide) ?_
  refine b_goto (pc := 10) 14 dX10_isImage_10 (by decide) ?_
  refine b_zret (pc := 14) rfl ?_ dX10_isImage_14 ⟨Nat.le_of_ble_eq_true rfl, Nat.le_of_ble_eq_true rfl⟩ ?_
  rotate_left -- leaf 4: bool at 14
  rotate_left -- leaf 5: return at 14
  -- leaves: 0 bool at 14; 1 return at 14; 2 bool at 14; 3 return at 14; 4 bool at 14; 5 return at 14
  · exact Or.inl rfl
  · rw [inB_f1 c1] at h; exact h
  · exact Or.inl rfl
  · rw [inB_f2 c6] at h; exact h
  · exact Or.inr rfl
  · rw [inB_t c1 c6] at h; exact h
theorem call_X10_isImage {E : ME} {Φ : Option AV → AM → Prop} {pc : Nat} {L : List (Option AV)} {st : List AV} {m : AM} {a : Nat × Nat} {idx : Nat} {x0 : AV} (hl : Cond.methodLink E.2.1 idx yX10_isImage ∈ TB) (hdep : 1 + 1 ≤ E.2.2.2.2.2.2) (hroom : a.1 + 0 ≤ E.2.2.2.2.1 ∧ a.2 + 0 ≤ E.2.2.2.2.2.1) (hsr : st.length ≤ 4) (hd : decode E.1 pc = .ok (.invokestatic idx, 3)) (hsp : Sp_X10_isImage [x0] m (fun r m2 => B E Φ (pc + 3) L (r.toList ++ st) m2 a)) : B E Φ pc L (x0 :: st) m a := b_callS S_X10_isImage [x0] (Or.inl hl) k961 k68 k962 (show _ ∧ _ ∧ Option.map (fun d => d.parameters.length) (parseMethodDescriptor yX10_isImage.desc) = some 1 from by decide +kernel) ⟨hdep, by decide⟩ hroom hsr hd hsp
