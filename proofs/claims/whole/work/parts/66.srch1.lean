/-! the class's search: its cells -/
def ndN (C : Nat → Nat) : Nat := if mindP C = true then 2 ^ (2 * C 0) else 2 ^ C 0
def nodeN (C : Nat → Nat) (so sd : Nat) : Nat := if mindP C = true then 2 ^ C 0 * sd + so else so
def miN (C : Nat → Nat) : Nat := if mindP C = true then 1 else 0
theorem nd_le {C : Nat → Nat} (hv : VC C) : ndN C ≤ 4096 ∧ 0 < ndN C := by
  have h06 := hv.1
  unfold ndN
  split
  · have h : 2 ^ (2 * C 0) ≤ 2 ^ 12 := Nat.pow_le_pow_right (by omega) (by omega)
    have e : (2 : Nat) ^ 12 = 4096 := by decide
    exact ⟨by omega, Nat.pow_pos (by omega)⟩
  · have h : 2 ^ C 0 ≤ 2 ^ 12 := Nat.pow_le_pow_right (by omega) (by omega)
    have e : (2 : Nat) ^ 12 = 4096 := by decide
    exact ⟨by omega, Nat.pow_pos (by omega)⟩
theorem node_lt {C : Nat → Nat} {so sd : Nat} (h1 : so < 2 ^ C 0) (h2 : sd < 2 ^ C 0) : nodeN C so sd < ndN C := by
  unfold nodeN ndN
  by_cases q : mindP C = true
  · rw [if_pos q, if_pos q, show 2 * C 0 = C 0 + C 0 by omega, Nat.pow_add]
    have : 2 ^ C 0 * (sd + 1) ≤ 2 ^ C 0 * 2 ^ C 0 := Nat.mul_le_mul (Nat.le_refl _) h2
    rw [Nat.mul_succ] at this
    omega
  · rw [if_neg q, if_neg q]; exact h1
theorem node_so {C : Nat → Nat} {so sd : Nat} (h1 : so < 2 ^ C 0) : nodeN C so sd % 2 ^ C 0 = so := by
  unfold nodeN
  split
  · rw [Nat.mul_add_mod, Nat.mod_eq_of_lt h1]
  · exact Nat.mod_eq_of_lt h1
theorem node_sd {C : Nat → Nat} {so sd : Nat} (h1 : so < 2 ^ C 0) : nodeN C so sd / 2 ^ C 0 = if mindP C = true then sd else 0 := by
  have h0 : 0 < 2 ^ C 0 := Nat.pow_pos (by omega)
  unfold nodeN
  by_cases q : mindP C = true
  · rw [if_pos q, if_pos q, Nat.mul_add_div h0, Nat.div_eq_of_lt h1, Nat.add_zero]
  · rw [if_neg q, if_neg q]; exact Nat.div_eq_of_lt h1
theorem sdN_if {C : Nat → Nat} (d s : Nat) : (if mindP C = true then d ||| 2 ^ (s / 2) else 0) = sdN C d s := rfl
/-- the four arrays of the search, apart; l long at least -/
def SrA (m : AM) (l : Nat) : Prop := (∀ k, 1 ≤ k → k ≤ 3 → (100 ≤ m.2.1 98 k ∧ (m.2.1 98 k ≤ 102 ∨ 125 ≤ m.2.1 98 k)) ∧ l ≤ m.2.2.1 (m.2.1 98 k) ∧ m.2.2.1 (m.2.1 98 k) ≤ 4096) ∧ m.2.1 98 1 ≠ m.2.1 98 2 ∧ m.2.1 98 1 ≠ m.2.1 98 3 ∧ m.2.1 98 2 ≠ m.2.1 98 3
theorem SrA.cg {m m2 : AM} {l : Nat} (h : SrA m l) (e : m2.2 = m.2) : SrA m2 l := by
  unfold SrA
  rw [e]
  exact h
def MvR (m : AM) (C : Nat → Nat) : Prop := ∃ mv, m.1 98 4 = nI mv ∧ mv ≤ 2 ∧ (∀ k, k < mv → ∃ q, m.1 99 k = nI q ∧ MvK C q) ∧ ∀ q, MvK C q → ∃ k, k < mv ∧ m.1 99 k = nI q
theorem MvK.rng {C : Nat → Nat} {q : Nat} (h : MvK C q) : 1 ≤ q ∧ q ≤ 5 := by
  rcases h with h | h | h <;> omega
def le2 (y x : Nat × Nat) : Prop := y.1 < x.1 ∨ (y.1 = x.1 ∧ y.2 ≤ x.2)
theorem le2.rf (x : Nat × Nat) : le2 x x := Or.inr ⟨rfl, Nat.le_refl _⟩
theorem le2.tr {x y z : Nat × Nat} (h : le2 x y) (h2 : le2 y z) : le2 x z := by
  unfold le2 at *
  omega
def cntL (lab : Nat → Option (Nat × Nat)) (n : Nat) : Nat := sumN n (fun i => if (lab i).isSome = true then 1 else 0)
theorem cntL_le (lab : Nat → Option (Nat × Nat)) (n : Nat) : cntL lab n ≤ n := by
  have := sumN_le (f := fun i => if (lab i).isSome = true then 1 else 0) 1 n (fun i _ => by
    show (if (lab i).isSome = true then 1 else 0) ≤ 1
    split <;> omega)
  rw [Nat.mul_one] at this
  exact this
/-- the search, with the labels lab -/
def SrS (C : Nat → Nat) (bc wk A Bn : Nat) (lab : Nat → Option (Nat × Nat)) (far : Nat) (m : AM) : Prop := SrA m (ndN C) ∧ (m.1 98 5 = nI (C 0) ∧ m.1 98 6 = nI (ndN C) ∧ m.1 98 7 = nI (miN C) ∧ m.1 98 8 = nI bc ∧ m.1 98 9 = nI wk ∧ m.1 98 10 = nI far ∧ m.1 98 11 = nI A ∧ m.1 98 12 = nI Bn) ∧ MvR m C ∧ (∀ n, n < ndN C → (lab n = none → ¬ m.1 (m.2.1 98 1) n = nI wk) ∧ ∀ x, lab n = some x → m.1 (m.2.1 98 1) n = nI wk ∧ m.1 (m.2.1 98 2) n = nI x.1 ∧ m.1 (m.2.1 98 3) n = nI x.2) ∧ (∀ n x, lab n = some x → x.1 ≤ far ∧ x.2 < 100) ∧ far ≤ 6 * cntL lab (ndN C) ∧ ∀ n, n < m.2.2.1 (m.2.1 98 1) → ∃ j, j ≤ wk ∧ m.1 (m.2.1 98 1) n = nI j
theorem SrS.cg {C : Nat → Nat} {bc wk A Bn : Nat} {lab : Nat → Option (Nat × Nat)} {far : Nat} {m m2 : AM} (h : SrS C bc wk A Bn lab far m) (e : m2.2 = m.2) (ho : ∀ a, a ≠ 30 → m2.1 a = m.1 a) : SrS C bc wk A Bn lab far m2 := by
  obtain ⟨h1, h2, h3, h4, h5, h6, h7⟩ := h
  have r1 := (h1.1 1 (by omega) (by omega)).1
  have r2 := (h1.1 2 (by omega) (by omega)).1
  have r3 := (h1.1 3 (by omega) (by omega)).1
  unfold SrS MvR
  rw [e, ho 98 (by omega), ho 99 (by omega), ho (m.2.1 98 1) (by omega), ho (m.2.1 98 2) (by omega), ho (m.2.1 98 3) (by omega)]
  exact ⟨h1.cg e, h2, h3, h4, h5, h6, h7⟩
theorem SrS.cu {C : Nat → Nat} {bc wk A Bn : Nat} {lab : Nat → Option (Nat × Nat)} {far : Nat} {m m2 : AM} (h : SrS C bc wk A Bn lab far m) (hu : CU C m m2) : SrS C bc wk A Bn lab far m2 := h.cg hu.two (fun a ha => hu.ne ha)
/-- what a search writes -/
def Xs (m m2 : AM) : Prop := m2.2 = m.2 ∧ ∀ a, a ≠ 30 → a ≠ 98 → a ≠ m.2.1 98 1 → a ≠ m.2.1 98 2 → a ≠ m.2.1 98 3 → m2.1 a = m.1 a
theorem Xs.rf (m : AM) : Xs m m := ⟨rfl, fun _ _ _ _ _ _ => rfl⟩
theorem Xs.tr {m m2 m3 : AM} (h : Xs m m2) (h2 : Xs m2 m3) : Xs m m3 := ⟨h2.1.trans h.1, fun a a1 a2 a3 a4 a5 => (h2.2 a a1 a2 (by rw [h.1]; exact a3) (by rw [h.1]; exact a4) (by rw [h.1]; exact a5)).trans (h.2 a a1 a2 a3 a4 a5)⟩
theorem Xs.cu {C : Nat → Nat} {m m2 : AM} (hu : CU C m m2) : Xs m m2 := ⟨hu.two, fun a a1 _ _ _ _ => hu.ne a1⟩
theorem BR.xs {C : Nat → Nat} {m m2 : AM} {l : Nat} (hB : BR m C) (h : Xs m m2) (hA : SrA m l) (hc : CacR m2 C) : BR m2 C := by
  have r1 := (hA.1 1 (by omega) (by omega)).1
  have r2 := (hA.1 2 (by omega) (by omega)).1
  have r3 := (hA.1 3 (by omega) (by omega)).1
  have o : ∀ a, 21 ≤ a → a ≤ 29 → m2.1 a = m.1 a := fun a b c => h.2 a (by omega) (by omega) (by omega) (by omega) (by omega)
  obtain ⟨hv, hL, hS, hM, hC⟩ := hB
  refine ⟨hv, hL.cg (o _ (by omega) (by omega)) (o _ (by omega) (by omega)) (o _ (by omega) (by omega)) (o _ (by omega) (by omega)) (o _ (by omega) (by omega)), hS.cg (o _ (by omega) (by omega)) (o _ (by omega) (by omega)), ?_, hc⟩
  intro f q
  rw [o 28 (by omega) (by omega), o 29 (by omega) (by omega)]
  exact hM f q
abbrev e_X7_soOf : ME := (cX7_soOf, (RX7, (2, ((some .int), (0, (0, 1))))))
theorem dX7_soOf_0 : decode cX7_soOf 0 = .ok (.iload_n 1, 1) := by decide +kernel
theorem dX7_soOf_1 : decode cX7_soOf 1 = .ok (.iconst 1, 1) := by decide +kernel
theorem dX7_soOf_2 : decode cX7_soOf 2 = .ok (.aload_n 0, 1) := by decide +kernel
theorem dX7_soOf_3 : decode cX7_soOf 3 = .ok (.getfield 80, 3) := by decide +kernel
theorem dX7_soOf_6 : decode cX7_soOf 6 = .ok (.ishl, 1) := by decide +kernel
theorem dX7_soOf_7 : decode cX7_soOf 7 = .ok (.iconst 1, 1) := by decide +kernel
theorem dX7_soOf_8 : decode cX7_soOf 8 = .ok (.isub, 1) := by decide +kernel
theorem dX7_soOf_9 : decode cX7_soOf 9 = .ok (.iand, 1) := by decide +kernel
theorem dX7_soOf_10 : decode cX7_soOf 10 = .ok (.ireturn, 1) := by decide +kernel
def Sp_X7_soOf (av : List AV) (m : AM) (Φ : Option AV → AM → Prop) : Prop := ∃ x, av = [vr 7 98, vi x] ∧ ∃ k n, x = nI k ∧ m.1 98 5 = nI n ∧ n ≤ 6 ∧ Φ (some (vi (nI (k % 2 ^ n)))) m
set_option maxRecDepth 20000 in
set_option maxHeartbeats 4000000 in
theorem S_X7_soOf : Snd yX7_soOf e_X7_soOf Sp_X7_soOf := by
  refine Snd.of (by decide +kernel) rfl ?_ ?_
  · rintro av m Φ ⟨x, rfl, _⟩; exact Nat.le_of_ble_eq_true rfl
  rintro av m Φ ⟨x, rfl, k, n, rfl, hn, hn6, h⟩ hav hty
  show B e_X7_soOf Φ 0 [some (vr 7 98), some (vi (nI k))] [] m (0, 0)
  have hp : 2 ^ n ≤ 2 ^ 6 := Nat.pow_le_pow_right (by omega) hn6
  have hp0 : 0 < 2 ^ n := Nat.pow_pos (by omega)
  refine b_iloadN (pc := 0) 1 dX7_soOf_0 rfl rfl ?_
  refine b_iconst (pc := 1) (nI 1) dX7_soOf_1 (by decide) ?_
  refine b_aloadN (pc := 2) 0 dX7_soOf_2 rfl rfl ?_
  refine gf7_5 (pc := 3) k323 dX7_soOf_3 ?_
  refine b_ishl (pc := 6) dX7_soOf_6 ?_
  refine b_iconst (pc := 7) (nI 1) dX7_soOf_7 (by decide) ?_
  refine b_isub (pc := 8) dX7_soOf_8 ?_
  refine b_iand (pc := 9) dX7_soOf_9 ?_
  refine b_iret (pc := 10) rfl dX7_soOf_10 ⟨Nat.le_of_ble_eq_true rfl, Nat.le_of_ble_eq_true rfl⟩ ?_
  rotate_left -- leaf 0: return at 10
  -- leaves: 0 return at 10
  rw [hn, n_pow (by omega), n_sub (by omega), n_and, Nat.and_two_pow_sub_one_eq_mod]
  exact h
theorem call_X7_soOf {E : ME} {Φ : Option AV → AM → Prop} {pc : Nat} {L : List (Option AV)} {st : List AV} {m : AM} {a : Nat × Nat} {idx : Nat} {x0 : AV} {i : Nat} (hl : Cond.methodLink E.2.1 idx yX7_soOf ∈ TB) (hdep : 1 + 1 ≤ E.2.2.2.2.2.2) (hroom : a.1 + 0 ≤ E.2.2.2.2.1 ∧ a.2 + 0 ≤ E.2.2.2.2.2.1) (hsr : st.length ≤ 4) (hd : decode E.1 pc = .ok (.invokevirtual idx, 3)) (hsp : Sp_X7_soOf [vr 7 i, x0] m (fun r m2 => B E Φ (pc + 3) L (r.toList ++ st) m2 a)) : B E Φ pc L (x0 :: vr 7 i :: st) m a := b_callV S_X7_soOf [x0] (RX7, TX7, 14) rfl rfl (by decide) (Or.inl hl) k794 k23 k76 k795 (show _ ∧ _ ∧ Option.map (fun d => d.parameters.length) (parseMethodDescriptor yX7_soOf.desc) = some 1 from by decide +kernel) ⟨hdep, by decide⟩ hroom hsr hd hsp
def metB (A Bn so : Nat) : Bool := decide (so &&& A = A) && decide (so &&& Bn = 0)
theorem metB_iff (A Bn so : Nat) : metB A Bn so = true ↔ metP A Bn so := by
  unfold metB metP
  rw [Bool.and_eq_true, decide_eq_true_eq, decide_eq_true_eq]
abbrev e_X7_isMet : ME := (cX7_isMet, (RX7, (2, ((some .boolean), (0, (0, 1))))))
theorem dX7_isMet_0 : decode cX7_isMet 0 = .ok (.iload_n 1, 1) := by decide +kernel
theorem dX7_isMet_1 : decode cX7_isMet 1 = .ok (.aload_n 0, 1) := by decide +kernel
theorem dX7_isMet_2 : decode cX7_isMet 2 = .ok (.getfield 92, 3) := by decide +kernel
theorem dX7_isMet_5 : decode cX7_isMet 5 = .ok (.iand, 1) := by decide +kernel
theorem dX7_isMet_6 : decode cX7_isMet 6 = .ok (.aload_n 0, 1) := by decide +kernel
theorem dX7_isMet_7 : decode cX7_isMet 7 = .ok (.getfield 92, 3) := by decide +kernel
theorem dX7_isMet_10 : decode cX7_isMet 10 = .ok (.if_icmp .ne 16, 3) := by decide +kernel
theorem dX7_isMet_13 : decode cX7_isMet 13 = .ok (.iload_n 1, 1) := by decide +kernel
theorem dX7_isMet_14 : decode cX7_isMet 14 = .ok (.aload_n 0, 1) := by decide +kernel
theorem dX7_isMet_15 : decode cX7_isMet 15 = .ok (.getfield 95, 3) := by decide +kernel
theorem dX7_isMet_18 : decode cX7_isMet 18 = .ok (.iand, 1) := by decide +kernel
theorem dX7_isMet_19 : decode cX7_isMet 19 = .ok (.ifCond .ne 7, 3) := by decide +kernel
theorem dX7_isMet_22 : decode cX7_isMet 22 = .ok (.iconst 1, 1) := by decide +kernel
theorem dX7_isMet_23 : decode cX7_isMet 23 = .ok (.goto 4, 3) := by decide +kernel
theorem dX7_isMet_26 : decode cX7_isMet 26 = .ok (.iconst 0, 1) := by decide +kernel
theorem dX7_isMet_27 : decode cX7_isMet 27 = .ok (.ireturn, 1) := by decide +kernel
def Sp_X7_isMet (av : List AV) (m : AM) (Φ : Option AV → AM → Prop) : Prop := ∃ x, av = [vr 7 98, vi x] ∧ ∃ k A Bn, x = nI k ∧ k < 64 ∧ m.1 98 11 = nI A ∧ m.1 98 12 = nI Bn ∧ A < 1000 ∧ Φ (some (vi (nI (if metB A Bn k = true then 1 else 0)))) m
set_option maxRecDepth 20000 in
set_option maxHeartbeats 4000000 in
theorem S_X7_isMet : Snd yX7_isMet e_X7_isMet Sp_X7_isMet := by
  refine Snd.of (by decide +kernel) rfl ?_ ?_
  · rintro av m Φ ⟨x, rfl, _⟩; exact Nat.le_of_ble_eq_true rfl
  rintro av m Φ ⟨x, rfl, k, A, Bn, rfl, hk, hA, hBn, hA1, h⟩ hav hty
  show B e_X7_isMet Φ 0 [some (vr 7 98), some (vi (nI k))] [] m (0, 0)
  have b1 : k &&& A < 64 := by rw [Nat.and_comm]; exact Nat.and_lt_two_pow (n := 6) A hk
  have b2 : k &&& Bn < 64 := by rw [Nat.and_comm]; exact Nat.and_lt_two_pow (n := 6) Bn hk
  unfold metB at h
  refine b_iloadN (pc := 0) 1 dX7_isMet_0 rfl rfl ?_
  refine b_aloadN (pc := 1) 0 dX7_isMet_1 rfl rfl ?_
  refine gf7_11 (pc := 2) k329 dX7_isMet_2 ?_
  refine b_iand (pc := 5) dX7_isMet_5 ?_
  refine b_aloadN (pc := 6) 0 dX7_isMet_6 rfl rfl ?_
  refine gf7_11 (pc := 7) k329 dX7_isMet_7 ?_
  refine b_icmp_ne (pc := 10) 26 dX7_isMet_10 (by decide) (fun c10 => ?_) (fun c10 => ?_)
  refine b_iconst (pc := 26) (nI 0) dX7_isMet_26 (by decide) ?_
  refine b_zret (pc := 27) rfl ?_ dX7_isMet_27 ⟨Nat.le_of_ble_eq_true rfl, Nat.le_of_ble_eq_true rfl⟩ ?_
  rotate_left -- leaf 0: bool at 27
  rotate_left -- leaf 1: return at 27
  refine b_iloadN (pc := 13) 1 dX7_isMet_13 rfl rfl ?_
  refine b_aloadN (pc := 14) 0 dX7_isMet_14 rfl rfl ?_
  refine gf7_12 (pc := 15) k330 dX7_isMet_15 ?_
  refine b_iand (pc := 18) dX7_isMet_18 ?_
  refine b_if_ne (pc := 19) 26 dX7_isMet_19 (by decide) (fun c19 => ?_) (fun c19 => ?_)
  refine b_iconst (pc := 26) (nI 0) dX7_isMet_26 (by decide) ?_
  refine b_zret (pc := 27) rfl ?_ dX7_isMet_27 ⟨Nat.le_of_ble_eq_true rfl, Nat.le_of_ble_eq_true rfl⟩ ?_
  rotate_left -- leaf 2: bool at 27
  rotate_left -- leaf 3: return at 27
  refine b_iconst (pc := 22) (nI 1) dX7_isMet_22 (by decide) ?_
  refine b_goto (pc := 23) 27 dX7_isMet_23 (by decide) ?_
  refine b_zret (pc := 27) rfl ?_ dX7_isMet_27 ⟨Nat.le_of_ble_eq_true rfl, Nat.le_of_ble_eq_true rfl⟩ ?_
  rotate_left -- leaf 4: bool at 27
  rotate_left -- leaf 5: return at 27
  -- leaves: 0 bool at 27; 1 return at 27; 2 bool at 27; 3 return at 27; 4 bool at 27; 5 return at 27
  · exact Or.inl rfl
  · rw [hA, n_and, n_eq (by omega) (by omega)] at c10
    rw [decide_eq_false c10, Bool.false_and] at h
    exact h
  · exact Or.inl rfl
  · rw [hBn, n_and, n_eq0 (by omega)] at c19
    rw [decide_eq_false c19, Bool.and_false] at h
    exact h
  · exact Or.inr rfl
  · rw [hA, n_and, n_eq (by omega) (by omega)] at c10
    rw [hBn, n_and, n_eq0 (by omega)] at c19
    rw [decide_eq_true c10, decide_eq_true c19] at h
    exact h
theorem call_X7_isMet {E : ME} {Φ : Option AV → AM → Prop} {pc : Nat} {L : List (Option AV)} {st : List AV} {m : AM} {a : Nat × Nat} {idx : Nat} {x0 : AV} {i : Nat} (hl : Cond.methodLink E.2.1 idx yX7_isMet ∈ TB) (hdep : 1 + 1 ≤ E.2.2.2.2.2.2) (hroom : a.1 + 0 ≤ E.2.2.2.2.1 ∧ a.2 + 0 ≤ E.2.2.2.2.2.1) (hsr : st.length ≤ 4) (hd : decode E.1 pc = .ok (.invokevirtual idx, 3)) (hsp : Sp_X7_isMet [vr 7 i, x0] m (fun r m2 => B E Φ (pc + 3) L (r.toList ++ st) m2 a)) : B E Φ pc L (x0 :: vr 7 i :: st) m a := b_callV S_X7_isMet [x0] (RX7, TX7, 14) rfl rfl (by decide) (Or.inl hl) k768 k18 k76 k769 (show _ ∧ _ ∧ Option.map (fun d => d.parameters.length) (parseMethodDescriptor yX7_isMet.desc) = some 1 from by decide +kernel) ⟨hdep, by decide⟩ hroom hsr hd hsp
abbrev e_X7_stepOf : ME := (cX7_stepOf, (RX7, (3, ((some .int), (0, (0, 2))))))
theorem dX7_stepOf_0 : decode cX7_stepOf 0 = .ok (.aload_n 0, 1) := by decide +kernel
theorem dX7_stepOf_1 : decode cX7_stepOf 1 = .ok (.getfield 98, 3) := by decide +kernel
theorem dX7_stepOf_4 : decode cX7_stepOf 4 = .ok (.ifCond .eq 12, 3) := by decide +kernel
theorem dX7_stepOf_7 : decode cX7_stepOf 7 = .ok (.iload_n 1, 1) := by decide +kernel
theorem dX7_stepOf_8 : decode cX7_stepOf 8 = .ok (.iload_n 2, 1) := by decide +kernel
theorem dX7_stepOf_9 : decode cX7_stepOf 9 = .ok (.ixor, 1) := by decide +kernel
theorem dX7_stepOf_10 : decode cX7_stepOf 10 = .ok (.invokestatic 139, 3) := by decide +kernel
theorem dX7_stepOf_13 : decode cX7_stepOf 13 = .ok (.goto 4, 3) := by decide +kernel
theorem dX7_stepOf_16 : decode cX7_stepOf 16 = .ok (.iconst 1, 1) := by decide +kernel
theorem dX7_stepOf_17 : decode cX7_stepOf 17 = .ok (.ireturn, 1) := by decide +kernel
def Sp_X7_stepOf (av : List AV) (m : AM) (Φ : Option AV → AM → Prop) : Prop := ∃ x y, av = [vr 7 98, vi x, vi y] ∧ ∃ a b bc, x = nI a ∧ y = nI b ∧ a < 64 ∧ b < 64 ∧ m.1 98 8 = nI bc ∧ bc ≤ 1 ∧ Φ (some (vi (nI (wtN bc a b)))) m
set_option maxRecDepth 20000 in
set_option maxHeartbeats 4000000 in
theorem S_X7_stepOf : Snd yX7_stepOf e_X7_stepOf Sp_X7_stepOf := by
  refine Snd.of (by decide +kernel) rfl ?_ ?_
  · rintro av m Φ ⟨x, y, rfl, _⟩; exact Nat.le_of_ble_eq_true rfl
  rintro av m Φ ⟨x, y, rfl, a, b, bc, rfl, rfl, ha, hb, hbc, hbc1, h⟩ hav hty
  show B e_X7_stepOf Φ 0 [some (vr 7 98), some (vi (nI a)), some (vi (nI b))] [] m (0, 0)
  have hx := Nat.xor_lt_two_pow (n := 6) ha hb
  unfold wtN at h
  refine b_aloadN (pc := 0) 0 dX7_stepOf_0 rfl rfl ?_
  refine gf7_8 (pc := 1) k326 dX7_stepOf_1 ?_
  refine b_if_eq (pc := 4) 16 dX7_stepOf_4 (by decide) (fun c4 => ?_) (fun c4 => ?_)
  refine b_iconst (pc := 16) (nI 1) dX7_stepOf_16 (by decide) ?_
  refine b_iret (pc := 17) rfl dX7_stepOf_17 ⟨Nat.le_of_ble_eq_true rfl, Nat.le_of_ble_eq_true rfl⟩ ?_
  rotate_left -- leaf 0: return at 17
  refine b_iloadN (pc := 7) 1 dX7_stepOf_7 rfl rfl ?_
  refine b_iloadN (pc := 8) 2 dX7_stepOf_8 rfl rfl ?_
  refine b_ixor (pc := 9) dX7_stepOf_9 ?_
  refine call_J6_bitCount_0f7a4 (pc := 10) k784 (by decide) ⟨Nat.le_of_ble_eq_true rfl, Nat.le_of_ble_eq_true rfl⟩ (Nat.le_of_ble_eq_true rfl) dX7_stepOf_10 ?_
  refine ⟨_, rfl, _, n_xor _ _, ?_, ?_⟩
  rotate_left -- leaf 1: bound of J6_bitCount_0f7a4 at 10
  refine b_goto (pc := 13) 17 dX7_stepOf_13 (by decide) ?_
  refine b_iret (pc := 17) rfl dX7_stepOf_17 ⟨Nat.le_of_ble_eq_true rfl, Nat.le_of_ble_eq_true rfl⟩ ?_
  rotate_left -- leaf 2: return at 17
  -- leaves: 0 return at 17; 1 bound of J6_bitCount_0f7a4 at 10; 2 return at 17
  · rw [hbc, n_eq0 (by omega)] at c4
    rw [if_pos c4] at h
    exact h
  · omega
  · rw [hbc, n_eq0 (by omega)] at c4
    rw [if_neg c4] at h
    rw [pc8_6 hx]
    exact h
theorem call_X7_stepOf {E : ME} {Φ : Option AV → AM → Prop} {pc : Nat} {L : List (Option AV)} {st : List AV} {m : AM} {a : Nat × Nat} {idx : Nat} {x0 x1 : AV} {i : Nat} (hl : Cond.methodLink E.2.1 idx yX7_stepOf ∈ TB) (hdep : 2 + 1 ≤ E.2.2.2.2.2.2) (hroom : a.1 + 0 ≤ E.2.2.2.2.1 ∧ a.2 + 0 ≤ E.2.2.2.2.2.1) (hsr : st.length ≤ 4) (hd : decode E.1 pc = .ok (.invokevirtual idx, 3)) (hsp : Sp_X7_stepOf [vr 7 i, x0, x1] m (fun r m2 => B E Φ (pc + 3) L (r.toList ++ st) m2 a)) : B E Φ pc L (x1 :: x0 :: vr 7 i :: st) m a := b_callV S_X7_stepOf [x0, x1] (RX7, TX7, 14) rfl rfl (by decide) (Or.inl hl) k782 k21 k76 k783 (show _ ∧ _ ∧ Option.map (fun d => d.parameters.length) (parseMethodDescriptor yX7_stepOf.desc) = some 2 from by decide +kernel) ⟨hdep, by decide⟩ hroom hsr hd hsp
/-- a label put where it is better -/
def entL (lab : Nat → Option (Nat × Nat)) (v : Nat) (z : Nat × Nat) : Nat → Option (Nat × Nat) := fun n => if n = v then (match lab v with | none => some z | some x => if x.1 < z.1 ∨ (x.1 = z.1 ∧ x.2 ≤ z.2) then some x else some z) else lab n
def hasL (lab : Nat → Option (Nat × Nat)) (n : Nat) (z : Nat × Nat) : Prop := ∃ y, lab n = some y ∧ le2 y z
theorem entL_v (lab : Nat → Option (Nat × Nat)) (v : Nat) (z : Nat × Nat) : entL lab v z v = (match lab v with | none => some z | some x => if x.1 < z.1 ∨ (x.1 = z.1 ∧ x.2 ≤ z.2) then some x else some z) := by
  unfold entL
  rw [if_pos rfl]
theorem entL_ne (lab : Nat → Option (Nat × Nat)) {v n : Nat} (z : Nat × Nat) (h : n ≠ v) : entL lab v z n = lab n := if_neg h
theorem entL_has (lab : Nat → Option (Nat × Nat)) (v : Nat) (z : Nat × Nat) : hasL (entL lab v z) v z := by
  cases e : lab v with
  | none => exact ⟨z, by rw [entL_v, e], le2.rf z⟩
  | some x =>
    by_cases c : x.1 < z.1 ∨ (x.1 = z.1 ∧ x.2 ≤ z.2)
    · refine ⟨x, ?_, c⟩
      rw [entL_v, e]
      exact if_pos c
    · refine ⟨z, ?_, le2.rf z⟩
      rw [entL_v, e]
      exact if_neg c
theorem entL_mono {lab : Nat → Option (Nat × Nat)} {n : Nat} {x : Nat × Nat} (v : Nat) (z : Nat × Nat) (h : hasL lab n x) : hasL (entL lab v z) n x := by
  obtain ⟨y, e, hy⟩ := h
  by_cases q : n = v
  · subst q
    by_cases c : y.1 < z.1 ∨ (y.1 = z.1 ∧ y.2 ≤ z.2)
    · refine ⟨y, ?_, hy⟩
      rw [entL_v, e]
      exact if_pos c
    · refine ⟨z, ?_, ?_⟩
      · rw [entL_v, e]
        exact if_neg c
      · unfold le2 at *
        omega
  · exact ⟨y, by rw [entL_ne lab z q]; exact e, hy⟩
theorem entL_from {lab : Nat → Option (Nat × Nat)} {n v : Nat} {x z : Nat × Nat} (h : entL lab v z n = some x) : lab n = some x ∨ (n = v ∧ x = z) := by
  by_cases q : n = v
  · subst q
    rw [entL_v] at h
    cases e : lab n with
    | none =>
      rw [e] at h
      cases h
      exact Or.inr ⟨rfl, rfl⟩
    | some y =>
      rw [e] at h
      by_cases c : y.1 < z.1 ∨ (y.1 = z.1 ∧ y.2 ≤ z.2)
      · have h : (if y.1 < z.1 ∨ (y.1 = z.1 ∧ y.2 ≤ z.2) then some y else some z) = some x := h
        rw [if_pos c] at h
        exact Or.inl h
      · have h : (if y.1 < z.1 ∨ (y.1 = z.1 ∧ y.2 ≤ z.2) then some y else some z) = some x := h
        rw [if_neg c] at h
        cases h
        exact Or.inr ⟨rfl, rfl⟩
  · rw [entL_ne lab z q] at h
    exact Or.inl h
theorem entL_low {lab : Nat → Option (Nat × Nat)} {n v L : Nat} {x z : Nat × Nat} (hz : L < z.1) (hx : x.1 ≤ L) : entL lab v z n = some x ↔ lab n = some x := by
  constructor
  · intro h
    rcases entL_from h with h | ⟨-, h⟩
    · exact h
    · rw [h] at hx; omega
  · intro h
    by_cases q : n = v
    · subst q
      rw [entL_v, h]
      exact if_pos (Or.inl (by omega))
    · rw [entL_ne lab z q]; exact h
theorem cntL_ent {lab : Nat → Option (Nat × Nat)} {v : Nat} {z : Nat × Nat} : ∀ n, cntL (entL lab v z) n = cntL lab n + (if v < n ∧ lab v = none then 1 else 0)
  | 0 => by
    rw [if_neg (fun h => absurd h.1 (Nat.not_lt_zero v))]
    rfl
  | n + 1 => by
    have ih := cntL_ent (lab := lab) (v := v) (z := z) n
    have e1 : cntL (entL lab v z) (n + 1) = cntL (entL lab v z) n + (if (entL lab v z n).isSome = true then 1 else 0) := rfl
    have e2 : cntL lab (n + 1) = cntL lab n + (if (lab n).isSome = true then 1 else 0) := rfl
    rw [e1, e2, ih]
    by_cases q : n = v
    · subst q
      rw [if_neg (fun h => absurd h.1 (Nat.lt_irrefl n))]
      have hs : (entL lab n z n).isSome = true := by
        obtain ⟨y, e, -⟩ := entL_has lab n z
        rw [e]; rfl
      rw [if_pos hs]
      cases e : lab n with
      | none => simp
      | some y => simp
    · rw [entL_ne lab z q]
      have e3 : (if v < n + 1 ∧ lab v = none then 1 else 0) = (if v < n ∧ lab v = none then 1 else 0) := by
        by_cases c : v < n ∧ lab v = none
        · rw [if_pos c, if_pos (show v < n + 1 ∧ lab v = none from ⟨by omega, c.2⟩)]
        · rw [if_neg c, if_neg (show ¬ (v < n + 1 ∧ lab v = none) from fun h => c ⟨by omega, h.2⟩)]
      rw [e3]
      omega
abbrev e_X7_enter : ME := (cX7_enter, (RX7, (6, (none, (0, (0, 3))))))
theorem dX7_enter_0 : decode cX7_enter 0 = .ok (.aload_n 0, 1) := by decide +kernel
theorem dX7_enter_1 : decode cX7_enter 1 = .ok (.getfield 85, 3) := by decide +kernel
theorem dX7_enter_4 : decode cX7_enter 4 = .ok (.ifCond .eq 14, 3) := by decide +kernel
theorem dX7_enter_7 : decode cX7_enter 7 = .ok (.iload_n 2, 1) := by decide +kernel
theorem dX7_enter_8 : decode cX7_enter 8 = .ok (.aload_n 0, 1) := by decide +kernel
theorem dX7_enter_9 : decode cX7_enter 9 = .ok (.getfield 80, 3) := by decide +kernel
theorem dX7_enter_12 : decode cX7_enter 12 = .ok (.ishl, 1) := by decide +kernel
theorem dX7_enter_13 : decode cX7_enter 13 = .ok (.iload_n 1, 1) := by decide +kernel
theorem dX7_enter_14 : decode cX7_enter 14 = .ok (.ior, 1) := by decide +kernel
theorem dX7_enter_15 : decode cX7_enter 15 = .ok (.goto 4, 3) := by decide +kernel
theorem dX7_enter_18 : decode cX7_enter 18 = .ok (.iload_n 1, 1) := by decide +kernel
theorem dX7_enter_19 : decode cX7_enter 19 = .ok (.istore 5, 2) := by decide +kernel
theorem dX7_enter_21 : decode cX7_enter 21 = .ok (.aload_n 0, 1) := by decide +kernel
theorem dX7_enter_22 : decode cX7_enter 22 = .ok (.getfield 15, 3) := by decide +kernel
theorem dX7_enter_25 : decode cX7_enter 25 = .ok (.iload 5, 2) := by decide +kernel
theorem dX7_enter_27 : decode cX7_enter 27 = .ok (.iaload, 1) := by decide +kernel
theorem dX7_enter_28 : decode cX7_enter 28 = .ok (.aload_n 0, 1) := by decide +kernel
theorem dX7_enter_29 : decode cX7_enter 29 = .ok (.getfield 64, 3) := by decide +kernel
theorem dX7_enter_32 : decode cX7_enter 32 = .ok (.if_icmp .ne 38, 3) := by decide +kernel
theorem dX7_enter_35 : decode cX7_enter 35 = .ok (.aload_n 0, 1) := by decide +kernel
theorem dX7_enter_36 : decode cX7_enter 36 = .ok (.getfield 18, 3) := by decide +kernel
theorem dX7_enter_39 : decode cX7_enter 39 = .ok (.iload 5, 2) := by decide +kernel
theorem dX7_enter_41 : decode cX7_enter 41 = .ok (.iaload, 1) := by decide +kernel
theorem dX7_enter_42 : decode cX7_enter 42 = .ok (.iload_n 3, 1) := by decide +kernel
theorem dX7_enter_43 : decode cX7_enter 43 = .ok (.if_icmp .lt 26, 3) := by decide +kernel
theorem dX7_enter_46 : decode cX7_enter 46 = .ok (.aload_n 0, 1) := by decide +kernel
theorem dX7_enter_47 : decode cX7_enter 47 = .ok (.getfield 18, 3) := by decide +kernel
theorem dX7_enter_50 : decode cX7_enter 50 = .ok (.iload 5, 2) := by decide +kernel
theorem dX7_enter_52 : decode cX7_enter 52 = .ok (.iaload, 1) := by decide +kernel
theorem dX7_enter_53 : decode cX7_enter 53 = .ok (.iload_n 3, 1) := by decide +kernel
theorem dX7_enter_54 : decode cX7_enter 54 = .ok (.if_icmp .ne 16, 3) := by decide +kernel
theorem dX7_enter_57 : decode cX7_enter 57 = .ok (.aload_n 0, 1) := by decide +kernel
theorem dX7_enter_58 : decode cX7_enter 58 = .ok (.getfield 21, 3) := by decide +kernel
theorem dX7_enter_61 : decode cX7_enter 61 = .ok (.iload 5, 2) := by decide +kernel
theorem dX7_enter_63 : decode cX7_enter 63 = .ok (.iaload, 1) := by decide +kernel
theorem dX7_enter_64 : decode cX7_enter 64 = .ok (.iload 4, 2) := by decide +kernel
theorem dX7_enter_66 : decode cX7_enter 66 = .ok (.if_icmp .gt 4, 3) := by decide +kernel
theorem dX7_enter_69 : decode cX7_enter 69 = .ok (.return_, 1) := by decide +kernel
theorem dX7_enter_70 : decode cX7_enter 70 = .ok (.aload_n 0, 1) := by decide +kernel
theorem dX7_enter_71 : decode cX7_enter 71 = .ok (.getfield 15, 3) := by decide +kernel
theorem dX7_enter_74 : decode cX7_enter 74 = .ok (.iload 5, 2) := by decide +kernel
theorem dX7_enter_76 : decode cX7_enter 76 = .ok (.aload_n 0, 1) := by decide +kernel
theorem dX7_enter_77 : decode cX7_enter 77 = .ok (.getfield 64, 3) := by decide +kernel
theorem dX7_enter_80 : decode cX7_enter 80 = .ok (.iastore, 1) := by decide +kernel
theorem dX7_enter_81 : decode cX7_enter 81 = .ok (.aload_n 0, 1) := by decide +kernel
theorem dX7_enter_82 : decode cX7_enter 82 = .ok (.getfield 18, 3) := by decide +kernel
theorem dX7_enter_85 : decode cX7_enter 85 = .ok (.iload 5, 2) := by decide +kernel
theorem dX7_enter_87 : decode cX7_enter 87 = .ok (.iload_n 3, 1) := by decide +kernel
theorem dX7_enter_88 : decode cX7_enter 88 = .ok (.iastore, 1) := by decide +kernel
theorem dX7_enter_89 : decode cX7_enter 89 = .ok (.aload_n 0, 1) := by decide +kernel
theorem dX7_enter_90 : decode cX7_enter 90 = .ok (.getfield 21, 3) := by decide +kernel
theorem dX7_enter_93 : decode cX7_enter 93 = .ok (.iload 5, 2) := by decide +kernel
theorem dX7_enter_95 : decode cX7_enter 95 = .ok (.iload 4, 2) := by decide +kernel
theorem dX7_enter_97 : decode cX7_enter 97 = .ok (.iastore, 1) := by decide +kernel
theorem dX7_enter_98 : decode cX7_enter 98 = .ok (.aload_n 0, 1) := by decide +kernel
theorem dX7_enter_99 : decode cX7_enter 99 = .ok (.aload_n 0, 1) := by decide +kernel
theorem dX7_enter_100 : decode cX7_enter 100 = .ok (.getfield 89, 3) := by decide +kernel
theorem dX7_enter_103 : decode cX7_enter 103 = .ok (.iload_n 3, 1) := by decide +kernel
theorem dX7_enter_104 : decode cX7_enter 104 = .ok (.invokestatic 143, 3) := by decide +kernel
theorem dX7_enter_107 : decode cX7_enter 107 = .ok (.putfield 89, 3) := by decide +kernel
theorem dX7_enter_110 : decode cX7_enter 110 = .ok (.return_, 1) := by decide +kernel
def Sp_X7_enter (av : List AV) (m : AM) (Φ : Option AV → AM → Prop) : Prop := ∃ x y z w, av = [vr 7 98, vi x, vi y, vi z, vi w] ∧ ∃ (C : Nat → Nat) (bc wk A Bn : Nat) (lab : Nat → Option (Nat × Nat)) (far so sd c f : Nat), VC C ∧ wk < 1000000 ∧ SrS C bc wk A Bn lab far m ∧ x = nI so ∧ y = nI sd ∧ z = nI c ∧ w = nI f ∧ so < 2 ^ C 0 ∧ sd < 2 ^ C 0 ∧ f < 100 ∧ c ≤ 6 * cntL lab (ndN C) + 6 ∧ ∀ m2 far2, Xs m m2 → m2.1 30 = m.1 30 → (∀ k, k ≠ 10 → m2.1 98 k = m.1 98 k) → SrS C bc wk A Bn (entL lab (nodeN C so sd) (c, f)) far2 m2 → far ≤ far2 → Φ none m2
set_option maxRecDepth 20000 in
set_option maxHeartbeats 4000000 in
theorem S_X7_enter : Snd yX7_enter e_X7_enter Sp_X7_enter := by
  refine Snd.of (by decide +kernel) rfl ?_ ?_
  · rintro av m Φ ⟨x, y, z, w, rfl, _⟩; exact Nat.le_of_ble_eq_true rfl
  rintro av m Φ ⟨x, y, z, w, rfl, C, bc, wk, A, Bn, lab, far, so, sd, c, f, hv, hwk, hS, rfl, rfl, rfl, rfl, hso, hsd, hf, hc, h⟩ hav hty
  show B e_X7_enter Φ 0 [some (vr 7 98), some (vi (nI so)), some (vi (nI sd)), some (vi (nI c)), some (vi (nI f)), none] [] m (0, 0)
  obtain ⟨s1, s2, s3, s4, s5, s6, s7⟩ := id hS
  have h06 := hv.1
  have hnl := node_lt hso hsd
  have hnd := nd_le hv
  have hcl := cntL_le lab (ndN C)
  have r1 := s1.1 1 (by omega) (by omega)
  have r2 := s1.1 2 (by omega) (by omega)
  have r3 := s1.1 3 (by omega) (by omega)
  have n12 := s1.2.1
  have n13 := s1.2.2.1
  have n23 := s1.2.2.2
  have hp6 : 2 ^ C 0 ≤ 2 ^ 6 := Nat.pow_le_pow_right (by omega) h06.2
  have main : B e_X7_enter Φ 21 [some (vr 7 98), some (vi (nI so)), some (vi (nI sd)), some (vi (nI c)), some (vi (nI f)), some (vi (nI (nodeN C so sd)))] [] m (0, 0) := by
    generalize nodeN C so sd = v at hnl h
    have sv := s4 v hnl
    have stay : ∀ y, lab v = some y → (y.1 < c ∨ (y.1 = c ∧ y.2 ≤ f)) → Φ none m := by
      intro y hy hcc
      have el : entL lab v (c, f) = lab := by
        funext n
        by_cases q : n = v
        · subst q
          rw [entL_v, hy]
          exact if_pos hcc
        · exact entL_ne lab _ q
      exact h m far (Xs.rf m) rfl (fun _ _ => rfl) (by rw [el]; exact hS) (Nat.le_refl _)
    have put : (∀ y, lab v = some y → ¬ (y.1 < c ∨ (y.1 = c ∧ y.2 ≤ f))) → B e_X7_enter Φ 70 [some (vr 7 98), some (vi (nI so)), some (vi (nI sd)), some (vi (nI c)), some (vi (nI f)), some (vi (nI v))] [] m (0, 0) := by
      intro hno
      have elv : entL lab v (c, f) v = some (c, f) := by
        rw [entL_v]
        cases e : lab v with
        | none => rfl
        | some y => exact if_neg (hno y e)
      refine b_aloadN (pc := 70) 0 dX7_enter_70 rfl rfl ?_
      refine gf7_1 (pc := 71) k319 dX7_enter_71 ?_
      refine b_iloadG (pc := 74) 5 dX7_enter_74 rfl ?_
      refine b_aloadN (pc := 76) 0 dX7_enter_76 rfl rfl ?_
      refine gf7_9 (pc := 77) k327 dX7_enter_77 ?_
      refine b_iastD (pc := 80) ?_ dX7_enter_80 ?_
      rotate_left -- leaf 0: index at 80
      refine b_aloadN (pc := 81) 0 dX7_enter_81 rfl rfl ?_
      refine gf7_2 (pc := 82) k320 dX7_enter_82 ?_
      refine b_iloadG (pc := 85) 5 dX7_enter_85 rfl ?_
      refine b_iloadN (pc := 87) 3 dX7_enter_87 rfl rfl ?_
      refine b_iastD (pc := 88) ?_ dX7_enter_88 ?_
      rotate_left -- leaf 1: index at 88
      refine b_aloadN (pc := 89) 0 dX7_enter_89 rfl rfl ?_
      refine gf7_3 (pc := 90) k321 dX7_enter_90 ?_
      refine b_iloadG (pc := 93) 5 dX7_enter_93 rfl ?_
      refine b_iloadG (pc := 95) 4 dX7_enter_95 rfl ?_
      refine b_iastD (pc := 97) ?_ dX7_enter_97 ?_
      rotate_left -- leaf 2: index at 97
      refine b_aloadN (pc := 98) 0 dX7_enter_98 rfl rfl ?_
      refine b_aloadN (pc := 99) 0 dX7_enter_99 rfl rfl ?_
      refine gf7_10 (pc := 100) k328 dX7_enter_100 ?_
      refine b_iloadN (pc := 103) 3 dX7_enter_103 rfl rfl ?_
      refine b_mmax (pc := 104) k789 k790 k82 k791 (by decide) (Nat.le_of_ble_eq_true rfl) ⟨Nat.le_of_ble_eq_true rfl, Nat.le_of_ble_eq_true rfl⟩ dX7_enter_104 ?_
      refine pf7_10 (pc := 107) k328 dX7_enter_107 ?_
      refine b_vret (pc := 110) rfl dX7_enter_110 ⟨Nat.le_of_ble_eq_true rfl, Nat.le_of_ble_eq_true rfl⟩ ?_
      rotate_left -- leaf 3: return at 110
      -- leaves: 0 index at 80; 1 index at 88; 2 index at 97; 3 return at 110
      · exact n_in (show v < m.2.2.1 (m.2.1 98 1) by omega) (show m.2.2.1 (m.2.1 98 1) < 2147483648 by omega)
      · exact n_in (show v < m.2.2.1 (m.2.1 98 2) by omega) (show m.2.2.1 (m.2.1 98 2) < 2147483648 by omega)
      · exact n_in (show v < m.2.2.1 (m.2.1 98 3) by omega) (show m.2.2.1 (m.2.1 98 3) < 2147483648 by omega)
      · have key : ∀ (M : AM) (far2 : Nat), far ≤ far2 → c ≤ far2 → (far2 = far ∨ far2 = c) → M = mset (mset (mset (mset m (m.2.1 98 1) v (m.1 98 9)) (m.2.1 98 2) v (nI c)) (m.2.1 98 3) v (nI f)) 98 10 (nI far2) → Φ none M := by
          intro M far2 f1 f2 f3 hM
          have A1 : ∀ n, M.1 (m.2.1 98 1) n = if n = v then nI wk else m.1 (m.2.1 98 1) n := fun n => by
            rw [hM, mset_ne _ _ _ (show m.2.1 98 1 ≠ 98 by omega), mset_ne _ _ _ n13, mset_ne _ _ _ n12, mset_at, s2.2.2.2.2.1]
          have A2 : ∀ n, M.1 (m.2.1 98 2) n = if n = v then nI c else m.1 (m.2.1 98 2) n := fun n => by
            rw [hM, mset_ne _ _ _ (show m.2.1 98 2 ≠ 98 by omega), mset_ne _ _ _ n23, mset_at, mset_ne _ _ _ (Ne.symm n12)]
          have A3 : ∀ n, M.1 (m.2.1 98 3) n = if n = v then nI f else m.1 (m.2.1 98 3) n := fun n => by
            rw [hM, mset_ne _ _ _ (show m.2.1 98 3 ≠ 98 by omega), mset_at, mset_ne _ _ _ (Ne.symm n23), mset_ne _ _ _ (Ne.symm n13)]
          have A0 : ∀ k, M.1 98 k = if k = 10 then nI far2 else m.1 98 k := fun k => by
            rw [hM, mset_at, mset_ne _ _ _ (show 98 ≠ m.2.1 98 3 by omega), mset_ne _ _ _ (show 98 ≠ m.2.1 98 2 by omega), mset_ne _ _ _ (show 98 ≠ m.2.1 98 1 by omega)]
          have Ao : ∀ a, a ≠ 98 → a ≠ m.2.1 98 1 → a ≠ m.2.1 98 2 → a ≠ m.2.1 98 3 → M.1 a = m.1 a := fun a b1 b2 b3 b4 => by
            rw [hM, mset_ne _ _ _ b1, mset_ne _ _ _ b4, mset_ne _ _ _ b3, mset_ne _ _ _ b2]
          have e2 : M.2 = m.2 := by rw [hM]; rfl
          refine h M far2 ⟨e2, fun a _ b1 b2 b3 b4 => Ao a b1 b2 b3 b4⟩ (Ao 30 (by omega) (by omega) (by omega) (by omega)) (fun k hk => by rw [A0]; exact if_neg hk) ?_ f1
          unfold SrS MvR
          rw [e2, A0 5, A0 6, A0 7, A0 8, A0 9, A0 10, A0 11, A0 12, A0 4, Ao 99 (by omega) (by omega) (by omega) (by omega)]
          refine ⟨s1.cg e2, ⟨s2.1, s2.2.1, s2.2.2.1, s2.2.2.2.1, s2.2.2.2.2.1, rfl, s2.2.2.2.2.2.2.1, s2.2.2.2.2.2.2.2⟩, s3, fun n hn => ?_, fun n x hx => ?_, ?_, fun n hn => ?_⟩
          · rw [A1, A2, A3]
            by_cases q : n = v
            · rw [if_pos q, if_pos q, if_pos q, q, elv]
              exact ⟨(fun z => by cases z), (fun x hx => by cases hx; exact ⟨rfl, rfl, rfl⟩)⟩
            · rw [if_neg q, if_neg q, if_neg q, entL_ne lab _ q]
              exact s4 n hn
          · rcases entL_from hx with hx | ⟨-, hx⟩
            · have := s5 n x hx
              exact ⟨by omega, this.2⟩
            · rw [hx]; exact ⟨f2, hf⟩
          · rw [cntL_ent]
            cases e : lab v with
            | none =>
              rw [if_pos ⟨hnl, rfl⟩]
              omega
            | some y =>
              rw [if_neg (fun z => by cases z.2)]
              have a := hno y e
              have b := s5 v y e
              omega
          · rw [A1]
            by_cases q : n = v
            · rw [if_pos q]; exact ⟨wk, Nat.le_refl _, rfl⟩
            · rw [if_neg q]; exact s7 n hn
        have e10 : (mset (mset (mset m (m.2.1 98 1) v (m.1 98 9)) (m.2.1 98 2) v (nI c)) (m.2.1 98 3) v (nI f)).1 98 10 = nI far := by
          rw [mset_ne _ _ _ (show 98 ≠ m.2.1 98 3 by omega), mset_ne _ _ _ (show 98 ≠ m.2.1 98 2 by omega), mset_ne _ _ _ (show 98 ≠ m.2.1 98 1 by omega)]
          exact s2.2.2.2.2.2.1
        rw [n_cl (show v < 2147483648 by omega)]
        by_cases q : far < c
        · refine key _ c (by omega) (Nat.le_refl _) (Or.inr rfl) ?_
          show mset _ 98 10 _ = mset _ 98 10 _
          have ev : (if (mset (mset (mset m (m.2.1 98 1) v (m.1 98 9)) (m.2.1 98 2) v (nI c)) (m.2.1 98 3) v (nI f)).1 98 10 < nI c then nI c else (mset (mset (mset m (m.2.1 98 1) v (m.1 98 9)) (m.2.1 98 2) v (nI c)) (m.2.1 98 3) v (nI f)).1 98 10) = nI c := by
            rw [e10, if_pos (by rw [n_lt (by omega) (by omega)]; exact q)]
          exact congrArg (mset _ 98 10) ev
        · refine key _ far (Nat.le_refl _) (by omega) (Or.inl rfl) ?_
          show mset _ 98 10 _ = mset _ 98 10 _
          have ev : (if (mset (mset (mset m (m.2.1 98 1) v (m.1 98 9)) (m.2.1 98 2) v (nI c)) (m.2.1 98 3) v (nI f)).1 98 10 < nI c then nI c else (mset (mset (mset m (m.2.1 98 1) v (m.1 98 9)) (m.2.1 98 2) v (nI c)) (m.2.1 98 3) v (nI f)).1 98 10) = nI far := by
            rw [e10, if_neg (by rw [n_lt (by omega) (by omega)]; exact q)]
          exact congrArg (mset _ 98 10) ev
    refine b_aloadN (pc := 21) 0 dX7_enter_21 rfl rfl ?_
    refine gf7_1 (pc := 22) k319 dX7_enter_22 ?_
    refine b_iloadG (pc := 25) 5 dX7_enter_25 rfl ?_
    refine b_ialdD (pc := 27) ?_ dX7_enter_27 ?_
    rotate_left -- leaf 0: index at 27
    refine b_aloadN (pc := 28) 0 dX7_enter_28 rfl rfl ?_
    refine gf7_9 (pc := 29) k327 dX7_enter_29 ?_
    refine b_icmp_ne (pc := 32) 70 dX7_enter_32 (by decide) (fun c32 => ?_) (fun c32 => ?_)
    rotate_left -- leaf 1: at 70
    refine b_aloadN (pc := 35) 0 dX7_enter_35 rfl rfl ?_
    refine gf7_2 (pc := 36) k320 dX7_enter_36 ?_
    refine b_iloadG (pc := 39) 5 dX7_enter_39 rfl ?_
    refine b_ialdD (pc := 41) ?_ dX7_enter_41 ?_
    rotate_left -- leaf 2: index at 41
    refine b_iloadN (pc := 42) 3 dX7_enter_42 rfl rfl ?_
    refine b_icmp_lt (pc := 43) 69 dX7_enter_43 (by decide) (fun c43 => ?_) (fun c43 => ?_)
    refine b_vret (pc := 69) rfl dX7_enter_69 ⟨Nat.le_of_ble_eq_true rfl, Nat.le_of_ble_eq_true rfl⟩ ?_
    rotate_left -- leaf 3: return at 69
    refine b_aloadN (pc := 46) 0 dX7_enter_46 rfl rfl ?_
    refine gf7_2 (pc := 47) k320 dX7_enter_47 ?_
    refine b_iloadG (pc := 50) 5 dX7_enter_50 rfl ?_
    refine b_ialdD (pc := 52) ?_ dX7_enter_52 ?_
    rotate_left -- leaf 4: index at 52
    refine b_iloadN (pc := 53) 3 dX7_enter_53 rfl rfl ?_
    refine b_icmp_ne (pc := 54) 70 dX7_enter_54 (by decide) (fun c54 => ?_) (fun c54 => ?_)
    rotate_left -- leaf 5: at 70
    refine b_aloadN (pc := 57) 0 dX7_enter_57 rfl rfl ?_
    refine gf7_3 (pc := 58) k321 dX7_enter_58 ?_
    refine b_iloadG (pc := 61) 5 dX7_enter_61 rfl ?_
    refine b_ialdD (pc := 63) ?_ dX7_enter_63 ?_
    rotate_left -- leaf 6: index at 63
    refine b_iloadG (pc := 64) 4 dX7_enter_64 rfl ?_
    refine b_icmp_gt (pc := 66) 70 dX7_enter_66 (by decide) (fun c66 => ?_) (fun c66 => ?_)
    rotate_left -- leaf 7: at 70
    refine b_vret (pc := 69) rfl dX7_enter_69 ⟨Nat.le_of_ble_eq_true rfl, Nat.le_of_ble_eq_true rfl⟩ ?_
    rotate_left -- leaf 8: return at 69
    -- leaves: 0 index at 27; 1 at 70; 2 index at 41; 3 return at 69; 4 index at 52; 5 at 70; 6 index at 63; 7 at 70; 8 return at 69
    · exact n_in (by omega) (by omega)
    · rw [n_cl (by omega), s2.2.2.2.2.1] at c32
      exact put (fun y hy => absurd (sv.2 y hy).1 c32)
    · exact n_in (by omega) (by omega)
    · rw [n_cl (by omega), s2.2.2.2.2.1] at c32
      cases e : lab v with
      | none => exact absurd c32 (sv.1 e)
      | some y =>
        have b := s5 v y e
        rw [n_cl (by omega), (sv.2 y e).2.1, n_lt (by omega) (by omega)] at c43
        exact stay y e (Or.inl c43)
    · exact n_in (by omega) (by omega)
    · rw [n_cl (by omega)] at c43 c54
      refine put (fun y e => ?_)
      have b := s5 v y e
      rw [(sv.2 y e).2.1, n_lt (by omega) (by omega)] at c43
      rw [(sv.2 y e).2.1, n_eq (by omega) (by omega)] at c54
      omega
    · exact n_in (by omega) (by omega)
    · rw [n_cl (by omega)] at c43 c54 c66
      refine put (fun y e => ?_)
      have b := s5 v y e
      rw [(sv.2 y e).2.1, n_lt (by omega) (by omega)] at c43
      rw [(sv.2 y e).2.2, n_lt (by omega) (by omega)] at c66
      omega
    · rw [n_cl (by omega), s2.2.2.2.2.1] at c32
      cases e : lab v with
      | none => exact absurd c32 (sv.1 e)
      | some y =>
        have b := s5 v y e
        have c66 := Int32.not_lt.mp c66
        rw [n_cl (by omega), (sv.2 y e).2.1, n_eq (by omega) (by omega)] at c54
        rw [n_cl (by omega), (sv.2 y e).2.2, n_le (by omega) (by omega)] at c66
        exact stay y e (Or.inr ⟨c54, c66⟩)
  refine b_aloadN (pc := 0) 0 dX7_enter_0 rfl rfl ?_
  refine gf7_7 (pc := 1) k325 dX7_enter_1 ?_
  refine b_if_eq (pc := 4) 18 dX7_enter_4 (by decide) (fun c4 => ?_) (fun c4 => ?_)
  refine b_iloadN (pc := 18) 1 dX7_enter_18 rfl rfl ?_
  refine siG5 (pc := 19) notL_i (by decide) dX7_enter_19 ?_
  rotate_left -- leaf 0: at 21
  refine b_iloadN (pc := 7) 2 dX7_enter_7 rfl rfl ?_
  refine b_aloadN (pc := 8) 0 dX7_enter_8 rfl rfl ?_
  refine gf7_5 (pc := 9) k323 dX7_enter_9 ?_
  refine b_ishl (pc := 12) dX7_enter_12 ?_
  refine b_iloadN (pc := 13) 1 dX7_enter_13 rfl rfl ?_
  refine b_ior (pc := 14) dX7_enter_14 ?_
  refine b_goto (pc := 15) 19 dX7_enter_15 (by decide) ?_
  refine siG5 (pc := 19) notL_i (by decide) dX7_enter_19 ?_
  rotate_left -- leaf 1: at 21
  -- leaves: 0 at 21; 1 at 21
  · rw [s2.2.2.1] at c4
    have e : nodeN C so sd = so := by
      unfold nodeN
      refine if_neg (fun z => ?_)
      unfold miN at c4
      rw [if_pos z] at c4
      exact absurd c4 (by decide)
    rw [e] at main
    exact main
  · rw [s2.2.2.1] at c4
    have e : nodeN C so sd = 2 ^ C 0 * sd + so := by
      unfold nodeN
      refine if_pos ?_
      unfold miN at c4
      cases z : mindP C
      · rw [z] at c4
        exact absurd rfl c4
      · rfl
    have e3 : nI sd <<< (m.1 98 5 &&& 31) ||| nI so = nI (nodeN C so sd) := by
      have hb : sd * 2 ^ C 0 < 64 * 64 := Nat.mul_lt_mul_of_lt_of_le (by omega) hp6 (by omega)
      rw [s2.1, n_shl (by omega) (by omega), Nat.shiftLeft_eq, n_or, e, Nat.mul_comm sd, Nat.two_pow_add_eq_or_of_lt hso]
    rw [e3]
    exact main
theorem call_X7_enter {E : ME} {Φ : Option AV → AM → Prop} {pc : Nat} {L : List (Option AV)} {st : List AV} {m : AM} {a : Nat × Nat} {idx : Nat} {x0 x1 x2 x3 : AV} {i : Nat} (hl : Cond.methodLink E.2.1 idx yX7_enter ∈ TB) (hdep : 3 + 1 ≤ E.2.2.2.2.2.2) (hroom : a.1 + 0 ≤ E.2.2.2.2.1 ∧ a.2 + 0 ≤ E.2.2.2.2.2.1) (hsr : st.length ≤ 4) (hd : decode E.1 pc = .ok (.invokevirtual idx, 3)) (hsp : Sp_X7_enter [vr 7 i, x0, x1, x2, x3] m (fun r m2 => B E Φ (pc + 3) L (r.toList ++ st) m2 a)) : B E Φ pc L (x3 :: x2 :: x1 :: x0 :: vr 7 i :: st) m a := b_callV S_X7_enter [x0, x1, x2, x3] (RX7, TX7, 14) rfl rfl (by decide) (Or.inl hl) k787 k22 k76 k788 (show _ ∧ _ ∧ Option.map (fun d => d.parameters.length) (parseMethodDescriptor yX7_enter.desc) = some 4 from by decide +kernel) ⟨hdep, by decide⟩ hroom hsr hd hsp
