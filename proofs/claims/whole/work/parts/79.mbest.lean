/-! the reference's search: areTold, isSoNow, bestOf -/
def atB (C : Nat → Nat) (x y : Int32) : Bool := inB x (2 ^ C 0) && (inB y (2 ^ C 0) && decide (x &&& y = 0))
abbrev e_X11_areTold : ME := (cX11_areTold, (RX11, (3, ((some .boolean), (0, (0, 3))))))
theorem dX11_areTold_0 : decode cX11_areTold 0 = .ok (.aload_n 0, 1) := by decide +kernel
theorem dX11_areTold_1 : decode cX11_areTold 1 = .ok (.iload_n 1, 1) := by decide +kernel
theorem dX11_areTold_2 : decode cX11_areTold 2 = .ok (.invokevirtual 217, 3) := by decide +kernel
theorem dX11_areTold_5 : decode cX11_areTold 5 = .ok (.ifCond .eq 21, 3) := by decide +kernel
theorem dX11_areTold_8 : decode cX11_areTold 8 = .ok (.aload_n 0, 1) := by decide +kernel
theorem dX11_areTold_9 : decode cX11_areTold 9 = .ok (.iload_n 2, 1) := by decide +kernel
theorem dX11_areTold_10 : decode cX11_areTold 10 = .ok (.invokevirtual 217, 3) := by decide +kernel
theorem dX11_areTold_13 : decode cX11_areTold 13 = .ok (.ifCond .eq 13, 3) := by decide +kernel
theorem dX11_areTold_16 : decode cX11_areTold 16 = .ok (.iload_n 1, 1) := by decide +kernel
theorem dX11_areTold_17 : decode cX11_areTold 17 = .ok (.iload_n 2, 1) := by decide +kernel
theorem dX11_areTold_18 : decode cX11_areTold 18 = .ok (.iand, 1) := by decide +kernel
theorem dX11_areTold_19 : decode cX11_areTold 19 = .ok (.ifCond .ne 7, 3) := by decide +kernel
theorem dX11_areTold_22 : decode cX11_areTold 22 = .ok (.iconst 1, 1) := by decide +kernel
theorem dX11_areTold_23 : decode cX11_areTold 23 = .ok (.goto 4, 3) := by decide +kernel
theorem dX11_areTold_26 : decode cX11_areTold 26 = .ok (.iconst 0, 1) := by decide +kernel
theorem dX11_areTold_27 : decode cX11_areTold 27 = .ok (.ireturn, 1) := by decide +kernel
def Sp_X11_areTold (av : List AV) (m : AM) (Φ : Option AV → AM → Prop) : Prop := ∃ x y, av = [vr 11 110, vi x, vi y] ∧ ∃ C, MCo m C ∧ C 0 ≤ 6 ∧ Φ (some (vi (nI (if atB C x y = true then 1 else 0)))) m
set_option maxRecDepth 20000 in
set_option maxHeartbeats 4000000 in
theorem S_X11_areTold : Snd yX11_areTold e_X11_areTold Sp_X11_areTold := by
  refine Snd.of (by decide +kernel) rfl ?_ ?_
  · rintro av m Φ ⟨x, y, rfl, _⟩; exact Nat.le_of_ble_eq_true rfl
  rintro av m Φ ⟨x, y, rfl, C, hC, h6, h⟩ hav hty
  show B e_X11_areTold Φ 0 [some (vr 11 110), some (vi x), some (vi y)] [] m (0, 0)
  unfold atB at h
  refine b_aloadN (pc := 0) 0 dX11_areTold_0 rfl rfl ?_
  refine b_iloadN (pc := 1) 1 dX11_areTold_1 rfl rfl ?_
  refine call_X11_areFacts (pc := 2) k1317 (by decide) ⟨Nat.le_of_ble_eq_true rfl, Nat.le_of_ble_eq_true rfl⟩ (Nat.le_of_ble_eq_true rfl) dX11_areTold_2 ?_
  refine ⟨_, rfl, _, hC.1 0 (by omega), h6, ?_⟩
  refine b_if_eq (pc := 5) 26 dX11_areTold_5 (by decide) (fun c5 => ?_) (fun c5 => ?_)
  refine b_iconst (pc := 26) (nI 0) dX11_areTold_26 (by decide) ?_
  refine b_zret (pc := 27) rfl ?_ dX11_areTold_27 ⟨Nat.le_of_ble_eq_true rfl, Nat.le_of_ble_eq_true rfl⟩ ?_
  rotate_left -- leaf 0: bool at 27
  rotate_left -- leaf 1: return at 27
  refine b_aloadN (pc := 8) 0 dX11_areTold_8 rfl rfl ?_
  refine b_iloadN (pc := 9) 2 dX11_areTold_9 rfl rfl ?_
  refine call_X11_areFacts (pc := 10) k1317 (by decide) ⟨Nat.le_of_ble_eq_true rfl, Nat.le_of_ble_eq_true rfl⟩ (Nat.le_of_ble_eq_true rfl) dX11_areTold_10 ?_
  refine ⟨_, rfl, _, hC.1 0 (by omega), h6, ?_⟩
  refine b_if_eq (pc := 13) 26 dX11_areTold_13 (by decide) (fun c13 => ?_) (fun c13 => ?_)
  refine b_iconst (pc := 26) (nI 0) dX11_areTold_26 (by decide) ?_
  refine b_zret (pc := 27) rfl ?_ dX11_areTold_27 ⟨Nat.le_of_ble_eq_true rfl, Nat.le_of_ble_eq_true rfl⟩ ?_
  rotate_left -- leaf 2: bool at 27
  rotate_left -- leaf 3: return at 27
  refine b_iloadN (pc := 16) 1 dX11_areTold_16 rfl rfl ?_
  refine b_iloadN (pc := 17) 2 dX11_areTold_17 rfl rfl ?_
  refine b_iand (pc := 18) dX11_areTold_18 ?_
  refine b_if_ne (pc := 19) 26 dX11_areTold_19 (by decide) (fun c19 => ?_) (fun c19 => ?_)
  refine b_iconst (pc := 26) (nI 0) dX11_areTold_26 (by decide) ?_
  refine b_zret (pc := 27) rfl ?_ dX11_areTold_27 ⟨Nat.le_of_ble_eq_true rfl, Nat.le_of_ble_eq_true rfl⟩ ?_
  rotate_left -- leaf 4: bool at 27
  rotate_left -- leaf 5: return at 27
  refine b_iconst (pc := 22) (nI 1) dX11_areTold_22 (by decide) ?_
  refine b_goto (pc := 23) 27 dX11_areTold_23 (by decide) ?_
  refine b_zret (pc := 27) rfl ?_ dX11_areTold_27 ⟨Nat.le_of_ble_eq_true rfl, Nat.le_of_ble_eq_true rfl⟩ ?_
  rotate_left -- leaf 6: bool at 27
  rotate_left -- leaf 7: return at 27
  -- leaves: 0 bool at 27; 1 return at 27; 2 bool at 27; 3 return at 27; 4 bool at 27; 5 return at 27; 6 bool at 27; 7 return at 27
  · exact Or.inl rfl
  · rw [bF c5, Bool.false_and] at h
    exact h
  · exact Or.inl rfl
  · rw [bF c13, Bool.false_and, Bool.and_false] at h
    exact h
  · exact Or.inl rfl
  · rw [decide_eq_false c19, Bool.and_false, Bool.and_false] at h
    exact h
  · exact Or.inr rfl
  · rw [bT c5, bT c13, decide_eq_true c19] at h
    exact h
theorem call_X11_areTold {E : ME} {Φ : Option AV → AM → Prop} {pc : Nat} {L : List (Option AV)} {st : List AV} {m : AM} {a : Nat × Nat} {idx : Nat} {x0 x1 : AV} {i : Nat} (hl : Cond.methodLink E.2.1 idx yX11_areTold ∈ TB) (hdep : 3 + 1 ≤ E.2.2.2.2.2.2) (hroom : a.1 + 0 ≤ E.2.2.2.2.1 ∧ a.2 + 0 ≤ E.2.2.2.2.2.1) (hsr : st.length ≤ 4) (hd : decode E.1 pc = .ok (.invokevirtual idx, 3)) (hsp : Sp_X11_areTold [vr 11 i, x0, x1] m (fun r m2 => B E Φ (pc + 3) L (r.toList ++ st) m2 a)) : B E Φ pc L (x1 :: x0 :: vr 11 i :: st) m a := b_callV S_X11_areTold [x0, x1] (RX11, TX11, 28) rfl rfl (by decide) (Or.inl hl) k1315 k53 k80 k1316 (show _ ∧ _ ∧ Option.map (fun d => d.parameters.length) (parseMethodDescriptor yX11_areTold.desc) = some 2 from by decide +kernel) ⟨hdep, by decide⟩ hroom hsr hd hsp
abbrev e_X11_isSoNow : ME := (cX11_isSoNow, (RX11, (3, ((some .boolean), (0, (0, 1))))))
theorem dX11_isSoNow_0 : decode cX11_isSoNow 0 = .ok (.aload_n 0, 1) := by decide +kernel
theorem dX11_isSoNow_1 : decode cX11_isSoNow 1 = .ok (.getfield 19, 3) := by decide +kernel
theorem dX11_isSoNow_4 : decode cX11_isSoNow 4 = .ok (.iconst 1, 1) := by decide +kernel
theorem dX11_isSoNow_5 : decode cX11_isSoNow 5 = .ok (.iaload, 1) := by decide +kernel
theorem dX11_isSoNow_6 : decode cX11_isSoNow 6 = .ok (.iload_n 1, 1) := by decide +kernel
theorem dX11_isSoNow_7 : decode cX11_isSoNow 7 = .ok (.iand, 1) := by decide +kernel
theorem dX11_isSoNow_8 : decode cX11_isSoNow 8 = .ok (.iload_n 1, 1) := by decide +kernel
theorem dX11_isSoNow_9 : decode cX11_isSoNow 9 = .ok (.if_icmp .ne 18, 3) := by decide +kernel
theorem dX11_isSoNow_12 : decode cX11_isSoNow 12 = .ok (.aload_n 0, 1) := by decide +kernel
theorem dX11_isSoNow_13 : decode cX11_isSoNow 13 = .ok (.getfield 19, 3) := by decide +kernel
theorem dX11_isSoNow_16 : decode cX11_isSoNow 16 = .ok (.iconst 1, 1) := by decide +kernel
theorem dX11_isSoNow_17 : decode cX11_isSoNow 17 = .ok (.iaload, 1) := by decide +kernel
theorem dX11_isSoNow_18 : decode cX11_isSoNow 18 = .ok (.iload_n 2, 1) := by decide +kernel
theorem dX11_isSoNow_19 : decode cX11_isSoNow 19 = .ok (.iand, 1) := by decide +kernel
theorem dX11_isSoNow_20 : decode cX11_isSoNow 20 = .ok (.ifCond .ne 7, 3) := by decide +kernel
theorem dX11_isSoNow_23 : decode cX11_isSoNow 23 = .ok (.iconst 1, 1) := by decide +kernel
theorem dX11_isSoNow_24 : decode cX11_isSoNow 24 = .ok (.goto 4, 3) := by decide +kernel
theorem dX11_isSoNow_27 : decode cX11_isSoNow 27 = .ok (.iconst 0, 1) := by decide +kernel
theorem dX11_isSoNow_28 : decode cX11_isSoNow 28 = .ok (.ireturn, 1) := by decide +kernel
def Sp_X11_isSoNow (av : List AV) (m : AM) (Φ : Option AV → AM → Prop) : Prop := ∃ x y, av = [vr 11 110, vi x, vi y] ∧ ∃ C A Bn, MC m C ∧ C 1 < 64 ∧ x = nI A ∧ y = nI Bn ∧ A < 64 ∧ Φ (some (vi (nI (if metB A Bn (C 1) = true then 1 else 0)))) m
set_option maxRecDepth 20000 in
set_option maxHeartbeats 4000000 in
theorem S_X11_isSoNow : Snd yX11_isSoNow e_X11_isSoNow Sp_X11_isSoNow := by
  refine Snd.of (by decide +kernel) rfl ?_ ?_
  · rintro av m Φ ⟨x, y, rfl, _⟩; exact Nat.le_of_ble_eq_true rfl
  rintro av m Φ ⟨x, y, rfl, C, A, Bn, hM, h1, rfl, rfl, hA, h⟩ hav hty
  show B e_X11_isSoNow Φ 0 [some (vr 11 110), some (vi (nI A)), some (vi (nI Bn))] [] m (0, 0)
  have b1 : C 1 &&& A < 64 := by rw [Nat.and_comm]; exact Nat.and_lt_two_pow (n := 6) A h1
  have b2 : C 1 &&& Bn < 64 := by rw [Nat.and_comm]; exact Nat.and_lt_two_pow (n := 6) Bn h1
  have k1 := hM 1 (by omega)
  unfold metB at h
  refine b_aloadN (pc := 0) 0 dX11_isSoNow_0 rfl rfl ?_
  refine gf11_5 (pc := 1) 114 rfl k1047 dX11_isSoNow_1 ?_
  refine b_iconst (pc := 4) (nI 1) dX11_isSoNow_4 (by decide) ?_
  refine b_iald (pc := 5) (by decide) ?_ dX11_isSoNow_5 ?_
  rotate_left -- leaf 0: index at 5
  refine b_iloadN (pc := 6) 1 dX11_isSoNow_6 rfl rfl ?_
  refine b_iand (pc := 7) dX11_isSoNow_7 ?_
  refine b_iloadN (pc := 8) 1 dX11_isSoNow_8 rfl rfl ?_
  refine b_icmp_ne (pc := 9) 27 dX11_isSoNow_9 (by decide) (fun c9 => ?_) (fun c9 => ?_)
  refine b_iconst (pc := 27) (nI 0) dX11_isSoNow_27 (by decide) ?_
  refine b_zret (pc := 28) rfl ?_ dX11_isSoNow_28 ⟨Nat.le_of_ble_eq_true rfl, Nat.le_of_ble_eq_true rfl⟩ ?_
  rotate_left -- leaf 1: bool at 28
  rotate_left -- leaf 2: return at 28
  refine b_aloadN (pc := 12) 0 dX11_isSoNow_12 rfl rfl ?_
  refine gf11_5 (pc := 13) 114 rfl k1047 dX11_isSoNow_13 ?_
  refine b_iconst (pc := 16) (nI 1) dX11_isSoNow_16 (by decide) ?_
  refine b_iald (pc := 17) (by decide) ?_ dX11_isSoNow_17 ?_
  rotate_left -- leaf 3: index at 17
  refine b_iloadN (pc := 18) 2 dX11_isSoNow_18 rfl rfl ?_
  refine b_iand (pc := 19) dX11_isSoNow_19 ?_
  refine b_if_ne (pc := 20) 27 dX11_isSoNow_20 (by decide) (fun c20 => ?_) (fun c20 => ?_)
  refine b_iconst (pc := 27) (nI 0) dX11_isSoNow_27 (by decide) ?_
  refine b_zret (pc := 28) rfl ?_ dX11_isSoNow_28 ⟨Nat.le_of_ble_eq_true rfl, Nat.le_of_ble_eq_true rfl⟩ ?_
  rotate_left -- leaf 4: bool at 28
  rotate_left -- leaf 5: return at 28
  refine b_iconst (pc := 23) (nI 1) dX11_isSoNow_23 (by decide) ?_
  refine b_goto (pc := 24) 28 dX11_isSoNow_24 (by decide) ?_
  refine b_zret (pc := 28) rfl ?_ dX11_isSoNow_28 ⟨Nat.le_of_ble_eq_true rfl, Nat.le_of_ble_eq_true rfl⟩ ?_
  rotate_left -- leaf 6: bool at 28
  rotate_left -- leaf 7: return at 28
  -- leaves: 0 index at 5; 1 bool at 28; 2 return at 28; 3 index at 17; 4 bool at 28; 5 return at 28; 6 bool at 28; 7 return at 28
  · exact n_in (by omega) (by omega)
  · exact Or.inl rfl
  · rw [n_cl (by omega), k1, n_and, n_eq (by omega) (by omega)] at c9
    rw [decide_eq_false c9, Bool.false_and] at h
    exact h
  · exact n_in (by omega) (by omega)
  · exact Or.inl rfl
  · rw [n_cl (by omega), k1, n_and, n_eq0 (by omega)] at c20
    rw [decide_eq_false c20, Bool.and_false] at h
    exact h
  · exact Or.inr rfl
  · rw [n_cl (by omega), k1, n_and, n_eq (by omega) (by omega)] at c9
    rw [n_cl (by omega), k1, n_and, n_eq0 (by omega)] at c20
    rw [decide_eq_true c9, decide_eq_true c20] at h
    exact h
theorem call_X11_isSoNow {E : ME} {Φ : Option AV → AM → Prop} {pc : Nat} {L : List (Option AV)} {st : List AV} {m : AM} {a : Nat × Nat} {idx : Nat} {x0 x1 : AV} {i : Nat} (hl : Cond.methodLink E.2.1 idx yX11_isSoNow ∈ TB) (hdep : 1 + 1 ≤ E.2.2.2.2.2.2) (hroom : a.1 + 0 ≤ E.2.2.2.2.1 ∧ a.2 + 0 ≤ E.2.2.2.2.2.1) (hsr : st.length ≤ 4) (hd : decode E.1 pc = .ok (.invokevirtual idx, 3)) (hsp : Sp_X11_isSoNow [vr 11 i, x0, x1] m (fun r m2 => B E Φ (pc + 3) L (r.toList ++ st) m2 a)) : B E Φ pc L (x1 :: x0 :: vr 11 i :: st) m a := b_callV S_X11_isSoNow [x0, x1] (RX11, TX11, 28) rfl rfl (by decide) (Or.inl hl) k1323 k55 k80 k1324 (show _ ∧ _ ∧ Option.map (fun d => d.parameters.length) (parseMethodDescriptor yX11_isSoNow.desc) = some 2 from by decide +kernel) ⟨hdep, by decide⟩ hroom hsr hd hsp
theorem and_mod64 {n A : Nat} (hA : A < 64) : n &&& A = (n % 64) &&& A := by
  have e : n % 64 = n &&& 63 := (Nat.and_two_pow_sub_one_eq_mod n 6).symm
  have e2 : 63 &&& A = A := by
    rw [Nat.and_comm]
    have := Nat.and_two_pow_sub_one_eq_mod A 6
    rw [Nat.mod_eq_of_lt (show A < 2 ^ 6 from hA)] at this
    exact this
  rw [e, Nat.and_assoc, e2]
def BoI (A Bn : Nat) (lab : Nat → Option (Nat × Nat)) (k : Nat) (bv : Int32) : Prop := (bv = -1000000 ∧ ∀ n x, n < k → lab n = some x → ¬ metP A Bn (n % 64)) ∨ ∃ j x, j < k ∧ bv = nI j ∧ lab j = some x ∧ metP A Bn (j % 64) ∧ ∀ n y, n < k → lab n = some y → metP A Bn (n % 64) → le2 x y
theorem BoI.skip {A Bn k : Nat} {lab : Nat → Option (Nat × Nat)} {bv : Int32} (h : BoI A Bn lab k bv) (hk : ∀ x, lab k = some x → metP A Bn (k % 64) → ∃ j y, bv = nI j ∧ j < k ∧ lab j = some y ∧ le2 y x) (h4 : k ≤ 4096) : BoI A Bn lab (k + 1) bv := by
  rcases h with ⟨a, b⟩ | ⟨j, x, a, a2, a3, a4, a5⟩
  · refine Or.inl ⟨a, fun n x c d e => ?_⟩
    by_cases q : n = k
    · subst q
      obtain ⟨j, y, z1, z2, -⟩ := hk x d e
      rw [a] at z1
      exact n_ne_none (by omega) z1.symm
    · exact b n x (by omega) d e
  · refine Or.inr ⟨j, x, by omega, a2, a3, a4, fun n y c d e => ?_⟩
    by_cases q : n = k
    · subst q
      obtain ⟨j2, y2, z1, z2, z3, z4⟩ := hk y d e
      rw [a2, n_eq (by omega) (by omega)] at z1
      rw [← z1, a3] at z3
      cases z3
      exact z4
    · exact a5 n y (by omega) d e
theorem BoI.put {A Bn k : Nat} {lab : Nat → Option (Nat × Nat)} {bv : Int32} {x : Nat × Nat} (h : BoI A Bn lab k bv) (hk : lab k = some x) (hm : metP A Bn (k % 64)) (hle : bv = -1000000 ∨ ∃ j y, bv = nI j ∧ j < k ∧ lab j = some y ∧ le2 x y) (h4 : k ≤ 4096) : BoI A Bn lab (k + 1) (nI k) := by
  refine Or.inr ⟨k, x, by omega, rfl, hk, hm, fun n y c d e => ?_⟩
  by_cases q : n = k
  · subst q
    rw [hk] at d
    cases d
    exact le2.rf x
  · rcases h with ⟨a, b⟩ | ⟨j, z, a, a2, a3, a4, a5⟩
    · exact absurd e (b n y (by omega) d)
    · rcases hle with t | ⟨j2, y2, t1, t2, t3, t4⟩
      · rw [a2] at t
        exact absurd t (n_ne_none (by omega))
      · rw [a2, n_eq (by omega) (by omega)] at t1
        rw [← t1, a3] at t3
        cases t3
        exact t4.tr (a5 n y (by omega) d e)
abbrev e_X11_bestOf : ME := (cX11_bestOf, (RX11, (8, ((some .int), (0, (0, 1))))))
theorem dX11_bestOf_0 : decode cX11_bestOf 0 = .ok (.ldc 96, 2) := by decide +kernel
theorem dX11_bestOf_2 : decode cX11_bestOf 2 = .ok (.istore 4, 2) := by decide +kernel
theorem dX11_bestOf_4 : decode cX11_bestOf 4 = .ok (.iconst 0, 1) := by decide +kernel
theorem dX11_bestOf_5 : decode cX11_bestOf 5 = .ok (.istore 5, 2) := by decide +kernel
theorem dX11_bestOf_7 : decode cX11_bestOf 7 = .ok (.iload 5, 2) := by decide +kernel
theorem dX11_bestOf_9 : decode cX11_bestOf 9 = .ok (.sipush 4096, 3) := by decide +kernel
theorem dX11_bestOf_12 : decode cX11_bestOf 12 = .ok (.if_icmp .ge 127, 3) := by decide +kernel
theorem dX11_bestOf_15 : decode cX11_bestOf 15 = .ok (.aload_n 0, 1) := by decide +kernel
theorem dX11_bestOf_16 : decode cX11_bestOf 16 = .ok (.getfield 31, 3) := by decide +kernel
theorem dX11_bestOf_19 : decode cX11_bestOf 19 = .ok (.iload 5, 2) := by decide +kernel
theorem dX11_bestOf_21 : decode cX11_bestOf 21 = .ok (.iaload, 1) := by decide +kernel
theorem dX11_bestOf_22 : decode cX11_bestOf 22 = .ok (.ldc 96, 2) := by decide +kernel
theorem dX11_bestOf_24 : decode cX11_bestOf 24 = .ok (.if_icmp .eq 22, 3) := by decide +kernel
theorem dX11_bestOf_27 : decode cX11_bestOf 27 = .ok (.iload 5, 2) := by decide +kernel
theorem dX11_bestOf_29 : decode cX11_bestOf 29 = .ok (.iload_n 1, 1) := by decide +kernel
theorem dX11_bestOf_30 : decode cX11_bestOf 30 = .ok (.iand, 1) := by decide +kernel
theorem dX11_bestOf_31 : decode cX11_bestOf 31 = .ok (.iload_n 1, 1) := by decide +kernel
theorem dX11_bestOf_32 : decode cX11_bestOf 32 = .ok (.if_icmp .ne 14, 3) := by decide +kernel
theorem dX11_bestOf_35 : decode cX11_bestOf 35 = .ok (.iload 5, 2) := by decide +kernel
theorem dX11_bestOf_37 : decode cX11_bestOf 37 = .ok (.iload_n 2, 1) := by decide +kernel
theorem dX11_bestOf_38 : decode cX11_bestOf 38 = .ok (.iand, 1) := by decide +kernel
theorem dX11_bestOf_39 : decode cX11_bestOf 39 = .ok (.ifCond .ne 7, 3) := by decide +kernel
theorem dX11_bestOf_42 : decode cX11_bestOf 42 = .ok (.iconst 1, 1) := by decide +kernel
theorem dX11_bestOf_43 : decode cX11_bestOf 43 = .ok (.goto 4, 3) := by decide +kernel
theorem dX11_bestOf_46 : decode cX11_bestOf 46 = .ok (.iconst 0, 1) := by decide +kernel
theorem dX11_bestOf_47 : decode cX11_bestOf 47 = .ok (.istore 6, 2) := by decide +kernel
theorem dX11_bestOf_49 : decode cX11_bestOf 49 = .ok (.iload 6, 2) := by decide +kernel
theorem dX11_bestOf_51 : decode cX11_bestOf 51 = .ok (.ifCond .eq 65, 3) := by decide +kernel
theorem dX11_bestOf_54 : decode cX11_bestOf 54 = .ok (.iload 4, 2) := by decide +kernel
theorem dX11_bestOf_56 : decode cX11_bestOf 56 = .ok (.ldc 96, 2) := by decide +kernel
theorem dX11_bestOf_58 : decode cX11_bestOf 58 = .ok (.if_icmp .eq 54, 3) := by decide +kernel
theorem dX11_bestOf_61 : decode cX11_bestOf 61 = .ok (.aload_n 0, 1) := by decide +kernel
theorem dX11_bestOf_62 : decode cX11_bestOf 62 = .ok (.getfield 31, 3) := by decide +kernel
theorem dX11_bestOf_65 : decode cX11_bestOf 65 = .ok (.iload 5, 2) := by decide +kernel
theorem dX11_bestOf_67 : decode cX11_bestOf 67 = .ok (.iaload, 1) := by decide +kernel
theorem dX11_bestOf_68 : decode cX11_bestOf 68 = .ok (.aload_n 0, 1) := by decide +kernel
theorem dX11_bestOf_69 : decode cX11_bestOf 69 = .ok (.getfield 31, 3) := by decide +kernel
theorem dX11_bestOf_72 : decode cX11_bestOf 72 = .ok (.iload 4, 2) := by decide +kernel
theorem dX11_bestOf_74 : decode cX11_bestOf 74 = .ok (.iaload, 1) := by decide +kernel
theorem dX11_bestOf_75 : decode cX11_bestOf 75 = .ok (.if_icmp .lt 37, 3) := by decide +kernel
theorem dX11_bestOf_78 : decode cX11_bestOf 78 = .ok (.aload_n 0, 1) := by decide +kernel
theorem dX11_bestOf_79 : decode cX11_bestOf 79 = .ok (.getfield 31, 3) := by decide +kernel
theorem dX11_bestOf_82 : decode cX11_bestOf 82 = .ok (.iload 5, 2) := by decide +kernel
theorem dX11_bestOf_84 : decode cX11_bestOf 84 = .ok (.iaload, 1) := by decide +kernel
theorem dX11_bestOf_85 : decode cX11_bestOf 85 = .ok (.aload_n 0, 1) := by decide +kernel
theorem dX11_bestOf_86 : decode cX11_bestOf 86 = .ok (.getfield 31, 3) := by decide +kernel
theorem dX11_bestOf_89 : decode cX11_bestOf 89 = .ok (.iload 4, 2) := by decide +kernel
theorem dX11_bestOf_91 : decode cX11_bestOf 91 = .ok (.iaload, 1) := by decide +kernel
theorem dX11_bestOf_92 : decode cX11_bestOf 92 = .ok (.if_icmp .ne 24, 3) := by decide +kernel
theorem dX11_bestOf_95 : decode cX11_bestOf 95 = .ok (.aload_n 0, 1) := by decide +kernel
theorem dX11_bestOf_96 : decode cX11_bestOf 96 = .ok (.getfield 34, 3) := by decide +kernel
theorem dX11_bestOf_99 : decode cX11_bestOf 99 = .ok (.iload 5, 2) := by decide +kernel
theorem dX11_bestOf_101 : decode cX11_bestOf 101 = .ok (.iaload, 1) := by decide +kernel
theorem dX11_bestOf_102 : decode cX11_bestOf 102 = .ok (.aload_n 0, 1) := by decide +kernel
theorem dX11_bestOf_103 : decode cX11_bestOf 103 = .ok (.getfield 34, 3) := by decide +kernel
theorem dX11_bestOf_106 : decode cX11_bestOf 106 = .ok (.iload 4, 2) := by decide +kernel
theorem dX11_bestOf_108 : decode cX11_bestOf 108 = .ok (.iaload, 1) := by decide +kernel
theorem dX11_bestOf_109 : decode cX11_bestOf 109 = .ok (.if_icmp .ge 7, 3) := by decide +kernel
theorem dX11_bestOf_112 : decode cX11_bestOf 112 = .ok (.iconst 1, 1) := by decide +kernel
theorem dX11_bestOf_113 : decode cX11_bestOf 113 = .ok (.goto 4, 3) := by decide +kernel
theorem dX11_bestOf_116 : decode cX11_bestOf 116 = .ok (.iconst 0, 1) := by decide +kernel
theorem dX11_bestOf_117 : decode cX11_bestOf 117 = .ok (.istore 7, 2) := by decide +kernel
theorem dX11_bestOf_119 : decode cX11_bestOf 119 = .ok (.iload 7, 2) := by decide +kernel
theorem dX11_bestOf_121 : decode cX11_bestOf 121 = .ok (.ifCond .eq 8, 3) := by decide +kernel
theorem dX11_bestOf_124 : decode cX11_bestOf 124 = .ok (.iload 5, 2) := by decide +kernel
theorem dX11_bestOf_126 : decode cX11_bestOf 126 = .ok (.goto 5, 3) := by decide +kernel
theorem dX11_bestOf_129 : decode cX11_bestOf 129 = .ok (.iload 4, 2) := by decide +kernel
theorem dX11_bestOf_131 : decode cX11_bestOf 131 = .ok (.istore 4, 2) := by decide +kernel
theorem dX11_bestOf_133 : decode cX11_bestOf 133 = .ok (.iinc 5 1, 3) := by decide +kernel
theorem dX11_bestOf_136 : decode cX11_bestOf 136 = .ok (.goto (-129), 3) := by decide +kernel
theorem dX11_bestOf_139 : decode cX11_bestOf 139 = .ok (.iload 4, 2) := by decide +kernel
theorem dX11_bestOf_141 : decode cX11_bestOf 141 = .ok (.ldc 96, 2) := by decide +kernel
theorem dX11_bestOf_143 : decode cX11_bestOf 143 = .ok (.if_icmp .ne 8, 3) := by decide +kernel
theorem dX11_bestOf_146 : decode cX11_bestOf 146 = .ok (.ldc 96, 2) := by decide +kernel
theorem dX11_bestOf_148 : decode cX11_bestOf 148 = .ok (.goto 24, 3) := by decide +kernel
theorem dX11_bestOf_151 : decode cX11_bestOf 151 = .ok (.iload_n 3, 1) := by decide +kernel
theorem dX11_bestOf_152 : decode cX11_bestOf 152 = .ok (.ifCond .ne 13, 3) := by decide +kernel
theorem dX11_bestOf_155 : decode cX11_bestOf 155 = .ok (.aload_n 0, 1) := by decide +kernel
theorem dX11_bestOf_156 : decode cX11_bestOf 156 = .ok (.getfield 31, 3) := by decide +kernel
theorem dX11_bestOf_159 : decode cX11_bestOf 159 = .ok (.iload 4, 2) := by decide +kernel
theorem dX11_bestOf_161 : decode cX11_bestOf 161 = .ok (.iaload, 1) := by decide +kernel
theorem dX11_bestOf_162 : decode cX11_bestOf 162 = .ok (.goto 10, 3) := by decide +kernel
theorem dX11_bestOf_165 : decode cX11_bestOf 165 = .ok (.aload_n 0, 1) := by decide +kernel
theorem dX11_bestOf_166 : decode cX11_bestOf 166 = .ok (.getfield 34, 3) := by decide +kernel
theorem dX11_bestOf_169 : decode cX11_bestOf 169 = .ok (.iload 4, 2) := by decide +kernel
theorem dX11_bestOf_171 : decode cX11_bestOf 171 = .ok (.iaload, 1) := by decide +kernel
theorem dX11_bestOf_172 : decode cX11_bestOf 172 = .ok (.ireturn, 1) := by decide +kernel
def Sp_X11_bestOf (av : List AV) (m : AM) (Φ : Option AV → AM → Prop) : Prop := ∃ x y z, av = [vr 11 110, vi x, vi y, vi z] ∧ ∃ C bc A Bn w lab, VC C ∧ x = nI A ∧ y = nI Bn ∧ z = nI w ∧ A < 64 ∧ Bn < 64 ∧ w < 2 ∧ FarR m C bc lab ∧ ∀ r, bestW C bc A Bn r → Φ (some (vi (goA (wtP C bc) r w))) m
set_option maxRecDepth 20000 in
set_option maxHeartbeats 4000000 in
theorem S_X11_bestOf : Snd yX11_bestOf e_X11_bestOf Sp_X11_bestOf := by
  refine Snd.of (by decide +kernel) rfl ?_ ?_
  · rintro av m Φ ⟨x, y, z, rfl, _⟩; exact Nat.le_of_ble_eq_true rfl
  rintro av m Φ ⟨x, y, z, rfl, C, bc, A, Bn, w, lab, hv, rfl, rfl, rfl, hA, hBn, hw, hR, h⟩ hav hty
  show B e_X11_bestOf Φ 0 [some (vr 11 110), some (vi (nI A)), some (vi (nI Bn)), some (vi (nI w)), none, none, none, none] [] m (0, 0)
  have hPk := wtP_ok hv bc
  generalize hP : wtP C bc = P at hPk
  have cells := hR.1
  rw [hP] at cells
  have loop : ∀ e k bv o6 o7, 4097 ≤ k + e → k ≤ 4096 → BoI A Bn lab k bv → B e_X11_bestOf Φ 7 [some (vr 11 110), some (vi (nI A)), some (vi (nI Bn)), some (vi (nI w)), some (vi bv), some (vi (nI k)), o6, o7] [] m (0, 0) := by
    intro e
    induction e with
    | zero => intro k bv o6 o7 z1 z2; omega
    | succ e ih =>
      intro k bv o6 o7 z1 z2 hI
      by_cases hk : k < 4096
      · have m117 : ∀ t o6, (t = 0 ∧ BoI A Bn lab (k + 1) bv) ∨ (t = 1 ∧ BoI A Bn lab (k + 1) (nI k)) → B e_X11_bestOf Φ 117 [some (vr 11 110), some (vi (nI A)), some (vi (nI Bn)), some (vi (nI w)), some (vi bv), some (vi (nI k)), some (vi o6), o7] [vi (nI t)] m (0, 0) := by
          intro t o6 ht
          refine siG7 (pc := 117) notL_i (by decide) dX11_bestOf_117 ?_
          refine b_iloadG (pc := 119) 7 dX11_bestOf_119 rfl ?_
          refine b_if_eq (pc := 121) 129 dX11_bestOf_121 (by decide) (fun c121 => ?_) (fun c121 => ?_)
          refine b_iloadG (pc := 129) 4 dX11_bestOf_129 rfl ?_
          refine siG4 (pc := 131) notL_i (by decide) dX11_bestOf_131 ?_
          refine inc5 (pc := 133) notL_i (by decide) dX11_bestOf_133 ?_
          refine b_goto (pc := 136) 7 dX11_bestOf_136 (by decide) ?_
          rotate_left -- leaf 0: at 7
          refine b_iloadG (pc := 124) 5 dX11_bestOf_124 rfl ?_
          refine b_goto (pc := 126) 131 dX11_bestOf_126 (by decide) ?_
          refine siG4 (pc := 131) notL_i (by decide) dX11_bestOf_131 ?_
          refine inc5 (pc := 133) notL_i (by decide) dX11_bestOf_133 ?_
          refine b_goto (pc := 136) 7 dX11_bestOf_136 (by decide) ?_
          rotate_left -- leaf 1: at 7
          -- leaves: 0 at 7; 1 at 7
          · rcases ht with ⟨t0, h1⟩ | ⟨t1, h1⟩
            · rw [n_inc]
              exact ih (k + 1) bv _ _ (by omega) (by omega) h1
            · rw [t1] at c121
              exact absurd c121 (by decide)
          · rcases ht with ⟨t0, h1⟩ | ⟨t1, h1⟩
            · rw [t0] at c121
              exact absurd rfl c121
            · rw [n_inc]
              exact ih (k + 1) _ _ _ (by omega) (by omega) h1
        have ck := cells k hk
        have m116 : (∀ x, lab k = some x → ¬ metP A Bn (k % 64)) → B e_X11_bestOf Φ 116 [some (vr 11 110), some (vi (nI A)), some (vi (nI Bn)), some (vi (nI w)), some (vi bv), some (vi (nI k)), some (vi (nI 0)), o7] [] m (0, 0) := by
          intro hno
          refine b_iconst (pc := 116) (nI 0) dX11_bestOf_116 (by decide) ?_
          rotate_left -- leaf 0: at 117
          -- leaves: 0 at 117
          exact m117 0 _ (Or.inl ⟨rfl, hI.skip (fun x h' hm => absurd hm (hno x h')) (by omega)⟩)
        have m46 : (∀ x, lab k = some x → ¬ metP A Bn (k % 64)) → B e_X11_bestOf Φ 46 [some (vr 11 110), some (vi (nI A)), some (vi (nI Bn)), some (vi (nI w)), some (vi bv), some (vi (nI k)), o6, o7] [] m (0, 0) := by
          intro hno
          refine b_iconst (pc := 46) (nI 0) dX11_bestOf_46 (by decide) ?_
          refine siG6 (pc := 47) notL_i (by decide) dX11_bestOf_47 ?_
          refine b_iloadG (pc := 49) 6 dX11_bestOf_49 rfl ?_
          refine b_if_eq (pc := 51) 116 dX11_bestOf_51 (by decide) (fun c51 => ?_) (fun c51 => ?_)
          rotate_left -- leaf 0: at 116
          rotate_left -- leaf 1: at 54
          -- leaves: 0 at 116; 1 at 54
          · exact m116 hno
          · exact absurd rfl c51
        have m54 : ∀ x, lab k = some x → metP A Bn (k % 64) → B e_X11_bestOf Φ 54 [some (vr 11 110), some (vi (nI A)), some (vi (nI Bn)), some (vi (nI w)), some (vi bv), some (vi (nI k)), some (vi (nI 1)), o7] [] m (0, 0) := by
          intro x hx hm
          have sx := ck.2 x hx
          have bx := hR.2.1 k x hx
          have hPx : P * x.1 ≤ 9 * 24576 := Nat.mul_le_mul hPk.2 (by omega)
          rcases id hI with ⟨a, -⟩ | ⟨j, y, a, a2, a3, a4, -⟩
          · skip
            refine b_iloadG (pc := 54) 4 dX11_bestOf_54 rfl ?_
            refine b_ldc (pc := 56) k1180 dX11_bestOf_56 ?_
            refine b_icmp_eq (pc := 58) 112 dX11_bestOf_58 (by decide) (fun c58 => ?_) (fun c58 => ?_)
            refine b_iconst (pc := 112) (nI 1) dX11_bestOf_112 (by decide) ?_
            refine b_goto (pc := 113) 117 dX11_bestOf_113 (by decide) ?_
            rotate_left -- leaf 0: at 117
            rotate_left -- leaf 1: at 61
            -- leaves: 0 at 117; 1 at 61
            · exact m117 1 _ (Or.inr ⟨rfl, hI.put hx hm (Or.inl a) (by omega)⟩)
            · exact absurd a c58
          · have sy := (cells j (by omega)).2 y a3
            have bY := hR.2.1 j y a3
            have hPy : P * y.1 ≤ 9 * 24576 := Nat.mul_le_mul hPk.2 (by omega)
            have p1 : P * x.1 < P * y.1 ↔ x.1 < y.1 := Nat.mul_lt_mul_left hPk.1
            have p2 : P * x.1 = P * y.1 ↔ x.1 = y.1 := Nat.mul_right_inj (by omega)
            have keep : (y.1 < x.1 ∨ (y.1 = x.1 ∧ y.2 ≤ x.2)) → BoI A Bn lab (k + 1) bv := fun t => hI.skip (fun x' h' _ => ⟨j, y, a2, a, a3, by rw [hx] at h'; cases h'; exact t⟩) (by omega)
            have put : (x.1 < y.1 ∨ (x.1 = y.1 ∧ x.2 ≤ y.2)) → BoI A Bn lab (k + 1) (nI k) := fun t => hI.put hx hm (Or.inr ⟨j, y, a2, a, a3, t⟩) (by omega)
            refine b_iloadG (pc := 54) 4 dX11_bestOf_54 rfl ?_
            refine b_ldc (pc := 56) k1180 dX11_bestOf_56 ?_
            refine b_icmp_eq (pc := 58) 112 dX11_bestOf_58 (by decide) (fun c58 => ?_) (fun c58 => ?_)
            refine b_iconst (pc := 112) (nI 1) dX11_bestOf_112 (by decide) ?_
            refine b_goto (pc := 113) 117 dX11_bestOf_113 (by decide) ?_
            rotate_left -- leaf 0: at 117
            refine b_aloadN (pc := 61) 0 dX11_bestOf_61 rfl rfl ?_
            refine gf11_18 (pc := 62) 118 rfl k1060 dX11_bestOf_62 ?_
            refine b_iloadG (pc := 65) 5 dX11_bestOf_65 rfl ?_
            refine b_iald (pc := 67) (by decide) ?_ dX11_bestOf_67 ?_
            rotate_left -- leaf 1: index at 67
            refine b_aloadN (pc := 68) 0 dX11_bestOf_68 rfl rfl ?_
            refine gf11_18 (pc := 69) 118 rfl k1060 dX11_bestOf_69 ?_
            refine b_iloadG (pc := 72) 4 dX11_bestOf_72 rfl ?_
            refine b_iald (pc := 74) (by decide) ?_ dX11_bestOf_74 ?_
            rotate_left -- leaf 2: index at 74
            refine b_icmp_lt (pc := 75) 112 dX11_bestOf_75 (by decide) (fun c75 => ?_) (fun c75 => ?_)
            refine b_iconst (pc := 112) (nI 1) dX11_bestOf_112 (by decide) ?_
            refine b_goto (pc := 113) 117 dX11_bestOf_113 (by decide) ?_
            rotate_left -- leaf 3: at 117
            refine b_aloadN (pc := 78) 0 dX11_bestOf_78 rfl rfl ?_
            refine gf11_18 (pc := 79) 118 rfl k1060 dX11_bestOf_79 ?_
            refine b_iloadG (pc := 82) 5 dX11_bestOf_82 rfl ?_
            refine b_iald (pc := 84) (by decide) ?_ dX11_bestOf_84 ?_
            rotate_left -- leaf 4: index at 84
            refine b_aloadN (pc := 85) 0 dX11_bestOf_85 rfl rfl ?_
            refine gf11_18 (pc := 86) 118 rfl k1060 dX11_bestOf_86 ?_
            refine b_iloadG (pc := 89) 4 dX11_bestOf_89 rfl ?_
            refine b_iald (pc := 91) (by decide) ?_ dX11_bestOf_91 ?_
            rotate_left -- leaf 5: index at 91
            refine b_icmp_ne (pc := 92) 116 dX11_bestOf_92 (by decide) (fun c92 => ?_) (fun c92 => ?_)
            refine b_iconst (pc := 116) (nI 0) dX11_bestOf_116 (by decide) ?_
            rotate_left -- leaf 6: at 117
            refine b_aloadN (pc := 95) 0 dX11_bestOf_95 rfl rfl ?_
            refine gf11_19 (pc := 96) 119 rfl k1061 dX11_bestOf_96 ?_
            refine b_iloadG (pc := 99) 5 dX11_bestOf_99 rfl ?_
            refine b_iald (pc := 101) (by decide) ?_ dX11_bestOf_101 ?_
            rotate_left -- leaf 7: index at 101
            refine b_aloadN (pc := 102) 0 dX11_bestOf_102 rfl rfl ?_
            refine gf11_19 (pc := 103) 119 rfl k1061 dX11_bestOf_103 ?_
            refine b_iloadG (pc := 106) 4 dX11_bestOf_106 rfl ?_
            refine b_iald (pc := 108) (by decide) ?_ dX11_bestOf_108 ?_
            rotate_left -- leaf 8: index at 108
            refine b_icmp_ge (pc := 109) 116 dX11_bestOf_109 (by decide) (fun c109 => ?_) (fun c109 => ?_)
            refine b_iconst (pc := 116) (nI 0) dX11_bestOf_116 (by decide) ?_
            rotate_left -- leaf 9: at 117
            refine b_iconst (pc := 112) (nI 1) dX11_bestOf_112 (by decide) ?_
            refine b_goto (pc := 113) 117 dX11_bestOf_113 (by decide) ?_
            rotate_left -- leaf 10: at 117
            -- leaves: 0 at 117; 1 index at 67; 2 index at 74; 3 at 117; 4 index at 84; 5 index at 91; 6 at 117; 7 index at 101; 8 index at 108; 9 at 117; 10 at 117
            · rw [a2] at c58
              exact absurd c58 (n_ne_none (by omega))
            · exact n_in (by omega) (by omega)
            · rw [a2]; exact n_in (by omega) (by omega)
            · rw [a2, n_cl (show k < 2147483648 by omega), n_cl (show j < 2147483648 by omega), sx.1, sy.1, n_lt (by omega) (by omega), p1] at c75
              exact m117 1 _ (Or.inr ⟨rfl, put (Or.inl c75)⟩)
            · exact n_in (by omega) (by omega)
            · rw [a2]; exact n_in (by omega) (by omega)
            · rw [a2, n_cl (show k < 2147483648 by omega), n_cl (show j < 2147483648 by omega), sx.1, sy.1, n_lt (by omega) (by omega), p1] at c75
              rw [a2, n_cl (show k < 2147483648 by omega), n_cl (show j < 2147483648 by omega), sx.1, sy.1, n_eq (by omega) (by omega), p2] at c92
              exact m117 0 _ (Or.inl ⟨rfl, keep (Or.inl (by omega))⟩)
            · exact n_in (by omega) (by omega)
            · rw [a2]; exact n_in (by omega) (by omega)
            · rw [a2, n_cl (show k < 2147483648 by omega), n_cl (show j < 2147483648 by omega), sx.1, sy.1, n_eq (by omega) (by omega), p2] at c92
              rw [a2, n_cl (show k < 2147483648 by omega), n_cl (show j < 2147483648 by omega), sx.2, sy.2, n_le (by omega) (by omega)] at c109
              exact m117 0 _ (Or.inl ⟨rfl, keep (Or.inr ⟨c92.symm, c109⟩)⟩)
            · rw [a2, n_cl (show k < 2147483648 by omega), n_cl (show j < 2147483648 by omega), sx.1, sy.1, n_eq (by omega) (by omega), p2] at c92
              rw [a2, n_cl (show k < 2147483648 by omega), n_cl (show j < 2147483648 by omega), sx.2, sy.2, n_le (by omega) (by omega)] at c109
              exact m117 1 _ (Or.inr ⟨rfl, put (Or.inr ⟨c92, by omega⟩)⟩)
        have bA : k &&& A < 64 := Nat.and_lt_two_pow (n := 6) k hA
        have bB : k &&& Bn < 64 := Nat.and_lt_two_pow (n := 6) k hBn
        have eM : metP A Bn (k % 64) ↔ (k &&& A = A ∧ k &&& Bn = 0) := by
          unfold metP
          rw [and_mod64 (n := k) hA, and_mod64 (n := k) hBn]
        refine b_iloadG (pc := 7) 5 dX11_bestOf_7 rfl ?_
        refine b_sipush (pc := 9) (nI 4096) dX11_bestOf_9 (by decide) ?_
        refine b_icmp_ge (pc := 12) 139 dX11_bestOf_12 (by decide) (fun c12 => ?_) (fun c12 => ?_)
        rotate_left -- leaf 0: at 139
        refine b_aloadN (pc := 15) 0 dX11_bestOf_15 rfl rfl ?_
        refine gf11_18 (pc := 16) 118 rfl k1060 dX11_bestOf_16 ?_
        refine b_iloadG (pc := 19) 5 dX11_bestOf_19 rfl ?_
        refine b_iald (pc := 21) (by decide) ?_ dX11_bestOf_21 ?_
        rotate_left -- leaf 1: index at 21
        refine b_ldc (pc := 22) k1180 dX11_bestOf_22 ?_
        refine b_icmp_eq (pc := 24) 46 dX11_bestOf_24 (by decide) (fun c24 => ?_) (fun c24 => ?_)
        rotate_left -- leaf 2: at 46
        refine b_iloadG (pc := 27) 5 dX11_bestOf_27 rfl ?_
        refine b_iloadN (pc := 29) 1 dX11_bestOf_29 rfl rfl ?_
        refine b_iand (pc := 30) dX11_bestOf_30 ?_
        refine b_iloadN (pc := 31) 1 dX11_bestOf_31 rfl rfl ?_
        refine b_icmp_ne (pc := 32) 46 dX11_bestOf_32 (by decide) (fun c32 => ?_) (fun c32 => ?_)
        rotate_left -- leaf 3: at 46
        refine b_iloadG (pc := 35) 5 dX11_bestOf_35 rfl ?_
        refine b_iloadN (pc := 37) 2 dX11_bestOf_37 rfl rfl ?_
        refine b_iand (pc := 38) dX11_bestOf_38 ?_
        refine b_if_ne (pc := 39) 46 dX11_bestOf_39 (by decide) (fun c39 => ?_) (fun c39 => ?_)
        rotate_left -- leaf 4: at 46
        refine b_iconst (pc := 42) (nI 1) dX11_bestOf_42 (by decide) ?_
        refine b_goto (pc := 43) 47 dX11_bestOf_43 (by decide) ?_
        refine siG6 (pc := 47) notL_i (by decide) dX11_bestOf_47 ?_
        refine b_iloadG (pc := 49) 6 dX11_bestOf_49 rfl ?_
        refine b_if_eq (pc := 51) 116 dX11_bestOf_51 (by decide) (fun c51 => ?_) (fun c51 => ?_)
        rotate_left -- leaf 5: at 116
        rotate_left -- leaf 6: at 54
        -- leaves: 0 at 139; 1 index at 21; 2 at 46; 3 at 46; 4 at 46; 5 at 116; 6 at 54
        · rw [n_le (by omega) (by omega)] at c12; omega
        · exact n_in (by omega) (by omega)
        · refine m46 (fun x hx hm => ?_)
          have bx := hR.2.1 k x hx
          have hPx : P * x.1 ≤ 9 * 24576 := Nat.mul_le_mul hPk.2 (by omega)
          rw [n_cl (by omega), (ck.2 x hx).1] at c24
          exact n_ne_none (by omega) c24
        · rw [n_and, n_eq (by omega) (by omega)] at c32
          exact m46 (fun x hx hm => c32 (eM.mp hm).1)
        · rw [n_and, n_eq0 (by omega)] at c39
          exact m46 (fun x hx hm => c39 (eM.mp hm).2)
        · exact absurd c51 (by decide)
        · rw [n_and, n_eq (by omega) (by omega)] at c32
          rw [n_and, n_eq0 (by omega)] at c39
          cases e : lab k with
          | none =>
            rw [n_cl (by omega), ck.1 e] at c24
            exact absurd rfl c24
          | some x => exact m54 x e (eM.mpr ⟨c32, c39⟩)
      · have ek : k = 4096 := by omega
        subst ek
        have best : ∃ r, bestW C bc A Bn r ∧ ((r = none ∧ bv = -1000000) ∨ ∃ j x, r = some x ∧ j < 4096 ∧ bv = nI j ∧ m.1 118 j = nI (P * x.1) ∧ m.1 119 j = nI x.2) := by
          rcases hI with ⟨a, b⟩ | ⟨j, x, a, a2, a3, a4, a5⟩
          · refine ⟨none, fun n so said c f hwk hm => ?_, Or.inl ⟨rfl, a⟩⟩
            obtain ⟨y, hy, -⟩ := hR.2.2.2 n so said c f hwk
            have ok := (Wk_ok hv _ _ _ _ _ hwk).1.1
            refine b _ y (hR.2.1 _ y hy).1 hy ?_
            rw [show (64 * said + so) % 64 = so by omega]
            exact hm
          · have cj := (cells j a).2 x a3
            refine ⟨some x, ⟨?_, fun n so said c f hwk hm => ?_⟩, Or.inr ⟨j, x, rfl, a, a2, cj.1, cj.2⟩⟩
            · obtain ⟨kk, hkk⟩ := hR.2.2.1 j x a3
              exact ⟨kk, _, _, hkk, a4⟩
            · obtain ⟨y, hy, hle⟩ := hR.2.2.2 n so said c f hwk
              have ok := (Wk_ok hv _ _ _ _ _ hwk).1.1
              have t := a5 _ y (hR.2.1 _ y hy).1 hy (by rw [show (64 * said + so) % 64 = so by omega]; exact hm)
              exact t.tr hle
        obtain ⟨r, hr, hc⟩ := best
        have hh := h r hr
        refine b_iloadG (pc := 7) 5 dX11_bestOf_7 rfl ?_
        refine b_sipush (pc := 9) (nI 4096) dX11_bestOf_9 (by decide) ?_
        refine b_icmp_ge (pc := 12) 139 dX11_bestOf_12 (by decide) (fun c12 => ?_) (fun c12 => ?_)
        refine b_iloadG (pc := 139) 4 dX11_bestOf_139 rfl ?_
        refine b_ldc (pc := 141) k1180 dX11_bestOf_141 ?_
        refine b_icmp_ne (pc := 143) 151 dX11_bestOf_143 (by decide) (fun c143 => ?_) (fun c143 => ?_)
        refine b_iloadN (pc := 151) 3 dX11_bestOf_151 rfl rfl ?_
        refine b_if_ne (pc := 152) 165 dX11_bestOf_152 (by decide) (fun c152 => ?_) (fun c152 => ?_)
        refine b_aloadN (pc := 165) 0 dX11_bestOf_165 rfl rfl ?_
        refine gf11_19 (pc := 166) 119 rfl k1061 dX11_bestOf_166 ?_
        refine b_iloadG (pc := 169) 4 dX11_bestOf_169 rfl ?_
        refine b_iald (pc := 171) (by decide) ?_ dX11_bestOf_171 ?_
        rotate_left -- leaf 0: index at 171
        refine b_iret (pc := 172) rfl dX11_bestOf_172 ⟨Nat.le_of_ble_eq_true rfl, Nat.le_of_ble_eq_true rfl⟩ ?_
        rotate_left -- leaf 1: return at 172
        refine b_aloadN (pc := 155) 0 dX11_bestOf_155 rfl rfl ?_
        refine gf11_18 (pc := 156) 118 rfl k1060 dX11_bestOf_156 ?_
        refine b_iloadG (pc := 159) 4 dX11_bestOf_159 rfl ?_
        refine b_iald (pc := 161) (by decide) ?_ dX11_bestOf_161 ?_
        rotate_left -- leaf 2: index at 161
        refine b_goto (pc := 162) 172 dX11_bestOf_162 (by decide) ?_
        refine b_iret (pc := 172) rfl dX11_bestOf_172 ⟨Nat.le_of_ble_eq_true rfl, Nat.le_of_ble_eq_true rfl⟩ ?_
        rotate_left -- leaf 3: return at 172
        refine b_ldc (pc := 146) k1180 dX11_bestOf_146 ?_
        refine b_goto (pc := 148) 172 dX11_bestOf_148 (by decide) ?_
        refine b_iret (pc := 172) rfl dX11_bestOf_172 ⟨Nat.le_of_ble_eq_true rfl, Nat.le_of_ble_eq_true rfl⟩ ?_
        rotate_left -- leaf 4: return at 172
        rotate_left -- leaf 5: at 15
        -- leaves: 0 index at 171; 1 return at 172; 2 index at 161; 3 return at 172; 4 return at 172; 5 at 15
        · rcases hc with ⟨-, e⟩ | ⟨j, x, e1, e2, e3, e4, e5⟩
          · exact absurd e c143
          · rw [e3]; exact n_in (by omega) (by omega)
        · rcases hc with ⟨-, e⟩ | ⟨j, x, e1, e2, e3, e4, e5⟩
          · exact absurd e c143
          · rw [e3, n_cl (by omega), e5]
            rw [goA_1 r (fun z => c152 (by rw [z]; rfl)), e1] at hh
            exact hh
        · rcases hc with ⟨-, e⟩ | ⟨j, x, e1, e2, e3, e4, e5⟩
          · exact absurd e c143
          · rw [e3]; exact n_in (by omega) (by omega)
        · rcases hc with ⟨-, e⟩ | ⟨j, x, e1, e2, e3, e4, e5⟩
          · exact absurd e c143
          · rw [n_eq0 (by omega)] at c152
            rw [e3, n_cl (by omega), e4, Nat.mul_comm]
            rw [e1, c152, hP] at hh
            exact hh
        · rcases hc with ⟨e1, -⟩ | ⟨j, x, e1, e2, e3, e4, e5⟩
          · rw [e1] at hh
            exact hh
          · rw [e3] at c143
            exact absurd c143 (n_ne_none (by omega))
        · rw [n_le (by omega) (by omega)] at c12; omega
  refine b_ldc (pc := 0) k1180 dX11_bestOf_0 ?_
  refine siG4 (pc := 2) notL_i (by decide) dX11_bestOf_2 ?_
  refine b_iconst (pc := 4) (nI 0) dX11_bestOf_4 (by decide) ?_
  refine siG5 (pc := 5) notL_i (by decide) dX11_bestOf_5 ?_
  rotate_left -- leaf 0: at 7
  -- leaves: 0 at 7
  exact loop 4097 0 _ none none (by omega) (by omega) (Or.inl ⟨rfl, fun n x z => absurd z (Nat.not_lt_zero n)⟩)
theorem call_X11_bestOf {E : ME} {Φ : Option AV → AM → Prop} {pc : Nat} {L : List (Option AV)} {st : List AV} {m : AM} {a : Nat × Nat} {idx : Nat} {x0 x1 x2 : AV} {i : Nat} (hl : Cond.methodLink E.2.1 idx yX11_bestOf ∈ TB) (hdep : 1 + 1 ≤ E.2.2.2.2.2.2) (hroom : a.1 + 0 ≤ E.2.2.2.2.1 ∧ a.2 + 0 ≤ E.2.2.2.2.2.1) (hsr : st.length ≤ 4) (hd : decode E.1 pc = .ok (.invokevirtual idx, 3)) (hsp : Sp_X11_bestOf [vr 11 i, x0, x1, x2] m (fun r m2 => B E Φ (pc + 3) L (r.toList ++ st) m2 a)) : B E Φ pc L (x2 :: x1 :: x0 :: vr 11 i :: st) m a := b_callV S_X11_bestOf [x0, x1, x2] (RX11, TX11, 28) rfl rfl (by decide) (Or.inl hl) k1339 k59 k80 k1340 (show _ ∧ _ ∧ Option.map (fun d => d.parameters.length) (parseMethodDescriptor yX11_bestOf.desc) = some 3 from by decide +kernel) ⟨hdep, by decide⟩ hroom hsr hd hsp
