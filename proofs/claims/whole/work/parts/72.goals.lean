/-! shortest, cheapest of the class -/
def goC (C : Nat → Nat) (x y z : Int32) : Bool := inB x (2 ^ C 0) && (inB y (2 ^ C 0) && (decide (x &&& y = 0) && inB z 2))
def refG (C : Nat → Nat) (x y z : Int32) : Int32 := if C 0 = 0 then -1000002 else if goC C x y z = true then 0 else -1000001
abbrev e_X10_refusalOfGoal : ME := (cX10_refusalOfGoal, (RX10, (5, ((some .int), (0, (0, 2))))))
theorem dX10_refusalOfGoal_0 : decode cX10_refusalOfGoal 0 = .ok (.aload_n 0, 1) := by decide +kernel
theorem dX10_refusalOfGoal_1 : decode cX10_refusalOfGoal 1 = .ok (.getfield 26, 3) := by decide +kernel
theorem dX10_refusalOfGoal_4 : decode cX10_refusalOfGoal 4 = .ok (.invokevirtual 189, 3) := by decide +kernel
theorem dX10_refusalOfGoal_7 : decode cX10_refusalOfGoal 7 = .ok (.ifCond .ne 6, 3) := by decide +kernel
theorem dX10_refusalOfGoal_10 : decode cX10_refusalOfGoal 10 = .ok (.ldc 142, 2) := by decide +kernel
theorem dX10_refusalOfGoal_12 : decode cX10_refusalOfGoal 12 = .ok (.ireturn, 1) := by decide +kernel
theorem dX10_refusalOfGoal_13 : decode cX10_refusalOfGoal 13 = .ok (.aload_n 0, 1) := by decide +kernel
theorem dX10_refusalOfGoal_14 : decode cX10_refusalOfGoal 14 = .ok (.getfield 26, 3) := by decide +kernel
theorem dX10_refusalOfGoal_17 : decode cX10_refusalOfGoal 17 = .ok (.getfield 127, 3) := by decide +kernel
theorem dX10_refusalOfGoal_20 : decode cX10_refusalOfGoal 20 = .ok (.iload_n 1, 1) := by decide +kernel
theorem dX10_refusalOfGoal_21 : decode cX10_refusalOfGoal 21 = .ok (.invokevirtual 232, 3) := by decide +kernel
theorem dX10_refusalOfGoal_24 : decode cX10_refusalOfGoal 24 = .ok (.ifCond .eq 27, 3) := by decide +kernel
theorem dX10_refusalOfGoal_27 : decode cX10_refusalOfGoal 27 = .ok (.aload_n 0, 1) := by decide +kernel
theorem dX10_refusalOfGoal_28 : decode cX10_refusalOfGoal 28 = .ok (.getfield 26, 3) := by decide +kernel
theorem dX10_refusalOfGoal_31 : decode cX10_refusalOfGoal 31 = .ok (.getfield 127, 3) := by decide +kernel
theorem dX10_refusalOfGoal_34 : decode cX10_refusalOfGoal 34 = .ok (.iload_n 2, 1) := by decide +kernel
theorem dX10_refusalOfGoal_35 : decode cX10_refusalOfGoal 35 = .ok (.invokevirtual 232, 3) := by decide +kernel
theorem dX10_refusalOfGoal_38 : decode cX10_refusalOfGoal 38 = .ok (.ifCond .eq 13, 3) := by decide +kernel
theorem dX10_refusalOfGoal_41 : decode cX10_refusalOfGoal 41 = .ok (.iload_n 1, 1) := by decide +kernel
theorem dX10_refusalOfGoal_42 : decode cX10_refusalOfGoal 42 = .ok (.iload_n 2, 1) := by decide +kernel
theorem dX10_refusalOfGoal_43 : decode cX10_refusalOfGoal 43 = .ok (.iand, 1) := by decide +kernel
theorem dX10_refusalOfGoal_44 : decode cX10_refusalOfGoal 44 = .ok (.ifCond .ne 7, 3) := by decide +kernel
theorem dX10_refusalOfGoal_47 : decode cX10_refusalOfGoal 47 = .ok (.iconst 1, 1) := by decide +kernel
theorem dX10_refusalOfGoal_48 : decode cX10_refusalOfGoal 48 = .ok (.goto 4, 3) := by decide +kernel
theorem dX10_refusalOfGoal_51 : decode cX10_refusalOfGoal 51 = .ok (.iconst 0, 1) := by decide +kernel
theorem dX10_refusalOfGoal_52 : decode cX10_refusalOfGoal 52 = .ok (.istore 4, 2) := by decide +kernel
theorem dX10_refusalOfGoal_54 : decode cX10_refusalOfGoal 54 = .ok (.iload 4, 2) := by decide +kernel
theorem dX10_refusalOfGoal_56 : decode cX10_refusalOfGoal 56 = .ok (.ifCond .eq 14, 3) := by decide +kernel
theorem dX10_refusalOfGoal_59 : decode cX10_refusalOfGoal 59 = .ok (.iload_n 3, 1) := by decide +kernel
theorem dX10_refusalOfGoal_60 : decode cX10_refusalOfGoal 60 = .ok (.invokestatic 180, 3) := by decide +kernel
theorem dX10_refusalOfGoal_63 : decode cX10_refusalOfGoal 63 = .ok (.ifCond .ne 7, 3) := by decide +kernel
theorem dX10_refusalOfGoal_66 : decode cX10_refusalOfGoal 66 = .ok (.iconst 0, 1) := by decide +kernel
theorem dX10_refusalOfGoal_67 : decode cX10_refusalOfGoal 67 = .ok (.goto 5, 3) := by decide +kernel
theorem dX10_refusalOfGoal_70 : decode cX10_refusalOfGoal 70 = .ok (.ldc 69, 2) := by decide +kernel
theorem dX10_refusalOfGoal_72 : decode cX10_refusalOfGoal 72 = .ok (.ireturn, 1) := by decide +kernel
def Sp_X10_refusalOfGoal (av : List AV) (m : AM) (Φ : Option AV → AM → Prop) : Prop := ∃ x y z, av = [vr 10 0, vi x, vi y, vi z] ∧ ∃ C, CR m C ∧ Φ (some (vi (refG C x y z))) m
set_option maxRecDepth 20000 in
set_option maxHeartbeats 4000000 in
theorem S_X10_refusalOfGoal : Snd yX10_refusalOfGoal e_X10_refusalOfGoal Sp_X10_refusalOfGoal := by
  refine Snd.of (by decide +kernel) rfl ?_ ?_
  · rintro av m Φ ⟨x, y, z, rfl, _⟩; exact Nat.le_of_ble_eq_true rfl
  rintro av m Φ ⟨x, y, z, rfl, C, hC, h⟩ hav hty
  show B e_X10_refusalOfGoal Φ 0 [some (vr 10 0), some (vi x), some (vi y), some (vi z), none] [] m (0, 0)
  unfold refG goC at h
  have noz : ∀ {b : Bool}, nI (if b = true then 0 else 1) = 0 → b = true := fun {b} q => by
    cases b
    · exact absurd q (by decide)
    · rfl
  have yez : ∀ {b : Bool}, ¬ nI (if b = true then 0 else 1) = 0 → b = false := fun {b} q => by
    cases b
    · rfl
    · exact absurd rfl q
  refine b_aloadN (pc := 0) 0 dX10_refusalOfGoal_0 rfl rfl ?_
  refine gf10_2 (pc := 1) 20 rfl k417 dX10_refusalOfGoal_1 ?_
  refine call_X2_isOpen (pc := 4) k720 (by decide) ⟨Nat.le_of_ble_eq_true rfl, Nat.le_of_ble_eq_true rfl⟩ (Nat.le_of_ble_eq_true rfl) dX10_refusalOfGoal_4 ?_
  refine ⟨rfl, _, hC.num.1, hC.le.1, ?_⟩
  refine b_if_ne (pc := 7) 13 dX10_refusalOfGoal_7 (by decide) (fun c7 => ?_) (fun c7 => ?_)
  refine b_aloadN (pc := 13) 0 dX10_refusalOfGoal_13 rfl rfl ?_
  refine gf10_2 (pc := 14) 20 rfl k417 dX10_refusalOfGoal_14 ?_
  refine gf2_0 (pc := 17) 21 rfl k269 dX10_refusalOfGoal_17 ?_
  refine b_iloadN (pc := 20) 1 dX10_refusalOfGoal_20 rfl rfl ?_
  refine call_X5_areFacts (pc := 21) k745 (by decide) ⟨Nat.le_of_ble_eq_true rfl, Nat.le_of_ble_eq_true rfl⟩ (Nat.le_of_ble_eq_true rfl) dX10_refusalOfGoal_21 ?_
  refine ⟨_, rfl, _, hC.num.1, hC.le.1, ?_⟩
  refine b_if_eq (pc := 24) 51 dX10_refusalOfGoal_24 (by decide) (fun c24 => ?_) (fun c24 => ?_)
  refine b_iconst (pc := 51) (nI 0) dX10_refusalOfGoal_51 (by decide) ?_
  refine siG4 (pc := 52) notL_i (by decide) dX10_refusalOfGoal_52 ?_
  refine b_iloadG (pc := 54) 4 dX10_refusalOfGoal_54 rfl ?_
  refine b_if_eq (pc := 56) 70 dX10_refusalOfGoal_56 (by decide) (fun c56 => ?_) (fun c56 => ?_)
  refine b_ldc (pc := 70) k450 dX10_refusalOfGoal_70 ?_
  refine b_iret (pc := 72) rfl dX10_refusalOfGoal_72 ⟨Nat.le_of_ble_eq_true rfl, Nat.le_of_ble_eq_true rfl⟩ ?_
  rotate_left -- leaf 0: return at 72
  refine b_iloadN (pc := 59) 3 dX10_refusalOfGoal_59 rfl rfl ?_
  refine call_X10_isNoBit (pc := 60) k709 (by decide) ⟨Nat.le_of_ble_eq_true rfl, Nat.le_of_ble_eq_true rfl⟩ (Nat.le_of_ble_eq_true rfl) dX10_refusalOfGoal_60 ?_
  refine ⟨_, rfl, ?_⟩
  refine b_if_ne (pc := 63) 70 dX10_refusalOfGoal_63 (by decide) (fun c63 => ?_) (fun c63 => ?_)
  refine b_ldc (pc := 70) k450 dX10_refusalOfGoal_70 ?_
  refine b_iret (pc := 72) rfl dX10_refusalOfGoal_72 ⟨Nat.le_of_ble_eq_true rfl, Nat.le_of_ble_eq_true rfl⟩ ?_
  rotate_left -- leaf 1: return at 72
  refine b_iconst (pc := 66) (nI 0) dX10_refusalOfGoal_66 (by decide) ?_
  refine b_goto (pc := 67) 72 dX10_refusalOfGoal_67 (by decide) ?_
  refine b_iret (pc := 72) rfl dX10_refusalOfGoal_72 ⟨Nat.le_of_ble_eq_true rfl, Nat.le_of_ble_eq_true rfl⟩ ?_
  rotate_left -- leaf 2: return at 72
  refine b_aloadN (pc := 27) 0 dX10_refusalOfGoal_27 rfl rfl ?_
  refine gf10_2 (pc := 28) 20 rfl k417 dX10_refusalOfGoal_28 ?_
  refine gf2_0 (pc := 31) 21 rfl k269 dX10_refusalOfGoal_31 ?_
  refine b_iloadN (pc := 34) 2 dX10_refusalOfGoal_34 rfl rfl ?_
  refine call_X5_areFacts (pc := 35) k745 (by decide) ⟨Nat.le_of_ble_eq_true rfl, Nat.le_of_ble_eq_true rfl⟩ (Nat.le_of_ble_eq_true rfl) dX10_refusalOfGoal_35 ?_
  refine ⟨_, rfl, _, hC.num.1, hC.le.1, ?_⟩
  refine b_if_eq (pc := 38) 51 dX10_refusalOfGoal_38 (by decide) (fun c38 => ?_) (fun c38 => ?_)
  refine b_iconst (pc := 51) (nI 0) dX10_refusalOfGoal_51 (by decide) ?_
  refine siG4 (pc := 52) notL_i (by decide) dX10_refusalOfGoal_52 ?_
  refine b_iloadG (pc := 54) 4 dX10_refusalOfGoal_54 rfl ?_
  refine b_if_eq (pc := 56) 70 dX10_refusalOfGoal_56 (by decide) (fun c56 => ?_) (fun c56 => ?_)
  refine b_ldc (pc := 70) k450 dX10_refusalOfGoal_70 ?_
  refine b_iret (pc := 72) rfl dX10_refusalOfGoal_72 ⟨Nat.le_of_ble_eq_true rfl, Nat.le_of_ble_eq_true rfl⟩ ?_
  rotate_left -- leaf 3: return at 72
  refine b_iloadN (pc := 59) 3 dX10_refusalOfGoal_59 rfl rfl ?_
  refine call_X10_isNoBit (pc := 60) k709 (by decide) ⟨Nat.le_of_ble_eq_true rfl, Nat.le_of_ble_eq_true rfl⟩ (Nat.le_of_ble_eq_true rfl) dX10_refusalOfGoal_60 ?_
  refine ⟨_, rfl, ?_⟩
  refine b_if_ne (pc := 63) 70 dX10_refusalOfGoal_63 (by decide) (fun c63 => ?_) (fun c63 => ?_)
  refine b_ldc (pc := 70) k450 dX10_refusalOfGoal_70 ?_
  refine b_iret (pc := 72) rfl dX10_refusalOfGoal_72 ⟨Nat.le_of_ble_eq_true rfl, Nat.le_of_ble_eq_true rfl⟩ ?_
  rotate_left -- leaf 4: return at 72
  refine b_iconst (pc := 66) (nI 0) dX10_refusalOfGoal_66 (by decide) ?_
  refine b_goto (pc := 67) 72 dX10_refusalOfGoal_67 (by decide) ?_
  refine b_iret (pc := 72) rfl dX10_refusalOfGoal_72 ⟨Nat.le_of_ble_eq_true rfl, Nat.le_of_ble_eq_true rfl⟩ ?_
  rotate_left -- leaf 5: return at 72
  refine b_iloadN (pc := 41) 1 dX10_refusalOfGoal_41 rfl rfl ?_
  refine b_iloadN (pc := 42) 2 dX10_refusalOfGoal_42 rfl rfl ?_
  refine b_iand (pc := 43) dX10_refusalOfGoal_43 ?_
  refine b_if_ne (pc := 44) 51 dX10_refusalOfGoal_44 (by decide) (fun c44 => ?_) (fun c44 => ?_)
  refine b_iconst (pc := 51) (nI 0) dX10_refusalOfGoal_51 (by decide) ?_
  refine siG4 (pc := 52) notL_i (by decide) dX10_refusalOfGoal_52 ?_
  refine b_iloadG (pc := 54) 4 dX10_refusalOfGoal_54 rfl ?_
  refine b_if_eq (pc := 56) 70 dX10_refusalOfGoal_56 (by decide) (fun c56 => ?_) (fun c56 => ?_)
  refine b_ldc (pc := 70) k450 dX10_refusalOfGoal_70 ?_
  refine b_iret (pc := 72) rfl dX10_refusalOfGoal_72 ⟨Nat.le_of_ble_eq_true rfl, Nat.le_of_ble_eq_true rfl⟩ ?_
  rotate_left -- leaf 6: return at 72
  refine b_iloadN (pc := 59) 3 dX10_refusalOfGoal_59 rfl rfl ?_
  refine call_X10_isNoBit (pc := 60) k709 (by decide) ⟨Nat.le_of_ble_eq_true rfl, Nat.le_of_ble_eq_true rfl⟩ (Nat.le_of_ble_eq_true rfl) dX10_refusalOfGoal_60 ?_
  refine ⟨_, rfl, ?_⟩
  refine b_if_ne (pc := 63) 70 dX10_refusalOfGoal_63 (by decide) (fun c63 => ?_) (fun c63 => ?_)
  refine b_ldc (pc := 70) k450 dX10_refusalOfGoal_70 ?_
  refine b_iret (pc := 72) rfl dX10_refusalOfGoal_72 ⟨Nat.le_of_ble_eq_true rfl, Nat.le_of_ble_eq_true rfl⟩ ?_
  rotate_left -- leaf 7: return at 72
  refine b_iconst (pc := 66) (nI 0) dX10_refusalOfGoal_66 (by decide) ?_
  refine b_goto (pc := 67) 72 dX10_refusalOfGoal_67 (by decide) ?_
  refine b_iret (pc := 72) rfl dX10_refusalOfGoal_72 ⟨Nat.le_of_ble_eq_true rfl, Nat.le_of_ble_eq_true rfl⟩ ?_
  rotate_left -- leaf 8: return at 72
  refine b_iconst (pc := 47) (nI 1) dX10_refusalOfGoal_47 (by decide) ?_
  refine b_goto (pc := 48) 52 dX10_refusalOfGoal_48 (by decide) ?_
  refine siG4 (pc := 52) notL_i (by decide) dX10_refusalOfGoal_52 ?_
  refine b_iloadG (pc := 54) 4 dX10_refusalOfGoal_54 rfl ?_
  refine b_if_eq (pc := 56) 70 dX10_refusalOfGoal_56 (by decide) (fun c56 => ?_) (fun c56 => ?_)
  refine b_ldc (pc := 70) k450 dX10_refusalOfGoal_70 ?_
  refine b_iret (pc := 72) rfl dX10_refusalOfGoal_72 ⟨Nat.le_of_ble_eq_true rfl, Nat.le_of_ble_eq_true rfl⟩ ?_
  rotate_left -- leaf 9: return at 72
  refine b_iloadN (pc := 59) 3 dX10_refusalOfGoal_59 rfl rfl ?_
  refine call_X10_isNoBit (pc := 60) k709 (by decide) ⟨Nat.le_of_ble_eq_true rfl, Nat.le_of_ble_eq_true rfl⟩ (Nat.le_of_ble_eq_true rfl) dX10_refusalOfGoal_60 ?_
  refine ⟨_, rfl, ?_⟩
  refine b_if_ne (pc := 63) 70 dX10_refusalOfGoal_63 (by decide) (fun c63 => ?_) (fun c63 => ?_)
  refine b_ldc (pc := 70) k450 dX10_refusalOfGoal_70 ?_
  refine b_iret (pc := 72) rfl dX10_refusalOfGoal_72 ⟨Nat.le_of_ble_eq_true rfl, Nat.le_of_ble_eq_true rfl⟩ ?_
  rotate_left -- leaf 10: return at 72
  refine b_iconst (pc := 66) (nI 0) dX10_refusalOfGoal_66 (by decide) ?_
  refine b_goto (pc := 67) 72 dX10_refusalOfGoal_67 (by decide) ?_
  refine b_iret (pc := 72) rfl dX10_refusalOfGoal_72 ⟨Nat.le_of_ble_eq_true rfl, Nat.le_of_ble_eq_true rfl⟩ ?_
  rotate_left -- leaf 11: return at 72
  refine b_ldc (pc := 10) k624 dX10_refusalOfGoal_10 ?_
  refine b_iret (pc := 12) rfl dX10_refusalOfGoal_12 ⟨Nat.le_of_ble_eq_true rfl, Nat.le_of_ble_eq_true rfl⟩ ?_
  rotate_left -- leaf 12: return at 12
  -- leaves: 0 return at 72; 1 return at 72; 2 return at 72; 3 return at 72; 4 return at 72; 5 return at 72; 6 return at 72; 7 return at 72; 8 return at 72; 9 return at 72; 10 return at 72; 11 return at 72; 12 return at 12
  · have := zF c7
    rw [if_neg (by omega), bF c24, Bool.false_and, if_neg (by decide)] at h
    exact h
  · exact absurd rfl c56
  · exact absurd rfl c56
  · have := zF c7
    rw [if_neg (by omega), bF c38, Bool.false_and, Bool.and_false, if_neg (by decide)] at h
    exact h
  · exact absurd rfl c56
  · exact absurd rfl c56
  · have := zF c7
    rw [if_neg (by omega), decide_eq_false c44, Bool.false_and, Bool.and_false, Bool.and_false, if_neg (by decide)] at h
    exact h
  · exact absurd rfl c56
  · exact absurd rfl c56
  · exact absurd c56 (by decide)
  · have := zF c7
    rw [if_neg (by omega), yez c63, Bool.and_false, Bool.and_false, Bool.and_false, if_neg (by decide)] at h
    exact h
  · have := zF c7
    rw [if_neg (by omega), bT c24, bT c38, decide_eq_true c44, noz c63, if_pos (by decide)] at h
    exact h
  · rw [if_pos (zT c7)] at h
    exact h
theorem call_X10_refusalOfGoal {E : ME} {Φ : Option AV → AM → Prop} {pc : Nat} {L : List (Option AV)} {st : List AV} {m : AM} {a : Nat × Nat} {idx : Nat} {x0 x1 x2 : AV} {i : Nat} (hl : Cond.methodLink E.2.1 idx yX10_refusalOfGoal ∈ TB) (hdep : 2 + 1 ≤ E.2.2.2.2.2.2) (hroom : a.1 + 0 ≤ E.2.2.2.2.1 ∧ a.2 + 0 ≤ E.2.2.2.2.2.1) (hsr : st.length ≤ 4) (hd : decode E.1 pc = .ok (.invokevirtual idx, 3)) (hsp : Sp_X10_refusalOfGoal [vr 10 i, x0, x1, x2] m (fun r m2 => B E Φ (pc + 3) L (r.toList ++ st) m2 a)) : B E Φ pc L (x2 :: x1 :: x0 :: vr 10 i :: st) m a := b_callV S_X10_refusalOfGoal [x0, x1, x2] (RX10, TX10, 9) rfl rfl (by decide) (Or.inl hl) k743 k15 k68 k744 (show _ ∧ _ ∧ Option.map (fun d => d.parameters.length) (parseMethodDescriptor yX10_refusalOfGoal.desc) = some 3 from by decide +kernel) ⟨hdep, by decide⟩ hroom hsr hd hsp
theorem refG_ok {C : Nat → Nat} {x y z : Int32} (h : refG C x y z = 0) : 0 < C 0 ∧ goC C x y z = true := by
  unfold refG at h
  by_cases q : C 0 = 0
  · rw [if_pos q] at h
    exact absurd h (by decide)
  · rw [if_neg q] at h
    cases e : goC C x y z
    · rw [e] at h
      exact absurd h (by decide)
    · exact ⟨by omega, rfl⟩
theorem goC_to {C : Nat → Nat} {x y z : Int32} (hp : 2 ^ C 0 ≤ 64) (h : goC C x y z = true) : ∃ A Bn w, x = nI A ∧ y = nI Bn ∧ z = nI w ∧ A < 2 ^ C 0 ∧ Bn < 2 ^ C 0 ∧ w < 2 ∧ A &&& Bn = 0 := by
  unfold goC at h
  rw [Bool.and_eq_true, Bool.and_eq_true, Bool.and_eq_true, decide_eq_true_eq] at h
  obtain ⟨A, hA, rfl⟩ := (inB_iff (by omega)).mp h.1
  obtain ⟨Bn, hBn, rfl⟩ := (inB_iff (by omega)).mp h.2.1
  obtain ⟨w, hw, rfl⟩ := (inB_iff (by omega)).mp h.2.2.2
  refine ⟨A, Bn, w, rfl, rfl, rfl, hA, hBn, hw, ?_⟩
  have e := h.2.2.1
  have b1 : A &&& Bn < 64 := by rw [Nat.and_comm]; exact Nat.and_lt_two_pow (n := 6) Bn (by omega)
  rw [n_and, n_eq0 (by omega)] at e
  exact e
abbrev e_X10_shortest : ME := (cX10_shortest, (RX10, (5, ((some .int), (3, (12288, 8))))))
theorem dX10_shortest_0 : decode cX10_shortest 0 = .ok (.aload_n 0, 1) := by decide +kernel
theorem dX10_shortest_1 : decode cX10_shortest 1 = .ok (.iload_n 1, 1) := by decide +kernel
theorem dX10_shortest_2 : decode cX10_shortest 2 = .ok (.iload_n 2, 1) := by decide +kernel
theorem dX10_shortest_3 : decode cX10_shortest 3 = .ok (.iload_n 3, 1) := by decide +kernel
theorem dX10_shortest_4 : decode cX10_shortest 4 = .ok (.invokevirtual 218, 3) := by decide +kernel
theorem dX10_shortest_7 : decode cX10_shortest 7 = .ok (.istore 4, 2) := by decide +kernel
theorem dX10_shortest_9 : decode cX10_shortest 9 = .ok (.iload 4, 2) := by decide +kernel
theorem dX10_shortest_11 : decode cX10_shortest 11 = .ok (.ifCond .eq 8, 3) := by decide +kernel
theorem dX10_shortest_14 : decode cX10_shortest 14 = .ok (.iload 4, 2) := by decide +kernel
theorem dX10_shortest_16 : decode cX10_shortest 16 = .ok (.goto 17, 3) := by decide +kernel
theorem dX10_shortest_19 : decode cX10_shortest 19 = .ok (.aload_n 0, 1) := by decide +kernel
theorem dX10_shortest_20 : decode cX10_shortest 20 = .ok (.getfield 46, 3) := by decide +kernel
theorem dX10_shortest_23 : decode cX10_shortest 23 = .ok (.aload_n 0, 1) := by decide +kernel
theorem dX10_shortest_24 : decode cX10_shortest 24 = .ok (.getfield 26, 3) := by decide +kernel
theorem dX10_shortest_27 : decode cX10_shortest 27 = .ok (.iload_n 1, 1) := by decide +kernel
theorem dX10_shortest_28 : decode cX10_shortest 28 = .ok (.iload_n 2, 1) := by decide +kernel
theorem dX10_shortest_29 : decode cX10_shortest 29 = .ok (.iload_n 3, 1) := by decide +kernel
theorem dX10_shortest_30 : decode cX10_shortest 30 = .ok (.invokevirtual 221, 3) := by decide +kernel
theorem dX10_shortest_33 : decode cX10_shortest 33 = .ok (.ireturn, 1) := by decide +kernel
def Sp_X10_shortest (av : List AV) (m : AM) (Φ : Option AV → AM → Prop) : Prop := ∃ x y z, av = [vr 10 0, vi x, vi y, vi z] ∧ ∃ C wk, CR m C ∧ SrI m wk ∧ wk < 999999 ∧ (∀ v, v = refG C x y z → ¬ v = 0 → Φ (some (vi v)) m) ∧ (∀ A Bn w, x = nI A → y = nI Bn → z = nI w → A < 2 ^ C 0 → Bn < 2 ^ C 0 → w < 2 → A &&& Bn = 0 → refG C x y z = 0 → ∀ m2 r, Xz m m2 → BR m2 C → SrI m2 (wk + 1) → (metB A Bn (C 1) = true ∨ bestW C 0 A Bn r) → Φ (some (vi (goV C 0 A Bn w r))) m2)
set_option maxRecDepth 20000 in
set_option maxHeartbeats 4000000 in
theorem S_X10_shortest : Snd yX10_shortest e_X10_shortest Sp_X10_shortest := by
  refine Snd.of (by decide +kernel) rfl ?_ ?_
  · rintro av m Φ ⟨x, y, z, rfl, _⟩; exact Nat.le_of_ble_eq_true rfl
  rintro av m Φ ⟨x, y, z, rfl, C, wk, hC, hI, hwk, h1, h2⟩ hav hty
  show B e_X10_shortest Φ 0 [some (vr 10 0), some (vi x), some (vi y), some (vi z), none] [] m (0, 0)
  have hpw := hC.pow
  by_cases hz : refG C x y z = 0
  · obtain ⟨h0, hg⟩ := refG_ok hz
    obtain ⟨A, Bn, w, rfl, rfl, rfl, hA, hBn, hw, hAB⟩ := goC_to hpw hg
    have hB := hC.op (Or.inl h0)
    have h3 := h2 A Bn w rfl rfl rfl hA hBn hw hAB hz
    refine b_aloadN (pc := 0) 0 dX10_shortest_0 rfl rfl ?_
    refine b_iloadN (pc := 1) 1 dX10_shortest_1 rfl rfl ?_
    refine b_iloadN (pc := 2) 2 dX10_shortest_2 rfl rfl ?_
    refine b_iloadN (pc := 3) 3 dX10_shortest_3 rfl rfl ?_
    refine call_X10_refusalOfGoal (pc := 4) k741 (by decide) ⟨Nat.le_of_ble_eq_true rfl, Nat.le_of_ble_eq_true rfl⟩ (Nat.le_of_ble_eq_true rfl) dX10_shortest_4 ?_
    refine ⟨_, _, _, rfl, C, hC, ?_⟩
    refine siG4 (pc := 7) notL_i (by decide) dX10_shortest_7 ?_
    refine b_iloadG (pc := 9) 4 dX10_shortest_9 rfl ?_
    refine b_if_eq (pc := 11) 19 dX10_shortest_11 (by decide) (fun c11 => ?_) (fun c11 => ?_)
    refine b_aloadN (pc := 19) 0 dX10_shortest_19 rfl rfl ?_
    refine gf10_5 (pc := 20) 98 rfl k420 dX10_shortest_20 ?_
    refine b_aloadN (pc := 23) 0 dX10_shortest_23 rfl rfl ?_
    refine gf10_2 (pc := 24) 20 rfl k417 dX10_shortest_24 ?_
    refine b_iloadN (pc := 27) 1 dX10_shortest_27 rfl rfl ?_
    refine b_iloadN (pc := 28) 2 dX10_shortest_28 rfl rfl ?_
    refine b_iloadN (pc := 29) 3 dX10_shortest_29 rfl rfl ?_
    refine call_X7_fewest (pc := 30) k749 (by decide) ⟨Nat.le_of_ble_eq_true rfl, Nat.le_of_ble_eq_true rfl⟩ (Nat.le_of_ble_eq_true rfl) dX10_shortest_30 ?_
    refine ⟨_, _, _, rfl, C, A, Bn, w, wk, hB, rfl, rfl, rfl, by omega, by omega, hI, hwk, fun m30 r xz30 hB2 hI2 hbest => ?_⟩
    refine b_iret (pc := 33) rfl dX10_shortest_33 ⟨Nat.le_of_ble_eq_true rfl, Nat.le_of_ble_eq_true rfl⟩ ?_
    rotate_left -- leaf 0: return at 33
    refine b_iloadG (pc := 14) 4 dX10_shortest_14 rfl ?_
    refine b_goto (pc := 16) 33 dX10_shortest_16 (by decide) ?_
    refine b_iret (pc := 33) rfl dX10_shortest_33 ⟨Nat.le_of_ble_eq_true rfl, Nat.le_of_ble_eq_true rfl⟩ ?_
    rotate_left -- leaf 1: return at 33
    -- leaves: 0 return at 33; 1 return at 33
    · exact h3 m30 r xz30 hB2 hI2 hbest
    · exact absurd hz c11
  · have h3 := h1 _ rfl hz
    refine b_aloadN (pc := 0) 0 dX10_shortest_0 rfl rfl ?_
    refine b_iloadN (pc := 1) 1 dX10_shortest_1 rfl rfl ?_
    refine b_iloadN (pc := 2) 2 dX10_shortest_2 rfl rfl ?_
    refine b_iloadN (pc := 3) 3 dX10_shortest_3 rfl rfl ?_
    refine call_X10_refusalOfGoal (pc := 4) k741 (by decide) ⟨Nat.le_of_ble_eq_true rfl, Nat.le_of_ble_eq_true rfl⟩ (Nat.le_of_ble_eq_true rfl) dX10_shortest_4 ?_
    refine ⟨_, _, _, rfl, C, hC, ?_⟩
    refine siG4 (pc := 7) notL_i (by decide) dX10_shortest_7 ?_
    refine b_iloadG (pc := 9) 4 dX10_shortest_9 rfl ?_
    refine b_if_eq (pc := 11) 19 dX10_shortest_11 (by decide) (fun c11 => ?_) (fun c11 => ?_)
    rotate_left -- leaf 0: at 19
    refine b_iloadG (pc := 14) 4 dX10_shortest_14 rfl ?_
    refine b_goto (pc := 16) 33 dX10_shortest_16 (by decide) ?_
    refine b_iret (pc := 33) rfl dX10_shortest_33 ⟨Nat.le_of_ble_eq_true rfl, Nat.le_of_ble_eq_true rfl⟩ ?_
    rotate_left -- leaf 1: return at 33
    -- leaves: 0 at 19; 1 return at 33
    · exact absurd c11 hz
    · exact h3
theorem call_X10_shortest {E : ME} {Φ : Option AV → AM → Prop} {pc : Nat} {L : List (Option AV)} {st : List AV} {m : AM} {a : Nat × Nat} {idx : Nat} {x0 x1 x2 : AV} {i : Nat} (hl : Cond.methodLink E.2.1 idx yX10_shortest ∈ TB) (hdep : 8 + 1 ≤ E.2.2.2.2.2.2) (hroom : a.1 + 3 ≤ E.2.2.2.2.1 ∧ a.2 + 12288 ≤ E.2.2.2.2.2.1) (hsr : st.length ≤ 4) (hd : decode E.1 pc = .ok (.invokevirtual idx, 3)) (hsp : Sp_X10_shortest [vr 10 i, x0, x1, x2] m (fun r m2 => B E Φ (pc + 3) L (r.toList ++ st) m2 (a.1 + 3, a.2 + 12288))) : B E Φ pc L (x2 :: x1 :: x0 :: vr 10 i :: st) m a := b_callV S_X10_shortest [x0, x1, x2] (RX10, TX10, 9) rfl rfl (by decide) (Or.inl hl) k738 k739 k68 k740 (show _ ∧ _ ∧ Option.map (fun d => d.parameters.length) (parseMethodDescriptor yX10_shortest.desc) = some 3 from by decide +kernel) ⟨hdep, by decide⟩ hroom hsr hd hsp
abbrev e_X10_cheapest : ME := (cX10_cheapest, (RX10, (5, ((some .int), (3, (12288, 8))))))
theorem dX10_cheapest_0 : decode cX10_cheapest 0 = .ok (.aload_n 0, 1) := by decide +kernel
theorem dX10_cheapest_1 : decode cX10_cheapest 1 = .ok (.iload_n 1, 1) := by decide +kernel
theorem dX10_cheapest_2 : decode cX10_cheapest 2 = .ok (.iload_n 2, 1) := by decide +kernel
theorem dX10_cheapest_3 : decode cX10_cheapest 3 = .ok (.iload_n 3, 1) := by decide +kernel
theorem dX10_cheapest_4 : decode cX10_cheapest 4 = .ok (.invokevirtual 218, 3) := by decide +kernel
theorem dX10_cheapest_7 : decode cX10_cheapest 7 = .ok (.istore 4, 2) := by decide +kernel
theorem dX10_cheapest_9 : decode cX10_cheapest 9 = .ok (.iload 4, 2) := by decide +kernel
theorem dX10_cheapest_11 : decode cX10_cheapest 11 = .ok (.ifCond .eq 8, 3) := by decide +kernel
theorem dX10_cheapest_14 : decode cX10_cheapest 14 = .ok (.iload 4, 2) := by decide +kernel
theorem dX10_cheapest_16 : decode cX10_cheapest 16 = .ok (.goto 17, 3) := by decide +kernel
theorem dX10_cheapest_19 : decode cX10_cheapest 19 = .ok (.aload_n 0, 1) := by decide +kernel
theorem dX10_cheapest_20 : decode cX10_cheapest 20 = .ok (.getfield 46, 3) := by decide +kernel
theorem dX10_cheapest_23 : decode cX10_cheapest 23 = .ok (.aload_n 0, 1) := by decide +kernel
theorem dX10_cheapest_24 : decode cX10_cheapest 24 = .ok (.getfield 26, 3) := by decide +kernel
theorem dX10_cheapest_27 : decode cX10_cheapest 27 = .ok (.iload_n 1, 1) := by decide +kernel
theorem dX10_cheapest_28 : decode cX10_cheapest 28 = .ok (.iload_n 2, 1) := by decide +kernel
theorem dX10_cheapest_29 : decode cX10_cheapest 29 = .ok (.iload_n 3, 1) := by decide +kernel
theorem dX10_cheapest_30 : decode cX10_cheapest 30 = .ok (.invokevirtual 225, 3) := by decide +kernel
theorem dX10_cheapest_33 : decode cX10_cheapest 33 = .ok (.ireturn, 1) := by decide +kernel
def Sp_X10_cheapest (av : List AV) (m : AM) (Φ : Option AV → AM → Prop) : Prop := ∃ x y z, av = [vr 10 0, vi x, vi y, vi z] ∧ ∃ C wk, CR m C ∧ SrI m wk ∧ wk < 999999 ∧ (∀ v, v = refG C x y z → ¬ v = 0 → Φ (some (vi v)) m) ∧ (∀ A Bn w, x = nI A → y = nI Bn → z = nI w → A < 2 ^ C 0 → Bn < 2 ^ C 0 → w < 2 → A &&& Bn = 0 → refG C x y z = 0 → ∀ m2 r, Xz m m2 → BR m2 C → SrI m2 (wk + 1) → (metB A Bn (C 1) = true ∨ bestW C 1 A Bn r) → Φ (some (vi (goV C 1 A Bn w r))) m2)
set_option maxRecDepth 20000 in
set_option maxHeartbeats 4000000 in
theorem S_X10_cheapest : Snd yX10_cheapest e_X10_cheapest Sp_X10_cheapest := by
  refine Snd.of (by decide +kernel) rfl ?_ ?_
  · rintro av m Φ ⟨x, y, z, rfl, _⟩; exact Nat.le_of_ble_eq_true rfl
  rintro av m Φ ⟨x, y, z, rfl, C, wk, hC, hI, hwk, h1, h2⟩ hav hty
  show B e_X10_cheapest Φ 0 [some (vr 10 0), some (vi x), some (vi y), some (vi z), none] [] m (0, 0)
  have hpw := hC.pow
  by_cases hz : refG C x y z = 0
  · obtain ⟨h0, hg⟩ := refG_ok hz
    obtain ⟨A, Bn, w, rfl, rfl, rfl, hA, hBn, hw, hAB⟩ := goC_to hpw hg
    have hB := hC.op (Or.inl h0)
    have h3 := h2 A Bn w rfl rfl rfl hA hBn hw hAB hz
    refine b_aloadN (pc := 0) 0 dX10_cheapest_0 rfl rfl ?_
    refine b_iloadN (pc := 1) 1 dX10_cheapest_1 rfl rfl ?_
    refine b_iloadN (pc := 2) 2 dX10_cheapest_2 rfl rfl ?_
    refine b_iloadN (pc := 3) 3 dX10_cheapest_3 rfl rfl ?_
    refine call_X10_refusalOfGoal (pc := 4) k741 (by decide) ⟨Nat.le_of_ble_eq_true rfl, Nat.le_of_ble_eq_true rfl⟩ (Nat.le_of_ble_eq_true rfl) dX10_cheapest_4 ?_
    refine ⟨_, _, _, rfl, C, hC, ?_⟩
    refine siG4 (pc := 7) notL_i (by decide) dX10_cheapest_7 ?_
    refine b_iloadG (pc := 9) 4 dX10_cheapest_9 rfl ?_
    refine b_if_eq (pc := 11) 19 dX10_cheapest_11 (by decide) (fun c11 => ?_) (fun c11 => ?_)
    refine b_aloadN (pc := 19) 0 dX10_cheapest_19 rfl rfl ?_
    refine gf10_5 (pc := 20) 98 rfl k420 dX10_cheapest_20 ?_
    refine b_aloadN (pc := 23) 0 dX10_cheapest_23 rfl rfl ?_
    refine gf10_2 (pc := 24) 20 rfl k417 dX10_cheapest_24 ?_
    refine b_iloadN (pc := 27) 1 dX10_cheapest_27 rfl rfl ?_
    refine b_iloadN (pc := 28) 2 dX10_cheapest_28 rfl rfl ?_
    refine b_iloadN (pc := 29) 3 dX10_cheapest_29 rfl rfl ?_
    refine call_X7_leastCost (pc := 30) k804 (by decide) ⟨Nat.le_of_ble_eq_true rfl, Nat.le_of_ble_eq_true rfl⟩ (Nat.le_of_ble_eq_true rfl) dX10_cheapest_30 ?_
    refine ⟨_, _, _, rfl, C, A, Bn, w, wk, hB, rfl, rfl, rfl, by omega, by omega, hI, hwk, fun m30 r xz30 hB2 hI2 hbest => ?_⟩
    refine b_iret (pc := 33) rfl dX10_cheapest_33 ⟨Nat.le_of_ble_eq_true rfl, Nat.le_of_ble_eq_true rfl⟩ ?_
    rotate_left -- leaf 0: return at 33
    refine b_iloadG (pc := 14) 4 dX10_cheapest_14 rfl ?_
    refine b_goto (pc := 16) 33 dX10_cheapest_16 (by decide) ?_
    refine b_iret (pc := 33) rfl dX10_cheapest_33 ⟨Nat.le_of_ble_eq_true rfl, Nat.le_of_ble_eq_true rfl⟩ ?_
    rotate_left -- leaf 1: return at 33
    -- leaves: 0 return at 33; 1 return at 33
    · exact h3 m30 r xz30 hB2 hI2 hbest
    · exact absurd hz c11
  · have h3 := h1 _ rfl hz
    refine b_aloadN (pc := 0) 0 dX10_cheapest_0 rfl rfl ?_
    refine b_iloadN (pc := 1) 1 dX10_cheapest_1 rfl rfl ?_
    refine b_iloadN (pc := 2) 2 dX10_cheapest_2 rfl rfl ?_
    refine b_iloadN (pc := 3) 3 dX10_cheapest_3 rfl rfl ?_
    refine call_X10_refusalOfGoal (pc := 4) k741 (by decide) ⟨Nat.le_of_ble_eq_true rfl, Nat.le_of_ble_eq_true rfl⟩ (Nat.le_of_ble_eq_true rfl) dX10_cheapest_4 ?_
    refine ⟨_, _, _, rfl, C, hC, ?_⟩
    refine siG4 (pc := 7) notL_i (by decide) dX10_cheapest_7 ?_
    refine b_iloadG (pc := 9) 4 dX10_cheapest_9 rfl ?_
    refine b_if_eq (pc := 11) 19 dX10_cheapest_11 (by decide) (fun c11 => ?_) (fun c11 => ?_)
    rotate_left -- leaf 0: at 19
    refine b_iloadG (pc := 14) 4 dX10_cheapest_14 rfl ?_
    refine b_goto (pc := 16) 33 dX10_cheapest_16 (by decide) ?_
    refine b_iret (pc := 33) rfl dX10_cheapest_33 ⟨Nat.le_of_ble_eq_true rfl, Nat.le_of_ble_eq_true rfl⟩ ?_
    rotate_left -- leaf 1: return at 33
    -- leaves: 0 at 19; 1 return at 33
    · exact absurd c11 hz
    · exact h3
theorem call_X10_cheapest {E : ME} {Φ : Option AV → AM → Prop} {pc : Nat} {L : List (Option AV)} {st : List AV} {m : AM} {a : Nat × Nat} {idx : Nat} {x0 x1 x2 : AV} {i : Nat} (hl : Cond.methodLink E.2.1 idx yX10_cheapest ∈ TB) (hdep : 8 + 1 ≤ E.2.2.2.2.2.2) (hroom : a.1 + 3 ≤ E.2.2.2.2.1 ∧ a.2 + 12288 ≤ E.2.2.2.2.2.1) (hsr : st.length ≤ 4) (hd : decode E.1 pc = .ok (.invokevirtual idx, 3)) (hsp : Sp_X10_cheapest [vr 10 i, x0, x1, x2] m (fun r m2 => B E Φ (pc + 3) L (r.toList ++ st) m2 (a.1 + 3, a.2 + 12288))) : B E Φ pc L (x2 :: x1 :: x0 :: vr 10 i :: st) m a := b_callV S_X10_cheapest [x0, x1, x2] (RX10, TX10, 9) rfl rfl (by decide) (Or.inl hl) k801 k802 k68 k803 (show _ ∧ _ ∧ Option.map (fun d => d.parameters.length) (parseMethodDescriptor yX10_cheapest.desc) = some 3 from by decide +kernel) ⟨hdep, by decide⟩ hroom hsr hd hsp
