/-! idle, giveUp, order, drawn -/
abbrev e_X10_idle : ME := (cX10_idle, (RX10, (2, ((some .int), (0, (0, 8))))))
theorem dX10_idle_0 : decode cX10_idle 0 = .ok (.aload_n 0, 1) := by decide +kernel
theorem dX10_idle_1 : decode cX10_idle 1 = .ok (.getfield 26, 3) := by decide +kernel
theorem dX10_idle_4 : decode cX10_idle 4 = .ok (.getfield 127, 3) := by decide +kernel
theorem dX10_idle_7 : decode cX10_idle 7 = .ok (.iload_n 1, 1) := by decide +kernel
theorem dX10_idle_8 : decode cX10_idle 8 = .ok (.invokevirtual 147, 3) := by decide +kernel
theorem dX10_idle_11 : decode cX10_idle 11 = .ok (.ifCond .eq 29, 3) := by decide +kernel
theorem dX10_idle_14 : decode cX10_idle 14 = .ok (.aload_n 0, 1) := by decide +kernel
theorem dX10_idle_15 : decode cX10_idle 15 = .ok (.getfield 53, 3) := by decide +kernel
theorem dX10_idle_18 : decode cX10_idle 18 = .ok (.aload_n 0, 1) := by decide +kernel
theorem dX10_idle_19 : decode cX10_idle 19 = .ok (.getfield 26, 3) := by decide +kernel
theorem dX10_idle_22 : decode cX10_idle 22 = .ok (.aload_n 0, 1) := by decide +kernel
theorem dX10_idle_23 : decode cX10_idle 23 = .ok (.getfield 26, 3) := by decide +kernel
theorem dX10_idle_26 : decode cX10_idle 26 = .ok (.getfield 127, 3) := by decide +kernel
theorem dX10_idle_29 : decode cX10_idle 29 = .ok (.getfield 211, 3) := by decide +kernel
theorem dX10_idle_32 : decode cX10_idle 32 = .ok (.iload_n 1, 1) := by decide +kernel
theorem dX10_idle_33 : decode cX10_idle 33 = .ok (.iaload, 1) := by decide +kernel
theorem dX10_idle_34 : decode cX10_idle 34 = .ok (.invokevirtual 228, 3) := by decide +kernel
theorem dX10_idle_37 : decode cX10_idle 37 = .ok (.goto 5, 3) := by decide +kernel
theorem dX10_idle_40 : decode cX10_idle 40 = .ok (.ldc 69, 2) := by decide +kernel
theorem dX10_idle_42 : decode cX10_idle 42 = .ok (.ireturn, 1) := by decide +kernel
def idleV (C : Nat → Nat) (p : Int32) : Int32 := if inB p (C 4) = true then nI (idleN C (C (40 + 2 * p.toNatClampNeg)) (2 * C 0)) else -1000001
def Sp_X10_idle (av : List AV) (m : AM) (Φ : Option AV → AM → Prop) : Prop := ∃ p, av = [vr 10 0, vi p] ∧ ∃ C, CR m C ∧ ∀ m2, CU C m m2 → Φ (some (vi (idleV C p))) m2
set_option maxRecDepth 20000 in
set_option maxHeartbeats 4000000 in
theorem S_X10_idle : Snd yX10_idle e_X10_idle Sp_X10_idle := by
  refine Snd.of (by decide +kernel) rfl ?_ ?_
  · rintro av m Φ ⟨p, rfl, _⟩; exact Nat.le_of_ble_eq_true rfl
  rintro av m Φ ⟨p, rfl, C, hC, h⟩ hav hty
  show B e_X10_idle Φ 0 [some (vr 10 0), some (vi p)] [] m (0, 0)
  unfold idleV at h
  have hle := hC.le
  have op : inB p (C 4) = true → BR m C := fun q => by
    obtain ⟨j, hj, rfl⟩ := (inB_iff (by omega)).mp q
    exact hC.op (Or.inr (Or.inr (by omega)))
  refine b_aloadN (pc := 0) 0 dX10_idle_0 rfl rfl ?_
  refine gf10_2 (pc := 1) 20 rfl k417 dX10_idle_1 ?_
  refine gf2_0 (pc := 4) 21 rfl k269 dX10_idle_4 ?_
  refine b_iloadN (pc := 7) 1 dX10_idle_7 rfl rfl ?_
  refine call_X5_isPerson (pc := 8) k642 (by decide) ⟨Nat.le_of_ble_eq_true rfl, Nat.le_of_ble_eq_true rfl⟩ (Nat.le_of_ble_eq_true rfl) dX10_idle_8 ?_
  refine ⟨_, rfl, _, hC.num.2.2.2.1, ?_⟩
  refine b_if_eq (pc := 11) 40 dX10_idle_11 (by decide) (fun c11 => ?_) (fun c11 => ?_)
  refine b_ldc (pc := 40) k450 dX10_idle_40 ?_
  refine b_iret (pc := 42) rfl dX10_idle_42 ⟨Nat.le_of_ble_eq_true rfl, Nat.le_of_ble_eq_true rfl⟩ ?_
  rotate_left -- leaf 0: return at 42
  refine b_aloadN (pc := 14) 0 dX10_idle_14 rfl rfl ?_
  refine gf10_6 (pc := 15) 103 rfl k421 dX10_idle_15 ?_
  refine b_aloadN (pc := 18) 0 dX10_idle_18 rfl rfl ?_
  refine gf10_2 (pc := 19) 20 rfl k417 dX10_idle_19 ?_
  refine b_aloadN (pc := 22) 0 dX10_idle_22 rfl rfl ?_
  refine gf10_2 (pc := 23) 20 rfl k417 dX10_idle_23 ?_
  refine gf2_0 (pc := 26) 21 rfl k269 dX10_idle_26 ?_
  refine gf5_3 (pc := 29) 25 rfl k141 dX10_idle_29 ?_
  refine b_iloadN (pc := 32) 1 dX10_idle_32 rfl rfl ?_
  refine b_iald (pc := 33) (by decide) ?_ dX10_idle_33 ?_
  rotate_left -- leaf 1: index at 33
  refine call_X3_idleSayings (pc := 34) k812 (by decide) ⟨Nat.le_of_ble_eq_true rfl, Nat.le_of_ble_eq_true rfl⟩ (Nat.le_of_ble_eq_true rfl) dX10_idle_34 ?_
  refine ⟨_, rfl, C, C (40 + 2 * p.toNatClampNeg), ?_, ?_, ?_, fun m34 h34 => ?_⟩
  rotate_left -- leaf 2: bench of X3_idleSayings at 34
  rotate_left -- leaf 3: kd of X3_idleSayings at 34
  rotate_left -- leaf 4: kind of X3_idleSayings at 34
  refine b_goto (pc := 37) 42 dX10_idle_37 (by decide) ?_
  refine b_iret (pc := 42) rfl dX10_idle_42 ⟨Nat.le_of_ble_eq_true rfl, Nat.le_of_ble_eq_true rfl⟩ ?_
  rotate_left -- leaf 5: return at 42
  -- leaves: 0 return at 42; 1 index at 33; 2 bench of X3_idleSayings at 34; 3 kd of X3_idleSayings at 34; 4 kind of X3_idleSayings at 34; 5 return at 42
  · rw [bF c11] at h; exact h m (CU.rf C m)
  · obtain ⟨j, hj, rfl⟩ := (inB_iff (by omega)).mp (bT c11)
    exact n_in (by omega) (by omega)
  · exact op (bT c11)
  · have hB := op (bT c11)
    obtain ⟨j, hj, rfl⟩ := (inB_iff (by omega)).mp (bT c11)
    rw [n_cl (by omega)]
    exact hB.2.1.2.2.2.2.2 j hj
  · have hB := op (bT c11)
    obtain ⟨j, hj, rfl⟩ := (inB_iff (by omega)).mp (bT c11)
    rw [n_cl (by omega)]
    exact (hB.1.2.2.2.2.2.2.2.2.2 j hj).1
  · rw [if_pos (bT c11)] at h
    exact h m34 h34
theorem call_X10_idle {E : ME} {Φ : Option AV → AM → Prop} {pc : Nat} {L : List (Option AV)} {st : List AV} {m : AM} {a : Nat × Nat} {idx : Nat} {x0 : AV} {i : Nat} (hl : Cond.methodLink E.2.1 idx yX10_idle ∈ TB) (hdep : 8 + 1 ≤ E.2.2.2.2.2.2) (hroom : a.1 + 0 ≤ E.2.2.2.2.1 ∧ a.2 + 0 ≤ E.2.2.2.2.2.1) (hsr : st.length ≤ 4) (hd : decode E.1 pc = .ok (.invokevirtual idx, 3)) (hsp : Sp_X10_idle [vr 10 i, x0] m (fun r m2 => B E Φ (pc + 3) L (r.toList ++ st) m2 a)) : B E Φ pc L (x0 :: vr 10 i :: st) m a := b_callV S_X10_idle [x0] (RX10, TX10, 9) rfl rfl (by decide) (Or.inl hl) k809 k810 k68 k811 (show _ ∧ _ ∧ Option.map (fun d => d.parameters.length) (parseMethodDescriptor yX10_idle.desc) = some 1 from by decide +kernel) ⟨hdep, by decide⟩ hroom hsr hd hsp
def giveV (C : Nat → Nat) (f w : Int32) : Int32 := if C 0 = 0 then -1000002 else if (inB f (2 ^ C 0) && inB w 2) = true then (if w = nI 0 then nI (pc6 (gvN C f.toNatClampNeg f.toNatClampNeg)) else nI (gvN C f.toNatClampNeg f.toNatClampNeg)) else -1000001
theorem CR.pow {m : AM} {C : Nat → Nat} (h : CR m C) : 2 ^ C 0 ≤ 64 := by
  have : 2 ^ C 0 ≤ 2 ^ 6 := Nat.pow_le_pow_right (by omega) h.le.1
  omega
abbrev e_X10_giveUp : ME := (cX10_giveUp, (RX10, (4, ((some .int), (0, (0, 8))))))
theorem dX10_giveUp_0 : decode cX10_giveUp 0 = .ok (.aload_n 0, 1) := by decide +kernel
theorem dX10_giveUp_1 : decode cX10_giveUp 1 = .ok (.getfield 26, 3) := by decide +kernel
theorem dX10_giveUp_4 : decode cX10_giveUp 4 = .ok (.invokevirtual 189, 3) := by decide +kernel
theorem dX10_giveUp_7 : decode cX10_giveUp 7 = .ok (.ifCond .ne 6, 3) := by decide +kernel
theorem dX10_giveUp_10 : decode cX10_giveUp 10 = .ok (.ldc 142, 2) := by decide +kernel
theorem dX10_giveUp_12 : decode cX10_giveUp 12 = .ok (.ireturn, 1) := by decide +kernel
theorem dX10_giveUp_13 : decode cX10_giveUp 13 = .ok (.aload_n 0, 1) := by decide +kernel
theorem dX10_giveUp_14 : decode cX10_giveUp 14 = .ok (.getfield 26, 3) := by decide +kernel
theorem dX10_giveUp_17 : decode cX10_giveUp 17 = .ok (.getfield 127, 3) := by decide +kernel
theorem dX10_giveUp_20 : decode cX10_giveUp 20 = .ok (.iload_n 1, 1) := by decide +kernel
theorem dX10_giveUp_21 : decode cX10_giveUp 21 = .ok (.invokevirtual 232, 3) := by decide +kernel
theorem dX10_giveUp_24 : decode cX10_giveUp 24 = .ok (.ifCond .eq 10, 3) := by decide +kernel
theorem dX10_giveUp_27 : decode cX10_giveUp 27 = .ok (.iload_n 2, 1) := by decide +kernel
theorem dX10_giveUp_28 : decode cX10_giveUp 28 = .ok (.invokestatic 180, 3) := by decide +kernel
theorem dX10_giveUp_31 : decode cX10_giveUp 31 = .ok (.ifCond .eq 6, 3) := by decide +kernel
theorem dX10_giveUp_34 : decode cX10_giveUp 34 = .ok (.ldc 69, 2) := by decide +kernel
theorem dX10_giveUp_36 : decode cX10_giveUp 36 = .ok (.ireturn, 1) := by decide +kernel
theorem dX10_giveUp_37 : decode cX10_giveUp 37 = .ok (.aload_n 0, 1) := by decide +kernel
theorem dX10_giveUp_38 : decode cX10_giveUp 38 = .ok (.getfield 53, 3) := by decide +kernel
theorem dX10_giveUp_41 : decode cX10_giveUp 41 = .ok (.aload_n 0, 1) := by decide +kernel
theorem dX10_giveUp_42 : decode cX10_giveUp 42 = .ok (.getfield 26, 3) := by decide +kernel
theorem dX10_giveUp_45 : decode cX10_giveUp 45 = .ok (.iload_n 1, 1) := by decide +kernel
theorem dX10_giveUp_46 : decode cX10_giveUp 46 = .ok (.invokevirtual 235, 3) := by decide +kernel
theorem dX10_giveUp_49 : decode cX10_giveUp 49 = .ok (.istore_n 3, 1) := by decide +kernel
theorem dX10_giveUp_50 : decode cX10_giveUp 50 = .ok (.iload_n 2, 1) := by decide +kernel
theorem dX10_giveUp_51 : decode cX10_giveUp 51 = .ok (.ifCond .ne 10, 3) := by decide +kernel
theorem dX10_giveUp_54 : decode cX10_giveUp 54 = .ok (.iload_n 3, 1) := by decide +kernel
theorem dX10_giveUp_55 : decode cX10_giveUp 55 = .ok (.invokestatic 238, 3) := by decide +kernel
theorem dX10_giveUp_58 : decode cX10_giveUp 58 = .ok (.goto 4, 3) := by decide +kernel
theorem dX10_giveUp_61 : decode cX10_giveUp 61 = .ok (.iload_n 3, 1) := by decide +kernel
theorem dX10_giveUp_62 : decode cX10_giveUp 62 = .ok (.ireturn, 1) := by decide +kernel
def Sp_X10_giveUp (av : List AV) (m : AM) (Φ : Option AV → AM → Prop) : Prop := ∃ f w, av = [vr 10 0, vi f, vi w] ∧ ∃ C, CR m C ∧ ∀ m2, CU C m m2 → Φ (some (vi (giveV C f w))) m2
set_option maxRecDepth 20000 in
set_option maxHeartbeats 4000000 in
theorem S_X10_giveUp : Snd yX10_giveUp e_X10_giveUp Sp_X10_giveUp := by
  refine Snd.of (by decide +kernel) rfl ?_ ?_
  · rintro av m Φ ⟨f, w, rfl, _⟩; exact Nat.le_of_ble_eq_true rfl
  rintro av m Φ ⟨f, w, rfl, C, hC, h⟩ hav hty
  show B e_X10_giveUp Φ 0 [some (vr 10 0), some (vi f), some (vi w), none] [] m (0, 0)
  unfold giveV at h
  have hle := hC.le
  have hpw := hC.pow
  have cl : inB f (2 ^ C 0) = true → f = nI f.toNatClampNeg ∧ f.toNatClampNeg < 64 := fun q => by
    obtain ⟨j, hj, rfl⟩ := (inB_iff (by omega)).mp q
    rw [n_cl (by omega)]
    exact ⟨rfl, by omega⟩
  refine b_aloadN (pc := 0) 0 dX10_giveUp_0 rfl rfl ?_
  refine gf10_2 (pc := 1) 20 rfl k417 dX10_giveUp_1 ?_
  refine call_X2_isOpen (pc := 4) k720 (by decide) ⟨Nat.le_of_ble_eq_true rfl, Nat.le_of_ble_eq_true rfl⟩ (Nat.le_of_ble_eq_true rfl) dX10_giveUp_4 ?_
  refine ⟨rfl, _, hC.num.1, hC.le.1, ?_⟩
  refine b_if_ne (pc := 7) 13 dX10_giveUp_7 (by decide) (fun c7 => ?_) (fun c7 => ?_)
  refine b_aloadN (pc := 13) 0 dX10_giveUp_13 rfl rfl ?_
  refine gf10_2 (pc := 14) 20 rfl k417 dX10_giveUp_14 ?_
  refine gf2_0 (pc := 17) 21 rfl k269 dX10_giveUp_17 ?_
  refine b_iloadN (pc := 20) 1 dX10_giveUp_20 rfl rfl ?_
  refine call_X5_areFacts (pc := 21) k745 (by decide) ⟨Nat.le_of_ble_eq_true rfl, Nat.le_of_ble_eq_true rfl⟩ (Nat.le_of_ble_eq_true rfl) dX10_giveUp_21 ?_
  refine ⟨_, rfl, _, hC.num.1, hC.le.1, ?_⟩
  refine b_if_eq (pc := 24) 34 dX10_giveUp_24 (by decide) (fun c24 => ?_) (fun c24 => ?_)
  refine b_ldc (pc := 34) k450 dX10_giveUp_34 ?_
  refine b_iret (pc := 36) rfl dX10_giveUp_36 ⟨Nat.le_of_ble_eq_true rfl, Nat.le_of_ble_eq_true rfl⟩ ?_
  rotate_left -- leaf 0: return at 36
  refine b_iloadN (pc := 27) 2 dX10_giveUp_27 rfl rfl ?_
  refine call_X10_isNoBit (pc := 28) k709 (by decide) ⟨Nat.le_of_ble_eq_true rfl, Nat.le_of_ble_eq_true rfl⟩ (Nat.le_of_ble_eq_true rfl) dX10_giveUp_28 ?_
  refine ⟨_, rfl, ?_⟩
  refine b_if_eq (pc := 31) 37 dX10_giveUp_31 (by decide) (fun c31 => ?_) (fun c31 => ?_)
  refine b_aloadN (pc := 37) 0 dX10_giveUp_37 rfl rfl ?_
  refine gf10_6 (pc := 38) 103 rfl k421 dX10_giveUp_38 ?_
  refine b_aloadN (pc := 41) 0 dX10_giveUp_41 rfl rfl ?_
  refine gf10_2 (pc := 42) 20 rfl k417 dX10_giveUp_42 ?_
  refine b_iloadN (pc := 45) 1 dX10_giveUp_45 rfl rfl ?_
  refine call_X3_leftOut (pc := 46) k821 (by decide) ⟨Nat.le_of_ble_eq_true rfl, Nat.le_of_ble_eq_true rfl⟩ (Nat.le_of_ble_eq_true rfl) dX10_giveUp_46 ?_
  refine ⟨_, rfl, C, f.toNatClampNeg, ?_, ?_, ?_, fun m46 h46 => ?_⟩
  rotate_left -- leaf 1: bench of X3_leftOut at 46
  rotate_left -- leaf 2: facts of X3_leftOut at 46
  rotate_left -- leaf 3: b64 of X3_leftOut at 46
  refine siN3 (pc := 49) rfl notL_i (by decide) dX10_giveUp_49 ?_
  refine b_iloadN (pc := 50) 2 dX10_giveUp_50 rfl rfl ?_
  refine b_if_ne (pc := 51) 61 dX10_giveUp_51 (by decide) (fun c51 => ?_) (fun c51 => ?_)
  refine b_iloadN (pc := 61) 3 dX10_giveUp_61 rfl rfl ?_
  refine b_iret (pc := 62) rfl dX10_giveUp_62 ⟨Nat.le_of_ble_eq_true rfl, Nat.le_of_ble_eq_true rfl⟩ ?_
  rotate_left -- leaf 4: return at 62
  refine b_iloadN (pc := 54) 3 dX10_giveUp_54 rfl rfl ?_
  refine call_J6_bitCount_0f7a4 (pc := 55) k828 (by decide) ⟨Nat.le_of_ble_eq_true rfl, Nat.le_of_ble_eq_true rfl⟩ (Nat.le_of_ble_eq_true rfl) dX10_giveUp_55 ?_
  refine ⟨_, rfl, _, rfl, ?_, ?_⟩
  rotate_left -- leaf 5: bound of J6_bitCount_0f7a4 at 55
  refine b_goto (pc := 58) 62 dX10_giveUp_58 (by decide) ?_
  refine b_iret (pc := 62) rfl dX10_giveUp_62 ⟨Nat.le_of_ble_eq_true rfl, Nat.le_of_ble_eq_true rfl⟩ ?_
  rotate_left -- leaf 6: return at 62
  refine b_ldc (pc := 34) k450 dX10_giveUp_34 ?_
  refine b_iret (pc := 36) rfl dX10_giveUp_36 ⟨Nat.le_of_ble_eq_true rfl, Nat.le_of_ble_eq_true rfl⟩ ?_
  rotate_left -- leaf 7: return at 36
  refine b_ldc (pc := 10) k624 dX10_giveUp_10 ?_
  refine b_iret (pc := 12) rfl dX10_giveUp_12 ⟨Nat.le_of_ble_eq_true rfl, Nat.le_of_ble_eq_true rfl⟩ ?_
  rotate_left -- leaf 8: return at 12
  -- leaves: 0 return at 36; 1 bench of X3_leftOut at 46; 2 facts of X3_leftOut at 46; 3 b64 of X3_leftOut at 46; 4 return at 62; 5 bound of J6_bitCount_0f7a4 at 55; 6 return at 62; 7 return at 36; 8 return at 12
  · have z := zF c7
    rw [if_neg (by omega), bF c24, Bool.false_and] at h
    exact h m (CU.rf C m)
  · exact hC.op (Or.inl (zF c7))
  · exact (cl (bT c24)).1
  · exact (cl (bT c24)).2
  · have z := zF c7
    rw [if_neg (by omega), bT c24, dT c31, Bool.and_true, if_pos rfl, if_neg (show ¬ w = nI 0 from c51)] at h
    exact h m46 h46
  · have := gvN_lt (C := C) (cl (bT c24)).2 _ (Nat.le_refl _)
    omega
  · have z := zF c7
    have hg := gvN_lt (C := C) (cl (bT c24)).2 _ (Nat.le_refl _)
    rw [if_neg (by omega), bT c24, dT c31, Bool.and_true, if_pos rfl, if_pos (show w = nI 0 from c51)] at h
    rw [pc8_6 hg]
    exact h m46 h46
  · have z := zF c7
    rw [if_neg (by omega), dF c31, Bool.and_false] at h
    exact h m (CU.rf C m)
  · have z := zT c7
    rw [if_pos z] at h
    exact h m (CU.rf C m)
theorem call_X10_giveUp {E : ME} {Φ : Option AV → AM → Prop} {pc : Nat} {L : List (Option AV)} {st : List AV} {m : AM} {a : Nat × Nat} {idx : Nat} {x0 x1 : AV} {i : Nat} (hl : Cond.methodLink E.2.1 idx yX10_giveUp ∈ TB) (hdep : 8 + 1 ≤ E.2.2.2.2.2.2) (hroom : a.1 + 0 ≤ E.2.2.2.2.1 ∧ a.2 + 0 ≤ E.2.2.2.2.2.1) (hsr : st.length ≤ 4) (hd : decode E.1 pc = .ok (.invokevirtual idx, 3)) (hsp : Sp_X10_giveUp [vr 10 i, x0, x1] m (fun r m2 => B E Φ (pc + 3) L (r.toList ++ st) m2 a)) : B E Φ pc L (x1 :: x0 :: vr 10 i :: st) m a := b_callV S_X10_giveUp [x0, x1] (RX10, TX10, 9) rfl rfl (by decide) (Or.inl hl) k818 k819 k68 k820 (show _ ∧ _ ∧ Option.map (fun d => d.parameters.length) (parseMethodDescriptor yX10_giveUp.desc) = some 2 from by decide +kernel) ⟨hdep, by decide⟩ hroom hsr hd hsp
def orderV (C : Nat → Nat) (f k : Int32) : Int32 := if C 0 = 0 then -1000002 else if inB f (2 ^ C 0) = true ∧ ¬ k < 0 then ordV C f.toNatClampNeg k else -1000001
abbrev e_X10_order : ME := (cX10_order, (RX10, (3, ((some .int), (0, (0, 8))))))
theorem dX10_order_0 : decode cX10_order 0 = .ok (.aload_n 0, 1) := by decide +kernel
theorem dX10_order_1 : decode cX10_order 1 = .ok (.getfield 26, 3) := by decide +kernel
theorem dX10_order_4 : decode cX10_order 4 = .ok (.invokevirtual 189, 3) := by decide +kernel
theorem dX10_order_7 : decode cX10_order 7 = .ok (.ifCond .ne 6, 3) := by decide +kernel
theorem dX10_order_10 : decode cX10_order 10 = .ok (.ldc 142, 2) := by decide +kernel
theorem dX10_order_12 : decode cX10_order 12 = .ok (.ireturn, 1) := by decide +kernel
theorem dX10_order_13 : decode cX10_order 13 = .ok (.aload_n 0, 1) := by decide +kernel
theorem dX10_order_14 : decode cX10_order 14 = .ok (.getfield 26, 3) := by decide +kernel
theorem dX10_order_17 : decode cX10_order 17 = .ok (.getfield 127, 3) := by decide +kernel
theorem dX10_order_20 : decode cX10_order 20 = .ok (.iload_n 1, 1) := by decide +kernel
theorem dX10_order_21 : decode cX10_order 21 = .ok (.invokevirtual 232, 3) := by decide +kernel
theorem dX10_order_24 : decode cX10_order 24 = .ok (.ifCond .eq 7, 3) := by decide +kernel
theorem dX10_order_27 : decode cX10_order 27 = .ok (.iload_n 2, 1) := by decide +kernel
theorem dX10_order_28 : decode cX10_order 28 = .ok (.ifCond .ge 6, 3) := by decide +kernel
theorem dX10_order_31 : decode cX10_order 31 = .ok (.ldc 69, 2) := by decide +kernel
theorem dX10_order_33 : decode cX10_order 33 = .ok (.ireturn, 1) := by decide +kernel
theorem dX10_order_34 : decode cX10_order 34 = .ok (.aload_n 0, 1) := by decide +kernel
theorem dX10_order_35 : decode cX10_order 35 = .ok (.getfield 53, 3) := by decide +kernel
theorem dX10_order_38 : decode cX10_order 38 = .ok (.aload_n 0, 1) := by decide +kernel
theorem dX10_order_39 : decode cX10_order 39 = .ok (.getfield 26, 3) := by decide +kernel
theorem dX10_order_42 : decode cX10_order 42 = .ok (.iload_n 1, 1) := by decide +kernel
theorem dX10_order_43 : decode cX10_order 43 = .ok (.iload_n 2, 1) := by decide +kernel
theorem dX10_order_44 : decode cX10_order 44 = .ok (.invokevirtual 243, 3) := by decide +kernel
theorem dX10_order_47 : decode cX10_order 47 = .ok (.ireturn, 1) := by decide +kernel
def Sp_X10_order (av : List AV) (m : AM) (Φ : Option AV → AM → Prop) : Prop := ∃ f k, av = [vr 10 0, vi f, vi k] ∧ ∃ C, CR m C ∧ Φ (some (vi (orderV C f k))) m
set_option maxRecDepth 20000 in
set_option maxHeartbeats 4000000 in
theorem S_X10_order : Snd yX10_order e_X10_order Sp_X10_order := by
  refine Snd.of (by decide +kernel) rfl ?_ ?_
  · rintro av m Φ ⟨f, k, rfl, _⟩; exact Nat.le_of_ble_eq_true rfl
  rintro av m Φ ⟨f, k, rfl, C, hC, h⟩ hav hty
  show B e_X10_order Φ 0 [some (vr 10 0), some (vi f), some (vi k)] [] m (0, 0)
  unfold orderV at h
  have hle := hC.le
  have hpw := hC.pow
  have cl : inB f (2 ^ C 0) = true → f = nI f.toNatClampNeg ∧ f.toNatClampNeg < 64 := fun q => by
    obtain ⟨j, hj, rfl⟩ := (inB_iff (by omega)).mp q
    rw [n_cl (by omega)]
    exact ⟨rfl, by omega⟩
  have kge : 0 ≤ k → ¬ k < 0 := fun a b => by
    rw [i_le, i_0] at a
    rw [i_lt, i_0] at b
    omega
  refine b_aloadN (pc := 0) 0 dX10_order_0 rfl rfl ?_
  refine gf10_2 (pc := 1) 20 rfl k417 dX10_order_1 ?_
  refine call_X2_isOpen (pc := 4) k720 (by decide) ⟨Nat.le_of_ble_eq_true rfl, Nat.le_of_ble_eq_true rfl⟩ (Nat.le_of_ble_eq_true rfl) dX10_order_4 ?_
  refine ⟨rfl, _, hC.num.1, hC.le.1, ?_⟩
  refine b_if_ne (pc := 7) 13 dX10_order_7 (by decide) (fun c7 => ?_) (fun c7 => ?_)
  refine b_aloadN (pc := 13) 0 dX10_order_13 rfl rfl ?_
  refine gf10_2 (pc := 14) 20 rfl k417 dX10_order_14 ?_
  refine gf2_0 (pc := 17) 21 rfl k269 dX10_order_17 ?_
  refine b_iloadN (pc := 20) 1 dX10_order_20 rfl rfl ?_
  refine call_X5_areFacts (pc := 21) k745 (by decide) ⟨Nat.le_of_ble_eq_true rfl, Nat.le_of_ble_eq_true rfl⟩ (Nat.le_of_ble_eq_true rfl) dX10_order_21 ?_
  refine ⟨_, rfl, _, hC.num.1, hC.le.1, ?_⟩
  refine b_if_eq (pc := 24) 31 dX10_order_24 (by decide) (fun c24 => ?_) (fun c24 => ?_)
  refine b_ldc (pc := 31) k450 dX10_order_31 ?_
  refine b_iret (pc := 33) rfl dX10_order_33 ⟨Nat.le_of_ble_eq_true rfl, Nat.le_of_ble_eq_true rfl⟩ ?_
  rotate_left -- leaf 0: return at 33
  refine b_iloadN (pc := 27) 2 dX10_order_27 rfl rfl ?_
  refine b_if_ge (pc := 28) 34 dX10_order_28 (by decide) (fun c28 => ?_) (fun c28 => ?_)
  refine b_aloadN (pc := 34) 0 dX10_order_34 rfl rfl ?_
  refine gf10_6 (pc := 35) 103 rfl k421 dX10_order_35 ?_
  refine b_aloadN (pc := 38) 0 dX10_order_38 rfl rfl ?_
  refine gf10_2 (pc := 39) 20 rfl k417 dX10_order_39 ?_
  refine b_iloadN (pc := 42) 1 dX10_order_42 rfl rfl ?_
  refine b_iloadN (pc := 43) 2 dX10_order_43 rfl rfl ?_
  refine call_X3_inOrder (pc := 44) k833 (by decide) ⟨Nat.le_of_ble_eq_true rfl, Nat.le_of_ble_eq_true rfl⟩ (Nat.le_of_ble_eq_true rfl) dX10_order_44 ?_
  refine ⟨_, _, rfl, C, f.toNatClampNeg, ?_, ?_, ?_, ?_⟩
  rotate_left -- leaf 1: bench of X3_inOrder at 44
  rotate_left -- leaf 2: facts of X3_inOrder at 44
  rotate_left -- leaf 3: b64 of X3_inOrder at 44
  refine b_iret (pc := 47) rfl dX10_order_47 ⟨Nat.le_of_ble_eq_true rfl, Nat.le_of_ble_eq_true rfl⟩ ?_
  rotate_left -- leaf 4: return at 47
  refine b_ldc (pc := 31) k450 dX10_order_31 ?_
  refine b_iret (pc := 33) rfl dX10_order_33 ⟨Nat.le_of_ble_eq_true rfl, Nat.le_of_ble_eq_true rfl⟩ ?_
  rotate_left -- leaf 5: return at 33
  refine b_ldc (pc := 10) k624 dX10_order_10 ?_
  refine b_iret (pc := 12) rfl dX10_order_12 ⟨Nat.le_of_ble_eq_true rfl, Nat.le_of_ble_eq_true rfl⟩ ?_
  rotate_left -- leaf 6: return at 12
  -- leaves: 0 return at 33; 1 bench of X3_inOrder at 44; 2 facts of X3_inOrder at 44; 3 b64 of X3_inOrder at 44; 4 return at 47; 5 return at 33; 6 return at 12
  · have z := zF c7
    rw [if_neg (by omega), if_neg (fun q => by rw [bF c24] at q; cases q.1)] at h
    exact h
  · exact hC.op (Or.inl (zF c7))
  · exact (cl (bT c24)).1
  · exact (cl (bT c24)).2
  · have z := zF c7
    rw [if_neg (by omega), if_pos ⟨bT c24, kge c28⟩] at h
    exact h
  · have z := zF c7
    have c28b : ¬ 0 ≤ k := c28
    rw [i_le, i_0] at c28b
    rw [if_neg (by omega), if_neg (fun q => q.2 (by rw [i_lt, i_0]; omega))] at h
    exact h
  · have z := zT c7
    rw [if_pos z] at h
    exact h
theorem call_X10_order {E : ME} {Φ : Option AV → AM → Prop} {pc : Nat} {L : List (Option AV)} {st : List AV} {m : AM} {a : Nat × Nat} {idx : Nat} {x0 x1 : AV} {i : Nat} (hl : Cond.methodLink E.2.1 idx yX10_order ∈ TB) (hdep : 8 + 1 ≤ E.2.2.2.2.2.2) (hroom : a.1 + 0 ≤ E.2.2.2.2.1 ∧ a.2 + 0 ≤ E.2.2.2.2.2.1) (hsr : st.length ≤ 4) (hd : decode E.1 pc = .ok (.invokevirtual idx, 3)) (hsp : Sp_X10_order [vr 10 i, x0, x1] m (fun r m2 => B E Φ (pc + 3) L (r.toList ++ st) m2 a)) : B E Φ pc L (x1 :: x0 :: vr 10 i :: st) m a := b_callV S_X10_order [x0, x1] (RX10, TX10, 9) rfl rfl (by decide) (Or.inl hl) k830 k831 k68 k832 (show _ ∧ _ ∧ Option.map (fun d => d.parameters.length) (parseMethodDescriptor yX10_order.desc) = some 2 from by decide +kernel) ⟨hdep, by decide⟩ hroom hsr hd hsp
def drawnV (C : Nat → Nat) (n s w : Int32) : Int32 := if C 0 = 0 then -1000002 else if (inB n 61 && (inB s 1000000 && (decide (¬ s = nI 0) && inB w 2))) = true then (if w = nI 0 then nI (tkS C s.toNatClampNeg n.toNatClampNeg).2.1 else nI (tkS C s.toNatClampNeg n.toNatClampNeg).2.2.2) else -1000001
abbrev e_X10_drawn : ME := (cX10_drawn, (RX10, (4, ((some .int), (0, (0, 8))))))
theorem dX10_drawn_0 : decode cX10_drawn 0 = .ok (.aload_n 0, 1) := by decide +kernel
theorem dX10_drawn_1 : decode cX10_drawn 1 = .ok (.getfield 26, 3) := by decide +kernel
theorem dX10_drawn_4 : decode cX10_drawn 4 = .ok (.invokevirtual 189, 3) := by decide +kernel
theorem dX10_drawn_7 : decode cX10_drawn 7 = .ok (.ifCond .ne 6, 3) := by decide +kernel
theorem dX10_drawn_10 : decode cX10_drawn 10 = .ok (.ldc 142, 2) := by decide +kernel
theorem dX10_drawn_12 : decode cX10_drawn 12 = .ok (.ireturn, 1) := by decide +kernel
theorem dX10_drawn_13 : decode cX10_drawn 13 = .ok (.iload_n 1, 1) := by decide +kernel
theorem dX10_drawn_14 : decode cX10_drawn 14 = .ok (.ifCond .lt 28, 3) := by decide +kernel
theorem dX10_drawn_17 : decode cX10_drawn 17 = .ok (.iload_n 1, 1) := by decide +kernel
theorem dX10_drawn_18 : decode cX10_drawn 18 = .ok (.bipush 60, 2) := by decide +kernel
theorem dX10_drawn_20 : decode cX10_drawn 20 = .ok (.if_icmp .gt 22, 3) := by decide +kernel
theorem dX10_drawn_23 : decode cX10_drawn 23 = .ok (.iload_n 2, 1) := by decide +kernel
theorem dX10_drawn_24 : decode cX10_drawn 24 = .ok (.iconst 1, 1) := by decide +kernel
theorem dX10_drawn_25 : decode cX10_drawn 25 = .ok (.if_icmp .lt 17, 3) := by decide +kernel
theorem dX10_drawn_28 : decode cX10_drawn 28 = .ok (.iload_n 2, 1) := by decide +kernel
theorem dX10_drawn_29 : decode cX10_drawn 29 = .ok (.ldc_w 279, 3) := by decide +kernel
theorem dX10_drawn_32 : decode cX10_drawn 32 = .ok (.if_icmp .gt 10, 3) := by decide +kernel
theorem dX10_drawn_35 : decode cX10_drawn 35 = .ok (.iload_n 3, 1) := by decide +kernel
theorem dX10_drawn_36 : decode cX10_drawn 36 = .ok (.invokestatic 180, 3) := by decide +kernel
theorem dX10_drawn_39 : decode cX10_drawn 39 = .ok (.ifCond .eq 6, 3) := by decide +kernel
theorem dX10_drawn_42 : decode cX10_drawn 42 = .ok (.ldc 69, 2) := by decide +kernel
theorem dX10_drawn_44 : decode cX10_drawn 44 = .ok (.ireturn, 1) := by decide +kernel
theorem dX10_drawn_45 : decode cX10_drawn 45 = .ok (.aload_n 0, 1) := by decide +kernel
theorem dX10_drawn_46 : decode cX10_drawn 46 = .ok (.getfield 53, 3) := by decide +kernel
theorem dX10_drawn_49 : decode cX10_drawn 49 = .ok (.aload_n 0, 1) := by decide +kernel
theorem dX10_drawn_50 : decode cX10_drawn 50 = .ok (.getfield 26, 3) := by decide +kernel
theorem dX10_drawn_53 : decode cX10_drawn 53 = .ok (.iload_n 1, 1) := by decide +kernel
theorem dX10_drawn_54 : decode cX10_drawn 54 = .ok (.iload_n 2, 1) := by decide +kernel
theorem dX10_drawn_55 : decode cX10_drawn 55 = .ok (.iload_n 3, 1) := by decide +kernel
theorem dX10_drawn_56 : decode cX10_drawn 56 = .ok (.invokevirtual 280, 3) := by decide +kernel
theorem dX10_drawn_59 : decode cX10_drawn 59 = .ok (.ireturn, 1) := by decide +kernel
def Sp_X10_drawn (av : List AV) (m : AM) (Φ : Option AV → AM → Prop) : Prop := ∃ n s w, av = [vr 10 0, vi n, vi s, vi w] ∧ ∃ C, CR m C ∧ ∀ m2, CU C m m2 → Φ (some (vi (drawnV C n s w))) m2
set_option maxRecDepth 20000 in
set_option maxHeartbeats 4000000 in
theorem S_X10_drawn : Snd yX10_drawn e_X10_drawn Sp_X10_drawn := by
  refine Snd.of (by decide +kernel) rfl ?_ ?_
  · rintro av m Φ ⟨n, s, w, rfl, _⟩; exact Nat.le_of_ble_eq_true rfl
  rintro av m Φ ⟨n, s, w, rfl, C, hC, h⟩ hav hty
  show B e_X10_drawn Φ 0 [some (vr 10 0), some (vi n), some (vi s), some (vi w)] [] m (0, 0)
  unfold drawnV at h
  have hle := hC.le
  have hn : ¬ n < 0 → ¬ nI 60 < n → n = nI n.toNatClampNeg ∧ n.toNatClampNeg ≤ 60 ∧ inB n 61 = true := fun a b => by
    obtain ⟨j, hj, rfl⟩ := nI_of a
    rw [n_lt (by omega) (by omega)] at b
    rw [n_cl (by omega)]
    exact ⟨rfl, by omega, (inB_iff (by omega)).mpr ⟨j, by omega, rfl⟩⟩
  have hs : ¬ s < nI 1 → ¬ 999999 < s → s = nI s.toNatClampNeg ∧ s.toNatClampNeg ≤ 999999 ∧ inB s 1000000 = true ∧ ¬ s = nI 0 := fun a b => by
    have a2 : ¬ s < 0 := fun c => a (by
      rw [i_lt, i_0] at c
      rw [i_lt, nI_toInt (by omega)]
      omega)
    obtain ⟨j, hj, rfl⟩ := nI_of a2
    rw [show (999999 : Int32) = nI 999999 from rfl, n_lt (by omega) (by omega)] at b
    rw [n_lt (by omega) (by omega)] at a
    rw [n_cl (by omega)]
    exact ⟨rfl, by omega, (inB_iff (by omega)).mpr ⟨j, by omega, rfl⟩, fun z => by rw [n_eq (by omega) (by omega)] at z; omega⟩
  have hw : inB w 2 = true → w = nI w.toNatClampNeg ∧ w.toNatClampNeg ≤ 1 := fun q => by
    rcases (inB2 w).mp q with rfl | rfl
    · rw [n_cl (by omega)]; exact ⟨rfl, by omega⟩
    · rw [n_cl (by omega)]; exact ⟨rfl, by omega⟩
  have bad : 0 < C 0 → (inB n 61 && (inB s 1000000 && (decide (¬ s = nI 0) && inB w 2))) = false → Φ (some (vi (-1000001))) m := fun a b => by
    rw [if_neg (by omega), b] at h
    exact h m (CU.rf C m)
  refine b_aloadN (pc := 0) 0 dX10_drawn_0 rfl rfl ?_
  refine gf10_2 (pc := 1) 20 rfl k417 dX10_drawn_1 ?_
  refine call_X2_isOpen (pc := 4) k720 (by decide) ⟨Nat.le_of_ble_eq_true rfl, Nat.le_of_ble_eq_true rfl⟩ (Nat.le_of_ble_eq_true rfl) dX10_drawn_4 ?_
  refine ⟨rfl, _, hC.num.1, hC.le.1, ?_⟩
  refine b_if_ne (pc := 7) 13 dX10_drawn_7 (by decide) (fun c7 => ?_) (fun c7 => ?_)
  refine b_iloadN (pc := 13) 1 dX10_drawn_13 rfl rfl ?_
  refine b_if_lt (pc := 14) 42 dX10_drawn_14 (by decide) (fun c14 => ?_) (fun c14 => ?_)
  refine b_ldc (pc := 42) k450 dX10_drawn_42 ?_
  refine b_iret (pc := 44) rfl dX10_drawn_44 ⟨Nat.le_of_ble_eq_true rfl, Nat.le_of_ble_eq_true rfl⟩ ?_
  rotate_left -- leaf 0: return at 44
  refine b_iloadN (pc := 17) 1 dX10_drawn_17 rfl rfl ?_
  refine b_bipush (pc := 18) (nI 60) dX10_drawn_18 (by decide) ?_
  refine b_icmp_gt (pc := 20) 42 dX10_drawn_20 (by decide) (fun c20 => ?_) (fun c20 => ?_)
  refine b_ldc (pc := 42) k450 dX10_drawn_42 ?_
  refine b_iret (pc := 44) rfl dX10_drawn_44 ⟨Nat.le_of_ble_eq_true rfl, Nat.le_of_ble_eq_true rfl⟩ ?_
  rotate_left -- leaf 1: return at 44
  refine b_iloadN (pc := 23) 2 dX10_drawn_23 rfl rfl ?_
  refine b_iconst (pc := 24) (nI 1) dX10_drawn_24 (by decide) ?_
  refine b_icmp_lt (pc := 25) 42 dX10_drawn_25 (by decide) (fun c25 => ?_) (fun c25 => ?_)
  refine b_ldc (pc := 42) k450 dX10_drawn_42 ?_
  refine b_iret (pc := 44) rfl dX10_drawn_44 ⟨Nat.le_of_ble_eq_true rfl, Nat.le_of_ble_eq_true rfl⟩ ?_
  rotate_left -- leaf 2: return at 44
  refine b_iloadN (pc := 28) 2 dX10_drawn_28 rfl rfl ?_
  refine b_ldcw (pc := 29) k946 dX10_drawn_29 ?_
  refine b_icmp_gt (pc := 32) 42 dX10_drawn_32 (by decide) (fun c32 => ?_) (fun c32 => ?_)
  refine b_ldc (pc := 42) k450 dX10_drawn_42 ?_
  refine b_iret (pc := 44) rfl dX10_drawn_44 ⟨Nat.le_of_ble_eq_true rfl, Nat.le_of_ble_eq_true rfl⟩ ?_
  rotate_left -- leaf 3: return at 44
  refine b_iloadN (pc := 35) 3 dX10_drawn_35 rfl rfl ?_
  refine call_X10_isNoBit (pc := 36) k709 (by decide) ⟨Nat.le_of_ble_eq_true rfl, Nat.le_of_ble_eq_true rfl⟩ (Nat.le_of_ble_eq_true rfl) dX10_drawn_36 ?_
  refine ⟨_, rfl, ?_⟩
  refine b_if_eq (pc := 39) 45 dX10_drawn_39 (by decide) (fun c39 => ?_) (fun c39 => ?_)
  refine b_aloadN (pc := 45) 0 dX10_drawn_45 rfl rfl ?_
  refine gf10_6 (pc := 46) 103 rfl k421 dX10_drawn_46 ?_
  refine b_aloadN (pc := 49) 0 dX10_drawn_49 rfl rfl ?_
  refine gf10_2 (pc := 50) 20 rfl k417 dX10_drawn_50 ?_
  refine b_iloadN (pc := 53) 1 dX10_drawn_53 rfl rfl ?_
  refine b_iloadN (pc := 54) 2 dX10_drawn_54 rfl rfl ?_
  refine b_iloadN (pc := 55) 3 dX10_drawn_55 rfl rfl ?_
  refine call_X3_talk (pc := 56) k947 (by decide) ⟨Nat.le_of_ble_eq_true rfl, Nat.le_of_ble_eq_true rfl⟩ (Nat.le_of_ble_eq_true rfl) dX10_drawn_56 ?_
  refine ⟨_, _, _, rfl, C, n.toNatClampNeg, s.toNatClampNeg, w.toNatClampNeg, ?_, ?_, ?_, ?_, ?_, ?_, ?_, fun m56 h56 => ?_⟩
  rotate_left -- leaf 4: bench of X3_talk at 56
  rotate_left -- leaf 5: n of X3_talk at 56
  rotate_left -- leaf 6: n60 of X3_talk at 56
  rotate_left -- leaf 7: s of X3_talk at 56
  rotate_left -- leaf 8: sb of X3_talk at 56
  rotate_left -- leaf 9: w of X3_talk at 56
  rotate_left -- leaf 10: w1 of X3_talk at 56
  refine b_iret (pc := 59) rfl dX10_drawn_59 ⟨Nat.le_of_ble_eq_true rfl, Nat.le_of_ble_eq_true rfl⟩ ?_
  rotate_left -- leaf 11: return at 59
  refine b_ldc (pc := 42) k450 dX10_drawn_42 ?_
  refine b_iret (pc := 44) rfl dX10_drawn_44 ⟨Nat.le_of_ble_eq_true rfl, Nat.le_of_ble_eq_true rfl⟩ ?_
  rotate_left -- leaf 12: return at 44
  refine b_ldc (pc := 10) k624 dX10_drawn_10 ?_
  refine b_iret (pc := 12) rfl dX10_drawn_12 ⟨Nat.le_of_ble_eq_true rfl, Nat.le_of_ble_eq_true rfl⟩ ?_
  rotate_left -- leaf 13: return at 12
  -- leaves: 0 return at 44; 1 return at 44; 2 return at 44; 3 return at 44; 4 bench of X3_talk at 56; 5 n of X3_talk at 56; 6 n60 of X3_talk at 56; 7 s of X3_talk at 56; 8 sb of X3_talk at 56; 9 w of X3_talk at 56; 10 w1 of X3_talk at 56; 11 return at 59; 12 return at 44; 13 return at 12
  · exact bad (zF c7) (by rw [inB_f1 c14]; rfl)
  · refine bad (zF c7) ?_
    have : inB n 61 = false := by
      obtain ⟨j, hj, rfl⟩ := nI_of c14
      rw [n_lt (by omega) (by omega)] at c20
      exact inB_f2 (by rw [n_le (by omega) (by omega)]; omega)
    rw [this]; rfl
  · refine bad (zF c7) ?_
    by_cases q : s < 0
    · rw [inB_f1 q, Bool.false_and, Bool.and_false]
    · obtain ⟨j, hj, rfl⟩ := nI_of q
      rw [n_lt (by omega) (by omega)] at c25
      rw [show j = 0 by omega, decide_eq_false (fun z => z rfl), Bool.false_and, Bool.and_false, Bool.and_false]
  · refine bad (zF c7) ?_
    have : inB s 1000000 = false := by
      refine inB_f2 ?_
      have c32b : (999999 : Int32) < s := c32
      rw [i_lt] at c32b
      rw [i_le, nI_toInt (by omega)]
      have e9 : (999999 : Int32).toInt = 999999 := rfl
      omega
    rw [this, Bool.false_and, Bool.and_false]
  · exact hC.op (Or.inl (zF c7))
  · exact (hn c14 c20).1
  · exact (hn c14 c20).2.1
  · exact (hs c25 c32).1
  · exact (hs c25 c32).2.1
  · exact (hw (dT c39)).1
  · exact (hw (dT c39)).2
  · have z := zF c7
    rw [if_neg (by omega), (hn c14 c20).2.2, (hs c25 c32).2.2.1, decide_eq_true (hs c25 c32).2.2.2, dT c39] at h
    have h2 := h m56 h56
    rw [if_pos (show (true && (true && (true && true))) = true from rfl)] at h2
    by_cases q : w.toNatClampNeg = 0
    · rw [if_pos q]
      rw [if_pos (by rw [(hw (dT c39)).1, q])] at h2
      exact h2
    · rw [if_neg q]
      rw [if_neg (fun e => q (by rw [e, n_cl (by omega)]))] at h2
      exact h2
  · refine bad (zF c7) ?_
    rw [dF c39, Bool.and_false, Bool.and_false, Bool.and_false]
  · have z := zT c7
    rw [if_pos z] at h
    exact h m (CU.rf C m)
theorem call_X10_drawn {E : ME} {Φ : Option AV → AM → Prop} {pc : Nat} {L : List (Option AV)} {st : List AV} {m : AM} {a : Nat × Nat} {idx : Nat} {x0 x1 x2 : AV} {i : Nat} (hl : Cond.methodLink E.2.1 idx yX10_drawn ∈ TB) (hdep : 8 + 1 ≤ E.2.2.2.2.2.2) (hroom : a.1 + 0 ≤ E.2.2.2.2.1 ∧ a.2 + 0 ≤ E.2.2.2.2.2.1) (hsr : st.length ≤ 4) (hd : decode E.1 pc = .ok (.invokevirtual idx, 3)) (hsp : Sp_X10_drawn [vr 10 i, x0, x1, x2] m (fun r m2 => B E Φ (pc + 3) L (r.toList ++ st) m2 a)) : B E Φ pc L (x2 :: x1 :: x0 :: vr 10 i :: st) m a := b_callV S_X10_drawn [x0, x1, x2] (RX10, TX10, 9) rfl rfl (by decide) (Or.inl hl) k943 k944 k68 k945 (show _ ∧ _ ∧ Option.map (fun d => d.parameters.length) (parseMethodDescriptor yX10_drawn.desc) = some 3 from by decide +kernel) ⟨hdep, by decide⟩ hroom hsr hd hsp
