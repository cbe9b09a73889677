/-! how many bits: of a set of six -/
def pc8 (s : Nat) : Nat := pc6 s + (s.testBit 6).toNat + (s.testBit 7).toNat
theorem pc8_6 {s : Nat} (h : s < 64) : pc8 s = pc6 s := by
  have q : ∀ s, s < 64 → pc8 s = pc6 s := by decide +kernel
  exact q s h
abbrev e_J6_bitCount_0f7a4 : ME := (cJ6_bitCount_0f7a4, ("java/lang/Integer", (1, ((some .int), (0, (0, 1))))))
theorem dJ6_bitCount_0f7a4_0 : decode cJ6_bitCount_0f7a4 0 = .ok (.iload_n 0, 1) := by decide +kernel
theorem dJ6_bitCount_0f7a4_1 : decode cJ6_bitCount_0f7a4 1 = .ok (.iload_n 0, 1) := by decide +kernel
theorem dJ6_bitCount_0f7a4_2 : decode cJ6_bitCount_0f7a4 2 = .ok (.iconst 1, 1) := by decide +kernel
theorem dJ6_bitCount_0f7a4_3 : decode cJ6_bitCount_0f7a4 3 = .ok (.iushr, 1) := by decide +kernel
theorem dJ6_bitCount_0f7a4_4 : decode cJ6_bitCount_0f7a4 4 = .ok (.ldc_w 265, 3) := by decide +kernel
theorem dJ6_bitCount_0f7a4_7 : decode cJ6_bitCount_0f7a4 7 = .ok (.iand, 1) := by decide +kernel
theorem dJ6_bitCount_0f7a4_8 : decode cJ6_bitCount_0f7a4 8 = .ok (.isub, 1) := by decide +kernel
theorem dJ6_bitCount_0f7a4_9 : decode cJ6_bitCount_0f7a4 9 = .ok (.istore_n 0, 1) := by decide +kernel
theorem dJ6_bitCount_0f7a4_10 : decode cJ6_bitCount_0f7a4 10 = .ok (.iload_n 0, 1) := by decide +kernel
theorem dJ6_bitCount_0f7a4_11 : decode cJ6_bitCount_0f7a4 11 = .ok (.ldc_w 266, 3) := by decide +kernel
theorem dJ6_bitCount_0f7a4_14 : decode cJ6_bitCount_0f7a4 14 = .ok (.iand, 1) := by decide +kernel
theorem dJ6_bitCount_0f7a4_15 : decode cJ6_bitCount_0f7a4 15 = .ok (.iload_n 0, 1) := by decide +kernel
theorem dJ6_bitCount_0f7a4_16 : decode cJ6_bitCount_0f7a4 16 = .ok (.iconst 2, 1) := by decide +kernel
theorem dJ6_bitCount_0f7a4_17 : decode cJ6_bitCount_0f7a4 17 = .ok (.iushr, 1) := by decide +kernel
theorem dJ6_bitCount_0f7a4_18 : decode cJ6_bitCount_0f7a4 18 = .ok (.ldc_w 266, 3) := by decide +kernel
theorem dJ6_bitCount_0f7a4_21 : decode cJ6_bitCount_0f7a4 21 = .ok (.iand, 1) := by decide +kernel
theorem dJ6_bitCount_0f7a4_22 : decode cJ6_bitCount_0f7a4 22 = .ok (.iadd, 1) := by decide +kernel
theorem dJ6_bitCount_0f7a4_23 : decode cJ6_bitCount_0f7a4 23 = .ok (.istore_n 0, 1) := by decide +kernel
theorem dJ6_bitCount_0f7a4_24 : decode cJ6_bitCount_0f7a4 24 = .ok (.iload_n 0, 1) := by decide +kernel
theorem dJ6_bitCount_0f7a4_25 : decode cJ6_bitCount_0f7a4 25 = .ok (.iload_n 0, 1) := by decide +kernel
theorem dJ6_bitCount_0f7a4_26 : decode cJ6_bitCount_0f7a4 26 = .ok (.iconst 4, 1) := by decide +kernel
theorem dJ6_bitCount_0f7a4_27 : decode cJ6_bitCount_0f7a4 27 = .ok (.iushr, 1) := by decide +kernel
theorem dJ6_bitCount_0f7a4_28 : decode cJ6_bitCount_0f7a4 28 = .ok (.iadd, 1) := by decide +kernel
theorem dJ6_bitCount_0f7a4_29 : decode cJ6_bitCount_0f7a4 29 = .ok (.ldc_w 267, 3) := by decide +kernel
theorem dJ6_bitCount_0f7a4_32 : decode cJ6_bitCount_0f7a4 32 = .ok (.iand, 1) := by decide +kernel
theorem dJ6_bitCount_0f7a4_33 : decode cJ6_bitCount_0f7a4 33 = .ok (.istore_n 0, 1) := by decide +kernel
theorem dJ6_bitCount_0f7a4_34 : decode cJ6_bitCount_0f7a4 34 = .ok (.iload_n 0, 1) := by decide +kernel
theorem dJ6_bitCount_0f7a4_35 : decode cJ6_bitCount_0f7a4 35 = .ok (.iload_n 0, 1) := by decide +kernel
theorem dJ6_bitCount_0f7a4_36 : decode cJ6_bitCount_0f7a4 36 = .ok (.bipush 8, 2) := by decide +kernel
theorem dJ6_bitCount_0f7a4_38 : decode cJ6_bitCount_0f7a4 38 = .ok (.iushr, 1) := by decide +kernel
theorem dJ6_bitCount_0f7a4_39 : decode cJ6_bitCount_0f7a4 39 = .ok (.iadd, 1) := by decide +kernel
theorem dJ6_bitCount_0f7a4_40 : decode cJ6_bitCount_0f7a4 40 = .ok (.istore_n 0, 1) := by decide +kernel
theorem dJ6_bitCount_0f7a4_41 : decode cJ6_bitCount_0f7a4 41 = .ok (.iload_n 0, 1) := by decide +kernel
theorem dJ6_bitCount_0f7a4_42 : decode cJ6_bitCount_0f7a4 42 = .ok (.iload_n 0, 1) := by decide +kernel
theorem dJ6_bitCount_0f7a4_43 : decode cJ6_bitCount_0f7a4 43 = .ok (.bipush 16, 2) := by decide +kernel
theorem dJ6_bitCount_0f7a4_45 : decode cJ6_bitCount_0f7a4 45 = .ok (.iushr, 1) := by decide +kernel
theorem dJ6_bitCount_0f7a4_46 : decode cJ6_bitCount_0f7a4 46 = .ok (.iadd, 1) := by decide +kernel
theorem dJ6_bitCount_0f7a4_47 : decode cJ6_bitCount_0f7a4 47 = .ok (.istore_n 0, 1) := by decide +kernel
theorem dJ6_bitCount_0f7a4_48 : decode cJ6_bitCount_0f7a4 48 = .ok (.iload_n 0, 1) := by decide +kernel
theorem dJ6_bitCount_0f7a4_49 : decode cJ6_bitCount_0f7a4 49 = .ok (.bipush 63, 2) := by decide +kernel
theorem dJ6_bitCount_0f7a4_51 : decode cJ6_bitCount_0f7a4 51 = .ok (.iand, 1) := by decide +kernel
theorem dJ6_bitCount_0f7a4_52 : decode cJ6_bitCount_0f7a4 52 = .ok (.ireturn, 1) := by decide +kernel
def Sp_J6_bitCount_0f7a4 (av : List AV) (m : AM) (Φ : Option AV → AM → Prop) : Prop := ∃ x, av = [vi x] ∧ ∃ k, x = nI k ∧ k < 256 ∧ Φ (some (vi (nI (pc8 k)))) m
set_option maxRecDepth 20000 in
set_option maxHeartbeats 4000000 in
theorem S_J6_bitCount_0f7a4 : Snd yJ6_bitCount_0f7a4 e_J6_bitCount_0f7a4 Sp_J6_bitCount_0f7a4 := by
  refine Snd.of (by decide +kernel) rfl ?_ ?_
  · rintro av m Φ ⟨x, rfl, _⟩; exact Nat.le_of_ble_eq_true rfl
  rintro av m Φ ⟨x, rfl, k, rfl, hk, h⟩ hav hty
  show B e_J6_bitCount_0f7a4 Φ 0 [some (vi (nI k))] [] m (0, 0)
  refine b_iloadN (pc := 0) 0 dJ6_bitCount_0f7a4_0 rfl rfl ?_
  refine b_iloadN (pc := 1) 0 dJ6_bitCount_0f7a4_1 rfl rfl ?_
  refine b_iconst (pc := 2) (nI 1) dJ6_bitCount_0f7a4_2 (by decide) ?_
  refine b_iushr (pc := 3) dJ6_bitCount_0f7a4_3 ?_
  refine b_ldcw (pc := 4) k694 dJ6_bitCount_0f7a4_4 ?_
  refine b_iand (pc := 7) dJ6_bitCount_0f7a4_7 ?_
  refine b_isub (pc := 8) dJ6_bitCount_0f7a4_8 ?_
  refine siN0 (pc := 9) rfl (by decide) dJ6_bitCount_0f7a4_9 ?_
  refine b_iloadN (pc := 10) 0 dJ6_bitCount_0f7a4_10 rfl rfl ?_
  refine b_ldcw (pc := 11) k695 dJ6_bitCount_0f7a4_11 ?_
  refine b_iand (pc := 14) dJ6_bitCount_0f7a4_14 ?_
  refine b_iloadN (pc := 15) 0 dJ6_bitCount_0f7a4_15 rfl rfl ?_
  refine b_iconst (pc := 16) (nI 2) dJ6_bitCount_0f7a4_16 (by decide) ?_
  refine b_iushr (pc := 17) dJ6_bitCount_0f7a4_17 ?_
  refine b_ldcw (pc := 18) k695 dJ6_bitCount_0f7a4_18 ?_
  refine b_iand (pc := 21) dJ6_bitCount_0f7a4_21 ?_
  refine b_iadd (pc := 22) dJ6_bitCount_0f7a4_22 ?_
  refine siN0 (pc := 23) rfl (by decide) dJ6_bitCount_0f7a4_23 ?_
  refine b_iloadN (pc := 24) 0 dJ6_bitCount_0f7a4_24 rfl rfl ?_
  refine b_iloadN (pc := 25) 0 dJ6_bitCount_0f7a4_25 rfl rfl ?_
  refine b_iconst (pc := 26) (nI 4) dJ6_bitCount_0f7a4_26 (by decide) ?_
  refine b_iushr (pc := 27) dJ6_bitCount_0f7a4_27 ?_
  refine b_iadd (pc := 28) dJ6_bitCount_0f7a4_28 ?_
  refine b_ldcw (pc := 29) k696 dJ6_bitCount_0f7a4_29 ?_
  refine b_iand (pc := 32) dJ6_bitCount_0f7a4_32 ?_
  refine siN0 (pc := 33) rfl (by decide) dJ6_bitCount_0f7a4_33 ?_
  refine b_iloadN (pc := 34) 0 dJ6_bitCount_0f7a4_34 rfl rfl ?_
  refine b_iloadN (pc := 35) 0 dJ6_bitCount_0f7a4_35 rfl rfl ?_
  refine b_bipush (pc := 36) (nI 8) dJ6_bitCount_0f7a4_36 (by decide) ?_
  refine b_iushr (pc := 38) dJ6_bitCount_0f7a4_38 ?_
  refine b_iadd (pc := 39) dJ6_bitCount_0f7a4_39 ?_
  refine siN0 (pc := 40) rfl (by decide) dJ6_bitCount_0f7a4_40 ?_
  refine b_iloadN (pc := 41) 0 dJ6_bitCount_0f7a4_41 rfl rfl ?_
  refine b_iloadN (pc := 42) 0 dJ6_bitCount_0f7a4_42 rfl rfl ?_
  refine b_bipush (pc := 43) (nI 16) dJ6_bitCount_0f7a4_43 (by decide) ?_
  refine b_iushr (pc := 45) dJ6_bitCount_0f7a4_45 ?_
  refine b_iadd (pc := 46) dJ6_bitCount_0f7a4_46 ?_
  refine siN0 (pc := 47) rfl (by decide) dJ6_bitCount_0f7a4_47 ?_
  refine b_iloadN (pc := 48) 0 dJ6_bitCount_0f7a4_48 rfl rfl ?_
  refine b_bipush (pc := 49) (nI 63) dJ6_bitCount_0f7a4_49 (by decide) ?_
  refine b_iand (pc := 51) dJ6_bitCount_0f7a4_51 ?_
  refine b_iret (pc := 52) rfl dJ6_bitCount_0f7a4_52 ⟨Nat.le_of_ble_eq_true rfl, Nat.le_of_ble_eq_true rfl⟩ ?_
  rotate_left -- leaf 0: return at 52
  -- leaves: 0 return at 52
  refine Eq.mpr (congrArg (fun z => Φ (some (vi z)) m) ?_) h
  clear h hav hty
  revert k
  decide +kernel
theorem call_J6_bitCount_0f7a4 {E : ME} {Φ : Option AV → AM → Prop} {pc : Nat} {L : List (Option AV)} {st : List AV} {m : AM} {a : Nat × Nat} {idx : Nat} {x0 : AV} (hl : Cond.methodLink E.2.1 idx yJ6_bitCount_0f7a4 ∈ TB) (hdep : 1 + 1 ≤ E.2.2.2.2.2.2) (hroom : a.1 + 0 ≤ E.2.2.2.2.1 ∧ a.2 + 0 ≤ E.2.2.2.2.2.1) (hsr : st.length ≤ 4) (hd : decode E.1 pc = .ok (.invokestatic idx, 3)) (hsp : Sp_J6_bitCount_0f7a4 [x0] m (fun r m2 => B E Φ (pc + 3) L (r.toList ++ st) m2 a)) : B E Φ pc L (x0 :: st) m a := b_callS S_J6_bitCount_0f7a4 [x0] (Or.inl hl) k692 k83 k693 (show _ ∧ _ ∧ Option.map (fun d => d.parameters.length) (parseMethodDescriptor yJ6_bitCount_0f7a4.desc) = some 1 from by decide +kernel) ⟨hdep, by decide⟩ hroom hsr hd hsp
abbrev e_X2_price : ME := (cX2_price, (RX2, (3, ((some .int), (0, (0, 2))))))
theorem dX2_price_0 : decode cX2_price 0 = .ok (.aload_n 0, 1) := by decide +kernel
theorem dX2_price_1 : decode cX2_price 1 = .ok (.getfield 12, 3) := by decide +kernel
theorem dX2_price_4 : decode cX2_price 4 = .ok (.getfield 116, 3) := by decide +kernel
theorem dX2_price_7 : decode cX2_price 7 = .ok (.iload_n 1, 1) := by decide +kernel
theorem dX2_price_8 : decode cX2_price 8 = .ok (.iload_n 2, 1) := by decide +kernel
theorem dX2_price_9 : decode cX2_price 9 = .ok (.ixor, 1) := by decide +kernel
theorem dX2_price_10 : decode cX2_price 10 = .ok (.invokestatic 80, 3) := by decide +kernel
theorem dX2_price_13 : decode cX2_price 13 = .ok (.imul, 1) := by decide +kernel
theorem dX2_price_14 : decode cX2_price 14 = .ok (.ireturn, 1) := by decide +kernel
def Sp_X2_price (av : List AV) (m : AM) (Φ : Option AV → AM → Prop) : Prop := ∃ x y, av = [vr 2 20, vi x, vi y] ∧ ∃ P k j, m.1 21 6 = nI P ∧ x = nI k ∧ y = nI j ∧ k < 64 ∧ j < 64 ∧ Φ (some (vi (nI (P * pc6 (k ^^^ j))))) m
set_option maxRecDepth 20000 in
set_option maxHeartbeats 4000000 in
theorem S_X2_price : Snd yX2_price e_X2_price Sp_X2_price := by
  refine Snd.of (by decide +kernel) rfl ?_ ?_
  · rintro av m Φ ⟨x, y, rfl, _⟩; exact Nat.le_of_ble_eq_true rfl
  rintro av m Φ ⟨x, y, rfl, P, k, j, hP, rfl, rfl, hk, hj, h⟩ hav hty
  show B e_X2_price Φ 0 [some (vr 2 20), some (vi (nI k)), some (vi (nI j))] [] m (0, 0)
  refine b_aloadN (pc := 0) 0 dX2_price_0 rfl rfl ?_
  refine gf2_0 (pc := 1) 21 rfl k264 dX2_price_1 ?_
  refine gf5_6 (pc := 4) k154 dX2_price_4 ?_
  refine b_iloadN (pc := 7) 1 dX2_price_7 rfl rfl ?_
  refine b_iloadN (pc := 8) 2 dX2_price_8 rfl rfl ?_
  refine b_ixor (pc := 9) dX2_price_9 ?_
  refine call_J6_bitCount_0f7a4 (pc := 10) k691 (by decide) ⟨Nat.le_of_ble_eq_true rfl, Nat.le_of_ble_eq_true rfl⟩ (Nat.le_of_ble_eq_true rfl) dX2_price_10 ?_
  refine ⟨_, rfl, _, n_xor _ _, ?_, ?_⟩
  rotate_left -- leaf 0: bound of J6_bitCount_0f7a4 at 10
  refine b_imul (pc := 13) dX2_price_13 ?_
  refine b_iret (pc := 14) rfl dX2_price_14 ⟨Nat.le_of_ble_eq_true rfl, Nat.le_of_ble_eq_true rfl⟩ ?_
  rotate_left -- leaf 1: return at 14
  -- leaves: 0 bound of J6_bitCount_0f7a4 at 10; 1 return at 14
  · have := Nat.xor_lt_two_pow (n := 6) hk hj
    omega
  · rw [hP, n_mul, pc8_6 (Nat.xor_lt_two_pow (n := 6) hk hj)]
    exact h
theorem call_X2_price {E : ME} {Φ : Option AV → AM → Prop} {pc : Nat} {L : List (Option AV)} {st : List AV} {m : AM} {a : Nat × Nat} {idx : Nat} {x0 x1 : AV} {i : Nat} (hl : Cond.methodLink E.2.1 idx yX2_price ∈ TB) (hdep : 2 + 1 ≤ E.2.2.2.2.2.2) (hroom : a.1 + 0 ≤ E.2.2.2.2.1 ∧ a.2 + 0 ≤ E.2.2.2.2.2.1) (hsr : st.length ≤ 4) (hd : decode E.1 pc = .ok (.invokevirtual idx, 3)) (hsp : Sp_X2_price [vr 2 i, x0, x1] m (fun r m2 => B E Φ (pc + 3) L (r.toList ++ st) m2 a)) : B E Φ pc L (x1 :: x0 :: vr 2 i :: st) m a := b_callV S_X2_price [x0, x1] (RX2, TX2, 5) rfl rfl (by decide) (Or.inl hl) k688 k689 k73 k690 (show _ ∧ _ ∧ Option.map (fun d => d.parameters.length) (parseMethodDescriptor yX2_price.desc) = some 2 from by decide +kernel) ⟨hdep, by decide⟩ hroom hsr hd hsp
