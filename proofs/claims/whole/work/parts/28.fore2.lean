/-! inOrder, talk -/
def ordG (C : Nat → Nat) (K : Int32) : Nat → Nat → Nat → Int32 → Int32
  | 0, _, _, told => told
  | n + 1, p, left, told => if left = 0 then told else match ffN C left (C 0) with
    | none => -1000000
    | some f => ordG C K n (p + 1) (nDel left (2 ^ f)) (if nI p = K then nI f else told)
def ordV (C : Nat → Nat) (F : Nat) (K : Int32) : Int32 := ordG C K 6 0 F (-1000000)
theorem ffN_lt {C : Nat → Nat} {L f : Nat} : ∀ n, ffN C L n = some f → f < n
  | 0, h => by cases h
  | n + 1, h => by
    have h2 : (match ffN C L n with | some f => some f | none => if freeB C L n = true then some n else none) = some f := h
    cases e : ffN C L n with
    | some g =>
      rw [e] at h2
      cases h2
      exact Nat.lt_succ_of_lt (ffN_lt n e)
    | none =>
      rw [e] at h2
      by_cases q : freeB C L n = true
      · simp [q] at h2; omega
      · simp [q] at h2
abbrev e_X3_inOrder : ME := (cX3_inOrder, (RX3, (8, ((some .int), (0, (0, 4))))))
theorem dX3_inOrder_0 : decode cX3_inOrder 0 = .ok (.iload_n 2, 1) := by decide +kernel
theorem dX3_inOrder_1 : decode cX3_inOrder 1 = .ok (.istore 4, 2) := by decide +kernel
theorem dX3_inOrder_3 : decode cX3_inOrder 3 = .ok (.ldc 61, 2) := by decide +kernel
theorem dX3_inOrder_5 : decode cX3_inOrder 5 = .ok (.istore 5, 2) := by decide +kernel
theorem dX3_inOrder_7 : decode cX3_inOrder 7 = .ok (.iconst 0, 1) := by decide +kernel
theorem dX3_inOrder_8 : decode cX3_inOrder 8 = .ok (.istore 6, 2) := by decide +kernel
theorem dX3_inOrder_10 : decode cX3_inOrder 10 = .ok (.iload 6, 2) := by decide +kernel
theorem dX3_inOrder_12 : decode cX3_inOrder 12 = .ok (.bipush 6, 2) := by decide +kernel
theorem dX3_inOrder_14 : decode cX3_inOrder 14 = .ok (.if_icmp .ge 53, 3) := by decide +kernel
theorem dX3_inOrder_17 : decode cX3_inOrder 17 = .ok (.iload 4, 2) := by decide +kernel
theorem dX3_inOrder_19 : decode cX3_inOrder 19 = .ok (.ifCond .eq 48, 3) := by decide +kernel
theorem dX3_inOrder_22 : decode cX3_inOrder 22 = .ok (.aload_n 1, 1) := by decide +kernel
theorem dX3_inOrder_23 : decode cX3_inOrder 23 = .ok (.iload 4, 2) := by decide +kernel
theorem dX3_inOrder_25 : decode cX3_inOrder 25 = .ok (.invokestatic 62, 3) := by decide +kernel
theorem dX3_inOrder_28 : decode cX3_inOrder 28 = .ok (.istore 7, 2) := by decide +kernel
theorem dX3_inOrder_30 : decode cX3_inOrder 30 = .ok (.iload 7, 2) := by decide +kernel
theorem dX3_inOrder_32 : decode cX3_inOrder 32 = .ok (.ldc 61, 2) := by decide +kernel
theorem dX3_inOrder_34 : decode cX3_inOrder 34 = .ok (.if_icmp .ne 6, 3) := by decide +kernel
theorem dX3_inOrder_37 : decode cX3_inOrder 37 = .ok (.ldc 61, 2) := by decide +kernel
theorem dX3_inOrder_39 : decode cX3_inOrder 39 = .ok (.ireturn, 1) := by decide +kernel
theorem dX3_inOrder_40 : decode cX3_inOrder 40 = .ok (.iload 6, 2) := by decide +kernel
theorem dX3_inOrder_42 : decode cX3_inOrder 42 = .ok (.iload_n 3, 1) := by decide +kernel
theorem dX3_inOrder_43 : decode cX3_inOrder 43 = .ok (.if_icmp .ne 7, 3) := by decide +kernel
theorem dX3_inOrder_46 : decode cX3_inOrder 46 = .ok (.iload 7, 2) := by decide +kernel
theorem dX3_inOrder_48 : decode cX3_inOrder 48 = .ok (.istore 5, 2) := by decide +kernel
theorem dX3_inOrder_50 : decode cX3_inOrder 50 = .ok (.iload 4, 2) := by decide +kernel
theorem dX3_inOrder_52 : decode cX3_inOrder 52 = .ok (.iconst 1, 1) := by decide +kernel
theorem dX3_inOrder_53 : decode cX3_inOrder 53 = .ok (.iload 7, 2) := by decide +kernel
theorem dX3_inOrder_55 : decode cX3_inOrder 55 = .ok (.ishl, 1) := by decide +kernel
theorem dX3_inOrder_56 : decode cX3_inOrder 56 = .ok (.iconst (-1), 1) := by decide +kernel
theorem dX3_inOrder_57 : decode cX3_inOrder 57 = .ok (.ixor, 1) := by decide +kernel
theorem dX3_inOrder_58 : decode cX3_inOrder 58 = .ok (.iand, 1) := by decide +kernel
theorem dX3_inOrder_59 : decode cX3_inOrder 59 = .ok (.istore 4, 2) := by decide +kernel
theorem dX3_inOrder_61 : decode cX3_inOrder 61 = .ok (.iinc 6 1, 3) := by decide +kernel
theorem dX3_inOrder_64 : decode cX3_inOrder 64 = .ok (.goto (-54), 3) := by decide +kernel
theorem dX3_inOrder_67 : decode cX3_inOrder 67 = .ok (.iload 5, 2) := by decide +kernel
theorem dX3_inOrder_69 : decode cX3_inOrder 69 = .ok (.ireturn, 1) := by decide +kernel
def Sp_X3_inOrder (av : List AV) (m : AM) (Φ : Option AV → AM → Prop) : Prop := ∃ x K, av = [vr 3 103, vr 2 20, vi x, vi K] ∧ ∃ C F, BR m C ∧ x = nI F ∧ F < 64 ∧ Φ (some (vi (ordV C F K))) m
set_option maxRecDepth 20000 in
set_option maxHeartbeats 4000000 in
theorem S_X3_inOrder : Snd yX3_inOrder e_X3_inOrder Sp_X3_inOrder := by
  refine Snd.of (by decide +kernel) rfl ?_ ?_
  · rintro av m Φ ⟨x, K, rfl, _⟩; exact Nat.le_of_ble_eq_true rfl
  rintro av m Φ ⟨x, K, rfl, C, F, hB, rfl, hF, h⟩ hav hty
  show B e_X3_inOrder Φ 0 [some (vr 3 103), some (vr 2 20), some (vi (nI F)), some (vi K), none, none, none, none] [] m (0, 0)
  have hv := hB.1
  have h06 := hv.1.2
  have loop : ∀ n p left told o, p + n = 6 → left < 64 → Φ (some (vi (ordG C K n p left told))) m → B e_X3_inOrder Φ 10 [some (vr 3 103), some (vr 2 20), some (vi (nI F)), some (vi K), some (vi (nI left)), some (vi told), some (vi (nI p)), o] [] m (0, 0) := by
    intro n
    induction n with
    | zero =>
      intro p left told o h1 h2 h3
      refine b_iloadG (pc := 10) 6 dX3_inOrder_10 rfl ?_
      refine b_bipush (pc := 12) (nI 6) dX3_inOrder_12 (by decide) ?_
      refine b_icmp_ge (pc := 14) 67 dX3_inOrder_14 (by decide) (fun c14 => ?_) (fun c14 => ?_)
      refine b_iloadG (pc := 67) 5 dX3_inOrder_67 rfl ?_
      refine b_iret (pc := 69) rfl dX3_inOrder_69 ⟨Nat.le_of_ble_eq_true rfl, Nat.le_of_ble_eq_true rfl⟩ ?_
      rotate_left -- leaf 0: return at 69
      rotate_left -- leaf 1: at 17
      -- leaves: 0 return at 69; 1 at 17
      · exact h3
      · rw [n_le (by omega) (by omega)] at c14
        omega
    | succ n ih =>
      intro p left told o h1 h2 h3
      have h4 : Φ (some (vi (if left = 0 then told else match ffN C left (C 0) with | none => -1000000 | some f => ordG C K n (p + 1) (nDel left (2 ^ f)) (if nI p = K then nI f else told)))) m := h3
      cases e : ffN C left (C 0) with
      | none =>
        rw [e] at h4
        refine b_iloadG (pc := 10) 6 dX3_inOrder_10 rfl ?_
        refine b_bipush (pc := 12) (nI 6) dX3_inOrder_12 (by decide) ?_
        refine b_icmp_ge (pc := 14) 67 dX3_inOrder_14 (by decide) (fun c14 => ?_) (fun c14 => ?_)
        refine b_iloadG (pc := 67) 5 dX3_inOrder_67 rfl ?_
        refine b_iret (pc := 69) rfl dX3_inOrder_69 ⟨Nat.le_of_ble_eq_true rfl, Nat.le_of_ble_eq_true rfl⟩ ?_
        rotate_left -- leaf 0: return at 69
        refine b_iloadG (pc := 17) 4 dX3_inOrder_17 rfl ?_
        refine b_if_eq (pc := 19) 67 dX3_inOrder_19 (by decide) (fun c19 => ?_) (fun c19 => ?_)
        refine b_iloadG (pc := 67) 5 dX3_inOrder_67 rfl ?_
        refine b_iret (pc := 69) rfl dX3_inOrder_69 ⟨Nat.le_of_ble_eq_true rfl, Nat.le_of_ble_eq_true rfl⟩ ?_
        rotate_left -- leaf 1: return at 69
        refine b_aloadN (pc := 22) 1 dX3_inOrder_22 rfl rfl ?_
        refine b_iloadG (pc := 23) 4 dX3_inOrder_23 rfl ?_
        refine call_X3_firstFree (pc := 25) k837 (by decide) ⟨Nat.le_of_ble_eq_true rfl, Nat.le_of_ble_eq_true rfl⟩ (Nat.le_of_ble_eq_true rfl) dX3_inOrder_25 ?_
        refine ⟨_, rfl, C, _, hB, rfl, ?_, ?_⟩
        rotate_left -- leaf 2: bound of X3_firstFree at 25
        refine siG7 (pc := 28) notL_i (by decide) dX3_inOrder_28 ?_
        refine b_iloadG (pc := 30) 7 dX3_inOrder_30 rfl ?_
        refine b_ldc (pc := 32) k827 dX3_inOrder_32 ?_
        refine b_icmp_ne (pc := 34) 40 dX3_inOrder_34 (by decide) (fun c34 => ?_) (fun c34 => ?_)
        rotate_left -- leaf 3: at 40
        refine b_ldc (pc := 37) k827 dX3_inOrder_37 ?_
        refine b_iret (pc := 39) rfl dX3_inOrder_39 ⟨Nat.le_of_ble_eq_true rfl, Nat.le_of_ble_eq_true rfl⟩ ?_
        rotate_left -- leaf 4: return at 39
        -- leaves: 0 return at 69; 1 return at 69; 2 bound of X3_firstFree at 25; 3 at 40; 4 return at 39
        · rw [n_le (by omega) (by omega)] at c14
          omega
        · rw [n_eq0 (by omega)] at c19
          rw [if_pos c19] at h4
          exact h4
        · exact h2
        · rw [e] at c34
          exact absurd rfl c34
        · rw [n_eq0 (by omega)] at c19
          rw [if_neg c19] at h4
          exact h4
      | some f =>
        rw [e] at h4
        have hf := ffN_lt _ e
        have ef : oI (some f) = nI f := rfl
        refine b_iloadG (pc := 10) 6 dX3_inOrder_10 rfl ?_
        refine b_bipush (pc := 12) (nI 6) dX3_inOrder_12 (by decide) ?_
        refine b_icmp_ge (pc := 14) 67 dX3_inOrder_14 (by decide) (fun c14 => ?_) (fun c14 => ?_)
        refine b_iloadG (pc := 67) 5 dX3_inOrder_67 rfl ?_
        refine b_iret (pc := 69) rfl dX3_inOrder_69 ⟨Nat.le_of_ble_eq_true rfl, Nat.le_of_ble_eq_true rfl⟩ ?_
        rotate_left -- leaf 0: return at 69
        refine b_iloadG (pc := 17) 4 dX3_inOrder_17 rfl ?_
        refine b_if_eq (pc := 19) 67 dX3_inOrder_19 (by decide) (fun c19 => ?_) (fun c19 => ?_)
        refine b_iloadG (pc := 67) 5 dX3_inOrder_67 rfl ?_
        refine b_iret (pc := 69) rfl dX3_inOrder_69 ⟨Nat.le_of_ble_eq_true rfl, Nat.le_of_ble_eq_true rfl⟩ ?_
        rotate_left -- leaf 1: return at 69
        refine b_aloadN (pc := 22) 1 dX3_inOrder_22 rfl rfl ?_
        refine b_iloadG (pc := 23) 4 dX3_inOrder_23 rfl ?_
        refine call_X3_firstFree (pc := 25) k837 (by decide) ⟨Nat.le_of_ble_eq_true rfl, Nat.le_of_ble_eq_true rfl⟩ (Nat.le_of_ble_eq_true rfl) dX3_inOrder_25 ?_
        refine ⟨_, rfl, C, _, hB, rfl, ?_, ?_⟩
        rotate_left -- leaf 2: bound of X3_firstFree at 25
        refine siG7 (pc := 28) notL_i (by decide) dX3_inOrder_28 ?_
        refine b_iloadG (pc := 30) 7 dX3_inOrder_30 rfl ?_
        refine b_ldc (pc := 32) k827 dX3_inOrder_32 ?_
        refine b_icmp_ne (pc := 34) 40 dX3_inOrder_34 (by decide) (fun c34 => ?_) (fun c34 => ?_)
        refine b_iloadG (pc := 40) 6 dX3_inOrder_40 rfl ?_
        refine b_iloadN (pc := 42) 3 dX3_inOrder_42 rfl rfl ?_
        refine b_icmp_ne (pc := 43) 50 dX3_inOrder_43 (by decide) (fun c43 => ?_) (fun c43 => ?_)
        refine b_iloadG (pc := 50) 4 dX3_inOrder_50 rfl ?_
        refine b_iconst (pc := 52) (nI 1) dX3_inOrder_52 (by decide) ?_
        refine b_iloadG (pc := 53) 7 dX3_inOrder_53 rfl ?_
        refine b_ishl (pc := 55) dX3_inOrder_55 ?_
        refine b_iconst (pc := 56) (-1) dX3_inOrder_56 (by decide) ?_
        refine b_ixor (pc := 57) dX3_inOrder_57 ?_
        refine b_iand (pc := 58) dX3_inOrder_58 ?_
        refine siG4 (pc := 59) notL_i (by decide) dX3_inOrder_59 ?_
        refine inc6 (pc := 61) notL_i (by decide) dX3_inOrder_61 ?_
        refine b_goto (pc := 64) 10 dX3_inOrder_64 (by decide) ?_
        rotate_left -- leaf 3: at 10
        refine b_iloadG (pc := 46) 7 dX3_inOrder_46 rfl ?_
        refine siG5 (pc := 48) notL_i (by decide) dX3_inOrder_48 ?_
        refine b_iloadG (pc := 50) 4 dX3_inOrder_50 rfl ?_
        refine b_iconst (pc := 52) (nI 1) dX3_inOrder_52 (by decide) ?_
        refine b_iloadG (pc := 53) 7 dX3_inOrder_53 rfl ?_
        refine b_ishl (pc := 55) dX3_inOrder_55 ?_
        refine b_iconst (pc := 56) (-1) dX3_inOrder_56 (by decide) ?_
        refine b_ixor (pc := 57) dX3_inOrder_57 ?_
        refine b_iand (pc := 58) dX3_inOrder_58 ?_
        refine siG4 (pc := 59) notL_i (by decide) dX3_inOrder_59 ?_
        refine inc6 (pc := 61) notL_i (by decide) dX3_inOrder_61 ?_
        refine b_goto (pc := 64) 10 dX3_inOrder_64 (by decide) ?_
        rotate_left -- leaf 4: at 10
        refine b_ldc (pc := 37) k827 dX3_inOrder_37 ?_
        refine b_iret (pc := 39) rfl dX3_inOrder_39 ⟨Nat.le_of_ble_eq_true rfl, Nat.le_of_ble_eq_true rfl⟩ ?_
        rotate_left -- leaf 5: return at 39
        -- leaves: 0 return at 69; 1 return at 69; 2 bound of X3_firstFree at 25; 3 at 10; 4 at 10; 5 return at 39
        · rw [n_le (by omega) (by omega)] at c14
          omega
        · rw [n_eq0 (by omega)] at c19
          rw [if_pos c19] at h4
          exact h4
        · exact h2
        · rw [n_eq0 (by omega)] at c19
          rw [if_neg c19] at h4
          have h5 : Φ (some (vi (ordG C K n (p + 1) (nDel left (2 ^ f)) (if nI p = K then nI f else told)))) m := h4
          rw [if_neg c43] at h5
          rw [e, ef, n_pow (by omega), n_del, n_inc]
          exact ih (p + 1) _ _ _ (by omega) (nDel_lt h2) h5
        · rw [n_eq0 (by omega)] at c19
          rw [if_neg c19] at h4
          have h5 : Φ (some (vi (ordG C K n (p + 1) (nDel left (2 ^ f)) (if nI p = K then nI f else told)))) m := h4
          rw [if_pos c43] at h5
          rw [e, ef, n_pow (by omega), n_del, n_inc]
          exact ih (p + 1) _ _ _ (by omega) (nDel_lt h2) h5
        · rw [e] at c34
          exact absurd c34 (n_ne_none (show f < 2147483648 by omega))
  refine b_iloadN (pc := 0) 2 dX3_inOrder_0 rfl rfl ?_
  refine siG4 (pc := 1) notL_i (by decide) dX3_inOrder_1 ?_
  refine b_ldc (pc := 3) k827 dX3_inOrder_3 ?_
  refine siG5 (pc := 5) notL_i (by decide) dX3_inOrder_5 ?_
  refine b_iconst (pc := 7) (nI 0) dX3_inOrder_7 (by decide) ?_
  refine siG6 (pc := 8) notL_i (by decide) dX3_inOrder_8 ?_
  rotate_left -- leaf 0: at 10
  -- leaves: 0 at 10
  exact loop 6 0 F _ none (by omega) hF h
theorem call_X3_inOrder {E : ME} {Φ : Option AV → AM → Prop} {pc : Nat} {L : List (Option AV)} {st : List AV} {m : AM} {a : Nat × Nat} {idx : Nat} {x0 x1 x2 : AV} {i : Nat} (hl : Cond.methodLink E.2.1 idx yX3_inOrder ∈ TB) (hdep : 4 + 1 ≤ E.2.2.2.2.2.2) (hroom : a.1 + 0 ≤ E.2.2.2.2.1 ∧ a.2 + 0 ≤ E.2.2.2.2.2.1) (hsr : st.length ≤ 4) (hd : decode E.1 pc = .ok (.invokevirtual idx, 3)) (hsp : Sp_X3_inOrder [vr 3 i, x0, x1, x2] m (fun r m2 => B E Φ (pc + 3) L (r.toList ++ st) m2 a)) : B E Φ pc L (x2 :: x1 :: x0 :: vr 3 i :: st) m a := b_callV S_X3_inOrder [x0, x1, x2] (RX3, TX3, 4) rfl rfl (by decide) (Or.inl hl) k834 k835 k77 k836 (show _ ∧ _ ∧ Option.map (fun d => d.parameters.length) (parseMethodDescriptor yX3_inOrder.desc) = some 3 from by decide +kernel) ⟨hdep, by decide⟩ hroom hsr hd hsp
/-! talk -/
def tkX (x : Nat) : Nat := x * 16807 % 2147483647
def tkS (C : Nat → Nat) (seed : Nat) : Nat → Nat × (Nat × (Nat × Nat))
  | 0 => (seed, (C 1, (C 5, 0)))
  | k + 1 => (tkX (tkS C seed k).1, (behN C (C (40 + 2 * (tkX (tkS C seed k).1 % C 4))) (tkS C seed k).2.1 (tkS C seed k).2.2.1 (tkX (tkS C seed k).1 % (2 * C 0)), ((tkS C seed k).2.2.1 ||| 2 ^ (tkX (tkS C seed k).1 % (2 * C 0) / 2), (tkS C seed k).2.2.2 + C 2 * pc6 ((tkS C seed k).2.1 ^^^ behN C (C (40 + 2 * (tkX (tkS C seed k).1 % C 4))) (tkS C seed k).2.1 (tkS C seed k).2.2.1 (tkX (tkS C seed k).1 % (2 * C 0))))))
theorem tkX_lt (x : Nat) : tkX x < 2147483647 := Nat.mod_lt _ (by omega)
theorem tkS_ok {C : Nat → Nat} (hv : VC C) {seed : Nat} (hs : seed < 2147483647) : ∀ k, (tkS C seed k).1 < 2147483647 ∧ (tkS C seed k).2.1 < 64 ∧ (tkS C seed k).2.2.1 < 64 ∧ (tkS C seed k).2.2.2 ≤ 54 * k
  | 0 => ⟨hs, hv.c1, hv.c5, Nat.le_refl _⟩
  | k + 1 => by
    have ih := tkS_ok hv hs k
    have h0 := hv.1
    have hy : tkX (tkS C seed k).1 % (2 * C 0) < 2 * C 0 := Nat.mod_lt _ (by omega)
    have hb := behN_lt hv (q := C (40 + 2 * (tkX (tkS C seed k).1 % C 4))) (d := (tkS C seed k).2.2.1) ih.2.1 hy
    refine ⟨tkX_lt _, hb, or_lt64 ih.2.2.1 (pow_lt64 (by omega)), ?_⟩
    show (tkS C seed k).2.2.2 + C 2 * pc6 _ ≤ 54 * (k + 1)
    have h9 := pc6_le _ (Nat.xor_lt_two_pow (n := 6) ih.2.1 hb)
    have h8 := Nat.mul_le_mul hv.2.2.1.2 h9
    omega
theorem tk1 {x : Nat} (hx : x < 2147483648) : lN x * 16807 - lN x * 16807 / 2147483647 * 2147483647 = lN (tkX x) := by
  rw [show (16807 : Int64) = lN 16807 from rfl, show (2147483647 : Int64) = lN 2147483647 from rfl, lN_mul, pk_lRem (by omega) (by omega) (by omega)]
  rfl
theorem tk2 {y n : Nat} (hy : y < 2147483648) (h0 : 0 < n) (hn : n < 100) : (lN y - lN y / (nI n).toInt64 * (nI n).toInt64).toInt32 = nI (y % n) := by
  rw [nI_l (by omega), pk_lRem (by omega) h0 (by omega), lN_i]
theorem tk3 {n : Nat} (h0 : 0 < n) (hn : n < 100) : ¬ (nI n).toInt64 = 0 := by
  rw [nI_l (by omega), show (0 : Int64) = lN 0 from rfl, pk_lEQ (by omega) (by omega)]
  omega
abbrev e_X3_talk : ME := (cX3_talk, (RX3, (14, ((some .int), (0, (0, 5))))))
theorem dX3_talk_0 : decode cX3_talk 0 = .ok (.aload_n 1, 1) := by decide +kernel
theorem dX3_talk_1 : decode cX3_talk 1 = .ok (.invokevirtual 112, 3) := by decide +kernel
theorem dX3_talk_4 : decode cX3_talk 4 = .ok (.ifCond .eq 14, 3) := by decide +kernel
theorem dX3_talk_7 : decode cX3_talk 7 = .ok (.aload_n 1, 1) := by decide +kernel
theorem dX3_talk_8 : decode cX3_talk 8 = .ok (.getfield 24, 3) := by decide +kernel
theorem dX3_talk_11 : decode cX3_talk 11 = .ok (.getfield 116, 3) := by decide +kernel
theorem dX3_talk_14 : decode cX3_talk 14 = .ok (.iconst 1, 1) := by decide +kernel
theorem dX3_talk_15 : decode cX3_talk 15 = .ok (.if_icmp .ge 6, 3) := by decide +kernel
theorem dX3_talk_18 : decode cX3_talk 18 = .ok (.ldc 119, 2) := by decide +kernel
theorem dX3_talk_20 : decode cX3_talk 20 = .ok (.ireturn, 1) := by decide +kernel
theorem dX3_talk_21 : decode cX3_talk 21 = .ok (.iload_n 3, 1) := by decide +kernel
theorem dX3_talk_22 : decode cX3_talk 22 = .ok (.i2l, 1) := by decide +kernel
theorem dX3_talk_23 : decode cX3_talk 23 = .ok (.lstore 5, 2) := by decide +kernel
theorem dX3_talk_25 : decode cX3_talk 25 = .ok (.aload_n 1, 1) := by decide +kernel
theorem dX3_talk_26 : decode cX3_talk 26 = .ok (.getfield 36, 3) := by decide +kernel
theorem dX3_talk_29 : decode cX3_talk 29 = .ok (.getfield 40, 3) := by decide +kernel
theorem dX3_talk_32 : decode cX3_talk 32 = .ok (.istore 7, 2) := by decide +kernel
theorem dX3_talk_34 : decode cX3_talk 34 = .ok (.aload_n 1, 1) := by decide +kernel
theorem dX3_talk_35 : decode cX3_talk 35 = .ok (.getfield 36, 3) := by decide +kernel
theorem dX3_talk_38 : decode cX3_talk 38 = .ok (.getfield 45, 3) := by decide +kernel
theorem dX3_talk_41 : decode cX3_talk 41 = .ok (.istore 8, 2) := by decide +kernel
theorem dX3_talk_43 : decode cX3_talk 43 = .ok (.iconst 0, 1) := by decide +kernel
theorem dX3_talk_44 : decode cX3_talk 44 = .ok (.istore 9, 2) := by decide +kernel
theorem dX3_talk_46 : decode cX3_talk 46 = .ok (.iconst 0, 1) := by decide +kernel
theorem dX3_talk_47 : decode cX3_talk 47 = .ok (.istore 10, 2) := by decide +kernel
theorem dX3_talk_49 : decode cX3_talk 49 = .ok (.iload 10, 2) := by decide +kernel
theorem dX3_talk_51 : decode cX3_talk 51 = .ok (.iload_n 2, 1) := by decide +kernel
theorem dX3_talk_52 : decode cX3_talk 52 = .ok (.if_icmp .ge 100, 3) := by decide +kernel
theorem dX3_talk_55 : decode cX3_talk 55 = .ok (.lload 5, 2) := by decide +kernel
theorem dX3_talk_57 : decode cX3_talk 57 = .ok (.ldc2_w 120, 3) := by decide +kernel
theorem dX3_talk_60 : decode cX3_talk 60 = .ok (.lmul, 1) := by decide +kernel
theorem dX3_talk_61 : decode cX3_talk 61 = .ok (.ldc2_w 122, 3) := by decide +kernel
theorem dX3_talk_64 : decode cX3_talk 64 = .ok (.lrem, 1) := by decide +kernel
theorem dX3_talk_65 : decode cX3_talk 65 = .ok (.lstore 5, 2) := by decide +kernel
theorem dX3_talk_67 : decode cX3_talk 67 = .ok (.lload 5, 2) := by decide +kernel
theorem dX3_talk_69 : decode cX3_talk 69 = .ok (.aload_n 1, 1) := by decide +kernel
theorem dX3_talk_70 : decode cX3_talk 70 = .ok (.getfield 24, 3) := by decide +kernel
theorem dX3_talk_73 : decode cX3_talk 73 = .ok (.getfield 116, 3) := by decide +kernel
theorem dX3_talk_76 : decode cX3_talk 76 = .ok (.i2l, 1) := by decide +kernel
theorem dX3_talk_77 : decode cX3_talk 77 = .ok (.lrem, 1) := by decide +kernel
theorem dX3_talk_78 : decode cX3_talk 78 = .ok (.l2i, 1) := by decide +kernel
theorem dX3_talk_79 : decode cX3_talk 79 = .ok (.istore 11, 2) := by decide +kernel
theorem dX3_talk_81 : decode cX3_talk 81 = .ok (.lload 5, 2) := by decide +kernel
theorem dX3_talk_83 : decode cX3_talk 83 = .ok (.iconst 2, 1) := by decide +kernel
theorem dX3_talk_84 : decode cX3_talk 84 = .ok (.aload_n 1, 1) := by decide +kernel
theorem dX3_talk_85 : decode cX3_talk 85 = .ok (.getfield 24, 3) := by decide +kernel
theorem dX3_talk_88 : decode cX3_talk 88 = .ok (.getfield 30, 3) := by decide +kernel
theorem dX3_talk_91 : decode cX3_talk 91 = .ok (.imul, 1) := by decide +kernel
theorem dX3_talk_92 : decode cX3_talk 92 = .ok (.i2l, 1) := by decide +kernel
theorem dX3_talk_93 : decode cX3_talk 93 = .ok (.lrem, 1) := by decide +kernel
theorem dX3_talk_94 : decode cX3_talk 94 = .ok (.l2i, 1) := by decide +kernel
theorem dX3_talk_95 : decode cX3_talk 95 = .ok (.istore 12, 2) := by decide +kernel
theorem dX3_talk_97 : decode cX3_talk 97 = .ok (.aload_n 1, 1) := by decide +kernel
theorem dX3_talk_98 : decode cX3_talk 98 = .ok (.aload_n 1, 1) := by decide +kernel
theorem dX3_talk_99 : decode cX3_talk 99 = .ok (.getfield 24, 3) := by decide +kernel
theorem dX3_talk_102 : decode cX3_talk 102 = .ok (.getfield 109, 3) := by decide +kernel
theorem dX3_talk_105 : decode cX3_talk 105 = .ok (.iload 11, 2) := by decide +kernel
theorem dX3_talk_107 : decode cX3_talk 107 = .ok (.iaload, 1) := by decide +kernel
theorem dX3_talk_108 : decode cX3_talk 108 = .ok (.iload 12, 2) := by decide +kernel
theorem dX3_talk_110 : decode cX3_talk 110 = .ok (.iload 7, 2) := by decide +kernel
theorem dX3_talk_112 : decode cX3_talk 112 = .ok (.iload 8, 2) := by decide +kernel
theorem dX3_talk_114 : decode cX3_talk 114 = .ok (.invokevirtual 90, 3) := by decide +kernel
theorem dX3_talk_117 : decode cX3_talk 117 = .ok (.istore 13, 2) := by decide +kernel
theorem dX3_talk_119 : decode cX3_talk 119 = .ok (.iload 9, 2) := by decide +kernel
theorem dX3_talk_121 : decode cX3_talk 121 = .ok (.aload_n 1, 1) := by decide +kernel
theorem dX3_talk_122 : decode cX3_talk 122 = .ok (.iload 7, 2) := by decide +kernel
theorem dX3_talk_124 : decode cX3_talk 124 = .ok (.iload 13, 2) := by decide +kernel
theorem dX3_talk_126 : decode cX3_talk 126 = .ok (.invokevirtual 124, 3) := by decide +kernel
theorem dX3_talk_129 : decode cX3_talk 129 = .ok (.iadd, 1) := by decide +kernel
theorem dX3_talk_130 : decode cX3_talk 130 = .ok (.istore 9, 2) := by decide +kernel
theorem dX3_talk_132 : decode cX3_talk 132 = .ok (.iload 8, 2) := by decide +kernel
theorem dX3_talk_134 : decode cX3_talk 134 = .ok (.iload 12, 2) := by decide +kernel
theorem dX3_talk_136 : decode cX3_talk 136 = .ok (.invokestatic 83, 3) := by decide +kernel
theorem dX3_talk_139 : decode cX3_talk 139 = .ok (.ior, 1) := by decide +kernel
theorem dX3_talk_140 : decode cX3_talk 140 = .ok (.istore 8, 2) := by decide +kernel
theorem dX3_talk_142 : decode cX3_talk 142 = .ok (.iload 13, 2) := by decide +kernel
theorem dX3_talk_144 : decode cX3_talk 144 = .ok (.istore 7, 2) := by decide +kernel
theorem dX3_talk_146 : decode cX3_talk 146 = .ok (.iinc 10 1, 3) := by decide +kernel
theorem dX3_talk_149 : decode cX3_talk 149 = .ok (.goto (-100), 3) := by decide +kernel
theorem dX3_talk_152 : decode cX3_talk 152 = .ok (.iload 4, 2) := by decide +kernel
theorem dX3_talk_154 : decode cX3_talk 154 = .ok (.ifCond .ne 8, 3) := by decide +kernel
theorem dX3_talk_157 : decode cX3_talk 157 = .ok (.iload 7, 2) := by decide +kernel
theorem dX3_talk_159 : decode cX3_talk 159 = .ok (.goto 5, 3) := by decide +kernel
theorem dX3_talk_162 : decode cX3_talk 162 = .ok (.iload 9, 2) := by decide +kernel
theorem dX3_talk_164 : decode cX3_talk 164 = .ok (.ireturn, 1) := by decide +kernel
def Sp_X3_talk (av : List AV) (m : AM) (Φ : Option AV → AM → Prop) : Prop := ∃ x y z, av = [vr 3 103, vr 2 20, vi x, vi y, vi z] ∧ ∃ C n s w, BR m C ∧ x = nI n ∧ n ≤ 60 ∧ y = nI s ∧ s ≤ 999999 ∧ z = nI w ∧ w ≤ 1 ∧ ∀ m2, CU C m m2 → Φ (some (vi (nI (if w = 0 then (tkS C s n).2.1 else (tkS C s n).2.2.2)))) m2
set_option maxRecDepth 20000 in
set_option maxHeartbeats 4000000 in
theorem S_X3_talk : Snd yX3_talk e_X3_talk Sp_X3_talk := by
  refine Snd.of (by decide +kernel) rfl ?_ ?_
  · rintro av m Φ ⟨x, y, z, rfl, _⟩; exact Nat.le_of_ble_eq_true rfl
  rintro av m Φ ⟨x, y, z, rfl, C, n, s, w, hB0, rfl, hn, rfl, hs, rfl, hw, h⟩ hav hty
  show B e_X3_talk Φ 0 [some (vr 3 103), some (vr 2 20), some (vi (nI n)), some (vi (nI s)), some (vi (nI w)), none, none, none, none, none, none, none, none, none] [] m (0, 0)
  have hv := hB0.1
  have h06 := hv.1
  have h45 := hv.2.2.2.2.1
  have loop : ∀ j k m2 o1 o2 o3, n + 1 ≤ k + j → k ≤ n → CU C m m2 → B e_X3_talk Φ 49 [some (vr 3 103), some (vr 2 20), some (vi (nI n)), some (vi (nI s)), some (vi (nI w)), some (vl (lN (tkS C s k).1)), none, some (vi (nI (tkS C s k).2.1)), some (vi (nI (tkS C s k).2.2.1)), some (vi (nI (tkS C s k).2.2.2)), some (vi (nI k)), o1, o2, o3] [] m2 (0, 0) := by
    intro j
    induction j with
    | zero => intro k m2 o1 o2 o3 h1 h2; omega
    | succ j ih =>
      intro k m2 o1 o2 o3 h1 h2 hu
      have hB := hB0.cu hu
      have ok := tkS_ok hv (seed := s) (by omega) k
      have ok2 := tkS_ok hv (seed := s) (by omega) (k + 1)
      have hx := tkX_lt (tkS C s k).1
      have hp : tkX (tkS C s k).1 % C 4 < C 4 := Nat.mod_lt _ (by omega)
      have hy : tkX (tkS C s k).1 % (2 * C 0) < 2 * C 0 := Nat.mod_lt _ (by omega)
      have hq := (hv.2.2.2.2.2.2.2.2.2 _ hp).1
      have mid : k < n → ∀ o3, B e_X3_talk Φ 97 [some (vr 3 103), some (vr 2 20), some (vi (nI n)), some (vi (nI s)), some (vi (nI w)), some (vl (lN (tkX (tkS C s k).1))), none, some (vi (nI (tkS C s k).2.1)), some (vi (nI (tkS C s k).2.2.1)), some (vi (nI (tkS C s k).2.2.2)), some (vi (nI k)), some (vi (nI (tkX (tkS C s k).1 % C 4))), some (vi (nI (tkX (tkS C s k).1 % (2 * C 0)))), o3] [] m2 (0, 0) := by
        intro hk o3
        refine b_aloadN (pc := 97) 1 dX3_talk_97 rfl rfl ?_
        refine b_aloadN (pc := 98) 1 dX3_talk_98 rfl rfl ?_
        refine gf2_0 (pc := 99) 21 rfl k267 dX3_talk_99 ?_
        refine gf5_3 (pc := 102) 25 rfl k140 dX3_talk_102 ?_
        refine b_iloadG (pc := 105) 11 dX3_talk_105 rfl ?_
        refine b_iald (pc := 107) (by decide) ?_ dX3_talk_107 ?_
        rotate_left -- leaf 0: index at 107
        refine b_iloadG (pc := 108) 12 dX3_talk_108 rfl ?_
        refine b_iloadG (pc := 110) 7 dX3_talk_110 rfl ?_
        refine b_iloadG (pc := 112) 8 dX3_talk_112 rfl ?_
        refine call_X2_soBehind (pc := 114) k917 (by decide) ⟨Nat.le_of_ble_eq_true rfl, Nat.le_of_ble_eq_true rfl⟩ (Nat.le_of_ble_eq_true rfl) dX3_talk_114 ?_
        refine ⟨_, _, _, _, rfl, C, C (40 + 2 * (tkX (tkS C s k).1 % C 4)), _, _, _, hB, ?_, rfl, rfl, rfl, ?_, ?_, ?_, ?_, fun m114 h114 => ?_⟩
        rotate_left -- leaf 1: kd of X2_soBehind at 114
        rotate_left -- leaf 2: kind of X2_soBehind at 114
        rotate_left -- leaf 3: saying of X2_soBehind at 114
        rotate_left -- leaf 4: so of X2_soBehind at 114
        rotate_left -- leaf 5: said of X2_soBehind at 114
        refine siG13 (pc := 117) notL_i (by decide) dX3_talk_117 ?_
        refine b_iloadG (pc := 119) 9 dX3_talk_119 rfl ?_
        refine b_aloadN (pc := 121) 1 dX3_talk_121 rfl rfl ?_
        refine b_iloadG (pc := 122) 7 dX3_talk_122 rfl ?_
        refine b_iloadG (pc := 124) 13 dX3_talk_124 rfl ?_
        refine call_X2_price (pc := 126) k955 (by decide) ⟨Nat.le_of_ble_eq_true rfl, Nat.le_of_ble_eq_true rfl⟩ (Nat.le_of_ble_eq_true rfl) dX3_talk_126 ?_
        refine ⟨_, _, rfl, C 2, _, _, ?_, rfl, rfl, ?_, ?_, ?_⟩
        rotate_left -- leaf 6: price of X2_price at 126
        rotate_left -- leaf 7: before of X2_price at 126
        rotate_left -- leaf 8: after of X2_price at 126
        refine b_iadd (pc := 129) dX3_talk_129 ?_
        refine siG9 (pc := 130) notL_i (by decide) dX3_talk_130 ?_
        refine b_iloadG (pc := 132) 8 dX3_talk_132 rfl ?_
        refine b_iloadG (pc := 134) 12 dX3_talk_134 rfl ?_
        refine call_X2_factOf (pc := 136) k893 (by decide) ⟨Nat.le_of_ble_eq_true rfl, Nat.le_of_ble_eq_true rfl⟩ (Nat.le_of_ble_eq_true rfl) dX3_talk_136 ?_
        refine ⟨_, rfl, _, rfl, ?_, ?_⟩
        rotate_left -- leaf 9: bound of X2_factOf at 136
        refine b_ior (pc := 139) dX3_talk_139 ?_
        refine siG8 (pc := 140) notL_i (by decide) dX3_talk_140 ?_
        refine b_iloadG (pc := 142) 13 dX3_talk_142 rfl ?_
        refine siG7 (pc := 144) notL_n (by decide) dX3_talk_144 ?_
        refine inc10 (pc := 146) notL_i (by decide) dX3_talk_146 ?_
        refine b_goto (pc := 149) 49 dX3_talk_149 (by decide) ?_
        rotate_left -- leaf 10: at 49
        -- leaves: 0 index at 107; 1 kd of X2_soBehind at 114; 2 kind of X2_soBehind at 114; 3 saying of X2_soBehind at 114; 4 so of X2_soBehind at 114; 5 said of X2_soBehind at 114; 6 price of X2_price at 126; 7 before of X2_price at 126; 8 after of X2_price at 126; 9 bound of X2_factOf at 136; 10 at 49
        · exact n_in (by omega) (by omega)
        · rw [n_cl (by omega)]; exact hB.2.1.2.2.2.2.2 _ hp
        · exact hq
        · exact hy
        · exact ok.2.1
        · exact ok.2.2.1
        · exact (hB.cu h114).2.1.2.1
        · exact ok.2.1
        · exact ok2.2.1
        · omega
        · rw [n_add, n_or, n_inc]
          exact ih (k + 1) m114 _ _ _ (by omega) (by omega) (hu.tr h114)
      refine b_iloadG (pc := 49) 10 dX3_talk_49 rfl ?_
      refine b_iloadN (pc := 51) 2 dX3_talk_51 rfl rfl ?_
      refine b_icmp_ge (pc := 52) 152 dX3_talk_52 (by decide) (fun c52 => ?_) (fun c52 => ?_)
      refine b_iloadG (pc := 152) 4 dX3_talk_152 rfl ?_
      refine b_if_ne (pc := 154) 162 dX3_talk_154 (by decide) (fun c154 => ?_) (fun c154 => ?_)
      refine b_iloadG (pc := 162) 9 dX3_talk_162 rfl ?_
      refine b_iret (pc := 164) rfl dX3_talk_164 ⟨Nat.le_of_ble_eq_true rfl, Nat.le_of_ble_eq_true rfl⟩ ?_
      rotate_left -- leaf 0: return at 164
      refine b_iloadG (pc := 157) 7 dX3_talk_157 rfl ?_
      refine b_goto (pc := 159) 164 dX3_talk_159 (by decide) ?_
      refine b_iret (pc := 164) rfl dX3_talk_164 ⟨Nat.le_of_ble_eq_true rfl, Nat.le_of_ble_eq_true rfl⟩ ?_
      rotate_left -- leaf 1: return at 164
      refine b_lloadG (pc := 55) 5 dX3_talk_55 rfl ?_
      refine b_ldc2 (pc := 57) k953 dX3_talk_57 ?_
      refine b_lmul (pc := 60) dX3_talk_60 ?_
      refine b_ldc2 (pc := 61) k954 dX3_talk_61 ?_
      refine b_lrem (pc := 64) dX3_talk_64 ?_ ?_
      rotate_left -- leaf 2: divisor at 64
      refine slG5 (pc := 65) notL_i (by decide) dX3_talk_65 ?_
      refine b_lloadG (pc := 67) 5 dX3_talk_67 rfl ?_
      refine b_aloadN (pc := 69) 1 dX3_talk_69 rfl rfl ?_
      refine gf2_0 (pc := 70) 21 rfl k267 dX3_talk_70 ?_
      refine gf5_8 (pc := 73) k163 dX3_talk_73 ?_
      refine b_i2l (pc := 76) dX3_talk_76 ?_
      refine b_lrem (pc := 77) dX3_talk_77 ?_ ?_
      rotate_left -- leaf 3: divisor at 77
      refine b_l2i (pc := 78) dX3_talk_78 ?_
      refine siG11 (pc := 79) notL_i (by decide) dX3_talk_79 ?_
      refine b_lloadG (pc := 81) 5 dX3_talk_81 rfl ?_
      refine b_iconst (pc := 83) (nI 2) dX3_talk_83 (by decide) ?_
      refine b_aloadN (pc := 84) 1 dX3_talk_84 rfl rfl ?_
      refine gf2_0 (pc := 85) 21 rfl k267 dX3_talk_85 ?_
      refine gf5_4 (pc := 88) k144 dX3_talk_88 ?_
      refine b_imul (pc := 91) dX3_talk_91 ?_
      refine b_i2l (pc := 92) dX3_talk_92 ?_
      refine b_lrem (pc := 93) dX3_talk_93 ?_ ?_
      rotate_left -- leaf 4: divisor at 93
      refine b_l2i (pc := 94) dX3_talk_94 ?_
      refine siG12 (pc := 95) notL_i (by decide) dX3_talk_95 ?_
      rotate_left -- leaf 5: at 97
      -- leaves: 0 return at 164; 1 return at 164; 2 divisor at 64; 3 divisor at 77; 4 divisor at 93; 5 at 97
      · rw [n_le (by omega) (by omega)] at c52
        rw [n_eq0 (by omega)] at c154
        have e : k = n := by omega
        have h3 := h m2 hu
        rw [if_neg c154] at h3
        rw [e]
        exact h3
      · rw [n_le (by omega) (by omega)] at c52
        rw [n_eq0 (by omega)] at c154
        have e : k = n := by omega
        have h3 := h m2 hu
        rw [if_pos c154] at h3
        rw [e]
        exact h3
      · decide
      · rw [hB.2.1.2.2.2.1]; exact tk3 (by omega) (by omega)
      · rw [hB.2.1.1, n_mul]; exact tk3 (by omega) (by omega)
      · rw [n_le (by omega) (by omega)] at c52
        rw [hB.2.1.2.2.2.1, hB.2.1.1, n_mul, tk1 (by omega), tk2 (by omega) (by omega) (by omega), tk2 (by omega) (by omega) (by omega)]
        exact mid (by omega) _
  refine b_aloadN (pc := 0) 1 dX3_talk_0 rfl rfl ?_
  refine call_X2_isOpen (pc := 1) k951 (by decide) ⟨Nat.le_of_ble_eq_true rfl, Nat.le_of_ble_eq_true rfl⟩ (Nat.le_of_ble_eq_true rfl) dX3_talk_1 ?_
  refine ⟨rfl, C 0, hB0.2.1.1, hv.1.2, ?_⟩
  refine b_if_eq (pc := 4) 18 dX3_talk_4 (by decide) (fun c4 => ?_) (fun c4 => ?_)
  refine b_ldc (pc := 18) k952 dX3_talk_18 ?_
  refine b_iret (pc := 20) rfl dX3_talk_20 ⟨Nat.le_of_ble_eq_true rfl, Nat.le_of_ble_eq_true rfl⟩ ?_
  rotate_left -- leaf 0: return at 20
  refine b_aloadN (pc := 7) 1 dX3_talk_7 rfl rfl ?_
  refine gf2_0 (pc := 8) 21 rfl k267 dX3_talk_8 ?_
  refine gf5_8 (pc := 11) k163 dX3_talk_11 ?_
  refine b_iconst (pc := 14) (nI 1) dX3_talk_14 (by decide) ?_
  refine b_icmp_ge (pc := 15) 21 dX3_talk_15 (by decide) (fun c15 => ?_) (fun c15 => ?_)
  refine b_iloadN (pc := 21) 3 dX3_talk_21 rfl rfl ?_
  refine b_i2l (pc := 22) dX3_talk_22 ?_
  refine slG5 (pc := 23) notL_i (by decide) dX3_talk_23 ?_
  refine b_aloadN (pc := 25) 1 dX3_talk_25 rfl rfl ?_
  refine gf2_1 (pc := 26) 26 rfl k273 dX3_talk_26 ?_
  refine gf8_1 (pc := 29) k233 dX3_talk_29 ?_
  refine siG7 (pc := 32) notL_n (by decide) dX3_talk_32 ?_
  refine b_aloadN (pc := 34) 1 dX3_talk_34 rfl rfl ?_
  refine gf2_1 (pc := 35) 26 rfl k273 dX3_talk_35 ?_
  refine gf8_2 (pc := 38) k238 dX3_talk_38 ?_
  refine siG8 (pc := 41) notL_i (by decide) dX3_talk_41 ?_
  refine b_iconst (pc := 43) (nI 0) dX3_talk_43 (by decide) ?_
  refine siG9 (pc := 44) notL_i (by decide) dX3_talk_44 ?_
  refine b_iconst (pc := 46) (nI 0) dX3_talk_46 (by decide) ?_
  refine siG10 (pc := 47) notL_i (by decide) dX3_talk_47 ?_
  rotate_left -- leaf 1: at 49
  refine b_ldc (pc := 18) k952 dX3_talk_18 ?_
  refine b_iret (pc := 20) rfl dX3_talk_20 ⟨Nat.le_of_ble_eq_true rfl, Nat.le_of_ble_eq_true rfl⟩ ?_
  rotate_left -- leaf 2: return at 20
  -- leaves: 0 return at 20; 1 at 49; 2 return at 20
  · have := zT c4
    omega
  · rw [hB0.2.2.1.1, hB0.2.2.1.2.1, nI_l (by omega)]
    exact loop (n + 1) 0 m _ _ _ (by omega) (by omega) (CU.rf C m)
  · rw [hB0.2.1.2.2.2.1, n_le (by omega) (by omega)] at c15
    omega
theorem call_X3_talk {E : ME} {Φ : Option AV → AM → Prop} {pc : Nat} {L : List (Option AV)} {st : List AV} {m : AM} {a : Nat × Nat} {idx : Nat} {x0 x1 x2 x3 : AV} {i : Nat} (hl : Cond.methodLink E.2.1 idx yX3_talk ∈ TB) (hdep : 5 + 1 ≤ E.2.2.2.2.2.2) (hroom : a.1 + 0 ≤ E.2.2.2.2.1 ∧ a.2 + 0 ≤ E.2.2.2.2.2.1) (hsr : st.length ≤ 4) (hd : decode E.1 pc = .ok (.invokevirtual idx, 3)) (hsp : Sp_X3_talk [vr 3 i, x0, x1, x2, x3] m (fun r m2 => B E Φ (pc + 3) L (r.toList ++ st) m2 a)) : B E Φ pc L (x3 :: x2 :: x1 :: x0 :: vr 3 i :: st) m a := b_callV S_X3_talk [x0, x1, x2, x3] (RX3, TX3, 4) rfl rfl (by decide) (Or.inl hl) k948 k949 k77 k950 (show _ ∧ _ ∧ Option.map (fun d => d.parameters.length) (parseMethodDescriptor yX3_talk.desc) = some 4 from by decide +kernel) ⟨hdep, by decide⟩ hroom hsr hd hsp
