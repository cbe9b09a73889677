/-! row, set, drop, count's rows -/
abbrev e_X6_present : ME := (cX6_present, (RX6, (3, ((some .int), (0, (0, 2))))))
theorem dX6_present_0 : decode cX6_present 0 = .ok (.iconst 0, 1) := by decide +kernel
theorem dX6_present_1 : decode cX6_present 1 = .ok (.istore_n 1, 1) := by decide +kernel
theorem dX6_present_2 : decode cX6_present 2 = .ok (.iconst 0, 1) := by decide +kernel
theorem dX6_present_3 : decode cX6_present 3 = .ok (.istore_n 2, 1) := by decide +kernel
theorem dX6_present_4 : decode cX6_present 4 = .ok (.iload_n 2, 1) := by decide +kernel
theorem dX6_present_5 : decode cX6_present 5 = .ok (.bipush 8, 2) := by decide +kernel
theorem dX6_present_7 : decode cX6_present 7 = .ok (.if_icmp .ge 25, 3) := by decide +kernel
theorem dX6_present_10 : decode cX6_present 10 = .ok (.iload_n 1, 1) := by decide +kernel
theorem dX6_present_11 : decode cX6_present 11 = .ok (.aload_n 0, 1) := by decide +kernel
theorem dX6_present_12 : decode cX6_present 12 = .ok (.iload_n 2, 1) := by decide +kernel
theorem dX6_present_13 : decode cX6_present 13 = .ok (.invokevirtual 29, 3) := by decide +kernel
theorem dX6_present_16 : decode cX6_present 16 = .ok (.ifCond .eq 7, 3) := by decide +kernel
theorem dX6_present_19 : decode cX6_present 19 = .ok (.iconst 0, 1) := by decide +kernel
theorem dX6_present_20 : decode cX6_present 20 = .ok (.goto 4, 3) := by decide +kernel
theorem dX6_present_23 : decode cX6_present 23 = .ok (.iconst 1, 1) := by decide +kernel
theorem dX6_present_24 : decode cX6_present 24 = .ok (.iadd, 1) := by decide +kernel
theorem dX6_present_25 : decode cX6_present 25 = .ok (.istore_n 1, 1) := by decide +kernel
theorem dX6_present_26 : decode cX6_present 26 = .ok (.iinc 2 1, 3) := by decide +kernel
theorem dX6_present_29 : decode cX6_present 29 = .ok (.goto (-25), 3) := by decide +kernel
theorem dX6_present_32 : decode cX6_present 32 = .ok (.iload_n 1, 1) := by decide +kernel
theorem dX6_present_33 : decode cX6_present 33 = .ok (.ireturn, 1) := by decide +kernel
def rowsN (La : Nat → Nat) : Nat → Nat
  | 0 => 0
  | r + 1 => rowsN La r + if La r = 0 then 0 else 1
theorem rowsN_le (La : Nat → Nat) : ∀ r, rowsN La r ≤ r
  | 0 => Nat.le_refl 0
  | r + 1 => by
    have := rowsN_le La r
    unfold rowsN
    split <;> omega
def Sp_X6_present (av : List AV) (m : AM) (Φ : Option AV → AM → Prop) : Prop := av = [vr 6 1] ∧ ∃ La Ma It, RowR m La Ma It ∧ Φ (some (vi (nI (rowsN La 8)))) m
set_option maxRecDepth 20000 in
set_option maxHeartbeats 4000000 in
theorem S_X6_present : Snd yX6_present e_X6_present Sp_X6_present := by
  refine Snd.of (by decide +kernel) rfl ?_ ?_
  · rintro av m Φ ⟨rfl, _⟩; exact Nat.le_of_ble_eq_true rfl
  rintro av m Φ ⟨rfl, La, Ma, It, hR, h⟩ hav hty
  show B e_X6_present Φ 0 [some (vr 6 1), none, none] [] m (0, 0)
  have loop : ∀ n r, 9 ≤ r + n → r ≤ 8 → B e_X6_present Φ 4 [some (vr 6 1), some (vi (nI (rowsN La r))), some (vi (nI r))] [] m (0, 0) := by
    intro n
    induction n with
    | zero => intro r h1 h2; omega
    | succ n ih =>
      intro r h1 h2
      have hle := rowsN_le La r
      refine b_iloadN (pc := 4) 2 dX6_present_4 rfl rfl ?_
      refine b_bipush (pc := 5) (nI 8) dX6_present_5 (by decide) ?_
      refine b_icmp_ge (pc := 7) 32 dX6_present_7 (by decide) (fun c7 => ?_) (fun c7 => ?_)
      refine b_iloadN (pc := 32) 1 dX6_present_32 rfl rfl ?_
      refine b_iret (pc := 33) rfl dX6_present_33 ⟨Nat.le_of_ble_eq_true rfl, Nat.le_of_ble_eq_true rfl⟩ ?_
      rotate_left -- leaf 0: return at 33
      refine b_iloadN (pc := 10) 1 dX6_present_10 rfl rfl ?_
      refine b_aloadN (pc := 11) 0 dX6_present_11 rfl rfl ?_
      refine b_iloadN (pc := 12) 2 dX6_present_12 rfl rfl ?_
      refine call_X6_isMissing (pc := 13) k472 (by decide) ⟨Nat.le_of_ble_eq_true rfl, Nat.le_of_ble_eq_true rfl⟩ (Nat.le_of_ble_eq_true rfl) dX6_present_13 ?_
      refine ⟨_, rfl, La, Ma, It, _, hR, rfl, ?_, ?_⟩
      rotate_left -- leaf 1: row of X6_isMissing at 13
      refine b_if_eq (pc := 16) 23 dX6_present_16 (by decide) (fun c16 => ?_) (fun c16 => ?_)
      refine b_iconst (pc := 23) (nI 1) dX6_present_23 (by decide) ?_
      refine b_iadd (pc := 24) dX6_present_24 ?_
      refine siN1 (pc := 25) rfl notL_r (by decide) dX6_present_25 ?_
      refine inc2 (pc := 26) notL_i (by decide) dX6_present_26 ?_
      refine b_goto (pc := 29) 4 dX6_present_29 (by decide) ?_
      rotate_left -- leaf 2: at 4
      refine b_iconst (pc := 19) (nI 0) dX6_present_19 (by decide) ?_
      refine b_goto (pc := 20) 24 dX6_present_20 (by decide) ?_
      refine b_iadd (pc := 24) dX6_present_24 ?_
      refine siN1 (pc := 25) rfl notL_r (by decide) dX6_present_25 ?_
      refine inc2 (pc := 26) notL_i (by decide) dX6_present_26 ?_
      refine b_goto (pc := 29) 4 dX6_present_29 (by decide) ?_
      rotate_left -- leaf 3: at 4
      -- leaves: 0 return at 33; 1 row of X6_isMissing at 13; 2 at 4; 3 at 4
      · rw [n_le (by omega) (by omega)] at c7
        rw [show r = 8 by omega]; exact h
      · rw [n_le (by omega) (by omega)] at c7
        omega
      · have w : ¬ La r = 0 := fun z => by rw [if_pos z] at c16; exact absurd c16 (by decide)
        have := ih (r + 1) (by omega)
        rw [n_le (by omega) (by omega)] at c7
        unfold rowsN at this
        rw [if_neg w] at this
        rw [n_add, n_inc]
        exact this (by omega)
      · have w : La r = 0 := by
          by_cases z : La r = 0
          · exact z
          · rw [if_neg z] at c16; exact absurd rfl c16
        have := ih (r + 1) (by omega)
        rw [n_le (by omega) (by omega)] at c7
        unfold rowsN at this
        rw [if_pos w] at this
        rw [n_add, n_inc]
        exact this (by omega)
  refine b_iconst (pc := 0) (nI 0) dX6_present_0 (by decide) ?_
  refine siN1 (pc := 1) rfl notL_r (by decide) dX6_present_1 ?_
  refine b_iconst (pc := 2) (nI 0) dX6_present_2 (by decide) ?_
  refine siN2 (pc := 3) rfl notL_i (by decide) dX6_present_3 ?_
  rotate_left -- leaf 0: at 4
  -- leaves: 0 at 4
  exact loop 9 0 (by omega) (by omega)
theorem call_X6_present {E : ME} {Φ : Option AV → AM → Prop} {pc : Nat} {L : List (Option AV)} {st : List AV} {m : AM} {a : Nat × Nat} {idx : Nat} {i : Nat} (hl : Cond.methodLink E.2.1 idx yX6_present ∈ TB) (hdep : 2 + 1 ≤ E.2.2.2.2.2.2) (hroom : a.1 + 0 ≤ E.2.2.2.2.1 ∧ a.2 + 0 ≤ E.2.2.2.2.2.1) (hsr : st.length ≤ 4) (hd : decode E.1 pc = .ok (.invokevirtual idx, 3)) (hsp : Sp_X6_present [vr 6 i] m (fun r m2 => B E Φ (pc + 3) L (r.toList ++ st) m2 a)) : B E Φ pc L (vr 6 i :: st) m a := b_callV S_X6_present [] (RX6, TX6, 3) rfl rfl (by decide) (Or.inl hl) k1029 k1030 k69 k1031 (show _ ∧ _ ∧ Option.map (fun d => d.parameters.length) (parseMethodDescriptor yX6_present.desc) = some 0 from by decide +kernel) ⟨hdep, by decide⟩ hroom hsr hd hsp
/-- what stays of rows where another cell is written -/
theorem RowR.fr {m m2 : AM} {La Ma : Nat → Nat} {It : Nat → Nat → Int32} (h : RowR m La Ma It) (hf : ∀ a, a ∈ rowL → m2.1 a = m.1 a) : RowR m2 La Ma It := fun r hr => by
  rw [hf 11 (by decide), hf 12 (by decide), hf (3 + r) (rowL_in r hr)]
  exact h r hr
abbrev e_X10_row : ME := (cX10_row, (RX10, (4, ((some .int), (0, (0, 8))))))
theorem dX10_row_0 : decode cX10_row 0 = .ok (.iload_n 1, 1) := by decide +kernel
theorem dX10_row_1 : decode cX10_row 1 = .ok (.invokestatic 65, 3) := by decide +kernel
theorem dX10_row_4 : decode cX10_row 4 = .ok (.ifCond .eq 18, 3) := by decide +kernel
theorem dX10_row_7 : decode cX10_row 7 = .ok (.iload_n 2, 1) := by decide +kernel
theorem dX10_row_8 : decode cX10_row 8 = .ok (.ifCond .lt 14, 3) := by decide +kernel
theorem dX10_row_11 : decode cX10_row 11 = .ok (.iload_n 2, 1) := by decide +kernel
theorem dX10_row_12 : decode cX10_row 12 = .ok (.iconst 2, 1) := by decide +kernel
theorem dX10_row_13 : decode cX10_row 13 = .ok (.if_icmp .gt 9, 3) := by decide +kernel
theorem dX10_row_16 : decode cX10_row 16 = .ok (.iload_n 3, 1) := by decide +kernel
theorem dX10_row_17 : decode cX10_row 17 = .ok (.bipush 40, 2) := by decide +kernel
theorem dX10_row_19 : decode cX10_row 19 = .ok (.if_icmp .le 6, 3) := by decide +kernel
theorem dX10_row_22 : decode cX10_row 22 = .ok (.ldc 69, 2) := by decide +kernel
theorem dX10_row_24 : decode cX10_row 24 = .ok (.ireturn, 1) := by decide +kernel
theorem dX10_row_25 : decode cX10_row 25 = .ok (.iload_n 3, 1) := by decide +kernel
theorem dX10_row_26 : decode cX10_row 26 = .ok (.ifCond .ge 9, 3) := by decide +kernel
theorem dX10_row_29 : decode cX10_row 29 = .ok (.aload_n 0, 1) := by decide +kernel
theorem dX10_row_30 : decode cX10_row 30 = .ok (.iconst 4, 1) := by decide +kernel
theorem dX10_row_31 : decode cX10_row 31 = .ok (.invokevirtual 70, 3) := by decide +kernel
theorem dX10_row_34 : decode cX10_row 34 = .ok (.ireturn, 1) := by decide +kernel
theorem dX10_row_35 : decode cX10_row 35 = .ok (.aload_n 0, 1) := by decide +kernel
theorem dX10_row_36 : decode cX10_row 36 = .ok (.getfield 10, 3) := by decide +kernel
theorem dX10_row_39 : decode cX10_row 39 = .ok (.iload_n 1, 1) := by decide +kernel
theorem dX10_row_40 : decode cX10_row 40 = .ok (.iload_n 2, 1) := by decide +kernel
theorem dX10_row_41 : decode cX10_row 41 = .ok (.iload_n 3, 1) := by decide +kernel
theorem dX10_row_42 : decode cX10_row 42 = .ok (.invokevirtual 74, 3) := by decide +kernel
theorem dX10_row_45 : decode cX10_row 45 = .ok (.aload_n 0, 1) := by decide +kernel
theorem dX10_row_46 : decode cX10_row 46 = .ok (.iload_n 3, 1) := by decide +kernel
theorem dX10_row_47 : decode cX10_row 47 = .ok (.invokevirtual 78, 3) := by decide +kernel
theorem dX10_row_50 : decode cX10_row 50 = .ok (.ireturn, 1) := by decide +kernel
def Sp_X10_row (av : List AV) (m : AM) (Φ : Option AV → AM → Prop) : Prop := ∃ x l n, av = [vr 10 0, vi x, vi l, vi n] ∧ ∃ La Ma It, RowR m La Ma It ∧ ((inB x 8 = false ∨ inB l 3 = false ∨ nI 40 < n) → Φ (some (vi (-1000001))) m) ∧ (inB x 8 = true → inB l 3 = true → n < 0 → ∀ m2, Fr (0 :: rowL) m m2 → RowR m2 La Ma It → m2.1 0 8 = nI 4 → Φ (some (vi (-1000010 - nI 4))) m2) ∧ (inB x 8 = true → inB l 3 = true → inB n 41 = true → ∀ m2, Fr (0 :: rowL) m m2 → RowR m2 (upC La x.toNatClampNeg (l.toNatClampNeg + 1)) (upC Ma x.toNatClampNeg n.toNatClampNeg) (layI It x.toNatClampNeg) → m2.1 0 8 = nI 0 → Φ (some (vi n)) m2)
set_option maxRecDepth 20000 in
set_option maxHeartbeats 4000000 in
theorem S_X10_row : Snd yX10_row e_X10_row Sp_X10_row := by
  refine Snd.of (by decide +kernel) rfl ?_ ?_
  · rintro av m Φ ⟨x, l, n, rfl, _⟩; exact Nat.le_of_ble_eq_true rfl
  rintro av m Φ ⟨x, l, n, rfl, La, Ma, It, hR, h1, h2, h3⟩ hav hty
  show B e_X10_row Φ 0 [some (vr 10 0), some (vi x), some (vi l), some (vi n)] [] m (0, 0)
  have lane : ¬ l < 0 → ¬ nI 2 < l → inB l 3 = true := fun a b => by
    obtain ⟨j, hj, rfl⟩ := nI_of a
    rw [n_lt (by omega) (by omega)] at b
    exact (inB_iff (by omega)).mpr ⟨j, by omega, rfl⟩
  have laneF : ¬ l < 0 → nI 2 < l → inB l 3 = false := fun a b => by
    obtain ⟨j, hj, rfl⟩ := nI_of a
    rw [n_lt (by omega) (by omega)] at b
    refine inB_f2 ?_
    rw [n_le (by omega) (by omega)]; omega
  have len : n ≤ nI 40 → 0 ≤ n → inB n 41 = true := fun a b => by
    have b2 : ¬ n < 0 := fun c => by
      rw [i_lt, i_0] at c
      rw [i_le, i_0] at b
      omega
    obtain ⟨j, hj, rfl⟩ := nI_of b2
    rw [n_le (by omega) (by omega)] at a
    exact (inB_iff (by omega)).mpr ⟨j, by omega, rfl⟩
  have cl : ∀ {z : Int32} {k : Nat}, inB z k = true → k < 1000 → z = nI z.toNatClampNeg ∧ z.toNatClampNeg < k := fun {z k} a b => by
    obtain ⟨j, hj, rfl⟩ := (inB_iff (by omega)).mp a
    rw [n_cl (by omega)]
    exact ⟨rfl, hj⟩
  have r0 : ∀ {m2 : AM} {L2 M2 : Nat → Nat} {I2 : Nat → Nat → Int32} {y : Int32}, RowR m2 L2 M2 I2 → RowR (mset m2 0 8 y) L2 M2 I2 := fun {m2 L2 M2 I2 y} q => q.fr (fun a ha => mset_ne _ _ _ (fun e => by rw [e] at ha; exact absurd ha (by decide)))
  refine b_iloadN (pc := 0) 1 dX10_row_0 rfl rfl ?_
  refine call_X10_isRow (pc := 1) k447 (by decide) ⟨Nat.le_of_ble_eq_true rfl, Nat.le_of_ble_eq_true rfl⟩ (Nat.le_of_ble_eq_true rfl) dX10_row_1 ?_
  refine ⟨_, rfl, ?_⟩
  refine b_if_eq (pc := 4) 22 dX10_row_4 (by decide) (fun c4 => ?_) (fun c4 => ?_)
  refine b_ldc (pc := 22) k450 dX10_row_22 ?_
  refine b_iret (pc := 24) rfl dX10_row_24 ⟨Nat.le_of_ble_eq_true rfl, Nat.le_of_ble_eq_true rfl⟩ ?_
  rotate_left -- leaf 0: return at 24
  refine b_iloadN (pc := 7) 2 dX10_row_7 rfl rfl ?_
  refine b_if_lt (pc := 8) 22 dX10_row_8 (by decide) (fun c8 => ?_) (fun c8 => ?_)
  refine b_ldc (pc := 22) k450 dX10_row_22 ?_
  refine b_iret (pc := 24) rfl dX10_row_24 ⟨Nat.le_of_ble_eq_true rfl, Nat.le_of_ble_eq_true rfl⟩ ?_
  rotate_left -- leaf 1: return at 24
  refine b_iloadN (pc := 11) 2 dX10_row_11 rfl rfl ?_
  refine b_iconst (pc := 12) (nI 2) dX10_row_12 (by decide) ?_
  refine b_icmp_gt (pc := 13) 22 dX10_row_13 (by decide) (fun c13 => ?_) (fun c13 => ?_)
  refine b_ldc (pc := 22) k450 dX10_row_22 ?_
  refine b_iret (pc := 24) rfl dX10_row_24 ⟨Nat.le_of_ble_eq_true rfl, Nat.le_of_ble_eq_true rfl⟩ ?_
  rotate_left -- leaf 2: return at 24
  refine b_iloadN (pc := 16) 3 dX10_row_16 rfl rfl ?_
  refine b_bipush (pc := 17) (nI 40) dX10_row_17 (by decide) ?_
  refine b_icmp_le (pc := 19) 25 dX10_row_19 (by decide) (fun c19 => ?_) (fun c19 => ?_)
  refine b_iloadN (pc := 25) 3 dX10_row_25 rfl rfl ?_
  refine b_if_ge (pc := 26) 35 dX10_row_26 (by decide) (fun c26 => ?_) (fun c26 => ?_)
  refine b_aloadN (pc := 35) 0 dX10_row_35 rfl rfl ?_
  refine gf10_0 (pc := 36) 1 rfl k415 dX10_row_36 ?_
  refine b_iloadN (pc := 39) 1 dX10_row_39 rfl rfl ?_
  refine b_iloadN (pc := 40) 2 dX10_row_40 rfl rfl ?_
  refine b_iloadN (pc := 41) 3 dX10_row_41 rfl rfl ?_
  refine call_X6_lay (pc := 42) k456 (by decide) ⟨Nat.le_of_ble_eq_true rfl, Nat.le_of_ble_eq_true rfl⟩ (Nat.le_of_ble_eq_true rfl) dX10_row_42 ?_
  refine ⟨_, _, _, rfl, La, Ma, It, x.toNatClampNeg, l.toNatClampNeg, n.toNatClampNeg, hR, ?_, ?_, ?_, ?_, ?_, ?_, fun m42 fr42 ro42 => ?_⟩
  rotate_left -- leaf 3: x of X6_lay at 42
  rotate_left -- leaf 4: row of X6_lay at 42
  rotate_left -- leaf 5: l of X6_lay at 42
  rotate_left -- leaf 6: lane of X6_lay at 42
  rotate_left -- leaf 7: n of X6_lay at 42
  rotate_left -- leaf 8: len of X6_lay at 42
  refine b_aloadN (pc := 45) 0 dX10_row_45 rfl rfl ?_
  refine b_iloadN (pc := 46) 3 dX10_row_46 rfl rfl ?_
  refine call_X10_fine (pc := 47) k460 (by decide) ⟨Nat.le_of_ble_eq_true rfl, Nat.le_of_ble_eq_true rfl⟩ (Nat.le_of_ble_eq_true rfl) dX10_row_47 ?_
  refine ⟨_, rfl, ?_⟩
  refine b_iret (pc := 50) rfl dX10_row_50 ⟨Nat.le_of_ble_eq_true rfl, Nat.le_of_ble_eq_true rfl⟩ ?_
  rotate_left -- leaf 9: return at 50
  refine b_aloadN (pc := 29) 0 dX10_row_29 rfl rfl ?_
  refine b_iconst (pc := 30) (nI 4) dX10_row_30 (by decide) ?_
  refine call_X10_found (pc := 31) k451 (by decide) ⟨Nat.le_of_ble_eq_true rfl, Nat.le_of_ble_eq_true rfl⟩ (Nat.le_of_ble_eq_true rfl) dX10_row_31 ?_
  refine ⟨_, rfl, ?_⟩
  refine b_iret (pc := 34) rfl dX10_row_34 ⟨Nat.le_of_ble_eq_true rfl, Nat.le_of_ble_eq_true rfl⟩ ?_
  rotate_left -- leaf 10: return at 34
  refine b_ldc (pc := 22) k450 dX10_row_22 ?_
  refine b_iret (pc := 24) rfl dX10_row_24 ⟨Nat.le_of_ble_eq_true rfl, Nat.le_of_ble_eq_true rfl⟩ ?_
  rotate_left -- leaf 11: return at 24
  -- leaves: 0 return at 24; 1 return at 24; 2 return at 24; 3 x of X6_lay at 42; 4 row of X6_lay at 42; 5 l of X6_lay at 42; 6 lane of X6_lay at 42; 7 n of X6_lay at 42; 8 len of X6_lay at 42; 9 return at 50; 10 return at 34; 11 return at 24
  · exact h1 (Or.inl (bF c4))
  · exact h1 (Or.inr (Or.inl (inB_f1 c8)))
  · exact h1 (Or.inr (Or.inl (laneF c8 c13)))
  · exact (cl (bT c4) (by omega)).1
  · exact (cl (bT c4) (by omega)).2
  · exact (cl (lane c8 c13) (by omega)).1
  · have := (cl (lane c8 c13) (by omega)).2
    omega
  · exact (cl (len c19 c26) (by omega)).1
  · have := (cl (len c19 c26) (by omega)).2
    omega
  · exact h3 (bT c4) (lane c8 c13) (len c19 c26) _ ((fr42.mono (fun a ha => List.mem_cons_of_mem _ ha)).ms (by simp)) (r0 ro42) (by rw [mset_at, if_pos rfl])
  · refine h2 (bT c4) (lane c8 c13) ?_ _ ((Fr.rf _ m).ms (by simp)) (r0 hR) (by rw [mset_at, if_pos rfl])
    rw [i_le, i_0] at c26
    rw [i_lt, i_0]
    omega
  · refine h1 (Or.inr (Or.inr ?_))
    exact Int32.not_le.mp c19
theorem call_X10_row {E : ME} {Φ : Option AV → AM → Prop} {pc : Nat} {L : List (Option AV)} {st : List AV} {m : AM} {a : Nat × Nat} {idx : Nat} {x0 x1 x2 : AV} {i : Nat} (hl : Cond.methodLink E.2.1 idx yX10_row ∈ TB) (hdep : 8 + 1 ≤ E.2.2.2.2.2.2) (hroom : a.1 + 0 ≤ E.2.2.2.2.1 ∧ a.2 + 0 ≤ E.2.2.2.2.2.1) (hsr : st.length ≤ 4) (hd : decode E.1 pc = .ok (.invokevirtual idx, 3)) (hsp : Sp_X10_row [vr 10 i, x0, x1, x2] m (fun r m2 => B E Φ (pc + 3) L (r.toList ++ st) m2 a)) : B E Φ pc L (x2 :: x1 :: x0 :: vr 10 i :: st) m a := b_callV S_X10_row [x0, x1, x2] (RX10, TX10, 9) rfl rfl (by decide) (Or.inl hl) k444 k445 k68 k446 (show _ ∧ _ ∧ Option.map (fun d => d.parameters.length) (parseMethodDescriptor yX10_row.desc) = some 3 from by decide +kernel) ⟨hdep, by decide⟩ hroom hsr hd hsp
abbrev e_X10_drop : ME := (cX10_drop, (RX10, (2, ((some .int), (0, (0, 8))))))
theorem dX10_drop_0 : decode cX10_drop 0 = .ok (.iload_n 1, 1) := by decide +kernel
theorem dX10_drop_1 : decode cX10_drop 1 = .ok (.invokestatic 65, 3) := by decide +kernel
theorem dX10_drop_4 : decode cX10_drop 4 = .ok (.ifCond .ne 6, 3) := by decide +kernel
theorem dX10_drop_7 : decode cX10_drop 7 = .ok (.ldc 69, 2) := by decide +kernel
theorem dX10_drop_9 : decode cX10_drop 9 = .ok (.ireturn, 1) := by decide +kernel
theorem dX10_drop_10 : decode cX10_drop 10 = .ok (.aload_n 0, 1) := by decide +kernel
theorem dX10_drop_11 : decode cX10_drop 11 = .ok (.getfield 10, 3) := by decide +kernel
theorem dX10_drop_14 : decode cX10_drop 14 = .ok (.iload_n 1, 1) := by decide +kernel
theorem dX10_drop_15 : decode cX10_drop 15 = .ok (.invokevirtual 88, 3) := by decide +kernel
theorem dX10_drop_18 : decode cX10_drop 18 = .ok (.ifCond .eq 9, 3) := by decide +kernel
theorem dX10_drop_21 : decode cX10_drop 21 = .ok (.aload_n 0, 1) := by decide +kernel
theorem dX10_drop_22 : decode cX10_drop 22 = .ok (.iconst 1, 1) := by decide +kernel
theorem dX10_drop_23 : decode cX10_drop 23 = .ok (.invokevirtual 70, 3) := by decide +kernel
theorem dX10_drop_26 : decode cX10_drop 26 = .ok (.ireturn, 1) := by decide +kernel
theorem dX10_drop_27 : decode cX10_drop 27 = .ok (.aload_n 0, 1) := by decide +kernel
theorem dX10_drop_28 : decode cX10_drop 28 = .ok (.aload_n 0, 1) := by decide +kernel
theorem dX10_drop_29 : decode cX10_drop 29 = .ok (.getfield 10, 3) := by decide +kernel
theorem dX10_drop_32 : decode cX10_drop 32 = .ok (.iload_n 1, 1) := by decide +kernel
theorem dX10_drop_33 : decode cX10_drop 33 = .ok (.invokevirtual 98, 3) := by decide +kernel
theorem dX10_drop_36 : decode cX10_drop 36 = .ok (.invokevirtual 78, 3) := by decide +kernel
theorem dX10_drop_39 : decode cX10_drop 39 = .ok (.ireturn, 1) := by decide +kernel
def Sp_X10_drop (av : List AV) (m : AM) (Φ : Option AV → AM → Prop) : Prop := ∃ x, av = [vr 10 0, vi x] ∧ ∃ La Ma It, RowR m La Ma It ∧ (inB x 8 = false → Φ (some (vi (-1000001))) m) ∧ (inB x 8 = true → La x.toNatClampNeg = 0 → ∀ m2, Fr (0 :: rowL) m m2 → RowR m2 La Ma It → m2.1 0 8 = nI 1 → Φ (some (vi (-1000010 - nI 1))) m2) ∧ (inB x 8 = true → 0 < La x.toNatClampNeg → ∀ m2, Fr (0 :: rowL) m m2 → RowR m2 (upC La x.toNatClampNeg 0) Ma It → m2.1 0 8 = nI 0 → Φ (some (vi (nI (Ma x.toNatClampNeg)))) m2)
set_option maxRecDepth 20000 in
set_option maxHeartbeats 4000000 in
theorem S_X10_drop : Snd yX10_drop e_X10_drop Sp_X10_drop := by
  refine Snd.of (by decide +kernel) rfl ?_ ?_
  · rintro av m Φ ⟨x, rfl, _⟩; exact Nat.le_of_ble_eq_true rfl
  rintro av m Φ ⟨x, rfl, La, Ma, It, hR, h1, h2, h3⟩ hav hty
  show B e_X10_drop Φ 0 [some (vr 10 0), some (vi x)] [] m (0, 0)
  have cl : ∀ {z : Int32} {k : Nat}, inB z k = true → k < 1000 → z = nI z.toNatClampNeg ∧ z.toNatClampNeg < k := fun {z k} a b => by
    obtain ⟨j, hj, rfl⟩ := (inB_iff (by omega)).mp a
    rw [n_cl (by omega)]
    exact ⟨rfl, hj⟩
  have r0 : ∀ {m2 : AM} {L2 M2 : Nat → Nat} {I2 : Nat → Nat → Int32} {y : Int32}, RowR m2 L2 M2 I2 → RowR (mset m2 0 8 y) L2 M2 I2 := fun {m2 L2 M2 I2 y} q => q.fr (fun a ha => mset_ne _ _ _ (fun e => by rw [e] at ha; exact absurd ha (by decide)))
  have mz : ∀ {k : Nat}, nI (if k = 0 then 1 else 0) = 0 → 0 < k := fun {k} z => by
    by_cases w : k = 0
    · rw [if_pos w] at z; exact absurd z (by decide)
    · omega
  have mn : ∀ {k : Nat}, ¬ nI (if k = 0 then 1 else 0) = 0 → k = 0 := fun {k} z => by
    by_cases w : k = 0
    · exact w
    · rw [if_neg w] at z; exact absurd rfl z
  refine b_iloadN (pc := 0) 1 dX10_drop_0 rfl rfl ?_
  refine call_X10_isRow (pc := 1) k447 (by decide) ⟨Nat.le_of_ble_eq_true rfl, Nat.le_of_ble_eq_true rfl⟩ (Nat.le_of_ble_eq_true rfl) dX10_drop_1 ?_
  refine ⟨_, rfl, ?_⟩
  refine b_if_ne (pc := 4) 10 dX10_drop_4 (by decide) (fun c4 => ?_) (fun c4 => ?_)
  refine b_aloadN (pc := 10) 0 dX10_drop_10 rfl rfl ?_
  refine gf10_0 (pc := 11) 1 rfl k415 dX10_drop_11 ?_
  refine b_iloadN (pc := 14) 1 dX10_drop_14 rfl rfl ?_
  refine call_X6_isMissing (pc := 15) k484 (by decide) ⟨Nat.le_of_ble_eq_true rfl, Nat.le_of_ble_eq_true rfl⟩ (Nat.le_of_ble_eq_true rfl) dX10_drop_15 ?_
  refine ⟨_, rfl, La, Ma, It, x.toNatClampNeg, hR, ?_, ?_, ?_⟩
  rotate_left -- leaf 0: x of X6_isMissing at 15
  rotate_left -- leaf 1: row of X6_isMissing at 15
  refine b_if_eq (pc := 18) 27 dX10_drop_18 (by decide) (fun c18 => ?_) (fun c18 => ?_)
  refine b_aloadN (pc := 27) 0 dX10_drop_27 rfl rfl ?_
  refine b_aloadN (pc := 28) 0 dX10_drop_28 rfl rfl ?_
  refine gf10_0 (pc := 29) 1 rfl k415 dX10_drop_29 ?_
  refine b_iloadN (pc := 32) 1 dX10_drop_32 rfl rfl ?_
  refine call_X6_remove (pc := 33) k500 (by decide) ⟨Nat.le_of_ble_eq_true rfl, Nat.le_of_ble_eq_true rfl⟩ (Nat.le_of_ble_eq_true rfl) dX10_drop_33 ?_
  refine ⟨_, rfl, La, Ma, It, x.toNatClampNeg, hR, ?_, ?_, ?_, fun m33 fr33 ro33 => ?_⟩
  rotate_left -- leaf 2: x of X6_remove at 33
  rotate_left -- leaf 3: row of X6_remove at 33
  rotate_left -- leaf 4: there of X6_remove at 33
  refine call_X10_fine (pc := 36) k460 (by decide) ⟨Nat.le_of_ble_eq_true rfl, Nat.le_of_ble_eq_true rfl⟩ (Nat.le_of_ble_eq_true rfl) dX10_drop_36 ?_
  refine ⟨_, rfl, ?_⟩
  refine b_iret (pc := 39) rfl dX10_drop_39 ⟨Nat.le_of_ble_eq_true rfl, Nat.le_of_ble_eq_true rfl⟩ ?_
  rotate_left -- leaf 5: return at 39
  refine b_aloadN (pc := 21) 0 dX10_drop_21 rfl rfl ?_
  refine b_iconst (pc := 22) (nI 1) dX10_drop_22 (by decide) ?_
  refine call_X10_found (pc := 23) k451 (by decide) ⟨Nat.le_of_ble_eq_true rfl, Nat.le_of_ble_eq_true rfl⟩ (Nat.le_of_ble_eq_true rfl) dX10_drop_23 ?_
  refine ⟨_, rfl, ?_⟩
  refine b_iret (pc := 26) rfl dX10_drop_26 ⟨Nat.le_of_ble_eq_true rfl, Nat.le_of_ble_eq_true rfl⟩ ?_
  rotate_left -- leaf 6: return at 26
  refine b_ldc (pc := 7) k450 dX10_drop_7 ?_
  refine b_iret (pc := 9) rfl dX10_drop_9 ⟨Nat.le_of_ble_eq_true rfl, Nat.le_of_ble_eq_true rfl⟩ ?_
  rotate_left -- leaf 7: return at 9
  -- leaves: 0 x of X6_isMissing at 15; 1 row of X6_isMissing at 15; 2 x of X6_remove at 33; 3 row of X6_remove at 33; 4 there of X6_remove at 33; 5 return at 39; 6 return at 26; 7 return at 9
  · exact (cl (bT c4) (by omega)).1
  · exact (cl (bT c4) (by omega)).2
  · exact (cl (bT c4) (by omega)).1
  · exact (cl (bT c4) (by omega)).2
  · exact mz c18
  · exact h3 (bT c4) (mz c18) _ ((fr33.mono (fun a ha => List.mem_cons_of_mem _ ha)).ms (by simp)) (r0 ro33) (by rw [mset_at, if_pos rfl])
  · exact h2 (bT c4) (mn c18) _ ((Fr.rf _ m).ms (by simp)) (r0 hR) (by rw [mset_at, if_pos rfl])
  · exact h1 (bF c4)
theorem call_X10_drop {E : ME} {Φ : Option AV → AM → Prop} {pc : Nat} {L : List (Option AV)} {st : List AV} {m : AM} {a : Nat × Nat} {idx : Nat} {x0 : AV} {i : Nat} (hl : Cond.methodLink E.2.1 idx yX10_drop ∈ TB) (hdep : 8 + 1 ≤ E.2.2.2.2.2.2) (hroom : a.1 + 0 ≤ E.2.2.2.2.1 ∧ a.2 + 0 ≤ E.2.2.2.2.2.1) (hsr : st.length ≤ 4) (hd : decode E.1 pc = .ok (.invokevirtual idx, 3)) (hsp : Sp_X10_drop [vr 10 i, x0] m (fun r m2 => B E Φ (pc + 3) L (r.toList ++ st) m2 a)) : B E Φ pc L (x0 :: vr 10 i :: st) m a := b_callV S_X10_drop [x0] (RX10, TX10, 9) rfl rfl (by decide) (Or.inl hl) k497 k498 k68 k499 (show _ ∧ _ ∧ Option.map (fun d => d.parameters.length) (parseMethodDescriptor yX10_drop.desc) = some 1 from by decide +kernel) ⟨hdep, by decide⟩ hroom hsr hd hsp
