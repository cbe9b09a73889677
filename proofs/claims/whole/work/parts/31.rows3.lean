/-! set, copy, items told -/
theorem fit_1 {i : Int32} {L : Nat} (hL : L ≤ 40) : fitB i (nI 1) L = inB i L := by
  unfold fitB
  have e1 : (nI 1).toInt = 1 := nI_toInt (by omega)
  rw [e1]
  by_cases q : inB i L = true
  · obtain ⟨j, hj, rfl⟩ := (inB_iff (by omega)).mp q
    rw [q, nI_toInt (by omega), decide_eq_true (by omega), decide_eq_true (by omega), decide_eq_true (by omega)]; rfl
  · have z : inB i L = false := by
      cases e : inB i L
      · rfl
      · exact absurd e q
    rw [z]
    rcases inB_not z with w | w
    · rw [i_lt, i_0] at w
      rw [decide_eq_false (by omega)]; rfl
    · rw [i_le, nI_toInt (by omega)] at w
      rw [decide_eq_false (show ¬ i.toInt + 1 ≤ L by omega), Bool.and_false, Bool.and_false]
theorem fit_to {i n : Int32} {L : Nat} (hL : L ≤ 40) (h : fitB i n L = true) : ∃ a b, i = nI a ∧ n = nI b ∧ a + b ≤ L := by
  unfold fitB at h
  rw [Bool.and_eq_true, Bool.and_eq_true] at h
  have h1 := of_decide_eq_true h.1
  have h2 := of_decide_eq_true h.2.1
  have h3 := of_decide_eq_true h.2.2
  obtain ⟨a, ha, rfl⟩ := nI_of (show ¬ i < 0 by rw [i_lt, i_0]; omega)
  obtain ⟨b, hb, rfl⟩ := nI_of (show ¬ n < 0 by rw [i_lt, i_0]; omega)
  rw [nI_toInt (by omega), nI_toInt (by omega)] at h3
  exact ⟨a, b, rfl, rfl, by omega⟩
theorem lackN_0 {La Ma : Nat → Nat} {r : Nat} {i n : Int32} : lackN La Ma r i n = 0 ↔ 0 < La r ∧ fitB i n (Ma r) = true := by
  unfold lackN
  by_cases h : La r = 0
  · rw [if_pos h, h]
    exact ⟨fun z => by omega, fun z => by omega⟩
  · rw [if_neg h]
    by_cases q : fitB i n (Ma r) = true
    · rw [if_pos q]; exact ⟨fun _ => ⟨by omega, q⟩, fun _ => rfl⟩
    · rw [if_neg q]; exact ⟨fun z => by omega, fun z => absurd z.2 q⟩
theorem lackN_lt (La Ma : Nat → Nat) (r : Nat) (i n : Int32) : lackN La Ma r i n ≤ 2 := by
  unfold lackN
  split
  · omega
  · split <;> omega
abbrev e_X10_set : ME := (cX10_set, (RX10, (5, ((some .int), (0, (0, 8))))))
theorem dX10_set_0 : decode cX10_set 0 = .ok (.iload_n 1, 1) := by decide +kernel
theorem dX10_set_1 : decode cX10_set 1 = .ok (.invokestatic 65, 3) := by decide +kernel
theorem dX10_set_4 : decode cX10_set 4 = .ok (.ifCond .ne 6, 3) := by decide +kernel
theorem dX10_set_7 : decode cX10_set 7 = .ok (.ldc 69, 2) := by decide +kernel
theorem dX10_set_9 : decode cX10_set 9 = .ok (.ireturn, 1) := by decide +kernel
theorem dX10_set_10 : decode cX10_set 10 = .ok (.aload_n 0, 1) := by decide +kernel
theorem dX10_set_11 : decode cX10_set 11 = .ok (.getfield 10, 3) := by decide +kernel
theorem dX10_set_14 : decode cX10_set 14 = .ok (.iload_n 1, 1) := by decide +kernel
theorem dX10_set_15 : decode cX10_set 15 = .ok (.iload_n 2, 1) := by decide +kernel
theorem dX10_set_16 : decode cX10_set 16 = .ok (.iconst 1, 1) := by decide +kernel
theorem dX10_set_17 : decode cX10_set 17 = .ok (.invokevirtual 81, 3) := by decide +kernel
theorem dX10_set_20 : decode cX10_set 20 = .ok (.istore 4, 2) := by decide +kernel
theorem dX10_set_22 : decode cX10_set 22 = .ok (.iload 4, 2) := by decide +kernel
theorem dX10_set_24 : decode cX10_set 24 = .ok (.ifCond .eq 12, 3) := by decide +kernel
theorem dX10_set_27 : decode cX10_set 27 = .ok (.aload_n 0, 1) := by decide +kernel
theorem dX10_set_28 : decode cX10_set 28 = .ok (.iload 4, 2) := by decide +kernel
theorem dX10_set_30 : decode cX10_set 30 = .ok (.invokevirtual 70, 3) := by decide +kernel
theorem dX10_set_33 : decode cX10_set 33 = .ok (.goto 17, 3) := by decide +kernel
theorem dX10_set_36 : decode cX10_set 36 = .ok (.aload_n 0, 1) := by decide +kernel
theorem dX10_set_37 : decode cX10_set 37 = .ok (.aload_n 0, 1) := by decide +kernel
theorem dX10_set_38 : decode cX10_set 38 = .ok (.getfield 10, 3) := by decide +kernel
theorem dX10_set_41 : decode cX10_set 41 = .ok (.iload_n 1, 1) := by decide +kernel
theorem dX10_set_42 : decode cX10_set 42 = .ok (.iload_n 2, 1) := by decide +kernel
theorem dX10_set_43 : decode cX10_set 43 = .ok (.iload_n 3, 1) := by decide +kernel
theorem dX10_set_44 : decode cX10_set 44 = .ok (.invokevirtual 85, 3) := by decide +kernel
theorem dX10_set_47 : decode cX10_set 47 = .ok (.invokevirtual 78, 3) := by decide +kernel
theorem dX10_set_50 : decode cX10_set 50 = .ok (.ireturn, 1) := by decide +kernel
def Sp_X10_set (av : List AV) (m : AM) (Φ : Option AV → AM → Prop) : Prop := ∃ x i v, av = [vr 10 0, vi x, vi i, vi v] ∧ ∃ La Ma It, RowR m La Ma It ∧ (inB x 8 = false → Φ (some (vi (-1000001))) m) ∧ (inB x 8 = true → La x.toNatClampNeg = 0 → ∀ m2, Fr (0 :: rowL) m m2 → RowR m2 La Ma It → m2.1 0 8 = nI 1 → Φ (some (vi (-1000010 - nI 1))) m2) ∧ (inB x 8 = true → 0 < La x.toNatClampNeg → inB i (Ma x.toNatClampNeg) = false → ∀ m2, Fr (0 :: rowL) m m2 → RowR m2 La Ma It → m2.1 0 8 = nI 2 → Φ (some (vi (-1000010 - nI 2))) m2) ∧ (inB x 8 = true → 0 < La x.toNatClampNeg → inB i (Ma x.toNatClampNeg) = true → ∀ m2, Fr (0 :: rowL) m m2 → RowR m2 La Ma (upI It x.toNatClampNeg i.toNatClampNeg (narV (La x.toNatClampNeg - 1) v)) → m2.1 0 8 = nI 0 → Φ (some (vi (narV (La x.toNatClampNeg - 1) v))) m2)
set_option maxRecDepth 20000 in
set_option maxHeartbeats 4000000 in
theorem S_X10_set : Snd yX10_set e_X10_set Sp_X10_set := by
  refine Snd.of (by decide +kernel) rfl ?_ ?_
  · rintro av m Φ ⟨x, i, v, rfl, _⟩; exact Nat.le_of_ble_eq_true rfl
  rintro av m Φ ⟨x, i, v, rfl, La, Ma, It, hR, h1, h2, h3, h4⟩ hav hty
  show B e_X10_set Φ 0 [some (vr 10 0), some (vi x), some (vi i), some (vi v), none] [] m (0, 0)
  have cl : ∀ {z : Int32} {k : Nat}, inB z k = true → k < 1000 → z = nI z.toNatClampNeg ∧ z.toNatClampNeg < k := fun {z k} a b => by
    obtain ⟨j, hj, rfl⟩ := (inB_iff (by omega)).mp a
    rw [n_cl (by omega)]
    exact ⟨rfl, hj⟩
  have r0 : ∀ {m2 : AM} {L2 M2 : Nat → Nat} {I2 : Nat → Nat → Int32} {y : Int32}, RowR m2 L2 M2 I2 → RowR (mset m2 0 8 y) L2 M2 I2 := fun {m2 L2 M2 I2 y} q => q.fr (fun a ha => mset_ne _ _ _ (fun e => by rw [e] at ha; exact absurd ha (by decide)))
  have M40 : inB x 8 = true → 0 < La x.toNatClampNeg → Ma x.toNatClampNeg ≤ 40 := fun a b => ((hR _ (cl a (by omega)).2).2 b).2.2.2.1
  have le := lackN_lt La Ma x.toNatClampNeg i (nI 1)
  have ok : inB x 8 = true → nI (lackN La Ma x.toNatClampNeg i (nI 1)) = 0 → 0 < La x.toNatClampNeg ∧ inB i (Ma x.toNatClampNeg) = true := fun a b => by
    rw [n_eq0 (by omega)] at b
    have q := lackN_0.mp b
    rw [fit_1 (M40 a q.1)] at q
    exact q
  refine b_iloadN (pc := 0) 1 dX10_set_0 rfl rfl ?_
  refine call_X10_isRow (pc := 1) k447 (by decide) ⟨Nat.le_of_ble_eq_true rfl, Nat.le_of_ble_eq_true rfl⟩ (Nat.le_of_ble_eq_true rfl) dX10_set_1 ?_
  refine ⟨_, rfl, ?_⟩
  refine b_if_ne (pc := 4) 10 dX10_set_4 (by decide) (fun c4 => ?_) (fun c4 => ?_)
  refine b_aloadN (pc := 10) 0 dX10_set_10 rfl rfl ?_
  refine gf10_0 (pc := 11) 1 rfl k415 dX10_set_11 ?_
  refine b_iloadN (pc := 14) 1 dX10_set_14 rfl rfl ?_
  refine b_iloadN (pc := 15) 2 dX10_set_15 rfl rfl ?_
  refine b_iconst (pc := 16) (nI 1) dX10_set_16 (by decide) ?_
  refine call_X6_lack (pc := 17) k468 (by decide) ⟨Nat.le_of_ble_eq_true rfl, Nat.le_of_ble_eq_true rfl⟩ (Nat.le_of_ble_eq_true rfl) dX10_set_17 ?_
  refine ⟨_, _, _, rfl, La, Ma, It, x.toNatClampNeg, hR, ?_, ?_, ?_⟩
  rotate_left -- leaf 0: x of X6_lack at 17
  rotate_left -- leaf 1: row of X6_lack at 17
  refine siG4 (pc := 20) notL_i (by decide) dX10_set_20 ?_
  refine b_iloadG (pc := 22) 4 dX10_set_22 rfl ?_
  refine b_if_eq (pc := 24) 36 dX10_set_24 (by decide) (fun c24 => ?_) (fun c24 => ?_)
  refine b_aloadN (pc := 36) 0 dX10_set_36 rfl rfl ?_
  refine b_aloadN (pc := 37) 0 dX10_set_37 rfl rfl ?_
  refine gf10_0 (pc := 38) 1 rfl k415 dX10_set_38 ?_
  refine b_iloadN (pc := 41) 1 dX10_set_41 rfl rfl ?_
  refine b_iloadN (pc := 42) 2 dX10_set_42 rfl rfl ?_
  refine b_iloadN (pc := 43) 3 dX10_set_43 rfl rfl ?_
  refine call_X6_put (pc := 44) k476 (by decide) ⟨Nat.le_of_ble_eq_true rfl, Nat.le_of_ble_eq_true rfl⟩ (Nat.le_of_ble_eq_true rfl) dX10_set_44 ?_
  refine ⟨_, _, _, rfl, La, Ma, It, x.toNatClampNeg, i.toNatClampNeg, hR, ?_, ?_, ?_, ?_, ?_, fun m44 fr44 ro44 => ?_⟩
  rotate_left -- leaf 2: x of X6_put at 44
  rotate_left -- leaf 3: row of X6_put at 44
  rotate_left -- leaf 4: i of X6_put at 44
  rotate_left -- leaf 5: place of X6_put at 44
  rotate_left -- leaf 6: there of X6_put at 44
  refine call_X10_fine (pc := 47) k460 (by decide) ⟨Nat.le_of_ble_eq_true rfl, Nat.le_of_ble_eq_true rfl⟩ (Nat.le_of_ble_eq_true rfl) dX10_set_47 ?_
  refine ⟨_, rfl, ?_⟩
  refine b_iret (pc := 50) rfl dX10_set_50 ⟨Nat.le_of_ble_eq_true rfl, Nat.le_of_ble_eq_true rfl⟩ ?_
  rotate_left -- leaf 7: return at 50
  refine b_aloadN (pc := 27) 0 dX10_set_27 rfl rfl ?_
  refine b_iloadG (pc := 28) 4 dX10_set_28 rfl ?_
  refine call_X10_found (pc := 30) k451 (by decide) ⟨Nat.le_of_ble_eq_true rfl, Nat.le_of_ble_eq_true rfl⟩ (Nat.le_of_ble_eq_true rfl) dX10_set_30 ?_
  refine ⟨_, rfl, ?_⟩
  refine b_goto (pc := 33) 50 dX10_set_33 (by decide) ?_
  refine b_iret (pc := 50) rfl dX10_set_50 ⟨Nat.le_of_ble_eq_true rfl, Nat.le_of_ble_eq_true rfl⟩ ?_
  rotate_left -- leaf 8: return at 50
  refine b_ldc (pc := 7) k450 dX10_set_7 ?_
  refine b_iret (pc := 9) rfl dX10_set_9 ⟨Nat.le_of_ble_eq_true rfl, Nat.le_of_ble_eq_true rfl⟩ ?_
  rotate_left -- leaf 9: return at 9
  -- leaves: 0 x of X6_lack at 17; 1 row of X6_lack at 17; 2 x of X6_put at 44; 3 row of X6_put at 44; 4 i of X6_put at 44; 5 place of X6_put at 44; 6 there of X6_put at 44; 7 return at 50; 8 return at 50; 9 return at 9
  · exact (cl (bT c4) (by omega)).1
  · exact (cl (bT c4) (by omega)).2
  · exact (cl (bT c4) (by omega)).1
  · exact (cl (bT c4) (by omega)).2
  · exact (cl (ok (bT c4) c24).2 (by have := M40 (bT c4) (ok (bT c4) c24).1; omega)).1
  · have := M40 (bT c4) (ok (bT c4) c24).1
    have := (cl (ok (bT c4) c24).2 (by omega)).2
    omega
  · exact (ok (bT c4) c24).1
  · exact h4 (bT c4) (ok (bT c4) c24).1 (ok (bT c4) c24).2 _ ((fr44.mono (fun a ha => List.mem_cons_of_mem _ ha)).ms (by simp)) (r0 ro44) (by rw [mset_at, if_pos rfl])
  · have f2 : Fr (0 :: rowL) m (mset m 0 8 (nI (lackN La Ma x.toNatClampNeg i (nI 1)))) := (Fr.rf _ m).ms (by simp)
    have f3 : RowR (mset m 0 8 (nI (lackN La Ma x.toNatClampNeg i (nI 1)))) La Ma It := r0 hR
    have f4 : (mset m 0 8 (nI (lackN La Ma x.toNatClampNeg i (nI 1)))).1 0 8 = nI (lackN La Ma x.toNatClampNeg i (nI 1)) := by rw [mset_at, if_pos rfl]
    generalize e0 : lackN La Ma x.toNatClampNeg i (nI 1) = k at *
    unfold lackN at e0
    by_cases z : La x.toNatClampNeg = 0
    · rw [if_pos z] at e0
      subst e0
      exact h2 (bT c4) z _ f2 f3 f4
    · rw [if_neg z, fit_1 (M40 (bT c4) (by omega))] at e0
      cases q : inB i (Ma x.toNatClampNeg)
      · rw [q] at e0
        rw [if_neg (by decide)] at e0
        subst e0
        exact h3 (bT c4) (by omega) q _ f2 f3 f4
      · rw [q] at e0
        rw [if_pos rfl] at e0
        subst e0
        exact absurd rfl c24
  · exact h1 (bF c4)
theorem call_X10_set {E : ME} {Φ : Option AV → AM → Prop} {pc : Nat} {L : List (Option AV)} {st : List AV} {m : AM} {a : Nat × Nat} {idx : Nat} {x0 x1 x2 : AV} {i : Nat} (hl : Cond.methodLink E.2.1 idx yX10_set ∈ TB) (hdep : 8 + 1 ≤ E.2.2.2.2.2.2) (hroom : a.1 + 0 ≤ E.2.2.2.2.1 ∧ a.2 + 0 ≤ E.2.2.2.2.2.1) (hsr : st.length ≤ 4) (hd : decode E.1 pc = .ok (.invokevirtual idx, 3)) (hsp : Sp_X10_set [vr 10 i, x0, x1, x2] m (fun r m2 => B E Φ (pc + 3) L (r.toList ++ st) m2 a)) : B E Φ pc L (x2 :: x1 :: x0 :: vr 10 i :: st) m a := b_callV S_X10_set [x0, x1, x2] (RX10, TX10, 9) rfl rfl (by decide) (Or.inl hl) k465 k466 k68 k467 (show _ ∧ _ ∧ Option.map (fun d => d.parameters.length) (parseMethodDescriptor yX10_set.desc) = some 3 from by decide +kernel) ⟨hdep, by decide⟩ hroom hsr hd hsp
def cpI (It : Nat → Nat → Int32) (a i b j n : Nat) : Nat → Nat → Int32 := fun r k => if r = b then (if j ≤ k ∧ k < j + n then It a (i + (k - j)) else It r k) else It r k
abbrev e_X6_carry : ME := (cX6_carry, (RX6, (6, (none, (0, (0, 1))))))
theorem dX6_carry_0 : decode cX6_carry 0 = .ok (.aload_n 0, 1) := by decide +kernel
theorem dX6_carry_1 : decode cX6_carry 1 = .ok (.getfield 11, 3) := by decide +kernel
theorem dX6_carry_4 : decode cX6_carry 4 = .ok (.iload_n 1, 1) := by decide +kernel
theorem dX6_carry_5 : decode cX6_carry 5 = .ok (.aaload, 1) := by decide +kernel
theorem dX6_carry_6 : decode cX6_carry 6 = .ok (.iload_n 2, 1) := by decide +kernel
theorem dX6_carry_7 : decode cX6_carry 7 = .ok (.aload_n 0, 1) := by decide +kernel
theorem dX6_carry_8 : decode cX6_carry 8 = .ok (.getfield 11, 3) := by decide +kernel
theorem dX6_carry_11 : decode cX6_carry 11 = .ok (.iload_n 3, 1) := by decide +kernel
theorem dX6_carry_12 : decode cX6_carry 12 = .ok (.aaload, 1) := by decide +kernel
theorem dX6_carry_13 : decode cX6_carry 13 = .ok (.iload 4, 2) := by decide +kernel
theorem dX6_carry_15 : decode cX6_carry 15 = .ok (.iload 5, 2) := by decide +kernel
theorem dX6_carry_17 : decode cX6_carry 17 = .ok (.invokestatic 33, 3) := by decide +kernel
theorem dX6_carry_20 : decode cX6_carry 20 = .ok (.return_, 1) := by decide +kernel
def Sp_X6_carry (av : List AV) (m : AM) (Φ : Option AV → AM → Prop) : Prop := ∃ x y z w v, av = [vr 6 1, vi x, vi y, vi z, vi w, vi v] ∧ ∃ La Ma It a i b j n, RowR m La Ma It ∧ x = nI a ∧ y = nI i ∧ z = nI b ∧ w = nI j ∧ v = nI n ∧ a < 8 ∧ b < 8 ∧ i + n ≤ 40 ∧ j + n ≤ 40 ∧ 0 < La a ∧ ∀ m2, Fr rowL m m2 → RowR m2 La Ma (cpI It a i b j n) → Φ none m2
set_option maxRecDepth 20000 in
set_option maxHeartbeats 4000000 in
theorem S_X6_carry : Snd yX6_carry e_X6_carry Sp_X6_carry := by
  refine Snd.of (by decide +kernel) rfl ?_ ?_
  · rintro av m Φ ⟨x, y, z, w, v, rfl, _⟩; exact Nat.le_of_ble_eq_true rfl
  rintro av m Φ ⟨x, y, z, w, v, rfl, La, Ma, It, a, i, b, j, n, hR, rfl, rfl, rfl, rfl, rfl, ha, hb, hi, hj, hl, h⟩ hav hty
  show B e_X6_carry Φ 0 [some (vr 6 1), some (vi (nI a)), some (vi (nI i)), some (vi (nI b)), some (vi (nI j)), some (vi (nI n))] [] m (0, 0)
  have e3 : 2 + 1 + a = 3 + a := by omega
  have e4 : 2 + 1 + b = 3 + b := by omega
  refine b_aloadN (pc := 0) 0 dX6_carry_0 rfl rfl ?_
  refine gf6_0 (pc := 1) 2 rfl k104 dX6_carry_1 ?_
  refine b_iloadN (pc := 4) 1 dX6_carry_4 rfl rfl ?_
  refine b_aldI (pc := 5) ?_ dX6_carry_5 ?_
  rotate_left -- leaf 0: index at 5
  refine b_iloadN (pc := 6) 2 dX6_carry_6 rfl rfl ?_
  refine b_aloadN (pc := 7) 0 dX6_carry_7 rfl rfl ?_
  refine gf6_0 (pc := 8) 2 rfl k104 dX6_carry_8 ?_
  refine b_iloadN (pc := 11) 3 dX6_carry_11 rfl rfl ?_
  refine b_aldI (pc := 12) ?_ dX6_carry_12 ?_
  rotate_left -- leaf 1: index at 12
  refine b_iloadG (pc := 13) 4 dX6_carry_13 rfl ?_
  refine b_iloadG (pc := 15) 5 dX6_carry_15 rfl ?_
  refine b_acopy (pc := 17) (by decide) (by decide) k493 k495 k494 k81 ?_ ?_ ?_ ?_ ?_ (by decide) (by decide) dX6_carry_17 ?_
  rotate_left -- leaf 2: arraycopy sp at 17
  rotate_left -- leaf 3: arraycopy dp at 17
  rotate_left -- leaf 4: arraycopy n at 17
  rotate_left -- leaf 5: arraycopy from at 17
  rotate_left -- leaf 6: arraycopy to at 17
  refine b_vret (pc := 20) rfl dX6_carry_20 ⟨Nat.le_of_ble_eq_true rfl, Nat.le_of_ble_eq_true rfl⟩ ?_
  rotate_left -- leaf 7: return at 20
  -- leaves: 0 index at 5; 1 index at 12; 2 arraycopy sp at 17; 3 arraycopy dp at 17; 4 arraycopy n at 17; 5 arraycopy from at 17; 6 arraycopy to at 17; 7 return at 20
  · exact n_in (by omega) (by omega)
  · exact n_in (by omega) (by omega)
  · rw [n_lt0 (by omega)]; exact id
  · rw [n_lt0 (by omega)]; exact id
  · rw [n_lt0 (by omega)]; exact id
  · rw [n_cl (by omega), n_cl (by omega)]; show _ ≤ 140 - 100; omega
  · rw [n_cl (by omega), n_cl (by omega)]; show _ ≤ 140 - 100; omega
  · rw [n_cl (show a < 2147483648 by omega), n_cl (show b < 2147483648 by omega), n_cl (show i < 2147483648 by omega), n_cl (show j < 2147483648 by omega), n_cl (show n < 2147483648 by omega), e3, e4]
    refine h _ ((Fr.rf rowL m).as (rowL_in b hb)) (fun r hr => ⟨fun z => ?_, fun z => ?_⟩)
    · rw [aset_ne _ _ (by omega)]; exact (hR r hr).1 z
    · have w := (hR r hr).2 z
      rw [aset_ne _ _ (show 11 ≠ 3 + b by omega), aset_ne _ _ (show 12 ≠ 3 + b by omega)]
      refine ⟨w.1, w.2.1, w.2.2.1, w.2.2.2.1, fun k hk => ?_⟩
      unfold cpI
      by_cases e : r = b
      · subst e
        rw [if_pos rfl, aset_at]
        unfold va_cpy
        by_cases q : j ≤ k ∧ k < j + n
        · rw [if_pos q, if_pos q]
          exact ((hR a ha).2 hl).2.2.2.2 _ (by omega)
        · rw [if_neg q, if_neg q]
          exact w.2.2.2.2 k hk
      · rw [if_neg e, aset_ne _ _ (by omega)]
        exact w.2.2.2.2 k hk
theorem call_X6_carry {E : ME} {Φ : Option AV → AM → Prop} {pc : Nat} {L : List (Option AV)} {st : List AV} {m : AM} {a : Nat × Nat} {idx : Nat} {x0 x1 x2 x3 x4 : AV} {i : Nat} (hl : Cond.methodLink E.2.1 idx yX6_carry ∈ TB) (hdep : 1 + 1 ≤ E.2.2.2.2.2.2) (hroom : a.1 + 0 ≤ E.2.2.2.2.1 ∧ a.2 + 0 ≤ E.2.2.2.2.2.1) (hsr : st.length ≤ 4) (hd : decode E.1 pc = .ok (.invokevirtual idx, 3)) (hsp : Sp_X6_carry [vr 6 i, x0, x1, x2, x3, x4] m (fun r m2 => B E Φ (pc + 3) L (r.toList ++ st) m2 a)) : B E Φ pc L (x4 :: x3 :: x2 :: x1 :: x0 :: vr 6 i :: st) m a := b_callV S_X6_carry [x0, x1, x2, x3, x4] (RX6, TX6, 3) rfl rfl (by decide) (Or.inl hl) k490 k491 k69 k492 (show _ ∧ _ ∧ Option.map (fun d => d.parameters.length) (parseMethodDescriptor yX6_carry.desc) = some 5 from by decide +kernel) ⟨hdep, by decide⟩ hroom hsr hd hsp
