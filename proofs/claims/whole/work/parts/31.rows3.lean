/-! set, copy, items told -/
theorem fit_1 {i : Int32} {L : Nat} (hL : L ≤ 40) : fitB i (nI 1) L = inB i L := by
  unfold fitB
  have e1 : (nI 1).toInt = 1 := nI_toInt (by omega)
  rw [e1]
  by_cases q : inB i L = true
  · obtain ⟨j, hj, rfl⟩ := (inB_iff (by omega)).mp q
    rw [q, nI_toInt (by omega), decide_eq_true (by omega), decide_eq_true (by omega), decide_eq_true (by omega)]; rfl
  · have z : inB i L = false := by
      cases e : inB i L
      · rfl
      · exact absurd e q
    rw [z]
    rcases inB_not z with w | w
    · rw [i_lt, i_0] at w
      rw [decide_eq_false (by omega)]; rfl
    · rw [i_le, nI_toInt (by omega)] at w
      rw [decide_eq_false (show ¬ i.toInt + 1 ≤ L by omega), Bool.and_false, Bool.and_false]
theorem fit_to {i n : Int32} {L : Nat} (hL : L ≤ 40) (h : fitB i n L = true) : ∃ a b, i = nI a ∧ n = nI b ∧ a + b ≤ L := by
  unfold fitB at h
  rw [Bool.and_eq_true, Bool.and_eq_true] at h
  have h1 := of_decide_eq_true h.1
  have h2 := of_decide_eq_true h.2.1
  have h3 := of_decide_eq_true h.2.2
  obtain ⟨a, ha, rfl⟩ := nI_of (show ¬ i < 0 by rw [i_lt, i_0]; omega)
  obtain ⟨b, hb, rfl⟩ := nI_of (show ¬ n < 0 by rw [i_lt, i_0]; omega)
  rw [nI_toInt (by omega), nI_toInt (by omega)] at h3
  exact ⟨a, b, rfl, rfl, by omega⟩
theorem lackN_0 {La Ma : Nat → Nat} {r : Nat} {i n : Int32} : lackN La Ma r i n = 0 ↔ 0 < La r ∧ fitB i n (Ma r) = true := by
  unfold lackN
  by_cases h : La r = 0
  · rw [if_pos h, h]
    exact ⟨fun z => by omega, fun z => by omega⟩
  · rw [if_neg h]
    by_cases q : fitB i n (Ma r) = true
    · rw [if_pos q]; exact ⟨fun _ => ⟨by omega, q⟩, fun _ => rfl⟩
    · rw [if_neg q]; exact ⟨fun z => by omega, fun z => absurd z.2 q⟩
theorem lackN_lt (La Ma : Nat → Nat) (r : Nat) (i n : Int32) : lackN La Ma r i n ≤ 2 := by
  unfold lackN
  split
  · omega
  · split <;> omega
abbrev e_X10_set : ME := (cX10_set, (RX10, (5, ((some .int), (0, (0, 8))))))
theorem dX10_set_0 : decode cX10_set 0 = .ok (.iload_n 1, 1) := by decide +kernel
theorem dX10_set_1 : decode cX10_set 1 = .ok (.invokestatic 65, 3) := by decide +kernel
theorem dX10_set_4 : decode cX10_set 4 = .ok (.ifCond .ne 6, 3) := by decide +kernel
theorem dX10_set_7 : decode cX10_set 7 = .ok (.ldc 69, 2) := by decide +kernel
theorem dX10_set_9 : decode cX10_set 9 = .ok (.ireturn, 1) := by decide +kernel
theorem dX10_set_10 : decode cX10_set 10 = .ok (.aload_n 0, 1) := by decide +kernel
theorem dX10_set_11 : decode cX10_set 11 = .ok (.getfield 10, 3) := by decide +kernel
theorem dX10_set_14 : decode cX10_set 14 = .ok (.iload_n 1, 1) := by decide +kernel
theorem dX10_set_15 : decode cX10_set 15 = .ok (.iload_n 2, 1) := by decide +kernel
theorem dX10_set_16 : decode cX10_set 16 = .ok (.iconst 1, 1) := by decide +kernel
theorem dX10_set_17 : decode cX10_set 17 = .ok (.invokevirtual 81, 3) := by decide +kernel
theorem dX10_set_20 : decode cX10_set 20 = .ok (.istore 4, 2) := by decide +kernel
theorem dX10_set_22 : decode cX10_set 22 = .ok (.iload 4, 2) := by decide +kernel
theorem dX10_set_24 : decode cX10_set 24 = .ok (.ifCond .eq 12, 3) := by decide +kernel
theorem dX10_set_27 : decode cX10_set 27 = .ok (.aload_n 0, 1) := by decide +kernel
theorem dX10_set_28 : decode cX10_set 28 = .ok (.iload 4, 2) := by decide +kernel
theorem dX10_set_30 : decode cX10_set 30 = .ok (.invokevirtual 70, 3) := by decide +kernel
theorem dX10_set_33 : decode cX10_set 33 = .ok (.goto 17, 3) := by decide +kernel
theorem dX10_set_36 : decode cX10_set 36 = .ok (.aload_n 0, 1) := by decide +kernel
theorem dX10_set_37 : decode cX10_set 37 = .ok (.aload_n 0, 1) := by decide +kernel
theorem dX10_set_38 : decode cX10_set 38 = .ok (.getfield 10, 3) := by decide +kernel
theorem dX10_set_41 : decode cX10_set 41 = .ok (.iload_n 1, 1) := by decide +kernel
theorem dX10_set_42 : decode cX10_set 42 = .ok (.iload_n 2, 1) := by decide +kernel
theorem dX10_set_43 : decode cX10_set 43 = .ok (.iload_n 3, 1) := by decide +kernel
theorem dX10_set_44 : decode cX10_set 44 = .ok (.invokevirtual 85, 3) := by decide +kernel
theorem dX10_set_47 : decode cX10_set 47 = .ok (.invokevirtual 78, 3) := by decide +kernel
theorem dX10_set_50 : decode cX10_set 50 = .ok (.ireturn, 1) := by decide +kernel
def Sp_X10_set (av : List AV) (m : AM) (Φ : Option AV → AM → Prop) : Prop := ∃ x i v, av = [vr 10 0, vi x, vi i, vi v] ∧ ∃ La Ma It, RowR m La Ma It ∧ (inB x 8 = false → Φ (some (vi (-1000001))) m) ∧ (inB x 8 = true → La x.toNatClampNeg = 0 → ∀ m2, Fr (0 :: rowL) m m2 → RowR m2 La Ma It → m2.1 0 8 = nI 1 → Φ (some (vi (-1000010 - nI 1))) m2) ∧ (inB x 8 = true → 0 < La x.toNatClampNeg → inB i (Ma x.toNatClampNeg) = false → ∀ m2, Fr (0 :: rowL) m m2 → RowR m2 La Ma It → m2.1 0 8 = nI 2 → Φ (some (vi (-1000010 - nI 2))) m2) ∧ (inB x 8 = true → 0 < La x.toNatClampNeg → inB i (Ma x.toNatClampNeg) = true → ∀ m2, Fr (0 :: rowL) m m2 → RowR m2 La Ma (upI It x.toNatClampNeg i.toNatClampNeg (narV (La x.toNatClampNeg - 1) v)) → m2.1 0 8 = nI 0 → Φ (some (vi (narV (La x.toNatClampNeg - 1) v))) m2)
set_option maxRecDepth 20000 in
set_option maxHeartbeats 4000000 in
theorem S_X10_set : Snd yX10_set e_X10_set Sp_X10_set := by
  refine Snd.of (by decide +kernel) rfl ?_ ?_
  · rintro av m Φ ⟨x, i, v, rfl, _⟩; exact Nat.le_of_ble_eq_true rfl
  rintro av m Φ ⟨x, i, v, rfl, La, Ma, It, hR, h1, h2, h3, h4⟩ hav hty
  show B e_X10_set Φ 0 [some (vr 10 0), some (vi x), some (vi i), some (vi v), none] [] m (0, 0)
  have cl : ∀ {z : Int32} {k : Nat}, inB z k = true → k < 1000 → z = nI z.toNatClampNeg ∧ z.toNatClampNeg < k := fun {z k} a b => by
    obtain ⟨j, hj, rfl⟩ := (inB_iff (by omega)).mp a
    rw [n_cl (by omega)]
    exact ⟨rfl, hj⟩
  have r0 : ∀ {m2 : AM} {L2 M2 : Nat → Nat} {I2 : Nat → Nat → Int32} {y : Int32}, RowR m2 L2 M2 I2 → RowR (mset m2 0 8 y) L2 M2 I2 := fun {m2 L2 M2 I2 y} q => q.fr (fun a ha => mset_ne _ _ _ (fun e => by rw [e] at ha; exact absurd ha (by decide)))
  have M40 : inB x 8 = true → 0 < La x.toNatClampNeg → Ma x.toNatClampNeg ≤ 40 := fun a b => ((hR _ (cl a (by omega)).2).2 b).2.2.2.1
  have le := lackN_lt La Ma x.toNatClampNeg i (nI 1)
  have ok : inB x 8 = true → nI (lackN La Ma x.toNatClampNeg i (nI 1)) = 0 → 0 < La x.toNatClampNeg ∧ inB i (Ma x.toNatClampNeg) = true := fun a b => by
    rw [n_eq0 (by omega)] at b
    have q := lackN_0.mp b
    rw [fit_1 (M40 a q.1)] at q
    exact q
  refine b_iloadN (pc := 0) 1 dX10_set_0 rfl rfl ?_
  refine call_X10_isRow (pc := 1) k447 (by decide) ⟨Nat.le_of_ble_eq_true rfl, Nat.le_of_ble_eq_true rfl⟩ (Nat.le_of_ble_eq_true rfl) dX10_set_1 ?_
  refine ⟨_, rfl, ?_⟩
  refine b_if_ne (pc := 4) 10 dX10_set_4 (by decide) (fun c4 => ?_) (fun c4 => ?_)
  refine b_aloadN (pc := 10) 0 dX10_set_10 rfl rfl ?_
  refine gf10_0 (pc := 11) 1 rfl k415 dX10_set_11 ?_
  refine b_iloadN (pc := 14) 1 dX10_set_14 rfl rfl ?_
  refine b_iloadN (pc := 15) 2 dX10_set_15 rfl rfl ?_
  refine b_iconst (pc := 16) (nI 1) dX10_set_16 (by decide) ?_
  refine call_X6_lack (pc := 17) k468 (by decide) ⟨Nat.le_of_ble_eq_true rfl, Nat.le_of_ble_eq_true rfl⟩ (Nat.le_of_ble_eq_true rfl) dX10_set_17 ?_
  refine ⟨_, _, _, rfl, La, Ma, It, x.toNatClampNeg, hR, ?_, ?_, ?_⟩
  rotate_left -- leaf 0: x of X6_lack at 17
  rotate_left -- leaf 1: row of X6_lack at 17
  refine siG4 (pc := 20) notL_i (by decide) dX10_set_20 ?_
  refine b_iloadG (pc := 22) 4 dX10_set_22 rfl ?_
  refine b_if_eq (pc := 24) 36 dX10_set_24 (by decide) (fun c24 => ?_) (fun c24 => ?_)
  refine b_aloadN (pc := 36) 0 dX10_set_36 rfl rfl ?_
  refine b_aloadN (pc := 37) 0 dX10_set_37 rfl rfl ?_
  refine gf10_0 (pc := 38) 1 rfl k415 dX10_set_38 ?_
  refine b_iloadN (pc := 41) 1 dX10_set_41 rfl rfl ?_
  refine b_iloadN (pc := 42) 2 dX10_set_42 rfl rfl ?_
  refine b_iloadN (pc := 43) 3 dX10_set_43 rfl rfl ?_
  refine call_X6_put (pc := 44) k476 (by decide) ⟨Nat.le_of_ble_eq_true rfl, Nat.le_of_ble_eq_true rfl⟩ (Nat.le_of_ble_eq_true rfl) dX10_set_44 ?_
  refine ⟨_, _, _, rfl, La, Ma, It, x.toNatClampNeg, i.toNatClampNeg, hR, ?_, ?_, ?_, ?_, ?_, fun m44 fr44 ro44 => ?_⟩
  rotate_left -- leaf 2: x of X6_put at 44
  rotate_left -- leaf 3: row of X6_put at 44
  rotate_left -- leaf 4: i of X6_put at 44
  rotate_left -- leaf 5: place of X6_put at 44
  rotate_left -- leaf 6: there of X6_put at 44
  refine call_X10_fine (pc := 47) k460 (by decide) ⟨Nat.le_of_ble_eq_true rfl, Nat.le_of_ble_eq_true rfl⟩ (Nat.le_of_ble_eq_true rfl) dX10_set_47 ?_
  refine ⟨_, rfl, ?_⟩
  refine b_iret (pc := 50) rfl dX10_set_50 ⟨Nat.le_of_ble_eq_true rfl, Nat.le_of_ble_eq_true rfl⟩ ?_
  rotate_left -- leaf 7: return at 50
  refine b_aloadN (pc := 27) 0 dX10_set_27 rfl rfl ?_
  refine b_iloadG (pc := 28) 4 dX10_set_28 rfl ?_
  refine call_X10_found (pc := 30) k451 (by decide) ⟨Nat.le_of_ble_eq_true rfl, Nat.le_of_ble_eq_true rfl⟩ (Nat.le_of_ble_eq_true rfl) dX10_set_30 ?_
  refine ⟨_, rfl, ?_⟩
  refine b_goto (pc := 33) 50 dX10_set_33 (by decide) ?_
  refine b_iret (pc := 50) rfl dX10_set_50 ⟨Nat.le_of_ble_eq_true rfl, Nat.le_of_ble_eq_true rfl⟩ ?_
  rotate_left -- leaf 8: return at 50
  refine b_ldc (pc := 7) k450 dX10_set_7 ?_
  refine b_iret (pc := 9) rfl dX10_set_9 ⟨Nat.le_of_ble_eq_true rfl, Nat.le_of_ble_eq_true rfl⟩ ?_
  rotate_left -- leaf 9: return at 9
  -- leaves: 0 x of X6_lack at 17; 1 row of X6_lack at 17; 2 x of X6_put at 44; 3 row of X6_put at 44; 4 i of X6_put at 44; 5 place of X6_put at 44; 6 there of X6_put at 44; 7 return at 50; 8 return at 50; 9 return at 9
  · exact (cl (bT c4) (by omega)).1
  · exact (cl (bT c4) (by omega)).2
  · exact (cl (bT c4) (by omega)).1
  · exact (cl (bT c4) (by omega)).2
  · exact (cl (ok (bT c4) c24).2 (by have := M40 (bT c4) (ok (bT c4) c24).1; omega)).1
  · have := M40 (bT c4) (ok (bT c4) c24).1
    have := (cl (ok (bT c4) c24).2 (by omega)).2
    omega
  · exact (ok (bT c4) c24).1
  · exact h4 (bT c4) (ok (bT c4) c24).1 (ok (bT c4) c24).2 _ ((fr44.mono (fun a ha => List.mem_cons_of_mem _ ha)).ms (by simp)) (r0 ro44) (by rw [mset_at, if_pos rfl])
  · have f2 : Fr (0 :: rowL) m (mset m 0 8 (nI (lackN La Ma x.toNatClampNeg i (nI 1)))) := (Fr.rf _ m).ms (by simp)
    have f3 : RowR (mset m 0 8 (nI (lackN La Ma x.toNatClampNeg i (nI 1)))) La Ma It := r0 hR
    have f4 : (mset m 0 8 (nI (lackN La Ma x.toNatClampNeg i (nI 1)))).1 0 8 = nI (lackN La Ma x.toNatClampNeg i (nI 1)) := by rw [mset_at, if_pos rfl]
    generalize e0 : lackN La Ma x.toNatClampNeg i (nI 1) = k at *
    unfold lackN at e0
    by_cases z : La x.toNatClampNeg = 0
    · rw [if_pos z] at e0
      subst e0
      exact h2 (bT c4) z _ f2 f3 f4
    · rw [if_neg z, fit_1 (M40 (bT c4) (by omega))] at e0
      cases q : inB i (Ma x.toNatClampNeg)
      · rw [q] at e0
        rw [if_neg (by decide)] at e0
        subst e0
        exact h3 (bT c4) (by omega) q _ f2 f3 f4
      · rw [q] at e0
        rw [if_pos rfl] at e0
        subst e0
        exact absurd rfl c24
  · exact h1 (bF c4)
theorem call_X10_set {E : ME} {Φ : Option AV → AM → Prop} {pc : Nat} {L : List (Option AV)} {st : List AV} {m : AM} {a : Nat × Nat} {idx : Nat} {x0 x1 x2 : AV} {i : Nat} (hl : Cond.methodLink E.2.1 idx yX10_set ∈ TB) (hdep : 8 + 1 ≤ E.2.2.2.2.2.2) (hroom : a.1 + 0 ≤ E.2.2.2.2.1 ∧ a.2 + 0 ≤ E.2.2.2.2.2.1) (hsr : st.length ≤ 4) (hd : decode E.1 pc = .ok (.invokevirtual idx, 3)) (hsp : Sp_X10_set [vr 10 i, x0, x1, x2] m (fun r m2 => B E Φ (pc + 3) L (r.toList ++ st) m2 a)) : B E Φ pc L (x2 :: x1 :: x0 :: vr 10 i :: st) m a := b_callV S_X10_set [x0, x1, x2] (RX10, TX10, 9) rfl rfl (by decide) (Or.inl hl) k465 k466 k68 k467 (show _ ∧ _ ∧ Option.map (fun d => d.parameters.length) (parseMethodDescriptor yX10_set.desc) = some 3 from by decide +kernel) ⟨hdep, by decide⟩ hroom hsr hd hsp
def cpI (It : Nat → Nat → Int32) (a i b j n : Nat) : Nat → Nat → Int32 := fun r k => if r = b then (if j ≤ k ∧ k < j + n then It a (i + (k - j)) else It r k) else It r k
abbrev e_X6_carry : ME := (cX6_carry, (RX6, (6, (none, (0, (0, 1))))))
theorem dX6_carry_0 : decode cX6_carry 0 = .ok (.aload_n 0, 1) := by decide +kernel
theorem dX6_carry_1 : decode cX6_carry 1 = .ok (.getfield 11, 3) := by decide +kernel
theorem dX6_carry_4 : decode cX6_carry 4 = .ok (.iload_n 1, 1) := by decide +kernel
theorem dX6_carry_5 : decode cX6_carry 5 = .ok (.aaload, 1) := by decide +kernel
theorem dX6_carry_6 : decode cX6_carry 6 = .ok (.iload_n 2, 1) := by decide +kernel
theorem dX6_carry_7 : decode cX6_carry 7 = .ok (.aload_n 0, 1) := by decide +kernel
theorem dX6_carry_8 : decode cX6_carry 8 = .ok (.getfield 11, 3) := by decide +kernel
theorem dX6_carry_11 : decode cX6_carry 11 = .ok (.iload_n 3, 1) := by decide +kernel
theorem dX6_carry_12 : decode cX6_carry 12 = .ok (.aaload, 1) := by decide +kernel
theorem dX6_carry_13 : decode cX6_carry 13 = .ok (.iload 4, 2) := by decide +kernel
theorem dX6_carry_15 : decode cX6_carry 15 = .ok (.iload 5, 2) := by decide +kernel
theorem dX6_carry_17 : decode cX6_carry 17 = .ok (.invokestatic 33, 3) := by decide +kernel
theorem dX6_carry_20 : decode cX6_carry 20 = .ok (.return_, 1) := by decide +kernel
def Sp_X6_carry (av : List AV) (m : AM) (Φ : Option AV → AM → Prop) : Prop := ∃ x y z w v, av = [vr 6 1, vi x, vi y, vi z, vi w, vi v] ∧ ∃ La Ma It a i b j n, RowR m La Ma It ∧ x = nI a ∧ y = nI i ∧ z = nI b ∧ w = nI j ∧ v = nI n ∧ a < 8 ∧ b < 8 ∧ i + n ≤ 40 ∧ j + n ≤ 40 ∧ 0 < La a ∧ ∀ m2, Fr rowL m m2 → RowR m2 La Ma (cpI It a i b j n) → Φ none m2
set_option maxRecDepth 20000 in
set_option maxHeartbeats 4000000 in
theorem S_X6_carry : Snd yX6_carry e_X6_carry Sp_X6_carry := by
  refine Snd.of (by decide +kernel) rfl ?_ ?_
  · rintro av m Φ ⟨x, y, z, w, v, rfl, _⟩; exact Nat.le_of_ble_eq_true rfl
  rintro av m Φ ⟨x, y, z, w, v, rfl, La, Ma, It, a, i, b, j, n, hR, rfl, rfl, rfl, rfl, rfl, ha, hb, hi, hj, hl, h⟩ hav hty
  show B e_X6_carry Φ 0 [some (vr 6 1), some (vi (nI a)), some (vi (nI i)), some (vi (nI b)), some (vi (nI j)), some (vi (nI n))] [] m (0, 0)
  have e3 : 2 + 1 + a = 3 + a := by omega
  have e4 : 2 + 1 + b = 3 + b := by omega
  refine b_aloadN (pc := 0) 0 dX6_carry_0 rfl rfl ?_
  refine gf6_0 (pc := 1) 2 rfl k104 dX6_carry_1 ?_
  refine b_iloadN (pc := 4) 1 dX6_carry_4 rfl rfl ?_
  refine b_aldI (pc := 5) ?_ dX6_carry_5 ?_
  rotate_left -- leaf 0: index at 5
  refine b_iloadN (pc := 6) 2 dX6_carry_6 rfl rfl ?_
  refine b_aloadN (pc := 7) 0 dX6_carry_7 rfl rfl ?_
  refine gf6_0 (pc := 8) 2 rfl k104 dX6_carry_8 ?_
  refine b_iloadN (pc := 11) 3 dX6_carry_11 rfl rfl ?_
  refine b_aldI (pc := 12) ?_ dX6_carry_12 ?_
  rotate_left -- leaf 1: index at 12
  refine b_iloadG (pc := 13) 4 dX6_carry_13 rfl ?_
  refine b_iloadG (pc := 15) 5 dX6_carry_15 rfl ?_
  refine b_acopy (pc := 17) (by decide) (by decide) k493 k495 k494 k81 ?_ ?_ ?_ ?_ ?_ (by decide) (by decide) dX6_carry_17 ?_
  rotate_left -- leaf 2: arraycopy sp at 17
  rotate_left -- leaf 3: arraycopy dp at 17
  rotate_left -- leaf 4: arraycopy n at 17
  rotate_left -- leaf 5: arraycopy from at 17
  rotate_left -- leaf 6: arraycopy to at 17
  refine b_vret (pc := 20) rfl dX6_carry_20 ⟨Nat.le_of_ble_eq_true rfl, Nat.le_of_ble_eq_true rfl⟩ ?_
  rotate_left -- leaf 7: return at 20
  -- leaves: 0 index at 5; 1 index at 12; 2 arraycopy sp at 17; 3 arraycopy dp at 17; 4 arraycopy n at 17; 5 arraycopy from at 17; 6 arraycopy to at 17; 7 return at 20
  · exact n_in (by omega) (by omega)
  · exact n_in (by omega) (by omega)
  · rw [n_lt0 (by omega)]; exact id
  · rw [n_lt0 (by omega)]; exact id
  · rw [n_lt0 (by omega)]; exact id
  · rw [n_cl (by omega), n_cl (by omega)]; show _ ≤ 140 - 100; omega
  · rw [n_cl (by omega), n_cl (by omega)]; show _ ≤ 140 - 100; omega
  · rw [n_cl (show a < 2147483648 by omega), n_cl (show b < 2147483648 by omega), n_cl (show i < 2147483648 by omega), n_cl (show j < 2147483648 by omega), n_cl (show n < 2147483648 by omega), e3, e4]
    refine h _ ((Fr.rf rowL m).as (rowL_in b hb)) (fun r hr => ⟨fun z => ?_, fun z => ?_⟩)
    · rw [aset_ne _ _ (by omega)]; exact (hR r hr).1 z
    · have w := (hR r hr).2 z
      rw [aset_ne _ _ (show 11 ≠ 3 + b by omega), aset_ne _ _ (show 12 ≠ 3 + b by omega)]
      refine ⟨w.1, w.2.1, w.2.2.1, w.2.2.2.1, fun k hk => ?_⟩
      unfold cpI
      by_cases e : r = b
      · subst e
        rw [if_pos rfl, aset_at]
        unfold va_cpy
        by_cases q : j ≤ k ∧ k < j + n
        · rw [if_pos q, if_pos q]
          exact ((hR a ha).2 hl).2.2.2.2 _ (by omega)
        · rw [if_neg q, if_neg q]
          exact w.2.2.2.2 k hk
      · rw [if_neg e, aset_ne _ _ (by omega)]
        exact w.2.2.2.2 k hk
theorem call_X6_carry {E : ME} {Φ : Option AV → AM → Prop} {pc : Nat} {L : List (Option AV)} {st : List AV} {m : AM} {a : Nat × Nat} {idx : Nat} {x0 x1 x2 x3 x4 : AV} {i : Nat} (hl : Cond.methodLink E.2.1 idx yX6_carry ∈ TB) (hdep : 1 + 1 ≤ E.2.2.2.2.2.2) (hroom : a.1 + 0 ≤ E.2.2.2.2.1 ∧ a.2 + 0 ≤ E.2.2.2.2.2.1) (hsr : st.length ≤ 4) (hd : decode E.1 pc = .ok (.invokevirtual idx, 3)) (hsp : Sp_X6_carry [vr 6 i, x0, x1, x2, x3, x4] m (fun r m2 => B E Φ (pc + 3) L (r.toList ++ st) m2 a)) : B E Φ pc L (x4 :: x3 :: x2 :: x1 :: x0 :: vr 6 i :: st) m a := b_callV S_X6_carry [x0, x1, x2, x3, x4] (RX6, TX6, 3) rfl rfl (by decide) (Or.inl hl) k490 k491 k69 k492 (show _ ∧ _ ∧ Option.map (fun d => d.parameters.length) (parseMethodDescriptor yX6_carry.desc) = some 5 from by decide +kernel) ⟨hdep, by decide⟩ hroom hsr hd hsp
abbrev e_X10_copy : ME := (cX10_copy, (RX10, (6, ((some .int), (0, (0, 8))))))
theorem dX10_copy_0 : decode cX10_copy 0 = .ok (.iload_n 1, 1) := by decide +kernel
theorem dX10_copy_1 : decode cX10_copy 1 = .ok (.invokestatic 65, 3) := by decide +kernel
theorem dX10_copy_4 : decode cX10_copy 4 = .ok (.ifCond .eq 10, 3) := by decide +kernel
theorem dX10_copy_7 : decode cX10_copy 7 = .ok (.iload_n 3, 1) := by decide +kernel
theorem dX10_copy_8 : decode cX10_copy 8 = .ok (.invokestatic 65, 3) := by decide +kernel
theorem dX10_copy_11 : decode cX10_copy 11 = .ok (.ifCond .ne 6, 3) := by decide +kernel
theorem dX10_copy_14 : decode cX10_copy 14 = .ok (.ldc 69, 2) := by decide +kernel
theorem dX10_copy_16 : decode cX10_copy 16 = .ok (.ireturn, 1) := by decide +kernel
theorem dX10_copy_17 : decode cX10_copy 17 = .ok (.aload_n 0, 1) := by decide +kernel
theorem dX10_copy_18 : decode cX10_copy 18 = .ok (.getfield 10, 3) := by decide +kernel
theorem dX10_copy_21 : decode cX10_copy 21 = .ok (.iload_n 1, 1) := by decide +kernel
theorem dX10_copy_22 : decode cX10_copy 22 = .ok (.invokevirtual 88, 3) := by decide +kernel
theorem dX10_copy_25 : decode cX10_copy 25 = .ok (.ifCond .ne 14, 3) := by decide +kernel
theorem dX10_copy_28 : decode cX10_copy 28 = .ok (.aload_n 0, 1) := by decide +kernel
theorem dX10_copy_29 : decode cX10_copy 29 = .ok (.getfield 10, 3) := by decide +kernel
theorem dX10_copy_32 : decode cX10_copy 32 = .ok (.iload_n 3, 1) := by decide +kernel
theorem dX10_copy_33 : decode cX10_copy 33 = .ok (.invokevirtual 88, 3) := by decide +kernel
theorem dX10_copy_36 : decode cX10_copy 36 = .ok (.ifCond .eq 9, 3) := by decide +kernel
theorem dX10_copy_39 : decode cX10_copy 39 = .ok (.aload_n 0, 1) := by decide +kernel
theorem dX10_copy_40 : decode cX10_copy 40 = .ok (.iconst 1, 1) := by decide +kernel
theorem dX10_copy_41 : decode cX10_copy 41 = .ok (.invokevirtual 70, 3) := by decide +kernel
theorem dX10_copy_44 : decode cX10_copy 44 = .ok (.ireturn, 1) := by decide +kernel
theorem dX10_copy_45 : decode cX10_copy 45 = .ok (.aload_n 0, 1) := by decide +kernel
theorem dX10_copy_46 : decode cX10_copy 46 = .ok (.getfield 10, 3) := by decide +kernel
theorem dX10_copy_49 : decode cX10_copy 49 = .ok (.iload_n 1, 1) := by decide +kernel
theorem dX10_copy_50 : decode cX10_copy 50 = .ok (.invokevirtual 91, 3) := by decide +kernel
theorem dX10_copy_53 : decode cX10_copy 53 = .ok (.aload_n 0, 1) := by decide +kernel
theorem dX10_copy_54 : decode cX10_copy 54 = .ok (.getfield 10, 3) := by decide +kernel
theorem dX10_copy_57 : decode cX10_copy 57 = .ok (.iload_n 3, 1) := by decide +kernel
theorem dX10_copy_58 : decode cX10_copy 58 = .ok (.invokevirtual 91, 3) := by decide +kernel
theorem dX10_copy_61 : decode cX10_copy 61 = .ok (.if_icmp .eq 9, 3) := by decide +kernel
theorem dX10_copy_64 : decode cX10_copy 64 = .ok (.aload_n 0, 1) := by decide +kernel
theorem dX10_copy_65 : decode cX10_copy 65 = .ok (.iconst 5, 1) := by decide +kernel
theorem dX10_copy_66 : decode cX10_copy 66 = .ok (.invokevirtual 70, 3) := by decide +kernel
theorem dX10_copy_69 : decode cX10_copy 69 = .ok (.ireturn, 1) := by decide +kernel
theorem dX10_copy_70 : decode cX10_copy 70 = .ok (.aload_n 0, 1) := by decide +kernel
theorem dX10_copy_71 : decode cX10_copy 71 = .ok (.getfield 10, 3) := by decide +kernel
theorem dX10_copy_74 : decode cX10_copy 74 = .ok (.iload_n 1, 1) := by decide +kernel
theorem dX10_copy_75 : decode cX10_copy 75 = .ok (.iload_n 2, 1) := by decide +kernel
theorem dX10_copy_76 : decode cX10_copy 76 = .ok (.iload 5, 2) := by decide +kernel
theorem dX10_copy_78 : decode cX10_copy 78 = .ok (.invokevirtual 81, 3) := by decide +kernel
theorem dX10_copy_81 : decode cX10_copy 81 = .ok (.ifCond .ne 18, 3) := by decide +kernel
theorem dX10_copy_84 : decode cX10_copy 84 = .ok (.aload_n 0, 1) := by decide +kernel
theorem dX10_copy_85 : decode cX10_copy 85 = .ok (.getfield 10, 3) := by decide +kernel
theorem dX10_copy_88 : decode cX10_copy 88 = .ok (.iload_n 3, 1) := by decide +kernel
theorem dX10_copy_89 : decode cX10_copy 89 = .ok (.iload 4, 2) := by decide +kernel
theorem dX10_copy_91 : decode cX10_copy 91 = .ok (.iload 5, 2) := by decide +kernel
theorem dX10_copy_93 : decode cX10_copy 93 = .ok (.invokevirtual 81, 3) := by decide +kernel
theorem dX10_copy_96 : decode cX10_copy 96 = .ok (.ifCond .eq 9, 3) := by decide +kernel
theorem dX10_copy_99 : decode cX10_copy 99 = .ok (.aload_n 0, 1) := by decide +kernel
theorem dX10_copy_100 : decode cX10_copy 100 = .ok (.iconst 2, 1) := by decide +kernel
theorem dX10_copy_101 : decode cX10_copy 101 = .ok (.invokevirtual 70, 3) := by decide +kernel
theorem dX10_copy_104 : decode cX10_copy 104 = .ok (.ireturn, 1) := by decide +kernel
theorem dX10_copy_105 : decode cX10_copy 105 = .ok (.aload_n 0, 1) := by decide +kernel
theorem dX10_copy_106 : decode cX10_copy 106 = .ok (.getfield 10, 3) := by decide +kernel
theorem dX10_copy_109 : decode cX10_copy 109 = .ok (.iload_n 1, 1) := by decide +kernel
theorem dX10_copy_110 : decode cX10_copy 110 = .ok (.iload_n 2, 1) := by decide +kernel
theorem dX10_copy_111 : decode cX10_copy 111 = .ok (.iload_n 3, 1) := by decide +kernel
theorem dX10_copy_112 : decode cX10_copy 112 = .ok (.iload 4, 2) := by decide +kernel
theorem dX10_copy_114 : decode cX10_copy 114 = .ok (.iload 5, 2) := by decide +kernel
theorem dX10_copy_116 : decode cX10_copy 116 = .ok (.invokevirtual 94, 3) := by decide +kernel
theorem dX10_copy_119 : decode cX10_copy 119 = .ok (.aload_n 0, 1) := by decide +kernel
theorem dX10_copy_120 : decode cX10_copy 120 = .ok (.iload 5, 2) := by decide +kernel
theorem dX10_copy_122 : decode cX10_copy 122 = .ok (.invokevirtual 78, 3) := by decide +kernel
theorem dX10_copy_125 : decode cX10_copy 125 = .ok (.ireturn, 1) := by decide +kernel
def Sp_X10_copy (av : List AV) (m : AM) (Φ : Option AV → AM → Prop) : Prop := ∃ x i y j n, av = [vr 10 0, vi x, vi i, vi y, vi j, vi n] ∧ ∃ La Ma It, RowR m La Ma It ∧ ((inB x 8 && inB y 8) = false → Φ (some (vi (-1000001))) m) ∧ ((inB x 8 && inB y 8) = true → (La x.toNatClampNeg = 0 ∨ La y.toNatClampNeg = 0) → ∀ m2, Fr (0 :: rowL) m m2 → RowR m2 La Ma It → m2.1 0 8 = nI 1 → Φ (some (vi (-1000010 - nI 1))) m2) ∧ ((inB x 8 && inB y 8) = true → 0 < La x.toNatClampNeg → 0 < La y.toNatClampNeg → La x.toNatClampNeg ≠ La y.toNatClampNeg → ∀ m2, Fr (0 :: rowL) m m2 → RowR m2 La Ma It → m2.1 0 8 = nI 5 → Φ (some (vi (-1000010 - nI 5))) m2) ∧ ((inB x 8 && inB y 8) = true → 0 < La x.toNatClampNeg → La x.toNatClampNeg = La y.toNatClampNeg → (fitB i n (Ma x.toNatClampNeg) && fitB j n (Ma y.toNatClampNeg)) = false → ∀ m2, Fr (0 :: rowL) m m2 → RowR m2 La Ma It → m2.1 0 8 = nI 2 → Φ (some (vi (-1000010 - nI 2))) m2) ∧ ((inB x 8 && inB y 8) = true → 0 < La x.toNatClampNeg → La x.toNatClampNeg = La y.toNatClampNeg → (fitB i n (Ma x.toNatClampNeg) && fitB j n (Ma y.toNatClampNeg)) = true → ∀ m2, Fr (0 :: rowL) m m2 → RowR m2 La Ma (cpI It x.toNatClampNeg i.toNatClampNeg y.toNatClampNeg j.toNatClampNeg n.toNatClampNeg) → m2.1 0 8 = nI 0 → Φ (some (vi n)) m2)
set_option maxRecDepth 20000 in
set_option maxHeartbeats 4000000 in
theorem S_X10_copy : Snd yX10_copy e_X10_copy Sp_X10_copy := by
  refine Snd.of (by decide +kernel) rfl ?_ ?_
  · rintro av m Φ ⟨x, i, y, j, n, rfl, _⟩; exact Nat.le_of_ble_eq_true rfl
  rintro av m Φ ⟨x, i, y, j, n, rfl, La, Ma, It, hR, h1, h2, h3, h4, h5⟩ hav hty
  show B e_X10_copy Φ 0 [some (vr 10 0), some (vi x), some (vi i), some (vi y), some (vi j), some (vi n)] [] m (0, 0)
  have r0 : ∀ {m2 : AM} {L2 M2 : Nat → Nat} {I2 : Nat → Nat → Int32} {y : Int32}, RowR m2 L2 M2 I2 → RowR (mset m2 0 8 y) L2 M2 I2 := fun {m2 L2 M2 I2 y} q => q.fr (fun a ha => mset_ne _ _ _ (fun e => by rw [e] at ha; exact absurd ha (by decide)))
  have mz : ∀ {k : Nat}, nI (if k = 0 then 1 else 0) = 0 → 0 < k := fun {k} z => by
    by_cases w : k = 0
    · rw [if_pos w] at z; exact absurd z (by decide)
    · omega
  have mn : ∀ {k : Nat}, ¬ nI (if k = 0 then 1 else 0) = 0 → k = 0 := fun {k} z => by
    by_cases w : k = 0
    · exact w
    · rw [if_neg w] at z; exact absurd rfl z
  by_cases hx : inB x 8 = true
  · by_cases hy : inB y 8 = true
    · have hxy : (inB x 8 && inB y 8) = true := by rw [hx, hy]; rfl
      obtain ⟨a, ha, rfl⟩ := (inB_iff (by omega)).mp hx
      obtain ⟨b, hb, rfl⟩ := (inB_iff (by omega)).mp hy
      rw [n_cl (show a < 2147483648 by omega), n_cl (show b < 2147483648 by omega)] at h2 h3 h4 h5
      have qa := hR a ha
      have qb := hR b hb
      have lea := lackN_lt La Ma a i n
      have leb := lackN_lt La Ma b j n
      have k2 : nI (La a - 1) = nI (La b - 1) → 0 < La a → 0 < La b → La a = La b := fun e l1 l2 => by
        have := (qa.2 l1).1
        have := (qb.2 l2).1
        rw [n_eq (by omega) (by omega)] at e
        omega
      have ok : 0 < La a → 0 < La b → nI (lackN La Ma a i n) = 0 → nI (lackN La Ma b j n) = 0 → (fitB i n (Ma a) && fitB j n (Ma b)) = true := fun l1 l2 e1 e2 => by
        rw [n_eq0 (by omega)] at e1 e2
        rw [(lackN_0.mp e1).2, (lackN_0.mp e2).2]; rfl
      have no : 0 < La a → 0 < La b → (¬ nI (lackN La Ma a i n) = 0 ∨ ¬ nI (lackN La Ma b j n) = 0) → (fitB i n (Ma a) && fitB j n (Ma b)) = false := fun l1 l2 e => by
        cases q1 : fitB i n (Ma a)
        · rfl
        · cases q2 : fitB j n (Ma b)
          · rfl
          · rw [n_eq0 (by omega), n_eq0 (by omega)] at e
            rcases e with e | e
            · exact absurd (lackN_0.mpr ⟨l1, q1⟩) e
            · exact absurd (lackN_0.mpr ⟨l2, q2⟩) e
      have num : 0 < La a → 0 < La b → (fitB i n (Ma a) && fitB j n (Ma b)) = true → i = nI i.toNatClampNeg ∧ j = nI j.toNatClampNeg ∧ n = nI n.toNatClampNeg ∧ i.toNatClampNeg + n.toNatClampNeg ≤ 40 ∧ j.toNatClampNeg + n.toNatClampNeg ≤ 40 := fun l1 l2 e => by
        rw [Bool.and_eq_true] at e
        have w1 := (qa.2 l1).2.2.2.1
        have w2 := (qb.2 l2).2.2.2.1
        obtain ⟨i1, n1, rfl, rfl, g1⟩ := fit_to w1 e.1
        obtain ⟨j1, n2, rfl, e2, g2⟩ := fit_to w2 e.2
        rw [n_eq (by omega) (by omega)] at e2
        rw [n_cl (show i1 < 2147483648 by omega), n_cl (show j1 < 2147483648 by omega), n_cl (show n1 < 2147483648 by omega)]
        exact ⟨rfl, rfl, rfl, by omega, by omega⟩
      refine b_iloadN (pc := 0) 1 dX10_copy_0 rfl rfl ?_
      refine call_X10_isRow (pc := 1) k447 (by decide) ⟨Nat.le_of_ble_eq_true rfl, Nat.le_of_ble_eq_true rfl⟩ (Nat.le_of_ble_eq_true rfl) dX10_copy_1 ?_
      refine ⟨_, rfl, ?_⟩
      refine b_if_eq (pc := 4) 14 dX10_copy_4 (by decide) (fun c4 => ?_) (fun c4 => ?_)
      refine b_ldc (pc := 14) k450 dX10_copy_14 ?_
      refine b_iret (pc := 16) rfl dX10_copy_16 ⟨Nat.le_of_ble_eq_true rfl, Nat.le_of_ble_eq_true rfl⟩ ?_
      rotate_left -- leaf 0: return at 16
      refine b_iloadN (pc := 7) 3 dX10_copy_7 rfl rfl ?_
      refine call_X10_isRow (pc := 8) k447 (by decide) ⟨Nat.le_of_ble_eq_true rfl, Nat.le_of_ble_eq_true rfl⟩ (Nat.le_of_ble_eq_true rfl) dX10_copy_8 ?_
      refine ⟨_, rfl, ?_⟩
      refine b_if_ne (pc := 11) 17 dX10_copy_11 (by decide) (fun c11 => ?_) (fun c11 => ?_)
      refine b_aloadN (pc := 17) 0 dX10_copy_17 rfl rfl ?_
      refine gf10_0 (pc := 18) 1 rfl k415 dX10_copy_18 ?_
      refine b_iloadN (pc := 21) 1 dX10_copy_21 rfl rfl ?_
      refine call_X6_isMissing (pc := 22) k484 (by decide) ⟨Nat.le_of_ble_eq_true rfl, Nat.le_of_ble_eq_true rfl⟩ (Nat.le_of_ble_eq_true rfl) dX10_copy_22 ?_
      refine ⟨_, rfl, La, Ma, It, _, hR, rfl, ?_, ?_⟩
      rotate_left -- leaf 1: row of X6_isMissing at 22
      refine b_if_ne (pc := 25) 39 dX10_copy_25 (by decide) (fun c25 => ?_) (fun c25 => ?_)
      refine b_aloadN (pc := 39) 0 dX10_copy_39 rfl rfl ?_
      refine b_iconst (pc := 40) (nI 1) dX10_copy_40 (by decide) ?_
      refine call_X10_found (pc := 41) k451 (by decide) ⟨Nat.le_of_ble_eq_true rfl, Nat.le_of_ble_eq_true rfl⟩ (Nat.le_of_ble_eq_true rfl) dX10_copy_41 ?_
      refine ⟨_, rfl, ?_⟩
      refine b_iret (pc := 44) rfl dX10_copy_44 ⟨Nat.le_of_ble_eq_true rfl, Nat.le_of_ble_eq_true rfl⟩ ?_
      rotate_left -- leaf 2: return at 44
      refine b_aloadN (pc := 28) 0 dX10_copy_28 rfl rfl ?_
      refine gf10_0 (pc := 29) 1 rfl k415 dX10_copy_29 ?_
      refine b_iloadN (pc := 32) 3 dX10_copy_32 rfl rfl ?_
      refine call_X6_isMissing (pc := 33) k484 (by decide) ⟨Nat.le_of_ble_eq_true rfl, Nat.le_of_ble_eq_true rfl⟩ (Nat.le_of_ble_eq_true rfl) dX10_copy_33 ?_
      refine ⟨_, rfl, La, Ma, It, _, hR, rfl, ?_, ?_⟩
      rotate_left -- leaf 3: row of X6_isMissing at 33
      refine b_if_eq (pc := 36) 45 dX10_copy_36 (by decide) (fun c36 => ?_) (fun c36 => ?_)
      refine b_aloadN (pc := 45) 0 dX10_copy_45 rfl rfl ?_
      refine gf10_0 (pc := 46) 1 rfl k415 dX10_copy_46 ?_
      refine b_iloadN (pc := 49) 1 dX10_copy_49 rfl rfl ?_
      refine call_X6_laneOf (pc := 50) k485 (by decide) ⟨Nat.le_of_ble_eq_true rfl, Nat.le_of_ble_eq_true rfl⟩ (Nat.le_of_ble_eq_true rfl) dX10_copy_50 ?_
      refine ⟨_, rfl, La, Ma, It, _, hR, rfl, ?_, ?_, ?_⟩
      rotate_left -- leaf 4: row of X6_laneOf at 50
      rotate_left -- leaf 5: there of X6_laneOf at 50
      refine b_aloadN (pc := 53) 0 dX10_copy_53 rfl rfl ?_
      refine gf10_0 (pc := 54) 1 rfl k415 dX10_copy_54 ?_
      refine b_iloadN (pc := 57) 3 dX10_copy_57 rfl rfl ?_
      refine call_X6_laneOf (pc := 58) k485 (by decide) ⟨Nat.le_of_ble_eq_true rfl, Nat.le_of_ble_eq_true rfl⟩ (Nat.le_of_ble_eq_true rfl) dX10_copy_58 ?_
      refine ⟨_, rfl, La, Ma, It, _, hR, rfl, ?_, ?_, ?_⟩
      rotate_left -- leaf 6: row of X6_laneOf at 58
      rotate_left -- leaf 7: there of X6_laneOf at 58
      refine b_icmp_eq (pc := 61) 70 dX10_copy_61 (by decide) (fun c61 => ?_) (fun c61 => ?_)
      refine b_aloadN (pc := 70) 0 dX10_copy_70 rfl rfl ?_
      refine gf10_0 (pc := 71) 1 rfl k415 dX10_copy_71 ?_
      refine b_iloadN (pc := 74) 1 dX10_copy_74 rfl rfl ?_
      refine b_iloadN (pc := 75) 2 dX10_copy_75 rfl rfl ?_
      refine b_iloadG (pc := 76) 5 dX10_copy_76 rfl ?_
      refine call_X6_lack (pc := 78) k468 (by decide) ⟨Nat.le_of_ble_eq_true rfl, Nat.le_of_ble_eq_true rfl⟩ (Nat.le_of_ble_eq_true rfl) dX10_copy_78 ?_
      refine ⟨_, _, _, rfl, La, Ma, It, _, hR, rfl, ?_, ?_⟩
      rotate_left -- leaf 8: row of X6_lack at 78
      refine b_if_ne (pc := 81) 99 dX10_copy_81 (by decide) (fun c81 => ?_) (fun c81 => ?_)
      refine b_aloadN (pc := 99) 0 dX10_copy_99 rfl rfl ?_
      refine b_iconst (pc := 100) (nI 2) dX10_copy_100 (by decide) ?_
      refine call_X10_found (pc := 101) k451 (by decide) ⟨Nat.le_of_ble_eq_true rfl, Nat.le_of_ble_eq_true rfl⟩ (Nat.le_of_ble_eq_true rfl) dX10_copy_101 ?_
      refine ⟨_, rfl, ?_⟩
      refine b_iret (pc := 104) rfl dX10_copy_104 ⟨Nat.le_of_ble_eq_true rfl, Nat.le_of_ble_eq_true rfl⟩ ?_
      rotate_left -- leaf 9: return at 104
      refine b_aloadN (pc := 84) 0 dX10_copy_84 rfl rfl ?_
      refine gf10_0 (pc := 85) 1 rfl k415 dX10_copy_85 ?_
      refine b_iloadN (pc := 88) 3 dX10_copy_88 rfl rfl ?_
      refine b_iloadG (pc := 89) 4 dX10_copy_89 rfl ?_
      refine b_iloadG (pc := 91) 5 dX10_copy_91 rfl ?_
      refine call_X6_lack (pc := 93) k468 (by decide) ⟨Nat.le_of_ble_eq_true rfl, Nat.le_of_ble_eq_true rfl⟩ (Nat.le_of_ble_eq_true rfl) dX10_copy_93 ?_
      refine ⟨_, _, _, rfl, La, Ma, It, _, hR, rfl, ?_, ?_⟩
      rotate_left -- leaf 10: row of X6_lack at 93
      refine b_if_eq (pc := 96) 105 dX10_copy_96 (by decide) (fun c96 => ?_) (fun c96 => ?_)
      refine b_aloadN (pc := 105) 0 dX10_copy_105 rfl rfl ?_
      refine gf10_0 (pc := 106) 1 rfl k415 dX10_copy_106 ?_
      refine b_iloadN (pc := 109) 1 dX10_copy_109 rfl rfl ?_
      refine b_iloadN (pc := 110) 2 dX10_copy_110 rfl rfl ?_
      refine b_iloadN (pc := 111) 3 dX10_copy_111 rfl rfl ?_
      refine b_iloadG (pc := 112) 4 dX10_copy_112 rfl ?_
      refine b_iloadG (pc := 114) 5 dX10_copy_114 rfl ?_
      refine call_X6_carry (pc := 116) k489 (by decide) ⟨Nat.le_of_ble_eq_true rfl, Nat.le_of_ble_eq_true rfl⟩ (Nat.le_of_ble_eq_true rfl) dX10_copy_116 ?_
      refine ⟨_, _, _, _, _, rfl, La, Ma, It, _, i.toNatClampNeg, _, j.toNatClampNeg, n.toNatClampNeg, hR, rfl, ?_, rfl, ?_, ?_, ?_, ?_, ?_, ?_, ?_, fun m116 fr116 ro116 => ?_⟩
      rotate_left -- leaf 11: i of X6_carry at 116
      rotate_left -- leaf 12: j of X6_carry at 116
      rotate_left -- leaf 13: n of X6_carry at 116
      rotate_left -- leaf 14: a of X6_carry at 116
      rotate_left -- leaf 15: b of X6_carry at 116
      rotate_left -- leaf 16: from of X6_carry at 116
      rotate_left -- leaf 17: to of X6_carry at 116
      rotate_left -- leaf 18: there of X6_carry at 116
      refine b_aloadN (pc := 119) 0 dX10_copy_119 rfl rfl ?_
      refine b_iloadG (pc := 120) 5 dX10_copy_120 rfl ?_
      refine call_X10_fine (pc := 122) k460 (by decide) ⟨Nat.le_of_ble_eq_true rfl, Nat.le_of_ble_eq_true rfl⟩ (Nat.le_of_ble_eq_true rfl) dX10_copy_122 ?_
      refine ⟨_, rfl, ?_⟩
      refine b_iret (pc := 125) rfl dX10_copy_125 ⟨Nat.le_of_ble_eq_true rfl, Nat.le_of_ble_eq_true rfl⟩ ?_
      rotate_left -- leaf 19: return at 125
      refine b_aloadN (pc := 99) 0 dX10_copy_99 rfl rfl ?_
      refine b_iconst (pc := 100) (nI 2) dX10_copy_100 (by decide) ?_
      refine call_X10_found (pc := 101) k451 (by decide) ⟨Nat.le_of_ble_eq_true rfl, Nat.le_of_ble_eq_true rfl⟩ (Nat.le_of_ble_eq_true rfl) dX10_copy_101 ?_
      refine ⟨_, rfl, ?_⟩
      refine b_iret (pc := 104) rfl dX10_copy_104 ⟨Nat.le_of_ble_eq_true rfl, Nat.le_of_ble_eq_true rfl⟩ ?_
      rotate_left -- leaf 20: return at 104
      refine b_aloadN (pc := 64) 0 dX10_copy_64 rfl rfl ?_
      refine b_iconst (pc := 65) (nI 5) dX10_copy_65 (by decide) ?_
      refine call_X10_found (pc := 66) k451 (by decide) ⟨Nat.le_of_ble_eq_true rfl, Nat.le_of_ble_eq_true rfl⟩ (Nat.le_of_ble_eq_true rfl) dX10_copy_66 ?_
      refine ⟨_, rfl, ?_⟩
      refine b_iret (pc := 69) rfl dX10_copy_69 ⟨Nat.le_of_ble_eq_true rfl, Nat.le_of_ble_eq_true rfl⟩ ?_
      rotate_left -- leaf 21: return at 69
      refine b_aloadN (pc := 39) 0 dX10_copy_39 rfl rfl ?_
      refine b_iconst (pc := 40) (nI 1) dX10_copy_40 (by decide) ?_
      refine call_X10_found (pc := 41) k451 (by decide) ⟨Nat.le_of_ble_eq_true rfl, Nat.le_of_ble_eq_true rfl⟩ (Nat.le_of_ble_eq_true rfl) dX10_copy_41 ?_
      refine ⟨_, rfl, ?_⟩
      refine b_iret (pc := 44) rfl dX10_copy_44 ⟨Nat.le_of_ble_eq_true rfl, Nat.le_of_ble_eq_true rfl⟩ ?_
      rotate_left -- leaf 22: return at 44
      refine b_ldc (pc := 14) k450 dX10_copy_14 ?_
      refine b_iret (pc := 16) rfl dX10_copy_16 ⟨Nat.le_of_ble_eq_true rfl, Nat.le_of_ble_eq_true rfl⟩ ?_
      rotate_left -- leaf 23: return at 16
      -- leaves: 0 return at 16; 1 row of X6_isMissing at 22; 2 return at 44; 3 row of X6_isMissing at 33; 4 row of X6_laneOf at 50; 5 there of X6_laneOf at 50; 6 row of X6_laneOf at 58; 7 there of X6_laneOf at 58; 8 row of X6_lack at 78; 9 return at 104; 10 row of X6_lack at 93; 11 i of X6_carry at 116; 12 j of X6_carry at 116; 13 n of X6_carry at 116; 14 a of X6_carry at 116; 15 b of X6_carry at 116; 16 from of X6_carry at 116; 17 to of X6_carry at 116; 18 there of X6_carry at 116; 19 return at 125; 20 return at 104; 21 return at 69; 22 return at 44; 23 return at 16
      · rw [hx] at c4; exact absurd c4 (by decide)
      · exact ha
      · exact h2 hxy (Or.inl (mn c25)) _ ((Fr.rf _ m).ms (by simp)) (r0 hR) (by rw [mset_at, if_pos rfl])
      · exact hb
      · exact ha
      · exact mz c25
      · exact hb
      · exact mz c36
      · exact ha
      · exact h4 hxy (mz c25) (k2 c61 (mz c25) (mz c36)) (no (mz c25) (mz c36) (Or.inl c81)) _ ((Fr.rf _ m).ms (by simp)) (r0 hR) (by rw [mset_at, if_pos rfl])
      · exact hb
      · exact (num (mz c25) (mz c36) (ok (mz c25) (mz c36) c81 c96)).1
      · exact (num (mz c25) (mz c36) (ok (mz c25) (mz c36) c81 c96)).2.1
      · exact (num (mz c25) (mz c36) (ok (mz c25) (mz c36) c81 c96)).2.2.1
      · exact ha
      · exact hb
      · exact (num (mz c25) (mz c36) (ok (mz c25) (mz c36) c81 c96)).2.2.2.1
      · exact (num (mz c25) (mz c36) (ok (mz c25) (mz c36) c81 c96)).2.2.2.2
      · exact mz c25
      · exact h5 hxy (mz c25) (k2 c61 (mz c25) (mz c36)) (ok (mz c25) (mz c36) c81 c96) _ ((fr116.mono (fun a ha => List.mem_cons_of_mem _ ha)).ms (by simp)) (r0 ro116) (by rw [mset_at, if_pos rfl])
      · exact h4 hxy (mz c25) (k2 c61 (mz c25) (mz c36)) (no (mz c25) (mz c36) (Or.inr c96)) _ ((Fr.rf _ m).ms (by simp)) (r0 hR) (by rw [mset_at, if_pos rfl])
      · exact h3 hxy (mz c25) (mz c36) (fun e => c61 (by rw [e])) _ ((Fr.rf _ m).ms (by simp)) (r0 hR) (by rw [mset_at, if_pos rfl])
      · exact h2 hxy (Or.inr (mn c36)) _ ((Fr.rf _ m).ms (by simp)) (r0 hR) (by rw [mset_at, if_pos rfl])
      · rw [hy] at c11; exact absurd c11 (by decide)
    · have hxy : (inB x 8 && inB y 8) = false := by
        cases q : inB y 8
        · rw [Bool.and_false]
        · exact absurd q hy
      refine b_iloadN (pc := 0) 1 dX10_copy_0 rfl rfl ?_
      refine call_X10_isRow (pc := 1) k447 (by decide) ⟨Nat.le_of_ble_eq_true rfl, Nat.le_of_ble_eq_true rfl⟩ (Nat.le_of_ble_eq_true rfl) dX10_copy_1 ?_
      refine ⟨_, rfl, ?_⟩
      refine b_if_eq (pc := 4) 14 dX10_copy_4 (by decide) (fun c4 => ?_) (fun c4 => ?_)
      refine b_ldc (pc := 14) k450 dX10_copy_14 ?_
      refine b_iret (pc := 16) rfl dX10_copy_16 ⟨Nat.le_of_ble_eq_true rfl, Nat.le_of_ble_eq_true rfl⟩ ?_
      rotate_left -- leaf 0: return at 16
      refine b_iloadN (pc := 7) 3 dX10_copy_7 rfl rfl ?_
      refine call_X10_isRow (pc := 8) k447 (by decide) ⟨Nat.le_of_ble_eq_true rfl, Nat.le_of_ble_eq_true rfl⟩ (Nat.le_of_ble_eq_true rfl) dX10_copy_8 ?_
      refine ⟨_, rfl, ?_⟩
      refine b_if_ne (pc := 11) 17 dX10_copy_11 (by decide) (fun c11 => ?_) (fun c11 => ?_)
      rotate_left -- leaf 1: at 17
      refine b_ldc (pc := 14) k450 dX10_copy_14 ?_
      refine b_iret (pc := 16) rfl dX10_copy_16 ⟨Nat.le_of_ble_eq_true rfl, Nat.le_of_ble_eq_true rfl⟩ ?_
      rotate_left -- leaf 2: return at 16
      -- leaves: 0 return at 16; 1 at 17; 2 return at 16
      · exact h1 hxy
      · exact absurd (bT c11) hy
      · exact h1 hxy
  · have hxy : (inB x 8 && inB y 8) = false := by
      cases q : inB x 8
      · rfl
      · exact absurd q hx
    refine b_iloadN (pc := 0) 1 dX10_copy_0 rfl rfl ?_
    refine call_X10_isRow (pc := 1) k447 (by decide) ⟨Nat.le_of_ble_eq_true rfl, Nat.le_of_ble_eq_true rfl⟩ (Nat.le_of_ble_eq_true rfl) dX10_copy_1 ?_
    refine ⟨_, rfl, ?_⟩
    refine b_if_eq (pc := 4) 14 dX10_copy_4 (by decide) (fun c4 => ?_) (fun c4 => ?_)
    rotate_left -- leaf 0: at 14
    rotate_left -- leaf 1: at 7
    -- leaves: 0 at 14; 1 at 7
    · show B e_X10_copy Φ 14 [some (vr 10 0), some (vi x), some (vi i), some (vi y), some (vi j), some (vi n)] [] m (0, 0)
      refine b_ldc (pc := 14) k450 dX10_copy_14 ?_
      refine b_iret (pc := 16) rfl dX10_copy_16 ⟨Nat.le_of_ble_eq_true rfl, Nat.le_of_ble_eq_true rfl⟩ ?_
      rotate_left -- leaf 0: return at 16
      -- leaves: 0 return at 16
      exact h1 hxy
    · exact absurd (bT c4) hx
theorem call_X10_copy {E : ME} {Φ : Option AV → AM → Prop} {pc : Nat} {L : List (Option AV)} {st : List AV} {m : AM} {a : Nat × Nat} {idx : Nat} {x0 x1 x2 x3 x4 : AV} {i : Nat} (hl : Cond.methodLink E.2.1 idx yX10_copy ∈ TB) (hdep : 8 + 1 ≤ E.2.2.2.2.2.2) (hroom : a.1 + 0 ≤ E.2.2.2.2.1 ∧ a.2 + 0 ≤ E.2.2.2.2.2.1) (hsr : st.length ≤ 4) (hd : decode E.1 pc = .ok (.invokevirtual idx, 3)) (hsp : Sp_X10_copy [vr 10 i, x0, x1, x2, x3, x4] m (fun r m2 => B E Φ (pc + 3) L (r.toList ++ st) m2 a)) : B E Φ pc L (x4 :: x3 :: x2 :: x1 :: x0 :: vr 10 i :: st) m a := b_callV S_X10_copy [x0, x1, x2, x3, x4] (RX10, TX10, 9) rfl rfl (by decide) (Or.inl hl) k481 k482 k68 k483 (show _ ∧ _ ∧ Option.map (fun d => d.parameters.length) (parseMethodDescriptor yX10_copy.desc) = some 5 from by decide +kernel) ⟨hdep, by decide⟩ hroom hsr hd hsp
/-- a new array of N ints g, all else as it was -/
def NewA (m m2 : AM) (N : Nat) (g : Nat → Int32) : Prop := m2.2.1 = m.2.1 ∧ m2.2.2.2 = m.2.2.2 + 1 ∧ (∀ a, a < m.2.2.2 → m2.1 a = m.1 a ∧ m2.2.2.1 a = m.2.2.1 a) ∧ m2.2.2.1 m.2.2.2 = N ∧ ∀ k, k < N → m2.1 m.2.2.2 k = g k
abbrev e_J7_checkLength_df160 : ME := (cJ7_checkLength_df160, ("java/util/Arrays", (2, (none, (0, (0, 1))))))
theorem dJ7_checkLength_df160_0 : decode cJ7_checkLength_df160 0 = .ok (.iload_n 1, 1) := by decide +kernel
theorem dJ7_checkLength_df160_1 : decode cJ7_checkLength_df160 1 = .ok (.iload_n 0, 1) := by decide +kernel
theorem dJ7_checkLength_df160_2 : decode cJ7_checkLength_df160 2 = .ok (.if_icmp .ge 35, 3) := by decide +kernel
theorem dJ7_checkLength_df160_5 : decode cJ7_checkLength_df160 5 = .ok (.new 43, 3) := by decide +kernel
theorem dJ7_checkLength_df160_8 : decode cJ7_checkLength_df160 8 = .ok (.dup, 1) := by decide +kernel
theorem dJ7_checkLength_df160_9 : decode cJ7_checkLength_df160 9 = .ok (.new 45, 3) := by decide +kernel
theorem dJ7_checkLength_df160_12 : decode cJ7_checkLength_df160 12 = .ok (.dup, 1) := by decide +kernel
theorem dJ7_checkLength_df160_13 : decode cJ7_checkLength_df160 13 = .ok (.invokespecial 47, 3) := by decide +kernel
theorem dJ7_checkLength_df160_16 : decode cJ7_checkLength_df160 16 = .ok (.iload_n 0, 1) := by decide +kernel
theorem dJ7_checkLength_df160_17 : decode cJ7_checkLength_df160 17 = .ok (.invokevirtual 54, 3) := by decide +kernel
theorem dJ7_checkLength_df160_20 : decode cJ7_checkLength_df160 20 = .ok (.ldc_w 337, 3) := by decide +kernel
theorem dJ7_checkLength_df160_23 : decode cJ7_checkLength_df160 23 = .ok (.invokevirtual 50, 3) := by decide +kernel
theorem dJ7_checkLength_df160_26 : decode cJ7_checkLength_df160 26 = .ok (.iload_n 1, 1) := by decide +kernel
theorem dJ7_checkLength_df160_27 : decode cJ7_checkLength_df160 27 = .ok (.invokevirtual 54, 3) := by decide +kernel
theorem dJ7_checkLength_df160_30 : decode cJ7_checkLength_df160 30 = .ok (.invokevirtual 61, 3) := by decide +kernel
theorem dJ7_checkLength_df160_33 : decode cJ7_checkLength_df160 33 = .ok (.invokespecial 65, 3) := by decide +kernel
theorem dJ7_checkLength_df160_36 : decode cJ7_checkLength_df160 36 = .ok (.athrow, 1) := by decide +kernel
theorem dJ7_checkLength_df160_37 : decode cJ7_checkLength_df160 37 = .ok (.return_, 1) := by decide +kernel
def Sp_J7_checkLength_df160 (av : List AV) (m : AM) (Φ : Option AV → AM → Prop) : Prop := ∃ x y, av = [vi x, vi y] ∧ ∃ f z, x = nI f ∧ y = nI z ∧ f ≤ z ∧ z < 100000 ∧ Φ none m
set_option maxRecDepth 20000 in
set_option maxHeartbeats 4000000 in
theorem S_J7_checkLength_df160 : Snd yJ7_checkLength_df160 e_J7_checkLength_df160 Sp_J7_checkLength_df160 := by
  refine Snd.of (by decide +kernel) rfl ?_ ?_
  · rintro av m Φ ⟨x, y, rfl, _⟩; exact Nat.le_of_ble_eq_true rfl
  rintro av m Φ ⟨x, y, rfl, f, z, rfl, rfl, hf, hz, h⟩ hav hty
  show B e_J7_checkLength_df160 Φ 0 [some (vi (nI f)), some (vi (nI z))] [] m (0, 0)
  refine b_iloadN (pc := 0) 1 dJ7_checkLength_df160_0 rfl rfl ?_
  refine b_iloadN (pc := 1) 0 dJ7_checkLength_df160_1 rfl rfl ?_
  refine b_icmp_ge (pc := 2) 37 dJ7_checkLength_df160_2 (by decide) (fun c2 => ?_) (fun c2 => ?_)
  refine b_vret (pc := 37) rfl dJ7_checkLength_df160_37 ⟨Nat.le_of_ble_eq_true rfl, Nat.le_of_ble_eq_true rfl⟩ ?_
  rotate_left -- leaf 0: return at 37
  rotate_left -- leaf 1: new at 5
  -- leaves: 0 return at 37; 1 new at 5
  · exact h
  · rw [n_le (by omega) (by omega)] at c2
    omega
theorem call_J7_checkLength_df160 {E : ME} {Φ : Option AV → AM → Prop} {pc : Nat} {L : List (Option AV)} {st : List AV} {m : AM} {a : Nat × Nat} {idx : Nat} {x0 x1 : AV} (hl : Cond.methodLink E.2.1 idx yJ7_checkLength_df160 ∈ TB) (hdep : 1 + 1 ≤ E.2.2.2.2.2.2) (hroom : a.1 + 0 ≤ E.2.2.2.2.1 ∧ a.2 + 0 ≤ E.2.2.2.2.2.1) (hsr : st.length ≤ 4) (hd : decode E.1 pc = .ok (.invokestatic idx, 3)) (hsp : Sp_J7_checkLength_df160 [x0, x1] m (fun r m2 => B E Φ (pc + 3) L (r.toList ++ st) m2 a)) : B E Φ pc L (x1 :: x0 :: st) m a := b_callS S_J7_checkLength_df160 [x0, x1] (Or.inl hl) k873 k70 k874 (show _ ∧ _ ∧ Option.map (fun d => d.parameters.length) (parseMethodDescriptor yJ7_checkLength_df160.desc) = some 2 from by decide +kernel) ⟨hdep, by decide⟩ hroom hsr hd hsp
abbrev e_J7_copyOfRangeInt_feecc : ME := (cJ7_copyOfRangeInt_feecc, ("java/util/Arrays", (5, ((some (.array .int)), (1, (40, 3))))))
theorem dJ7_copyOfRangeInt_feecc_0 : decode cJ7_copyOfRangeInt_feecc 0 = .ok (.iload_n 1, 1) := by decide +kernel
theorem dJ7_copyOfRangeInt_feecc_1 : decode cJ7_copyOfRangeInt_feecc 1 = .ok (.iload_n 2, 1) := by decide +kernel
theorem dJ7_copyOfRangeInt_feecc_2 : decode cJ7_copyOfRangeInt_feecc 2 = .ok (.invokestatic 343, 3) := by decide +kernel
theorem dJ7_copyOfRangeInt_feecc_5 : decode cJ7_copyOfRangeInt_feecc 5 = .ok (.iload_n 2, 1) := by decide +kernel
theorem dJ7_copyOfRangeInt_feecc_6 : decode cJ7_copyOfRangeInt_feecc 6 = .ok (.iload_n 1, 1) := by decide +kernel
theorem dJ7_copyOfRangeInt_feecc_7 : decode cJ7_copyOfRangeInt_feecc 7 = .ok (.isub, 1) := by decide +kernel
theorem dJ7_copyOfRangeInt_feecc_8 : decode cJ7_copyOfRangeInt_feecc 8 = .ok (.istore_n 3, 1) := by decide +kernel
theorem dJ7_copyOfRangeInt_feecc_9 : decode cJ7_copyOfRangeInt_feecc 9 = .ok (.iload_n 3, 1) := by decide +kernel
theorem dJ7_copyOfRangeInt_feecc_10 : decode cJ7_copyOfRangeInt_feecc 10 = .ok (.newarray .int, 2) := by decide +kernel
theorem dJ7_copyOfRangeInt_feecc_12 : decode cJ7_copyOfRangeInt_feecc 12 = .ok (.astore 4, 2) := by decide +kernel
theorem dJ7_copyOfRangeInt_feecc_14 : decode cJ7_copyOfRangeInt_feecc 14 = .ok (.aload_n 0, 1) := by decide +kernel
theorem dJ7_copyOfRangeInt_feecc_15 : decode cJ7_copyOfRangeInt_feecc 15 = .ok (.iload_n 1, 1) := by decide +kernel
theorem dJ7_copyOfRangeInt_feecc_16 : decode cJ7_copyOfRangeInt_feecc 16 = .ok (.aload 4, 2) := by decide +kernel
theorem dJ7_copyOfRangeInt_feecc_18 : decode cJ7_copyOfRangeInt_feecc 18 = .ok (.iconst 0, 1) := by decide +kernel
theorem dJ7_copyOfRangeInt_feecc_19 : decode cJ7_copyOfRangeInt_feecc 19 = .ok (.aload_n 0, 1) := by decide +kernel
theorem dJ7_copyOfRangeInt_feecc_20 : decode cJ7_copyOfRangeInt_feecc 20 = .ok (.arraylength, 1) := by decide +kernel
theorem dJ7_copyOfRangeInt_feecc_21 : decode cJ7_copyOfRangeInt_feecc 21 = .ok (.iload_n 1, 1) := by decide +kernel
theorem dJ7_copyOfRangeInt_feecc_22 : decode cJ7_copyOfRangeInt_feecc 22 = .ok (.isub, 1) := by decide +kernel
theorem dJ7_copyOfRangeInt_feecc_23 : decode cJ7_copyOfRangeInt_feecc 23 = .ok (.iload_n 3, 1) := by decide +kernel
theorem dJ7_copyOfRangeInt_feecc_24 : decode cJ7_copyOfRangeInt_feecc 24 = .ok (.invokestatic 304, 3) := by decide +kernel
theorem dJ7_copyOfRangeInt_feecc_27 : decode cJ7_copyOfRangeInt_feecc 27 = .ok (.invokestatic 150, 3) := by decide +kernel
theorem dJ7_copyOfRangeInt_feecc_30 : decode cJ7_copyOfRangeInt_feecc 30 = .ok (.aload 4, 2) := by decide +kernel
theorem dJ7_copyOfRangeInt_feecc_32 : decode cJ7_copyOfRangeInt_feecc 32 = .ok (.areturn, 1) := by decide +kernel
def Sp_J7_copyOfRangeInt_feecc (av : List AV) (m : AM) (Φ : Option AV → AM → Prop) : Prop := ∃ t i x y, av = [vr t i, vi x, vi y] ∧ (t = 12 ∨ 100 ≤ t ∧ t < 20000) ∧ ∃ f z, x = nI f ∧ y = nI z ∧ f ≤ z ∧ z ≤ alT m t i ∧ alT m t i < 10000 ∧ z ≤ f + 40 ∧ ∀ m2, NewA m m2 (z - f) (fun k => m.1 i (f + k)) → Φ (some (vr 12 m.2.2.2)) m2
set_option maxRecDepth 20000 in
set_option maxHeartbeats 4000000 in
theorem S_J7_copyOfRangeInt_feecc : Snd yJ7_copyOfRangeInt_feecc e_J7_copyOfRangeInt_feecc Sp_J7_copyOfRangeInt_feecc := by
  refine Snd.of (by decide +kernel) rfl ?_ ?_
  · rintro av m Φ ⟨t, i, x, y, rfl, _⟩; exact Nat.le_of_ble_eq_true rfl
  rintro av m Φ ⟨t, i, x, y, rfl, ht, f, z, rfl, rfl, hf, hz, hl, h4, h⟩ hav hty
  show B e_J7_copyOfRangeInt_feecc Φ 0 [some (vr t i), some (vi (nI f)), some (vi (nI z)), none, none] [] m (0, 0)
  have hw : wt m (vr t i) := hav _ (by simp)
  have hi : i < m.2.2.2 := hw.2
  have hne : i ≠ m.2.2.2 := by omega
  refine b_iloadN (pc := 0) 1 dJ7_copyOfRangeInt_feecc_0 rfl rfl ?_
  refine b_iloadN (pc := 1) 2 dJ7_copyOfRangeInt_feecc_1 rfl rfl ?_
  refine call_J7_checkLength_df160 (pc := 2) k872 (by decide) ⟨Nat.le_of_ble_eq_true rfl, Nat.le_of_ble_eq_true rfl⟩ (Nat.le_of_ble_eq_true rfl) dJ7_copyOfRangeInt_feecc_2 ?_
  refine ⟨_, _, rfl, _, _, rfl, rfl, ?_, ?_, ?_⟩
  rotate_left -- leaf 0: le of J7_checkLength_df160 at 2
  rotate_left -- leaf 1: small of J7_checkLength_df160 at 2
  refine b_iloadN (pc := 5) 2 dJ7_copyOfRangeInt_feecc_5 rfl rfl ?_
  refine b_iloadN (pc := 6) 1 dJ7_copyOfRangeInt_feecc_6 rfl rfl ?_
  refine b_isub (pc := 7) dJ7_copyOfRangeInt_feecc_7 ?_
  refine siN3 (pc := 8) rfl notL_i (by decide) dJ7_copyOfRangeInt_feecc_8 ?_
  refine b_iloadN (pc := 9) 3 dJ7_copyOfRangeInt_feecc_9 rfl rfl ?_
  rotate_left -- leaf 2: newarray at 10
  -- leaves: 0 le of J7_checkLength_df160 at 2; 1 small of J7_checkLength_df160 at 2; 2 newarray at 10
  · exact hf
  · omega
  refine b_newI (pc := 10) (n_sub hf) (by omega) ⟨by show 0 + 1 ≤ 1; omega, by show 0 + (z - f) ≤ 40; omega⟩ k114 dJ7_copyOfRangeInt_feecc_10 ?_
  refine B.mono (a' := (1, 40)) ?_ (by show 0 + 1 ≤ 1; omega) (by show 0 + (z - f) ≤ 40; omega)
  have al : alT (nwA m (z - f)) t i = alT m t i := by
    unfold alT
    rw [nwA_oldL m _ hi]
  have al2 : alT (nwA m (z - f)) 12 m.2.2.2 = z - f := by
    unfold alT
    rw [if_pos rfl, nwA_newL]
  have mn : (if nI (alT m t i) - nI f < nI (z - f) then nI (alT m t i) - nI f else nI (z - f)) = nI (z - f) := by
    rw [n_sub (by omega), if_neg (by rw [n_lt (by omega) (by omega)]; omega)]
  have mn2 : (if nI (z - f) < nI (alT m t i) - nI f then nI (z - f) else nI (alT m t i) - nI f) = nI (z - f) := by
    rw [n_sub (by omega)]
    by_cases q : z - f < alT m t i - f
    · rw [if_pos (by rw [n_lt (by omega) (by omega)]; exact q)]
    · rw [if_neg (by rw [n_lt (by omega) (by omega)]; exact q), show alT m t i - f = z - f by omega]
  refine saG4 (pc := 12) notL_i (by decide) dJ7_copyOfRangeInt_feecc_12 ?_
  refine b_aloadN (pc := 14) 0 dJ7_copyOfRangeInt_feecc_14 rfl rfl ?_
  refine b_iloadN (pc := 15) 1 dJ7_copyOfRangeInt_feecc_15 rfl rfl ?_
  refine b_aloadG (pc := 16) 4 dJ7_copyOfRangeInt_feecc_16 rfl ?_
  refine b_iconst (pc := 18) (nI 0) dJ7_copyOfRangeInt_feecc_18 (by decide) ?_
  refine b_aloadN (pc := 19) 0 dJ7_copyOfRangeInt_feecc_19 rfl rfl ?_
  refine b_alenA (pc := 20) ht dJ7_copyOfRangeInt_feecc_20 ?_
  refine b_iloadN (pc := 21) 1 dJ7_copyOfRangeInt_feecc_21 rfl rfl ?_
  refine b_isub (pc := 22) dJ7_copyOfRangeInt_feecc_22 ?_
  refine b_iloadN (pc := 23) 3 dJ7_copyOfRangeInt_feecc_23 rfl rfl ?_
  refine b_mmin (pc := 24) k875 k657 k82 k658 (by decide) (Nat.le_of_ble_eq_true rfl) ⟨Nat.le_of_ble_eq_true rfl, Nat.le_of_ble_eq_true rfl⟩ dJ7_copyOfRangeInt_feecc_24 ?_
  refine b_acopy (pc := 27) ht (by decide) k876 k495 k494 k81 ?_ ?_ ?_ ?_ ?_ (by decide) (by decide) dJ7_copyOfRangeInt_feecc_27 ?_
  rotate_left -- leaf 0: arraycopy sp at 27
  rotate_left -- leaf 1: arraycopy dp at 27
  rotate_left -- leaf 2: arraycopy n at 27
  rotate_left -- leaf 3: arraycopy from at 27
  rotate_left -- leaf 4: arraycopy to at 27
  refine b_aloadG (pc := 30) 4 dJ7_copyOfRangeInt_feecc_30 rfl ?_
  refine b_aret (pc := 32) rfl dJ7_copyOfRangeInt_feecc_32 ⟨Nat.le_of_ble_eq_true rfl, Nat.le_of_ble_eq_true rfl⟩ ?_
  rotate_left -- leaf 5: return at 32
  -- leaves: 0 arraycopy sp at 27; 1 arraycopy dp at 27; 2 arraycopy n at 27; 3 arraycopy from at 27; 4 arraycopy to at 27; 5 return at 32
  · rw [n_lt0 (by omega)]; exact id
  · rw [n_lt0 (by omega)]; exact id
  · rw [al, n_sub hf]
    first | rw [mn] | rw [mn2]
    rw [n_lt0 (by omega)]; exact id
  · rw [al, n_sub hf]
    first | rw [mn] | rw [mn2]
    rw [n_cl (by omega), n_cl (by omega)]; omega
  · rw [al, al2, n_sub hf]
    first | rw [mn] | rw [mn2]
    rw [n_cl (by omega), n_cl (by omega)]; omega
  · rw [al, n_sub hf]
    first | rw [mn] | rw [mn2]
    rw [n_cl (by omega), n_cl (by omega), n_cl (by omega), nwA_old m _ hi, nwA_new]
    refine h _ ⟨rfl, rfl, fun a ha => ⟨?_, nwA_oldL m _ ha⟩, nwA_newL m _, fun k hk => ?_⟩
    · rw [aset_ne _ _ (by omega), nwA_old m _ ha]
    · rw [aset_at]
      unfold va_cpy
      rw [if_pos (by omega), Nat.sub_zero]
theorem call_J7_copyOfRangeInt_feecc {E : ME} {Φ : Option AV → AM → Prop} {pc : Nat} {L : List (Option AV)} {st : List AV} {m : AM} {a : Nat × Nat} {idx : Nat} {x0 x1 x2 : AV} (hl : Cond.methodLink E.2.1 idx yJ7_copyOfRangeInt_feecc ∈ TB) (hdep : 3 + 1 ≤ E.2.2.2.2.2.2) (hroom : a.1 + 1 ≤ E.2.2.2.2.1 ∧ a.2 + 40 ≤ E.2.2.2.2.2.1) (hsr : st.length ≤ 4) (hd : decode E.1 pc = .ok (.invokestatic idx, 3)) (hsp : Sp_J7_copyOfRangeInt_feecc [x0, x1, x2] m (fun r m2 => B E Φ (pc + 3) L (r.toList ++ st) m2 (a.1 + 1, a.2 + 40))) : B E Φ pc L (x2 :: x1 :: x0 :: st) m a := b_callS S_J7_copyOfRangeInt_feecc [x0, x1, x2] (Or.inl hl) k870 k70 k871 (show _ ∧ _ ∧ Option.map (fun d => d.parameters.length) (parseMethodDescriptor yJ7_copyOfRangeInt_feecc.desc) = some 3 from by decide +kernel) ⟨hdep, by decide⟩ hroom hsr hd hsp
abbrev e_J7_copyOfRange_feecc : ME := (cJ7_copyOfRange_feecc, ("java/util/Arrays", (3, ((some (.array .int)), (1, (40, 4))))))
theorem dJ7_copyOfRange_feecc_0 : decode cJ7_copyOfRange_feecc 0 = .ok (.iload_n 1, 1) := by decide +kernel
theorem dJ7_copyOfRange_feecc_1 : decode cJ7_copyOfRange_feecc 1 = .ok (.ifCond .ne 9, 3) := by decide +kernel
theorem dJ7_copyOfRange_feecc_4 : decode cJ7_copyOfRange_feecc 4 = .ok (.iload_n 2, 1) := by decide +kernel
theorem dJ7_copyOfRange_feecc_5 : decode cJ7_copyOfRange_feecc 5 = .ok (.aload_n 0, 1) := by decide +kernel
theorem dJ7_copyOfRange_feecc_6 : decode cJ7_copyOfRange_feecc 6 = .ok (.arraylength, 1) := by decide +kernel
theorem dJ7_copyOfRange_feecc_7 : decode cJ7_copyOfRange_feecc 7 = .ok (.if_icmp .eq 10, 3) := by decide +kernel
theorem dJ7_copyOfRange_feecc_10 : decode cJ7_copyOfRange_feecc 10 = .ok (.aload_n 0, 1) := by decide +kernel
theorem dJ7_copyOfRange_feecc_11 : decode cJ7_copyOfRange_feecc 11 = .ok (.iload_n 1, 1) := by decide +kernel
theorem dJ7_copyOfRange_feecc_12 : decode cJ7_copyOfRange_feecc 12 = .ok (.iload_n 2, 1) := by decide +kernel
theorem dJ7_copyOfRange_feecc_13 : decode cJ7_copyOfRange_feecc 13 = .ok (.invokestatic 351, 3) := by decide +kernel
theorem dJ7_copyOfRange_feecc_16 : decode cJ7_copyOfRange_feecc 16 = .ok (.areturn, 1) := by decide +kernel
theorem dJ7_copyOfRange_feecc_17 : decode cJ7_copyOfRange_feecc 17 = .ok (.aload_n 0, 1) := by decide +kernel
theorem dJ7_copyOfRange_feecc_18 : decode cJ7_copyOfRange_feecc 18 = .ok (.invokevirtual 316, 3) := by decide +kernel
theorem dJ7_copyOfRange_feecc_21 : decode cJ7_copyOfRange_feecc 21 = .ok (.checkcast 317, 3) := by decide +kernel
theorem dJ7_copyOfRange_feecc_24 : decode cJ7_copyOfRange_feecc 24 = .ok (.areturn, 1) := by decide +kernel
def Sp_J7_copyOfRange_feecc (av : List AV) (m : AM) (Φ : Option AV → AM → Prop) : Prop := ∃ t i x y, av = [vr t i, vi x, vi y] ∧ (t = 12 ∨ 100 ≤ t ∧ t < 20000) ∧ ∃ f z, x = nI f ∧ y = nI z ∧ f ≤ z ∧ z ≤ alT m t i ∧ alT m t i < 10000 ∧ z ≤ f + 40 ∧ ¬ (f = 0 ∧ z = alT m t i) ∧ ∀ m2, NewA m m2 (z - f) (fun k => m.1 i (f + k)) → Φ (some (vr 12 m.2.2.2)) m2
set_option maxRecDepth 20000 in
set_option maxHeartbeats 4000000 in
theorem S_J7_copyOfRange_feecc : Snd yJ7_copyOfRange_feecc e_J7_copyOfRange_feecc Sp_J7_copyOfRange_feecc := by
  refine Snd.of (by decide +kernel) rfl ?_ ?_
  · rintro av m Φ ⟨t, i, x, y, rfl, _⟩; exact Nat.le_of_ble_eq_true rfl
  rintro av m Φ ⟨t, i, x, y, rfl, ht, f, z, rfl, rfl, hf, hz, hl, h4, hno, h⟩ hav hty
  show B e_J7_copyOfRange_feecc Φ 0 [some (vr t i), some (vi (nI f)), some (vi (nI z))] [] m (0, 0)
  refine b_iloadN (pc := 0) 1 dJ7_copyOfRange_feecc_0 rfl rfl ?_
  refine b_if_ne (pc := 1) 10 dJ7_copyOfRange_feecc_1 (by decide) (fun c1 => ?_) (fun c1 => ?_)
  refine b_aloadN (pc := 10) 0 dJ7_copyOfRange_feecc_10 rfl rfl ?_
  refine b_iloadN (pc := 11) 1 dJ7_copyOfRange_feecc_11 rfl rfl ?_
  refine b_iloadN (pc := 12) 2 dJ7_copyOfRange_feecc_12 rfl rfl ?_
  refine call_J7_copyOfRangeInt_feecc (pc := 13) k869 (by decide) ⟨Nat.le_of_ble_eq_true rfl, Nat.le_of_ble_eq_true rfl⟩ (Nat.le_of_ble_eq_true rfl) dJ7_copyOfRange_feecc_13 ?_
  refine ⟨_, _, _, _, rfl, ht, _, _, rfl, rfl, ?_, ?_, ?_, ?_, fun m13 nw13 => ?_⟩
  rotate_left -- leaf 0: le of J7_copyOfRangeInt_feecc at 13
  rotate_left -- leaf 1: in of J7_copyOfRangeInt_feecc at 13
  rotate_left -- leaf 2: small of J7_copyOfRangeInt_feecc at 13
  rotate_left -- leaf 3: many of J7_copyOfRangeInt_feecc at 13
  refine b_aret (pc := 16) rfl dJ7_copyOfRange_feecc_16 ⟨Nat.le_of_ble_eq_true rfl, Nat.le_of_ble_eq_true rfl⟩ ?_
  rotate_left -- leaf 4: return at 16
  refine b_iloadN (pc := 4) 2 dJ7_copyOfRange_feecc_4 rfl rfl ?_
  refine b_aloadN (pc := 5) 0 dJ7_copyOfRange_feecc_5 rfl rfl ?_
  refine b_alenA (pc := 6) ht dJ7_copyOfRange_feecc_6 ?_
  refine b_icmp_eq (pc := 7) 17 dJ7_copyOfRange_feecc_7 (by decide) (fun c7 => ?_) (fun c7 => ?_)
  refine b_aloadN (pc := 17) 0 dJ7_copyOfRange_feecc_17 rfl rfl ?_
  rotate_left -- leaf 5: call None at 18
  refine b_aloadN (pc := 10) 0 dJ7_copyOfRange_feecc_10 rfl rfl ?_
  refine b_iloadN (pc := 11) 1 dJ7_copyOfRange_feecc_11 rfl rfl ?_
  refine b_iloadN (pc := 12) 2 dJ7_copyOfRange_feecc_12 rfl rfl ?_
  refine call_J7_copyOfRangeInt_feecc (pc := 13) k869 (by decide) ⟨Nat.le_of_ble_eq_true rfl, Nat.le_of_ble_eq_true rfl⟩ (Nat.le_of_ble_eq_true rfl) dJ7_copyOfRange_feecc_13 ?_
  refine ⟨_, _, _, _, rfl, ht, _, _, rfl, rfl, ?_, ?_, ?_, ?_, fun m13 nw13 => ?_⟩
  rotate_left -- leaf 6: le of J7_copyOfRangeInt_feecc at 13
  rotate_left -- leaf 7: in of J7_copyOfRangeInt_feecc at 13
  rotate_left -- leaf 8: small of J7_copyOfRangeInt_feecc at 13
  rotate_left -- leaf 9: many of J7_copyOfRangeInt_feecc at 13
  refine b_aret (pc := 16) rfl dJ7_copyOfRange_feecc_16 ⟨Nat.le_of_ble_eq_true rfl, Nat.le_of_ble_eq_true rfl⟩ ?_
  rotate_left -- leaf 10: return at 16
  -- leaves: 0 le of J7_copyOfRangeInt_feecc at 13; 1 in of J7_copyOfRangeInt_feecc at 13; 2 small of J7_copyOfRangeInt_feecc at 13; 3 many of J7_copyOfRangeInt_feecc at 13; 4 return at 16; 5 call None at 18; 6 le of J7_copyOfRangeInt_feecc at 13; 7 in of J7_copyOfRangeInt_feecc at 13; 8 small of J7_copyOfRangeInt_feecc at 13; 9 many of J7_copyOfRangeInt_feecc at 13; 10 return at 16
  · exact hf
  · exact hz
  · exact hl
  · exact h4
  · exact h m13 nw13
  · rw [n_eq0 (by omega)] at c1
    rw [n_eq (by omega) (by omega)] at c7
    exact absurd ⟨c1, c7⟩ hno
  · exact hf
  · exact hz
  · exact hl
  · exact h4
  · exact h m13 nw13
theorem call_J7_copyOfRange_feecc {E : ME} {Φ : Option AV → AM → Prop} {pc : Nat} {L : List (Option AV)} {st : List AV} {m : AM} {a : Nat × Nat} {idx : Nat} {x0 x1 x2 : AV} (hl : Cond.methodLink E.2.1 idx yJ7_copyOfRange_feecc ∈ TB) (hdep : 4 + 1 ≤ E.2.2.2.2.2.2) (hroom : a.1 + 1 ≤ E.2.2.2.2.1 ∧ a.2 + 40 ≤ E.2.2.2.2.2.1) (hsr : st.length ≤ 4) (hd : decode E.1 pc = .ok (.invokestatic idx, 3)) (hsp : Sp_J7_copyOfRange_feecc [x0, x1, x2] m (fun r m2 => B E Φ (pc + 3) L (r.toList ++ st) m2 (a.1 + 1, a.2 + 40))) : B E Φ pc L (x2 :: x1 :: x0 :: st) m a := b_callS S_J7_copyOfRange_feecc [x0, x1, x2] (Or.inl hl) k867 k70 k868 (show _ ∧ _ ∧ Option.map (fun d => d.parameters.length) (parseMethodDescriptor yJ7_copyOfRange_feecc.desc) = some 3 from by decide +kernel) ⟨hdep, by decide⟩ hroom hsr hd hsp
abbrev e_X6_itemsFrom : ME := (cX6_itemsFrom, (RX6, (4, ((some (.array .int)), (1, (40, 5))))))
theorem dX6_itemsFrom_0 : decode cX6_itemsFrom 0 = .ok (.aload_n 0, 1) := by decide +kernel
theorem dX6_itemsFrom_1 : decode cX6_itemsFrom 1 = .ok (.getfield 11, 3) := by decide +kernel
theorem dX6_itemsFrom_4 : decode cX6_itemsFrom 4 = .ok (.iload_n 1, 1) := by decide +kernel
theorem dX6_itemsFrom_5 : decode cX6_itemsFrom 5 = .ok (.aaload, 1) := by decide +kernel
theorem dX6_itemsFrom_6 : decode cX6_itemsFrom 6 = .ok (.iload_n 2, 1) := by decide +kernel
theorem dX6_itemsFrom_7 : decode cX6_itemsFrom 7 = .ok (.iload_n 2, 1) := by decide +kernel
theorem dX6_itemsFrom_8 : decode cX6_itemsFrom 8 = .ok (.iload_n 3, 1) := by decide +kernel
theorem dX6_itemsFrom_9 : decode cX6_itemsFrom 9 = .ok (.iadd, 1) := by decide +kernel
theorem dX6_itemsFrom_10 : decode cX6_itemsFrom 10 = .ok (.invokestatic 39, 3) := by decide +kernel
theorem dX6_itemsFrom_13 : decode cX6_itemsFrom 13 = .ok (.areturn, 1) := by decide +kernel
def Sp_X6_itemsFrom (av : List AV) (m : AM) (Φ : Option AV → AM → Prop) : Prop := ∃ x y n, av = [vr 6 1, vi x, vi y, vi n] ∧ ∃ La Ma It r i k, RowR m La Ma It ∧ x = nI r ∧ y = nI i ∧ n = nI k ∧ r < 8 ∧ 0 < La r ∧ i + k ≤ Ma r ∧ k < 40 ∧ ∀ m2, NewA m m2 k (fun j => It r (i + j)) → Φ (some (vr 12 m.2.2.2)) m2
set_option maxRecDepth 20000 in
set_option maxHeartbeats 4000000 in
theorem S_X6_itemsFrom : Snd yX6_itemsFrom e_X6_itemsFrom Sp_X6_itemsFrom := by
  refine Snd.of (by decide +kernel) rfl ?_ ?_
  · rintro av m Φ ⟨x, y, n, rfl, _⟩; exact Nat.le_of_ble_eq_true rfl
  rintro av m Φ ⟨x, y, n, rfl, La, Ma, It, r, i, k, hR, rfl, rfl, rfl, hr, hl, hi, hk, h⟩ hav hty
  show B e_X6_itemsFrom Φ 0 [some (vr 6 1), some (vi (nI r)), some (vi (nI i)), some (vi (nI k))] [] m (0, 0)
  have w := (hR r hr).2 hl
  have e3 : 2 + 1 + r = 3 + r := by omega
  refine b_aloadN (pc := 0) 0 dX6_itemsFrom_0 rfl rfl ?_
  refine gf6_0 (pc := 1) 2 rfl k104 dX6_itemsFrom_1 ?_
  refine b_iloadN (pc := 4) 1 dX6_itemsFrom_4 rfl rfl ?_
  refine b_aldI (pc := 5) ?_ dX6_itemsFrom_5 ?_
  rotate_left -- leaf 0: index at 5
  refine b_iloadN (pc := 6) 2 dX6_itemsFrom_6 rfl rfl ?_
  refine b_iloadN (pc := 7) 2 dX6_itemsFrom_7 rfl rfl ?_
  refine b_iloadN (pc := 8) 3 dX6_itemsFrom_8 rfl rfl ?_
  refine b_iadd (pc := 9) dX6_itemsFrom_9 ?_
  refine call_J7_copyOfRange_feecc (pc := 10) k866 (by decide) ⟨Nat.le_of_ble_eq_true rfl, Nat.le_of_ble_eq_true rfl⟩ (Nat.le_of_ble_eq_true rfl) dX6_itemsFrom_10 ?_
  refine ⟨_, _, _, _, rfl, Or.inr ⟨by decide, by decide⟩, i, i + k, rfl, n_add _ _, ?_, ?_, ?_, ?_, ?_, fun m10 nw10 => ?_⟩
  rotate_left -- leaf 1: le of J7_copyOfRange_feecc at 10
  rotate_left -- leaf 2: in of J7_copyOfRange_feecc at 10
  rotate_left -- leaf 3: small of J7_copyOfRange_feecc at 10
  rotate_left -- leaf 4: many of J7_copyOfRange_feecc at 10
  rotate_left -- leaf 5: part of J7_copyOfRange_feecc at 10
  refine b_aret (pc := 13) rfl dX6_itemsFrom_13 ⟨Nat.le_of_ble_eq_true rfl, Nat.le_of_ble_eq_true rfl⟩ ?_
  rotate_left -- leaf 6: return at 13
  -- leaves: 0 index at 5; 1 le of J7_copyOfRange_feecc at 10; 2 in of J7_copyOfRange_feecc at 10; 3 small of J7_copyOfRange_feecc at 10; 4 many of J7_copyOfRange_feecc at 10; 5 part of J7_copyOfRange_feecc at 10; 6 return at 13
  · exact n_in (by omega) (by omega)
  · omega
  · show i + k ≤ 140 - 100; omega
  · show 140 - 100 < 10000; omega
  · omega
  · intro z
    have z2 : i + k = 140 - 100 := z.2
    omega
  · refine h _ ⟨nw10.1, nw10.2.1, nw10.2.2.1, ?_, fun j hj => ?_⟩
    · rw [nw10.2.2.2.1]; omega
    · rw [nw10.2.2.2.2 j (by omega), n_cl (by omega), e3]
      exact w.2.2.2.2 _ (by omega)
theorem call_X6_itemsFrom {E : ME} {Φ : Option AV → AM → Prop} {pc : Nat} {L : List (Option AV)} {st : List AV} {m : AM} {a : Nat × Nat} {idx : Nat} {x0 x1 x2 : AV} {i : Nat} (hl : Cond.methodLink E.2.1 idx yX6_itemsFrom ∈ TB) (hdep : 5 + 1 ≤ E.2.2.2.2.2.2) (hroom : a.1 + 1 ≤ E.2.2.2.2.1 ∧ a.2 + 40 ≤ E.2.2.2.2.2.1) (hsr : st.length ≤ 4) (hd : decode E.1 pc = .ok (.invokevirtual idx, 3)) (hsp : Sp_X6_itemsFrom [vr 6 i, x0, x1, x2] m (fun r m2 => B E Φ (pc + 3) L (r.toList ++ st) m2 (a.1 + 1, a.2 + 40))) : B E Φ pc L (x2 :: x1 :: x0 :: vr 6 i :: st) m a := b_callV S_X6_itemsFrom [x0, x1, x2] (RX6, TX6, 3) rfl rfl (by decide) (Or.inl hl) k863 k864 k69 k865 (show _ ∧ _ ∧ Option.map (fun d => d.parameters.length) (parseMethodDescriptor yX6_itemsFrom.desc) = some 3 from by decide +kernel) ⟨hdep, by decide⟩ hroom hsr hd hsp
