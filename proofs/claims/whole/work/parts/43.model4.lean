/-! the reference: cell, kind, makes, rule, stand -/
/-- the reference's court, open or none -/
def MCo (m : AM) (C : Nat → Nat) : Prop := MC m C ∧ (VC C ∨ ∀ j, j < 50 → C j = 0)
theorem MCo.le {m : AM} {C : Nat → Nat} (h : MCo m C) : C 0 ≤ 6 ∧ C 3 ≤ 8 ∧ C 4 ≤ 5 := by
  rcases h.2 with hv | h0
  · exact ⟨hv.1.2, hv.2.2.2.1, hv.2.2.2.2.1.2⟩
  · rw [h0 0 (by omega), h0 3 (by omega), h0 4 (by omega)]; omega
theorem MCo.op {m : AM} {C : Nat → Nat} (h : MCo m C) (h0 : 0 < C 0 ∨ 0 < C 3 ∨ 0 < C 4) : VC C := by
  rcases h.2 with h1 | h1
  · exact h1
  · rw [h1 0 (by omega), h1 3 (by omega), h1 4 (by omega)] at h0
    omega
theorem MCo.ms {m : AM} {C : Nat → Nat} (h : MCo m C) {i j : Nat} {x : Int32} (hi : i ≠ 114) : MCo (mset m i j x) C := ⟨fun k hk => by rw [mset_ne _ _ _ (Ne.symm hi)]; exact h.1 k hk, h.2⟩
abbrev e_X11_cell : ME := (cX11_cell, (RX11, (2, ((some .int), (0, (0, 8))))))
theorem dX11_cell_0 : decode cX11_cell 0 = .ok (.aload_n 0, 1) := by decide +kernel
theorem dX11_cell_1 : decode cX11_cell 1 = .ok (.iconst 0, 1) := by decide +kernel
theorem dX11_cell_2 : decode cX11_cell 2 = .ok (.putfield 53, 3) := by decide +kernel
theorem dX11_cell_5 : decode cX11_cell 5 = .ok (.aload_n 0, 1) := by decide +kernel
theorem dX11_cell_6 : decode cX11_cell 6 = .ok (.iload_n 1, 1) := by decide +kernel
theorem dX11_cell_7 : decode cX11_cell 7 = .ok (.invokevirtual 176, 3) := by decide +kernel
theorem dX11_cell_10 : decode cX11_cell 10 = .ok (.ifCond .eq 19, 3) := by decide +kernel
theorem dX11_cell_13 : decode cX11_cell 13 = .ok (.aload_n 0, 1) := by decide +kernel
theorem dX11_cell_14 : decode cX11_cell 14 = .ok (.getfield 19, 3) := by decide +kernel
theorem dX11_cell_17 : decode cX11_cell 17 = .ok (.bipush 40, 2) := by decide +kernel
theorem dX11_cell_19 : decode cX11_cell 19 = .ok (.iconst 2, 1) := by decide +kernel
theorem dX11_cell_20 : decode cX11_cell 20 = .ok (.iload_n 1, 1) := by decide +kernel
theorem dX11_cell_21 : decode cX11_cell 21 = .ok (.imul, 1) := by decide +kernel
theorem dX11_cell_22 : decode cX11_cell 22 = .ok (.iadd, 1) := by decide +kernel
theorem dX11_cell_23 : decode cX11_cell 23 = .ok (.iconst 1, 1) := by decide +kernel
theorem dX11_cell_24 : decode cX11_cell 24 = .ok (.iadd, 1) := by decide +kernel
theorem dX11_cell_25 : decode cX11_cell 25 = .ok (.iaload, 1) := by decide +kernel
theorem dX11_cell_26 : decode cX11_cell 26 = .ok (.goto 5, 3) := by decide +kernel
theorem dX11_cell_29 : decode cX11_cell 29 = .ok (.ldc 73, 2) := by decide +kernel
theorem dX11_cell_31 : decode cX11_cell 31 = .ok (.ireturn, 1) := by decide +kernel
def Sp_X11_cell (av : List AV) (m : AM) (Φ : Option AV → AM → Prop) : Prop := ∃ p, av = [vr 11 110, vi p] ∧ ∃ C, MCo m C ∧ Φ (some (vi (cellV C p))) (mset m 110 0 (nI 0))
set_option maxRecDepth 20000 in
set_option maxHeartbeats 4000000 in
theorem S_X11_cell : Snd yX11_cell e_X11_cell Sp_X11_cell := by
  refine Snd.of (by decide +kernel) rfl ?_ ?_
  · rintro av m Φ ⟨p, rfl, _⟩; exact Nat.le_of_ble_eq_true rfl
  rintro av m Φ ⟨p, rfl, C, hC0, h⟩ hav hty
  show B e_X11_cell Φ 0 [some (vr 11 110), some (vi p)] [] m (0, 0)
  have hC : MCo (mset m 110 0 (nI 0)) C := hC0.ms (by decide)
  have hle := hC.le
  unfold cellV at h
  refine b_aloadN (pc := 0) 0 dX11_cell_0 rfl rfl ?_
  refine b_iconst (pc := 1) (nI 0) dX11_cell_1 (by decide) ?_
  refine pf11_0 (pc := 2) k1042 dX11_cell_2 ?_
  refine b_aloadN (pc := 5) 0 dX11_cell_5 rfl rfl ?_
  refine b_iloadN (pc := 6) 1 dX11_cell_6 rfl rfl ?_
  refine call_X11_isPerson (pc := 7) k1229 (by decide) ⟨Nat.le_of_ble_eq_true rfl, Nat.le_of_ble_eq_true rfl⟩ (Nat.le_of_ble_eq_true rfl) dX11_cell_7 ?_
  refine ⟨_, rfl, _, hC.1 4 (by omega), ?_, ?_⟩
  rotate_left -- leaf 0: small of X11_isPerson at 7
  refine b_if_eq (pc := 10) 29 dX11_cell_10 (by decide) (fun c10 => ?_) (fun c10 => ?_)
  refine b_ldc (pc := 29) k1140 dX11_cell_29 ?_
  refine b_iret (pc := 31) rfl dX11_cell_31 ⟨Nat.le_of_ble_eq_true rfl, Nat.le_of_ble_eq_true rfl⟩ ?_
  rotate_left -- leaf 1: return at 31
  refine b_aloadN (pc := 13) 0 dX11_cell_13 rfl rfl ?_
  refine gf11_5 (pc := 14) 114 rfl k1047 dX11_cell_14 ?_
  refine b_bipush (pc := 17) (nI 40) dX11_cell_17 (by decide) ?_
  refine b_iconst (pc := 19) (nI 2) dX11_cell_19 (by decide) ?_
  refine b_iloadN (pc := 20) 1 dX11_cell_20 rfl rfl ?_
  refine b_imul (pc := 21) dX11_cell_21 ?_
  refine b_iadd (pc := 22) dX11_cell_22 ?_
  refine b_iconst (pc := 23) (nI 1) dX11_cell_23 (by decide) ?_
  refine b_iadd (pc := 24) dX11_cell_24 ?_
  refine b_iald (pc := 25) (by decide) ?_ dX11_cell_25 ?_
  rotate_left -- leaf 2: index at 25
  refine b_goto (pc := 26) 31 dX11_cell_26 (by decide) ?_
  refine b_iret (pc := 31) rfl dX11_cell_31 ⟨Nat.le_of_ble_eq_true rfl, Nat.le_of_ble_eq_true rfl⟩ ?_
  rotate_left -- leaf 3: return at 31
  -- leaves: 0 small of X11_isPerson at 7; 1 return at 31; 2 index at 25; 3 return at 31
  · omega
  · rw [bF c10] at h; exact h
  · obtain ⟨j, hj, rfl⟩ := (inB_iff (by omega)).mp (bT c10)
    rw [n_mul, n_add, n_add]; exact n_in (by omega) (by omega)
  · rw [if_pos (bT c10)] at h
    obtain ⟨j, hj, rfl⟩ := (inB_iff (by omega)).mp (bT c10)
    rw [n_cl (by omega)] at h
    rw [n_mul, n_add, n_add, n_cl (by omega), hC.1 _ (by omega), show 40 + 2 * j + 1 = 41 + 2 * j by omega]
    exact h
theorem call_X11_cell {E : ME} {Φ : Option AV → AM → Prop} {pc : Nat} {L : List (Option AV)} {st : List AV} {m : AM} {a : Nat × Nat} {idx : Nat} {x0 : AV} {i : Nat} (hl : Cond.methodLink E.2.1 idx yX11_cell ∈ TB) (hdep : 8 + 1 ≤ E.2.2.2.2.2.2) (hroom : a.1 + 0 ≤ E.2.2.2.2.1 ∧ a.2 + 0 ≤ E.2.2.2.2.2.1) (hsr : st.length ≤ 4) (hd : decode E.1 pc = .ok (.invokevirtual idx, 3)) (hsp : Sp_X11_cell [vr 11 i, x0] m (fun r m2 => B E Φ (pc + 3) L (r.toList ++ st) m2 a)) : B E Φ pc L (x0 :: vr 11 i :: st) m a := b_callV S_X11_cell [x0] (RX11, TX11, 28) rfl rfl (by decide) (Or.inl hl) k1302 k1303 k80 k1304 (show _ ∧ _ ∧ Option.map (fun d => d.parameters.length) (parseMethodDescriptor yX11_cell.desc) = some 1 from by decide +kernel) ⟨hdep, by decide⟩ hroom hsr hd hsp
abbrev e_X11_kind : ME := (cX11_kind, (RX11, (2, ((some .int), (0, (0, 8))))))
theorem dX11_kind_0 : decode cX11_kind 0 = .ok (.aload_n 0, 1) := by decide +kernel
theorem dX11_kind_1 : decode cX11_kind 1 = .ok (.iconst 0, 1) := by decide +kernel
theorem dX11_kind_2 : decode cX11_kind 2 = .ok (.putfield 53, 3) := by decide +kernel
theorem dX11_kind_5 : decode cX11_kind 5 = .ok (.aload_n 0, 1) := by decide +kernel
theorem dX11_kind_6 : decode cX11_kind 6 = .ok (.iload_n 1, 1) := by decide +kernel
theorem dX11_kind_7 : decode cX11_kind 7 = .ok (.invokevirtual 176, 3) := by decide +kernel
theorem dX11_kind_10 : decode cX11_kind 10 = .ok (.ifCond .eq 11, 3) := by decide +kernel
theorem dX11_kind_13 : decode cX11_kind 13 = .ok (.aload_n 0, 1) := by decide +kernel
theorem dX11_kind_14 : decode cX11_kind 14 = .ok (.iload_n 1, 1) := by decide +kernel
theorem dX11_kind_15 : decode cX11_kind 15 = .ok (.invokevirtual 169, 3) := by decide +kernel
theorem dX11_kind_18 : decode cX11_kind 18 = .ok (.goto 5, 3) := by decide +kernel
theorem dX11_kind_21 : decode cX11_kind 21 = .ok (.ldc 73, 2) := by decide +kernel
theorem dX11_kind_23 : decode cX11_kind 23 = .ok (.ireturn, 1) := by decide +kernel
def Sp_X11_kind (av : List AV) (m : AM) (Φ : Option AV → AM → Prop) : Prop := ∃ p, av = [vr 11 110, vi p] ∧ ∃ C, MCo m C ∧ Φ (some (vi (kindV C p))) (mset m 110 0 (nI 0))
set_option maxRecDepth 20000 in
set_option maxHeartbeats 4000000 in
theorem S_X11_kind : Snd yX11_kind e_X11_kind Sp_X11_kind := by
  refine Snd.of (by decide +kernel) rfl ?_ ?_
  · rintro av m Φ ⟨p, rfl, _⟩; exact Nat.le_of_ble_eq_true rfl
  rintro av m Φ ⟨p, rfl, C, hC0, h⟩ hav hty
  show B e_X11_kind Φ 0 [some (vr 11 110), some (vi p)] [] m (0, 0)
  have hC : MCo (mset m 110 0 (nI 0)) C := hC0.ms (by decide)
  have hle := hC.le
  unfold kindV at h
  refine b_aloadN (pc := 0) 0 dX11_kind_0 rfl rfl ?_
  refine b_iconst (pc := 1) (nI 0) dX11_kind_1 (by decide) ?_
  refine pf11_0 (pc := 2) k1042 dX11_kind_2 ?_
  refine b_aloadN (pc := 5) 0 dX11_kind_5 rfl rfl ?_
  refine b_iloadN (pc := 6) 1 dX11_kind_6 rfl rfl ?_
  refine call_X11_isPerson (pc := 7) k1229 (by decide) ⟨Nat.le_of_ble_eq_true rfl, Nat.le_of_ble_eq_true rfl⟩ (Nat.le_of_ble_eq_true rfl) dX11_kind_7 ?_
  refine ⟨_, rfl, _, hC.1 4 (by omega), ?_, ?_⟩
  rotate_left -- leaf 0: small of X11_isPerson at 7
  refine b_if_eq (pc := 10) 21 dX11_kind_10 (by decide) (fun c10 => ?_) (fun c10 => ?_)
  refine b_ldc (pc := 21) k1140 dX11_kind_21 ?_
  refine b_iret (pc := 23) rfl dX11_kind_23 ⟨Nat.le_of_ble_eq_true rfl, Nat.le_of_ble_eq_true rfl⟩ ?_
  rotate_left -- leaf 1: return at 23
  refine b_aloadN (pc := 13) 0 dX11_kind_13 rfl rfl ?_
  refine b_iloadN (pc := 14) 1 dX11_kind_14 rfl rfl ?_
  refine call_X11_kindOf (pc := 15) k1245 (by decide) ⟨Nat.le_of_ble_eq_true rfl, Nat.le_of_ble_eq_true rfl⟩ (Nat.le_of_ble_eq_true rfl) dX11_kind_15 ?_
  refine ⟨_, rfl, C, p.toNatClampNeg, hC.1, ?_, ?_, ?_⟩
  rotate_left -- leaf 2: x of X11_kindOf at 15
  rotate_left -- leaf 3: person of X11_kindOf at 15
  refine b_goto (pc := 18) 23 dX11_kind_18 (by decide) ?_
  refine b_iret (pc := 23) rfl dX11_kind_23 ⟨Nat.le_of_ble_eq_true rfl, Nat.le_of_ble_eq_true rfl⟩ ?_
  rotate_left -- leaf 4: return at 23
  -- leaves: 0 small of X11_isPerson at 7; 1 return at 23; 2 x of X11_kindOf at 15; 3 person of X11_kindOf at 15; 4 return at 23
  · omega
  · rw [bF c10] at h; exact h
  · obtain ⟨j, hj, rfl⟩ := (inB_iff (by omega)).mp (bT c10)
    rw [n_cl (by omega)]
  · obtain ⟨j, hj, rfl⟩ := (inB_iff (by omega)).mp (bT c10)
    rw [n_cl (by omega)]; omega
  · rw [if_pos (bT c10)] at h
    exact h
theorem call_X11_kind {E : ME} {Φ : Option AV → AM → Prop} {pc : Nat} {L : List (Option AV)} {st : List AV} {m : AM} {a : Nat × Nat} {idx : Nat} {x0 : AV} {i : Nat} (hl : Cond.methodLink E.2.1 idx yX11_kind ∈ TB) (hdep : 8 + 1 ≤ E.2.2.2.2.2.2) (hroom : a.1 + 0 ≤ E.2.2.2.2.1 ∧ a.2 + 0 ≤ E.2.2.2.2.2.1) (hsr : st.length ≤ 4) (hd : decode E.1 pc = .ok (.invokevirtual idx, 3)) (hsp : Sp_X11_kind [vr 11 i, x0] m (fun r m2 => B E Φ (pc + 3) L (r.toList ++ st) m2 a)) : B E Φ pc L (x0 :: vr 11 i :: st) m a := b_callV S_X11_kind [x0] (RX11, TX11, 28) rfl rfl (by decide) (Or.inl hl) k1404 k1405 k80 k1406 (show _ ∧ _ ∧ Option.map (fun d => d.parameters.length) (parseMethodDescriptor yX11_kind.desc) = some 1 from by decide +kernel) ⟨hdep, by decide⟩ hroom hsr hd hsp
abbrev e_X11_makes : ME := (cX11_makes, (RX11, (3, ((some .int), (0, (0, 8))))))
theorem dX11_makes_0 : decode cX11_makes 0 = .ok (.aload_n 0, 1) := by decide +kernel
theorem dX11_makes_1 : decode cX11_makes 1 = .ok (.iconst 0, 1) := by decide +kernel
theorem dX11_makes_2 : decode cX11_makes 2 = .ok (.putfield 53, 3) := by decide +kernel
theorem dX11_makes_5 : decode cX11_makes 5 = .ok (.aload_n 0, 1) := by decide +kernel
theorem dX11_makes_6 : decode cX11_makes 6 = .ok (.iload_n 1, 1) := by decide +kernel
theorem dX11_makes_7 : decode cX11_makes 7 = .ok (.invokevirtual 176, 3) := by decide +kernel
theorem dX11_makes_10 : decode cX11_makes 10 = .ok (.ifCond .eq 33, 3) := by decide +kernel
theorem dX11_makes_13 : decode cX11_makes 13 = .ok (.aload_n 0, 1) := by decide +kernel
theorem dX11_makes_14 : decode cX11_makes 14 = .ok (.iload_n 2, 1) := by decide +kernel
theorem dX11_makes_15 : decode cX11_makes 15 = .ok (.i2l, 1) := by decide +kernel
theorem dX11_makes_16 : decode cX11_makes 16 = .ok (.invokevirtual 179, 3) := by decide +kernel
theorem dX11_makes_19 : decode cX11_makes 19 = .ok (.ifCond .eq 24, 3) := by decide +kernel
theorem dX11_makes_22 : decode cX11_makes 22 = .ok (.aload_n 0, 1) := by decide +kernel
theorem dX11_makes_23 : decode cX11_makes 23 = .ok (.iload_n 1, 1) := by decide +kernel
theorem dX11_makes_24 : decode cX11_makes 24 = .ok (.aload_n 0, 1) := by decide +kernel
theorem dX11_makes_25 : decode cX11_makes 25 = .ok (.getfield 19, 3) := by decide +kernel
theorem dX11_makes_28 : decode cX11_makes 28 = .ok (.iconst 1, 1) := by decide +kernel
theorem dX11_makes_29 : decode cX11_makes 29 = .ok (.iaload, 1) := by decide +kernel
theorem dX11_makes_30 : decode cX11_makes 30 = .ok (.aload_n 0, 1) := by decide +kernel
theorem dX11_makes_31 : decode cX11_makes 31 = .ok (.getfield 19, 3) := by decide +kernel
theorem dX11_makes_34 : decode cX11_makes 34 = .ok (.iconst 5, 1) := by decide +kernel
theorem dX11_makes_35 : decode cX11_makes 35 = .ok (.iaload, 1) := by decide +kernel
theorem dX11_makes_36 : decode cX11_makes 36 = .ok (.iload_n 2, 1) := by decide +kernel
theorem dX11_makes_37 : decode cX11_makes 37 = .ok (.invokevirtual 186, 3) := by decide +kernel
theorem dX11_makes_40 : decode cX11_makes 40 = .ok (.goto 5, 3) := by decide +kernel
theorem dX11_makes_43 : decode cX11_makes 43 = .ok (.ldc 73, 2) := by decide +kernel
theorem dX11_makes_45 : decode cX11_makes 45 = .ok (.ireturn, 1) := by decide +kernel
def Sp_X11_makes (av : List AV) (m : AM) (Φ : Option AV → AM → Prop) : Prop := ∃ p s, av = [vr 11 110, vi p, vi s] ∧ ∃ C, MCo m C ∧ Φ (some (vi (makesV C p s))) (mset m 110 0 (nI 0))
set_option maxRecDepth 20000 in
set_option maxHeartbeats 4000000 in
theorem S_X11_makes : Snd yX11_makes e_X11_makes Sp_X11_makes := by
  refine Snd.of (by decide +kernel) rfl ?_ ?_
  · rintro av m Φ ⟨p, s, rfl, _⟩; exact Nat.le_of_ble_eq_true rfl
  rintro av m Φ ⟨p, s, rfl, C, hC0, h⟩ hav hty
  show B e_X11_makes Φ 0 [some (vr 11 110), some (vi p), some (vi s)] [] m (0, 0)
  have hC : MCo (mset m 110 0 (nI 0)) C := hC0.ms (by decide)
  have hle := hC.le
  unfold makesV at h
  have cl : ∀ {z : Int32} {k : Nat}, inB z k = true → k < 1000 → z = nI z.toNatClampNeg ∧ z.toNatClampNeg < k := fun {z k} a b => by
    obtain ⟨j, hj, rfl⟩ := (inB_iff (by omega)).mp a
    rw [n_cl (by omega)]
    exact ⟨rfl, hj⟩
  have op : inB p (C 4) = true → VC C := fun q => by
    have := (cl q (by omega)).2
    exact hC.op (Or.inr (Or.inr (by omega)))
  refine b_aloadN (pc := 0) 0 dX11_makes_0 rfl rfl ?_
  refine b_iconst (pc := 1) (nI 0) dX11_makes_1 (by decide) ?_
  refine pf11_0 (pc := 2) k1042 dX11_makes_2 ?_
  refine b_aloadN (pc := 5) 0 dX11_makes_5 rfl rfl ?_
  refine b_iloadN (pc := 6) 1 dX11_makes_6 rfl rfl ?_
  refine call_X11_isPerson (pc := 7) k1229 (by decide) ⟨Nat.le_of_ble_eq_true rfl, Nat.le_of_ble_eq_true rfl⟩ (Nat.le_of_ble_eq_true rfl) dX11_makes_7 ?_
  refine ⟨_, rfl, _, hC.1 4 (by omega), ?_, ?_⟩
  rotate_left -- leaf 0: small of X11_isPerson at 7
  refine b_if_eq (pc := 10) 43 dX11_makes_10 (by decide) (fun c10 => ?_) (fun c10 => ?_)
  refine b_ldc (pc := 43) k1140 dX11_makes_43 ?_
  refine b_iret (pc := 45) rfl dX11_makes_45 ⟨Nat.le_of_ble_eq_true rfl, Nat.le_of_ble_eq_true rfl⟩ ?_
  rotate_left -- leaf 1: return at 45
  refine b_aloadN (pc := 13) 0 dX11_makes_13 rfl rfl ?_
  refine b_iloadN (pc := 14) 2 dX11_makes_14 rfl rfl ?_
  refine b_i2l (pc := 15) dX11_makes_15 ?_
  refine call_X11_isSaying (pc := 16) k1233 (by decide) ⟨Nat.le_of_ble_eq_true rfl, Nat.le_of_ble_eq_true rfl⟩ (Nat.le_of_ble_eq_true rfl) dX11_makes_16 ?_
  refine ⟨_, rfl, _, hC.1 0 (by omega), ?_, ?_⟩
  rotate_left -- leaf 2: six of X11_isSaying at 16
  refine b_if_eq (pc := 19) 43 dX11_makes_19 (by decide) (fun c19 => ?_) (fun c19 => ?_)
  refine b_ldc (pc := 43) k1140 dX11_makes_43 ?_
  refine b_iret (pc := 45) rfl dX11_makes_45 ⟨Nat.le_of_ble_eq_true rfl, Nat.le_of_ble_eq_true rfl⟩ ?_
  rotate_left -- leaf 3: return at 45
  refine b_aloadN (pc := 22) 0 dX11_makes_22 rfl rfl ?_
  refine b_iloadN (pc := 23) 1 dX11_makes_23 rfl rfl ?_
  refine b_aloadN (pc := 24) 0 dX11_makes_24 rfl rfl ?_
  refine gf11_5 (pc := 25) 114 rfl k1047 dX11_makes_25 ?_
  refine b_iconst (pc := 28) (nI 1) dX11_makes_28 (by decide) ?_
  refine b_iald (pc := 29) (by decide) ?_ dX11_makes_29 ?_
  rotate_left -- leaf 4: index at 29
  refine b_aloadN (pc := 30) 0 dX11_makes_30 rfl rfl ?_
  refine gf11_5 (pc := 31) 114 rfl k1047 dX11_makes_31 ?_
  refine b_iconst (pc := 34) (nI 5) dX11_makes_34 (by decide) ?_
  refine b_iald (pc := 35) (by decide) ?_ dX11_makes_35 ?_
  rotate_left -- leaf 5: index at 35
  refine b_iloadN (pc := 36) 2 dX11_makes_36 rfl rfl ?_
  refine call_X11_after (pc := 37) k1241 (by decide) ⟨Nat.le_of_ble_eq_true rfl, Nat.le_of_ble_eq_true rfl⟩ (Nat.le_of_ble_eq_true rfl) dX11_makes_37 ?_
  refine ⟨_, _, _, _, rfl, C, p.toNatClampNeg, C 1, C 5, s.toNatClampNeg, ?_, hC.1, ?_, ?_, ?_, ?_, ?_, ?_, ?_, ?_, ?_⟩
  rotate_left -- leaf 6: valid of X11_after at 37
  rotate_left -- leaf 7: p of X11_after at 37
  rotate_left -- leaf 8: s1 of X11_after at 37
  rotate_left -- leaf 9: s5 of X11_after at 37
  rotate_left -- leaf 10: s of X11_after at 37
  rotate_left -- leaf 11: person of X11_after at 37
  rotate_left -- leaf 12: so of X11_after at 37
  rotate_left -- leaf 13: said of X11_after at 37
  rotate_left -- leaf 14: saying of X11_after at 37
  refine b_goto (pc := 40) 45 dX11_makes_40 (by decide) ?_
  refine b_iret (pc := 45) rfl dX11_makes_45 ⟨Nat.le_of_ble_eq_true rfl, Nat.le_of_ble_eq_true rfl⟩ ?_
  rotate_left -- leaf 15: return at 45
  -- leaves: 0 small of X11_isPerson at 7; 1 return at 45; 2 six of X11_isSaying at 16; 3 return at 45; 4 index at 29; 5 index at 35; 6 valid of X11_after at 37; 7 p of X11_after at 37; 8 s1 of X11_after at 37; 9 s5 of X11_after at 37; 10 s of X11_after at 37; 11 person of X11_after at 37; 12 so of X11_after at 37; 13 said of X11_after at 37; 14 saying of X11_after at 37; 15 return at 45
  · omega
  · rw [bF c10, Bool.false_and] at h; exact h
  · omega
  · rw [bF c19, Bool.and_false] at h; exact h
  · exact n_in (by omega) (by omega)
  · exact n_in (by omega) (by omega)
  · exact op (bT c10)
  · exact (cl (bT c10) (by omega)).1
  · rw [n_cl (by omega)]; exact hC.1 1 (by omega)
  · rw [n_cl (by omega)]; exact hC.1 5 (by omega)
  · exact (cl (bT c19) (by omega)).1
  · exact (cl (bT c10) (by omega)).2
  · exact (op (bT c10)).c1
  · exact (op (bT c10)).c5
  · exact (cl (bT c19) (by omega)).2
  · rw [bT c10, bT c19] at h
    exact h
theorem call_X11_makes {E : ME} {Φ : Option AV → AM → Prop} {pc : Nat} {L : List (Option AV)} {st : List AV} {m : AM} {a : Nat × Nat} {idx : Nat} {x0 x1 : AV} {i : Nat} (hl : Cond.methodLink E.2.1 idx yX11_makes ∈ TB) (hdep : 8 + 1 ≤ E.2.2.2.2.2.2) (hroom : a.1 + 0 ≤ E.2.2.2.2.1 ∧ a.2 + 0 ≤ E.2.2.2.2.2.1) (hsr : st.length ≤ 4) (hd : decode E.1 pc = .ok (.invokevirtual idx, 3)) (hsp : Sp_X11_makes [vr 11 i, x0, x1] m (fun r m2 => B E Φ (pc + 3) L (r.toList ++ st) m2 a)) : B E Φ pc L (x1 :: x0 :: vr 11 i :: st) m a := b_callV S_X11_makes [x0, x1] (RX11, TX11, 28) rfl rfl (by decide) (Or.inl hl) k1306 k1307 k80 k1308 (show _ ∧ _ ∧ Option.map (fun d => d.parameters.length) (parseMethodDescriptor yX11_makes.desc) = some 2 from by decide +kernel) ⟨hdep, by decide⟩ hroom hsr hd hsp
abbrev e_X11_stand : ME := (cX11_stand, (RX11, (2, ((some .int), (0, (0, 8))))))
theorem dX11_stand_0 : decode cX11_stand 0 = .ok (.aload_n 0, 1) := by decide +kernel
theorem dX11_stand_1 : decode cX11_stand 1 = .ok (.iconst 0, 1) := by decide +kernel
theorem dX11_stand_2 : decode cX11_stand 2 = .ok (.putfield 53, 3) := by decide +kernel
theorem dX11_stand_5 : decode cX11_stand 5 = .ok (.aload_n 0, 1) := by decide +kernel
theorem dX11_stand_6 : decode cX11_stand 6 = .ok (.invokevirtual 199, 3) := by decide +kernel
theorem dX11_stand_9 : decode cX11_stand 9 = .ok (.ifCond .ne 6, 3) := by decide +kernel
theorem dX11_stand_12 : decode cX11_stand 12 = .ok (.ldc 195, 2) := by decide +kernel
theorem dX11_stand_14 : decode cX11_stand 14 = .ok (.ireturn, 1) := by decide +kernel
theorem dX11_stand_15 : decode cX11_stand 15 = .ok (.iload_n 1, 1) := by decide +kernel
theorem dX11_stand_16 : decode cX11_stand 16 = .ok (.tableswitch 62 0 3 #[32, 39, 46, 54], 32) := by decide +kernel
theorem dX11_stand_48 : decode cX11_stand 48 = .ok (.aload_n 0, 1) := by decide +kernel
theorem dX11_stand_49 : decode cX11_stand 49 = .ok (.getfield 19, 3) := by decide +kernel
theorem dX11_stand_52 : decode cX11_stand 52 = .ok (.iconst 1, 1) := by decide +kernel
theorem dX11_stand_53 : decode cX11_stand 53 = .ok (.iaload, 1) := by decide +kernel
theorem dX11_stand_54 : decode cX11_stand 54 = .ok (.ireturn, 1) := by decide +kernel
theorem dX11_stand_55 : decode cX11_stand 55 = .ok (.aload_n 0, 1) := by decide +kernel
theorem dX11_stand_56 : decode cX11_stand 56 = .ok (.getfield 19, 3) := by decide +kernel
theorem dX11_stand_59 : decode cX11_stand 59 = .ok (.iconst 5, 1) := by decide +kernel
theorem dX11_stand_60 : decode cX11_stand 60 = .ok (.iaload, 1) := by decide +kernel
theorem dX11_stand_61 : decode cX11_stand 61 = .ok (.ireturn, 1) := by decide +kernel
theorem dX11_stand_62 : decode cX11_stand 62 = .ok (.aload_n 0, 1) := by decide +kernel
theorem dX11_stand_63 : decode cX11_stand 63 = .ok (.getfield 19, 3) := by decide +kernel
theorem dX11_stand_66 : decode cX11_stand 66 = .ok (.bipush 6, 2) := by decide +kernel
theorem dX11_stand_68 : decode cX11_stand 68 = .ok (.iaload, 1) := by decide +kernel
theorem dX11_stand_69 : decode cX11_stand 69 = .ok (.ireturn, 1) := by decide +kernel
theorem dX11_stand_70 : decode cX11_stand 70 = .ok (.aload_n 0, 1) := by decide +kernel
theorem dX11_stand_71 : decode cX11_stand 71 = .ok (.getfield 19, 3) := by decide +kernel
theorem dX11_stand_74 : decode cX11_stand 74 = .ok (.bipush 7, 2) := by decide +kernel
theorem dX11_stand_76 : decode cX11_stand 76 = .ok (.iaload, 1) := by decide +kernel
theorem dX11_stand_77 : decode cX11_stand 77 = .ok (.ireturn, 1) := by decide +kernel
theorem dX11_stand_78 : decode cX11_stand 78 = .ok (.ldc 73, 2) := by decide +kernel
theorem dX11_stand_80 : decode cX11_stand 80 = .ok (.ireturn, 1) := by decide +kernel
def Sp_X11_stand (av : List AV) (m : AM) (Φ : Option AV → AM → Prop) : Prop := ∃ w, av = [vr 11 110, vi w] ∧ ∃ C, MCo m C ∧ Φ (some (vi (standV C w))) (mset m 110 0 (nI 0))
set_option maxRecDepth 20000 in
set_option maxHeartbeats 4000000 in
theorem S_X11_stand : Snd yX11_stand e_X11_stand Sp_X11_stand := by
  refine Snd.of (by decide +kernel) rfl ?_ ?_
  · rintro av m Φ ⟨w, rfl, _⟩; exact Nat.le_of_ble_eq_true rfl
  rintro av m Φ ⟨w, rfl, C, hC0, h⟩ hav hty
  show B e_X11_stand Φ 0 [some (vr 11 110), some (vi w)] [] m (0, 0)
  have hC : MCo (mset m 110 0 (nI 0)) C := hC0.ms (by decide)
  have hle := hC.le
  unfold standV at h
  have st : 0 < C 0 → B e_X11_stand Φ 15 [some (vr 11 110), some (vi w)] [] (mset m 110 0 (nI 0)) (0, 0) := by
    intro h0
    rw [if_neg (by omega)] at h
    refine b_iloadN (pc := 15) 1 dX11_stand_15 rfl rfl ?_
    cases q : inB w 4 with
    | false =>
      rw [q] at h
      refine b_tableOut (pc := 16) 78 dX11_stand_16 ?_ (by decide) ?_
      · rcases inB_not q with z | z
        · left; exact Int32.lt_iff_toInt_lt.mp z
        · right
          have := Int32.le_iff_toInt_le.mp z
          rw [nI_toInt (by omega)] at this
          omega
      refine b_ldc (pc := 78) k1140 dX11_stand_78 ?_
      refine b_iret (pc := 80) rfl dX11_stand_80 ⟨Nat.le_of_ble_eq_true rfl, Nat.le_of_ble_eq_true rfl⟩ ?_
      rotate_left -- leaf 0: return at 80
      -- leaves: 0 return at 80
      exact h
    | true =>
      rw [q, if_pos rfl] at h
      obtain ⟨j, hj, rfl⟩ := (inB_iff (by omega)).mp q
      rw [n_cl (by omega)] at h
      rcases (by omega : j = 0 ∨ j = 1 ∨ j = 2 ∨ j = 3) with rfl | rfl | rfl | rfl
      · refine b_tableIn (pc := 16) (off := 32) 48 dX11_stand_16 (by decide) (by decide) (by decide) (by decide) ?_
        refine b_aloadN (pc := 48) 0 dX11_stand_48 rfl rfl ?_
        refine gf11_5 (pc := 49) 114 rfl k1047 dX11_stand_49 ?_
        refine b_iconst (pc := 52) (nI 1) dX11_stand_52 (by decide) ?_
        refine b_iald (pc := 53) (by decide) ?_ dX11_stand_53 ?_
        rotate_left -- leaf 0: index at 53
        refine b_iret (pc := 54) rfl dX11_stand_54 ⟨Nat.le_of_ble_eq_true rfl, Nat.le_of_ble_eq_true rfl⟩ ?_
        rotate_left -- leaf 1: return at 54
        -- leaves: 0 index at 53; 1 return at 54
        · exact n_in (by omega) (by omega)
        · rw [n_cl (by omega), hC.1 1 (by omega)]; exact h
      · refine b_tableIn (pc := 16) (off := 39) 55 dX11_stand_16 (by decide) (by decide) (by decide) (by decide) ?_
        refine b_aloadN (pc := 55) 0 dX11_stand_55 rfl rfl ?_
        refine gf11_5 (pc := 56) 114 rfl k1047 dX11_stand_56 ?_
        refine b_iconst (pc := 59) (nI 5) dX11_stand_59 (by decide) ?_
        refine b_iald (pc := 60) (by decide) ?_ dX11_stand_60 ?_
        rotate_left -- leaf 0: index at 60
        refine b_iret (pc := 61) rfl dX11_stand_61 ⟨Nat.le_of_ble_eq_true rfl, Nat.le_of_ble_eq_true rfl⟩ ?_
        rotate_left -- leaf 1: return at 61
        -- leaves: 0 index at 60; 1 return at 61
        · exact n_in (by omega) (by omega)
        · rw [n_cl (by omega), hC.1 5 (by omega)]; exact h
      · refine b_tableIn (pc := 16) (off := 46) 62 dX11_stand_16 (by decide) (by decide) (by decide) (by decide) ?_
        refine b_aloadN (pc := 62) 0 dX11_stand_62 rfl rfl ?_
        refine gf11_5 (pc := 63) 114 rfl k1047 dX11_stand_63 ?_
        refine b_bipush (pc := 66) (nI 6) dX11_stand_66 (by decide) ?_
        refine b_iald (pc := 68) (by decide) ?_ dX11_stand_68 ?_
        rotate_left -- leaf 0: index at 68
        refine b_iret (pc := 69) rfl dX11_stand_69 ⟨Nat.le_of_ble_eq_true rfl, Nat.le_of_ble_eq_true rfl⟩ ?_
        rotate_left -- leaf 1: return at 69
        -- leaves: 0 index at 68; 1 return at 69
        · exact n_in (by omega) (by omega)
        · rw [n_cl (by omega), hC.1 6 (by omega)]; exact h
      · refine b_tableIn (pc := 16) (off := 54) 70 dX11_stand_16 (by decide) (by decide) (by decide) (by decide) ?_
        refine b_aloadN (pc := 70) 0 dX11_stand_70 rfl rfl ?_
        refine gf11_5 (pc := 71) 114 rfl k1047 dX11_stand_71 ?_
        refine b_bipush (pc := 74) (nI 7) dX11_stand_74 (by decide) ?_
        refine b_iald (pc := 76) (by decide) ?_ dX11_stand_76 ?_
        rotate_left -- leaf 0: index at 76
        refine b_iret (pc := 77) rfl dX11_stand_77 ⟨Nat.le_of_ble_eq_true rfl, Nat.le_of_ble_eq_true rfl⟩ ?_
        rotate_left -- leaf 1: return at 77
        -- leaves: 0 index at 76; 1 return at 77
        · exact n_in (by omega) (by omega)
        · rw [n_cl (by omega), hC.1 7 (by omega)]; exact h
  refine b_aloadN (pc := 0) 0 dX11_stand_0 rfl rfl ?_
  refine b_iconst (pc := 1) (nI 0) dX11_stand_1 (by decide) ?_
  refine pf11_0 (pc := 2) k1042 dX11_stand_2 ?_
  refine b_aloadN (pc := 5) 0 dX11_stand_5 rfl rfl ?_
  refine call_X11_isThere (pc := 6) k1292 (by decide) ⟨Nat.le_of_ble_eq_true rfl, Nat.le_of_ble_eq_true rfl⟩ (Nat.le_of_ble_eq_true rfl) dX11_stand_6 ?_
  refine ⟨rfl, _, hC.1 0 (by omega), ?_, ?_⟩
  rotate_left -- leaf 0: six of X11_isThere at 6
  refine b_if_ne (pc := 9) 15 dX11_stand_9 (by decide) (fun c9 => ?_) (fun c9 => ?_)
  rotate_left -- leaf 1: at 15
  refine b_ldc (pc := 12) k1275 dX11_stand_12 ?_
  refine b_iret (pc := 14) rfl dX11_stand_14 ⟨Nat.le_of_ble_eq_true rfl, Nat.le_of_ble_eq_true rfl⟩ ?_
  rotate_left -- leaf 2: return at 14
  -- leaves: 0 six of X11_isThere at 6; 1 at 15; 2 return at 14
  · omega
  · exact st (zF c9)
  · rw [if_pos (zT c9)] at h; exact h
theorem call_X11_stand {E : ME} {Φ : Option AV → AM → Prop} {pc : Nat} {L : List (Option AV)} {st : List AV} {m : AM} {a : Nat × Nat} {idx : Nat} {x0 : AV} {i : Nat} (hl : Cond.methodLink E.2.1 idx yX11_stand ∈ TB) (hdep : 8 + 1 ≤ E.2.2.2.2.2.2) (hroom : a.1 + 0 ≤ E.2.2.2.2.1 ∧ a.2 + 0 ≤ E.2.2.2.2.2.1) (hsr : st.length ≤ 4) (hd : decode E.1 pc = .ok (.invokevirtual idx, 3)) (hsp : Sp_X11_stand [vr 11 i, x0] m (fun r m2 => B E Φ (pc + 3) L (r.toList ++ st) m2 a)) : B E Φ pc L (x0 :: vr 11 i :: st) m a := b_callV S_X11_stand [x0] (RX11, TX11, 28) rfl rfl (by decide) (Or.inl hl) k1289 k1290 k80 k1291 (show _ ∧ _ ∧ Option.map (fun d => d.parameters.length) (parseMethodDescriptor yX11_stand.desc) = some 1 from by decide +kernel) ⟨hdep, by decide⟩ hroom hsr hd hsp
