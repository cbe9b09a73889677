/-! THE CLASS'S METHODS over the court: what they answer -/
def NoR (m : AM) (C : Nat → Nat) : Prop := (∀ j, j < 50 → C j = 0) ∧ m.1 21 4 = nI 0 ∧ m.1 21 6 = nI 0 ∧ m.1 21 7 = nI 0 ∧ m.1 21 8 = nI 0 ∧ m.1 26 1 = nI 0
/-- the bench holds C, open or none -/
def CR (m : AM) (C : Nat → Nat) : Prop := BR m C ∨ NoR m C
theorem CR.num {m : AM} {C : Nat → Nat} (h : CR m C) : m.1 21 4 = nI (C 0) ∧ m.1 21 6 = nI (C 2) ∧ m.1 21 7 = nI (C 3) ∧ m.1 21 8 = nI (C 4) ∧ m.1 26 1 = nI (C 1) := by
  rcases h with ⟨hv, hL, hS, hM, hC⟩ | ⟨h0, h1, h2, h3, h4, h5⟩
  · exact ⟨hL.1, hL.2.1, hL.2.2.1, hL.2.2.2.1, hS.1⟩
  · rw [h0 0 (by omega), h0 1 (by omega), h0 2 (by omega), h0 3 (by omega), h0 4 (by omega)]
    exact ⟨h1, h2, h3, h4, h5⟩
theorem CR.le {m : AM} {C : Nat → Nat} (h : CR m C) : C 0 ≤ 6 ∧ C 3 ≤ 8 ∧ C 4 ≤ 5 := by
  rcases h with ⟨hv, hL, hS, hM, hC⟩ | ⟨h0, h1, h2, h3, h4, h5⟩
  · exact ⟨hv.1.2, hv.2.2.2.1, hv.2.2.2.2.1.2⟩
  · rw [h0 0 (by omega), h0 3 (by omega), h0 4 (by omega)]
    omega
theorem CR.op {m : AM} {C : Nat → Nat} (h : CR m C) (h0 : 0 < C 0 ∨ 0 < C 3 ∨ 0 < C 4) : BR m C := by
  rcases h with h | ⟨h1, -⟩
  · exact h
  · rw [h1 0 (by omega), h1 3 (by omega), h1 4 (by omega)] at h0
    omega
theorem bT {b : Bool} (h : ¬ nI (if b = true then 1 else 0) = 0) : b = true := by
  cases b
  · exact absurd ((nb0 false).mpr rfl) h
  · rfl
theorem bF {b : Bool} (h : nI (if b = true then 1 else 0) = 0) : b = false := (nb0 b).mp h
theorem dT {b : Bool} (h : nI (if b = true then 0 else 1) = 0) : b = true := by
  cases b
  · exact absurd h (by decide)
  · rfl
theorem dF {b : Bool} (h : ¬ nI (if b = true then 0 else 1) = 0) : b = false := by
  cases b
  · rfl
  · exact absurd rfl h
theorem zT {n : Nat} (h : nI (if n = 0 then 0 else 1) = 0) : n = 0 := by
  by_cases q : n = 0
  · exact q
  · rw [if_neg q] at h; exact absurd h (by decide)
theorem zF {n : Nat} (h : ¬ nI (if n = 0 then 0 else 1) = 0) : 0 < n := by
  by_cases q : n = 0
  · rw [if_pos q] at h; exact absurd rfl h
  · omega
def cellV (C : Nat → Nat) (p : Int32) : Int32 := if inB p (C 4) = true then nI (C (41 + 2 * p.toNatClampNeg)) else -1000001
def kindV (C : Nat → Nat) (p : Int32) : Int32 := if inB p (C 4) = true then nI (C (40 + 2 * p.toNatClampNeg)) else -1000001
def makesV (C : Nat → Nat) (p s : Int32) : Int32 := if (inB p (C 4) && inB s (2 * C 0)) = true then oI (outN C (C (40 + 2 * p.toNatClampNeg)) (C 1) (C 5) s.toNatClampNeg) else -1000001
def stdN (w : Nat) : Nat := if w = 0 then 1 else w + 4
def standV (C : Nat → Nat) (w : Int32) : Int32 := if C 0 = 0 then -1000002 else if inB w 4 = true then nI (C (stdN w.toNatClampNeg)) else -1000001
def ruleV (C : Nat → Nat) (r w : Int32) : Int32 := if (inB r (C 3) && inB w 4) = true then nI (C (8 + 4 * r.toNatClampNeg + w.toNatClampNeg)) else -1000001
abbrev e_X10_cell : ME := (cX10_cell, (RX10, (2, ((some .int), (0, (0, 8))))))
theorem dX10_cell_0 : decode cX10_cell 0 = .ok (.aload_n 0, 1) := by decide +kernel
theorem dX10_cell_1 : decode cX10_cell 1 = .ok (.getfield 26, 3) := by decide +kernel
theorem dX10_cell_4 : decode cX10_cell 4 = .ok (.getfield 127, 3) := by decide +kernel
theorem dX10_cell_7 : decode cX10_cell 7 = .ok (.iload_n 1, 1) := by decide +kernel
theorem dX10_cell_8 : decode cX10_cell 8 = .ok (.invokevirtual 147, 3) := by decide +kernel
theorem dX10_cell_11 : decode cX10_cell 11 = .ok (.ifCond .eq 18, 3) := by decide +kernel
theorem dX10_cell_14 : decode cX10_cell 14 = .ok (.aload_n 0, 1) := by decide +kernel
theorem dX10_cell_15 : decode cX10_cell 15 = .ok (.getfield 26, 3) := by decide +kernel
theorem dX10_cell_18 : decode cX10_cell 18 = .ok (.getfield 153, 3) := by decide +kernel
theorem dX10_cell_21 : decode cX10_cell 21 = .ok (.getfield 208, 3) := by decide +kernel
theorem dX10_cell_24 : decode cX10_cell 24 = .ok (.iload_n 1, 1) := by decide +kernel
theorem dX10_cell_25 : decode cX10_cell 25 = .ok (.iaload, 1) := by decide +kernel
theorem dX10_cell_26 : decode cX10_cell 26 = .ok (.goto 5, 3) := by decide +kernel
theorem dX10_cell_29 : decode cX10_cell 29 = .ok (.ldc 69, 2) := by decide +kernel
theorem dX10_cell_31 : decode cX10_cell 31 = .ok (.ireturn, 1) := by decide +kernel
def Sp_X10_cell (av : List AV) (m : AM) (Φ : Option AV → AM → Prop) : Prop := ∃ p, av = [vr 10 0, vi p] ∧ ∃ C, CR m C ∧ Φ (some (vi (cellV C p))) m
set_option maxRecDepth 20000 in
set_option maxHeartbeats 4000000 in
theorem S_X10_cell : Snd yX10_cell e_X10_cell Sp_X10_cell := by
  refine Snd.of (by decide +kernel) rfl ?_ ?_
  · rintro av m Φ ⟨p, rfl, _⟩; exact Nat.le_of_ble_eq_true rfl
  rintro av m Φ ⟨p, rfl, C, hC, h⟩ hav hty
  show B e_X10_cell Φ 0 [some (vr 10 0), some (vi p)] [] m (0, 0)
  unfold cellV at h
  have hle := hC.le
  refine b_aloadN (pc := 0) 0 dX10_cell_0 rfl rfl ?_
  refine gf10_2 (pc := 1) 20 rfl k417 dX10_cell_1 ?_
  refine gf2_0 (pc := 4) 21 rfl k269 dX10_cell_4 ?_
  refine b_iloadN (pc := 7) 1 dX10_cell_7 rfl rfl ?_
  refine call_X5_isPerson (pc := 8) k642 (by decide) ⟨Nat.le_of_ble_eq_true rfl, Nat.le_of_ble_eq_true rfl⟩ (Nat.le_of_ble_eq_true rfl) dX10_cell_8 ?_
  refine ⟨_, rfl, _, hC.num.2.2.2.1, ?_⟩
  refine b_if_eq (pc := 11) 29 dX10_cell_11 (by decide) (fun c11 => ?_) (fun c11 => ?_)
  refine b_ldc (pc := 29) k450 dX10_cell_29 ?_
  refine b_iret (pc := 31) rfl dX10_cell_31 ⟨Nat.le_of_ble_eq_true rfl, Nat.le_of_ble_eq_true rfl⟩ ?_
  rotate_left -- leaf 0: return at 31
  refine b_aloadN (pc := 14) 0 dX10_cell_14 rfl rfl ?_
  refine gf10_2 (pc := 15) 20 rfl k417 dX10_cell_15 ?_
  refine gf2_1 (pc := 18) 26 rfl k275 dX10_cell_18 ?_
  refine gf8_0 (pc := 21) 27 rfl k230 dX10_cell_21 ?_
  refine b_iloadN (pc := 24) 1 dX10_cell_24 rfl rfl ?_
  refine b_iald (pc := 25) (by decide) ?_ dX10_cell_25 ?_
  rotate_left -- leaf 1: index at 25
  refine b_goto (pc := 26) 31 dX10_cell_26 (by decide) ?_
  refine b_iret (pc := 31) rfl dX10_cell_31 ⟨Nat.le_of_ble_eq_true rfl, Nat.le_of_ble_eq_true rfl⟩ ?_
  rotate_left -- leaf 2: return at 31
  -- leaves: 0 return at 31; 1 index at 25; 2 return at 31
  · rw [bF c11] at h; exact h
  · obtain ⟨j, hj, rfl⟩ := (inB_iff (by omega)).mp (bT c11)
    exact n_in (by omega) (by omega)
  · rw [if_pos (bT c11)] at h
    obtain ⟨j, hj, rfl⟩ := (inB_iff (by omega)).mp (bT c11)
    rw [n_cl (by omega)] at h ⊢
    rw [(hC.op (Or.inr (Or.inr (by omega)))).2.2.1.2.2.2.2.2 j hj]
    exact h
theorem call_X10_cell {E : ME} {Φ : Option AV → AM → Prop} {pc : Nat} {L : List (Option AV)} {st : List AV} {m : AM} {a : Nat × Nat} {idx : Nat} {x0 : AV} {i : Nat} (hl : Cond.methodLink E.2.1 idx yX10_cell ∈ TB) (hdep : 8 + 1 ≤ E.2.2.2.2.2.2) (hroom : a.1 + 0 ≤ E.2.2.2.2.1 ∧ a.2 + 0 ≤ E.2.2.2.2.2.1) (hsr : st.length ≤ 4) (hd : decode E.1 pc = .ok (.invokevirtual idx, 3)) (hsp : Sp_X10_cell [vr 10 i, x0] m (fun r m2 => B E Φ (pc + 3) L (r.toList ++ st) m2 a)) : B E Φ pc L (x0 :: vr 10 i :: st) m a := b_callV S_X10_cell [x0] (RX10, TX10, 9) rfl rfl (by decide) (Or.inl hl) k729 k730 k68 k731 (show _ ∧ _ ∧ Option.map (fun d => d.parameters.length) (parseMethodDescriptor yX10_cell.desc) = some 1 from by decide +kernel) ⟨hdep, by decide⟩ hroom hsr hd hsp
abbrev e_X10_kind : ME := (cX10_kind, (RX10, (2, ((some .int), (0, (0, 8))))))
theorem dX10_kind_0 : decode cX10_kind 0 = .ok (.aload_n 0, 1) := by decide +kernel
theorem dX10_kind_1 : decode cX10_kind 1 = .ok (.getfield 26, 3) := by decide +kernel
theorem dX10_kind_4 : decode cX10_kind 4 = .ok (.getfield 127, 3) := by decide +kernel
theorem dX10_kind_7 : decode cX10_kind 7 = .ok (.iload_n 1, 1) := by decide +kernel
theorem dX10_kind_8 : decode cX10_kind 8 = .ok (.invokevirtual 147, 3) := by decide +kernel
theorem dX10_kind_11 : decode cX10_kind 11 = .ok (.ifCond .eq 18, 3) := by decide +kernel
theorem dX10_kind_14 : decode cX10_kind 14 = .ok (.aload_n 0, 1) := by decide +kernel
theorem dX10_kind_15 : decode cX10_kind 15 = .ok (.getfield 26, 3) := by decide +kernel
theorem dX10_kind_18 : decode cX10_kind 18 = .ok (.getfield 127, 3) := by decide +kernel
theorem dX10_kind_21 : decode cX10_kind 21 = .ok (.getfield 211, 3) := by decide +kernel
theorem dX10_kind_24 : decode cX10_kind 24 = .ok (.iload_n 1, 1) := by decide +kernel
theorem dX10_kind_25 : decode cX10_kind 25 = .ok (.iaload, 1) := by decide +kernel
theorem dX10_kind_26 : decode cX10_kind 26 = .ok (.goto 5, 3) := by decide +kernel
theorem dX10_kind_29 : decode cX10_kind 29 = .ok (.ldc 69, 2) := by decide +kernel
theorem dX10_kind_31 : decode cX10_kind 31 = .ok (.ireturn, 1) := by decide +kernel
def Sp_X10_kind (av : List AV) (m : AM) (Φ : Option AV → AM → Prop) : Prop := ∃ p, av = [vr 10 0, vi p] ∧ ∃ C, CR m C ∧ Φ (some (vi (kindV C p))) m
set_option maxRecDepth 20000 in
set_option maxHeartbeats 4000000 in
theorem S_X10_kind : Snd yX10_kind e_X10_kind Sp_X10_kind := by
  refine Snd.of (by decide +kernel) rfl ?_ ?_
  · rintro av m Φ ⟨p, rfl, _⟩; exact Nat.le_of_ble_eq_true rfl
  rintro av m Φ ⟨p, rfl, C, hC, h⟩ hav hty
  show B e_X10_kind Φ 0 [some (vr 10 0), some (vi p)] [] m (0, 0)
  unfold kindV at h
  have hle := hC.le
  refine b_aloadN (pc := 0) 0 dX10_kind_0 rfl rfl ?_
  refine gf10_2 (pc := 1) 20 rfl k417 dX10_kind_1 ?_
  refine gf2_0 (pc := 4) 21 rfl k269 dX10_kind_4 ?_
  refine b_iloadN (pc := 7) 1 dX10_kind_7 rfl rfl ?_
  refine call_X5_isPerson (pc := 8) k642 (by decide) ⟨Nat.le_of_ble_eq_true rfl, Nat.le_of_ble_eq_true rfl⟩ (Nat.le_of_ble_eq_true rfl) dX10_kind_8 ?_
  refine ⟨_, rfl, _, hC.num.2.2.2.1, ?_⟩
  refine b_if_eq (pc := 11) 29 dX10_kind_11 (by decide) (fun c11 => ?_) (fun c11 => ?_)
  refine b_ldc (pc := 29) k450 dX10_kind_29 ?_
  refine b_iret (pc := 31) rfl dX10_kind_31 ⟨Nat.le_of_ble_eq_true rfl, Nat.le_of_ble_eq_true rfl⟩ ?_
  rotate_left -- leaf 0: return at 31
  refine b_aloadN (pc := 14) 0 dX10_kind_14 rfl rfl ?_
  refine gf10_2 (pc := 15) 20 rfl k417 dX10_kind_15 ?_
  refine gf2_0 (pc := 18) 21 rfl k269 dX10_kind_18 ?_
  refine gf5_3 (pc := 21) 25 rfl k141 dX10_kind_21 ?_
  refine b_iloadN (pc := 24) 1 dX10_kind_24 rfl rfl ?_
  refine b_iald (pc := 25) (by decide) ?_ dX10_kind_25 ?_
  rotate_left -- leaf 1: index at 25
  refine b_goto (pc := 26) 31 dX10_kind_26 (by decide) ?_
  refine b_iret (pc := 31) rfl dX10_kind_31 ⟨Nat.le_of_ble_eq_true rfl, Nat.le_of_ble_eq_true rfl⟩ ?_
  rotate_left -- leaf 2: return at 31
  -- leaves: 0 return at 31; 1 index at 25; 2 return at 31
  · rw [bF c11] at h; exact h
  · obtain ⟨j, hj, rfl⟩ := (inB_iff (by omega)).mp (bT c11)
    exact n_in (by omega) (by omega)
  · rw [if_pos (bT c11)] at h
    obtain ⟨j, hj, rfl⟩ := (inB_iff (by omega)).mp (bT c11)
    rw [n_cl (by omega)] at h ⊢
    rw [(hC.op (Or.inr (Or.inr (by omega)))).2.1.2.2.2.2.2 j hj]
    exact h
theorem call_X10_kind {E : ME} {Φ : Option AV → AM → Prop} {pc : Nat} {L : List (Option AV)} {st : List AV} {m : AM} {a : Nat × Nat} {idx : Nat} {x0 : AV} {i : Nat} (hl : Cond.methodLink E.2.1 idx yX10_kind ∈ TB) (hdep : 8 + 1 ≤ E.2.2.2.2.2.2) (hroom : a.1 + 0 ≤ E.2.2.2.2.1 ∧ a.2 + 0 ≤ E.2.2.2.2.2.1) (hsr : st.length ≤ 4) (hd : decode E.1 pc = .ok (.invokevirtual idx, 3)) (hsp : Sp_X10_kind [vr 10 i, x0] m (fun r m2 => B E Φ (pc + 3) L (r.toList ++ st) m2 a)) : B E Φ pc L (x0 :: vr 10 i :: st) m a := b_callV S_X10_kind [x0] (RX10, TX10, 9) rfl rfl (by decide) (Or.inl hl) k979 k980 k68 k981 (show _ ∧ _ ∧ Option.map (fun d => d.parameters.length) (parseMethodDescriptor yX10_kind.desc) = some 1 from by decide +kernel) ⟨hdep, by decide⟩ hroom hsr hd hsp
abbrev e_X10_makes : ME := (cX10_makes, (RX10, (3, ((some .int), (0, (0, 8))))))
theorem dX10_makes_0 : decode cX10_makes 0 = .ok (.aload_n 0, 1) := by decide +kernel
theorem dX10_makes_1 : decode cX10_makes 1 = .ok (.getfield 26, 3) := by decide +kernel
theorem dX10_makes_4 : decode cX10_makes 4 = .ok (.getfield 127, 3) := by decide +kernel
theorem dX10_makes_7 : decode cX10_makes 7 = .ok (.iload_n 1, 1) := by decide +kernel
theorem dX10_makes_8 : decode cX10_makes 8 = .ok (.invokevirtual 147, 3) := by decide +kernel
theorem dX10_makes_11 : decode cX10_makes 11 = .ok (.ifCond .eq 17, 3) := by decide +kernel
theorem dX10_makes_14 : decode cX10_makes 14 = .ok (.aload_n 0, 1) := by decide +kernel
theorem dX10_makes_15 : decode cX10_makes 15 = .ok (.getfield 26, 3) := by decide +kernel
theorem dX10_makes_18 : decode cX10_makes 18 = .ok (.getfield 127, 3) := by decide +kernel
theorem dX10_makes_21 : decode cX10_makes 21 = .ok (.iload_n 2, 1) := by decide +kernel
theorem dX10_makes_22 : decode cX10_makes 22 = .ok (.invokevirtual 150, 3) := by decide +kernel
theorem dX10_makes_25 : decode cX10_makes 25 = .ok (.ifCond .ne 6, 3) := by decide +kernel
theorem dX10_makes_28 : decode cX10_makes 28 = .ok (.ldc 69, 2) := by decide +kernel
theorem dX10_makes_30 : decode cX10_makes 30 = .ok (.ireturn, 1) := by decide +kernel
theorem dX10_makes_31 : decode cX10_makes 31 = .ok (.aload_n 0, 1) := by decide +kernel
theorem dX10_makes_32 : decode cX10_makes 32 = .ok (.getfield 26, 3) := by decide +kernel
theorem dX10_makes_35 : decode cX10_makes 35 = .ok (.aload_n 0, 1) := by decide +kernel
theorem dX10_makes_36 : decode cX10_makes 36 = .ok (.getfield 26, 3) := by decide +kernel
theorem dX10_makes_39 : decode cX10_makes 39 = .ok (.getfield 127, 3) := by decide +kernel
theorem dX10_makes_42 : decode cX10_makes 42 = .ok (.getfield 211, 3) := by decide +kernel
theorem dX10_makes_45 : decode cX10_makes 45 = .ok (.iload_n 1, 1) := by decide +kernel
theorem dX10_makes_46 : decode cX10_makes 46 = .ok (.iaload, 1) := by decide +kernel
theorem dX10_makes_47 : decode cX10_makes 47 = .ok (.iload_n 2, 1) := by decide +kernel
theorem dX10_makes_48 : decode cX10_makes 48 = .ok (.aload_n 0, 1) := by decide +kernel
theorem dX10_makes_49 : decode cX10_makes 49 = .ok (.getfield 26, 3) := by decide +kernel
theorem dX10_makes_52 : decode cX10_makes 52 = .ok (.getfield 153, 3) := by decide +kernel
theorem dX10_makes_55 : decode cX10_makes 55 = .ok (.getfield 192, 3) := by decide +kernel
theorem dX10_makes_58 : decode cX10_makes 58 = .ok (.aload_n 0, 1) := by decide +kernel
theorem dX10_makes_59 : decode cX10_makes 59 = .ok (.getfield 26, 3) := by decide +kernel
theorem dX10_makes_62 : decode cX10_makes 62 = .ok (.getfield 153, 3) := by decide +kernel
theorem dX10_makes_65 : decode cX10_makes 65 = .ok (.getfield 174, 3) := by decide +kernel
theorem dX10_makes_68 : decode cX10_makes 68 = .ok (.invokevirtual 214, 3) := by decide +kernel
theorem dX10_makes_71 : decode cX10_makes 71 = .ok (.ireturn, 1) := by decide +kernel
def Sp_X10_makes (av : List AV) (m : AM) (Φ : Option AV → AM → Prop) : Prop := ∃ p s, av = [vr 10 0, vi p, vi s] ∧ ∃ C, CR m C ∧ ∀ m2, CU C m m2 → Φ (some (vi (makesV C p s))) m2
set_option maxRecDepth 20000 in
set_option maxHeartbeats 4000000 in
theorem S_X10_makes : Snd yX10_makes e_X10_makes Sp_X10_makes := by
  refine Snd.of (by decide +kernel) rfl ?_ ?_
  · rintro av m Φ ⟨p, s, rfl, _⟩; exact Nat.le_of_ble_eq_true rfl
  rintro av m Φ ⟨p, s, rfl, C, hC, h⟩ hav hty
  show B e_X10_makes Φ 0 [some (vr 10 0), some (vi p), some (vi s)] [] m (0, 0)
  unfold makesV at h
  have hle := hC.le
  refine b_aloadN (pc := 0) 0 dX10_makes_0 rfl rfl ?_
  refine gf10_2 (pc := 1) 20 rfl k417 dX10_makes_1 ?_
  refine gf2_0 (pc := 4) 21 rfl k269 dX10_makes_4 ?_
  refine b_iloadN (pc := 7) 1 dX10_makes_7 rfl rfl ?_
  refine call_X5_isPerson (pc := 8) k642 (by decide) ⟨Nat.le_of_ble_eq_true rfl, Nat.le_of_ble_eq_true rfl⟩ (Nat.le_of_ble_eq_true rfl) dX10_makes_8 ?_
  refine ⟨_, rfl, _, hC.num.2.2.2.1, ?_⟩
  refine b_if_eq (pc := 11) 28 dX10_makes_11 (by decide) (fun c11 => ?_) (fun c11 => ?_)
  refine b_ldc (pc := 28) k450 dX10_makes_28 ?_
  refine b_iret (pc := 30) rfl dX10_makes_30 ⟨Nat.le_of_ble_eq_true rfl, Nat.le_of_ble_eq_true rfl⟩ ?_
  rotate_left -- leaf 0: return at 30
  refine b_aloadN (pc := 14) 0 dX10_makes_14 rfl rfl ?_
  refine gf10_2 (pc := 15) 20 rfl k417 dX10_makes_15 ?_
  refine gf2_0 (pc := 18) 21 rfl k269 dX10_makes_18 ?_
  refine b_iloadN (pc := 21) 2 dX10_makes_21 rfl rfl ?_
  refine call_X5_isSaying (pc := 22) k646 (by decide) ⟨Nat.le_of_ble_eq_true rfl, Nat.le_of_ble_eq_true rfl⟩ (Nat.le_of_ble_eq_true rfl) dX10_makes_22 ?_
  refine ⟨_, rfl, _, hC.num.1, ?_⟩
  refine b_if_ne (pc := 25) 31 dX10_makes_25 (by decide) (fun c25 => ?_) (fun c25 => ?_)
  refine b_aloadN (pc := 31) 0 dX10_makes_31 rfl rfl ?_
  refine gf10_2 (pc := 32) 20 rfl k417 dX10_makes_32 ?_
  refine b_aloadN (pc := 35) 0 dX10_makes_35 rfl rfl ?_
  refine gf10_2 (pc := 36) 20 rfl k417 dX10_makes_36 ?_
  refine gf2_0 (pc := 39) 21 rfl k269 dX10_makes_39 ?_
  refine gf5_3 (pc := 42) 25 rfl k141 dX10_makes_42 ?_
  refine b_iloadN (pc := 45) 1 dX10_makes_45 rfl rfl ?_
  refine b_iald (pc := 46) (by decide) ?_ dX10_makes_46 ?_
  rotate_left -- leaf 1: index at 46
  refine b_iloadN (pc := 47) 2 dX10_makes_47 rfl rfl ?_
  refine b_aloadN (pc := 48) 0 dX10_makes_48 rfl rfl ?_
  refine gf10_2 (pc := 49) 20 rfl k417 dX10_makes_49 ?_
  refine gf2_1 (pc := 52) 26 rfl k275 dX10_makes_52 ?_
  refine gf8_1 (pc := 55) k236 dX10_makes_55 ?_
  refine b_aloadN (pc := 58) 0 dX10_makes_58 rfl rfl ?_
  refine gf10_2 (pc := 59) 20 rfl k417 dX10_makes_59 ?_
  refine gf2_1 (pc := 62) 26 rfl k275 dX10_makes_62 ?_
  refine gf8_2 (pc := 65) k241 dX10_makes_65 ?_
  refine call_X2_outcome (pc := 68) k736 (by decide) ⟨Nat.le_of_ble_eq_true rfl, Nat.le_of_ble_eq_true rfl⟩ (Nat.le_of_ble_eq_true rfl) dX10_makes_68 ?_
  refine ⟨_, _, _, _, rfl, C, C (40 + 2 * p.toNatClampNeg), s.toNatClampNeg, C 1, C 5, ?_, ?_, ?_, ?_, ?_, ?_, ?_, ?_, ?_, fun m68 h68 => ?_⟩
  rotate_left -- leaf 2: bench of X2_outcome at 68
  rotate_left -- leaf 3: kd of X2_outcome at 68
  rotate_left -- leaf 4: sy of X2_outcome at 68
  rotate_left -- leaf 5: so of X2_outcome at 68
  rotate_left -- leaf 6: sd of X2_outcome at 68
  rotate_left -- leaf 7: kind of X2_outcome at 68
  rotate_left -- leaf 8: saying of X2_outcome at 68
  rotate_left -- leaf 9: so64 of X2_outcome at 68
  rotate_left -- leaf 10: sd64 of X2_outcome at 68
  refine b_iret (pc := 71) rfl dX10_makes_71 ⟨Nat.le_of_ble_eq_true rfl, Nat.le_of_ble_eq_true rfl⟩ ?_
  rotate_left -- leaf 11: return at 71
  refine b_ldc (pc := 28) k450 dX10_makes_28 ?_
  refine b_iret (pc := 30) rfl dX10_makes_30 ⟨Nat.le_of_ble_eq_true rfl, Nat.le_of_ble_eq_true rfl⟩ ?_
  rotate_left -- leaf 12: return at 30
  -- leaves: 0 return at 30; 1 index at 46; 2 bench of X2_outcome at 68; 3 kd of X2_outcome at 68; 4 sy of X2_outcome at 68; 5 so of X2_outcome at 68; 6 sd of X2_outcome at 68; 7 kind of X2_outcome at 68; 8 saying of X2_outcome at 68; 9 so64 of X2_outcome at 68; 10 sd64 of X2_outcome at 68; 11 return at 71; 12 return at 30
  · rw [bF c11, Bool.false_and] at h; exact h m (CU.rf C m)
  all_goals first
    | (rw [bF c25, Bool.and_false] at h; exact h m (CU.rf C m))
    | skip
  all_goals obtain ⟨j, hj, rfl⟩ := (inB_iff (by omega)).mp (bT c11)
  all_goals obtain ⟨k, hk, rfl⟩ := (inB_iff (by omega)).mp (bT c25)
  all_goals rw [n_cl (show j < 2147483648 by omega), n_cl (show k < 2147483648 by omega)] at h
  all_goals have hB := hC.op (Or.inr (Or.inr (by omega)))
  all_goals have hv := hB.1
  all_goals try rw [n_cl (show j < 2147483648 by omega)]
  · exact n_in (by omega) (by omega)
  · exact hB
  · exact hB.2.1.2.2.2.2.2 j hj
  · rw [n_cl (by omega)]
  · exact hB.2.2.1.1
  · exact hB.2.2.1.2.1
  · exact (hv.2.2.2.2.2.2.2.2.2 j hj).1
  · rw [n_cl (by omega)]; exact hk
  · exact hv.c1
  · exact hv.c5
  · rw [if_pos (by rw [bT c11, bT c25]; rfl)] at h
    rw [n_cl (show k < 2147483648 by omega)]
    exact h m68 h68
theorem call_X10_makes {E : ME} {Φ : Option AV → AM → Prop} {pc : Nat} {L : List (Option AV)} {st : List AV} {m : AM} {a : Nat × Nat} {idx : Nat} {x0 x1 : AV} {i : Nat} (hl : Cond.methodLink E.2.1 idx yX10_makes ∈ TB) (hdep : 8 + 1 ≤ E.2.2.2.2.2.2) (hroom : a.1 + 0 ≤ E.2.2.2.2.1 ∧ a.2 + 0 ≤ E.2.2.2.2.2.1) (hsr : st.length ≤ 4) (hd : decode E.1 pc = .ok (.invokevirtual idx, 3)) (hsp : Sp_X10_makes [vr 10 i, x0, x1] m (fun r m2 => B E Φ (pc + 3) L (r.toList ++ st) m2 a)) : B E Φ pc L (x1 :: x0 :: vr 10 i :: st) m a := b_callV S_X10_makes [x0, x1] (RX10, TX10, 9) rfl rfl (by decide) (Or.inl hl) k733 k734 k68 k735 (show _ ∧ _ ∧ Option.map (fun d => d.parameters.length) (parseMethodDescriptor yX10_makes.desc) = some 2 from by decide +kernel) ⟨hdep, by decide⟩ hroom hsr hd hsp
abbrev e_X10_stand : ME := (cX10_stand, (RX10, (2, ((some .int), (0, (0, 8))))))
theorem dX10_stand_0 : decode cX10_stand 0 = .ok (.aload_n 0, 1) := by decide +kernel
theorem dX10_stand_1 : decode cX10_stand 1 = .ok (.getfield 26, 3) := by decide +kernel
theorem dX10_stand_4 : decode cX10_stand 4 = .ok (.invokevirtual 189, 3) := by decide +kernel
theorem dX10_stand_7 : decode cX10_stand 7 = .ok (.ifCond .ne 6, 3) := by decide +kernel
theorem dX10_stand_10 : decode cX10_stand 10 = .ok (.ldc 142, 2) := by decide +kernel
theorem dX10_stand_12 : decode cX10_stand 12 = .ok (.ireturn, 1) := by decide +kernel
theorem dX10_stand_13 : decode cX10_stand 13 = .ok (.iload_n 1, 1) := by decide +kernel
theorem dX10_stand_14 : decode cX10_stand 14 = .ok (.tableswitch 74 0 3 #[30, 41, 52, 63], 30) := by decide +kernel
theorem dX10_stand_44 : decode cX10_stand 44 = .ok (.aload_n 0, 1) := by decide +kernel
theorem dX10_stand_45 : decode cX10_stand 45 = .ok (.getfield 26, 3) := by decide +kernel
theorem dX10_stand_48 : decode cX10_stand 48 = .ok (.getfield 153, 3) := by decide +kernel
theorem dX10_stand_51 : decode cX10_stand 51 = .ok (.getfield 192, 3) := by decide +kernel
theorem dX10_stand_54 : decode cX10_stand 54 = .ok (.ireturn, 1) := by decide +kernel
theorem dX10_stand_55 : decode cX10_stand 55 = .ok (.aload_n 0, 1) := by decide +kernel
theorem dX10_stand_56 : decode cX10_stand 56 = .ok (.getfield 26, 3) := by decide +kernel
theorem dX10_stand_59 : decode cX10_stand 59 = .ok (.getfield 153, 3) := by decide +kernel
theorem dX10_stand_62 : decode cX10_stand 62 = .ok (.getfield 174, 3) := by decide +kernel
theorem dX10_stand_65 : decode cX10_stand 65 = .ok (.ireturn, 1) := by decide +kernel
theorem dX10_stand_66 : decode cX10_stand 66 = .ok (.aload_n 0, 1) := by decide +kernel
theorem dX10_stand_67 : decode cX10_stand 67 = .ok (.getfield 26, 3) := by decide +kernel
theorem dX10_stand_70 : decode cX10_stand 70 = .ok (.getfield 153, 3) := by decide +kernel
theorem dX10_stand_73 : decode cX10_stand 73 = .ok (.getfield 195, 3) := by decide +kernel
theorem dX10_stand_76 : decode cX10_stand 76 = .ok (.ireturn, 1) := by decide +kernel
theorem dX10_stand_77 : decode cX10_stand 77 = .ok (.aload_n 0, 1) := by decide +kernel
theorem dX10_stand_78 : decode cX10_stand 78 = .ok (.getfield 26, 3) := by decide +kernel
theorem dX10_stand_81 : decode cX10_stand 81 = .ok (.getfield 153, 3) := by decide +kernel
theorem dX10_stand_84 : decode cX10_stand 84 = .ok (.getfield 157, 3) := by decide +kernel
theorem dX10_stand_87 : decode cX10_stand 87 = .ok (.ireturn, 1) := by decide +kernel
theorem dX10_stand_88 : decode cX10_stand 88 = .ok (.ldc 69, 2) := by decide +kernel
theorem dX10_stand_90 : decode cX10_stand 90 = .ok (.ireturn, 1) := by decide +kernel
def Sp_X10_stand (av : List AV) (m : AM) (Φ : Option AV → AM → Prop) : Prop := ∃ w, av = [vr 10 0, vi w] ∧ ∃ C, CR m C ∧ Φ (some (vi (standV C w))) m
set_option maxRecDepth 20000 in
set_option maxHeartbeats 4000000 in
theorem S_X10_stand : Snd yX10_stand e_X10_stand Sp_X10_stand := by
  refine Snd.of (by decide +kernel) rfl ?_ ?_
  · rintro av m Φ ⟨w, rfl, _⟩; exact Nat.le_of_ble_eq_true rfl
  rintro av m Φ ⟨w, rfl, C, hC, h⟩ hav hty
  show B e_X10_stand Φ 0 [some (vr 10 0), some (vi w)] [] m (0, 0)
  unfold standV at h
  have st : 0 < C 0 → B e_X10_stand Φ 13 [some (vr 10 0), some (vi w)] [] m (0, 0) := by
    intro h0
    have hB := hC.op (Or.inl h0)
    have hS := hB.2.2.1
    rw [if_neg (by omega)] at h
    refine b_iloadN (pc := 13) 1 dX10_stand_13 rfl rfl ?_
    cases q : inB w 4 with
    | false =>
      rw [q] at h
      refine b_tableOut (pc := 14) 88 dX10_stand_14 ?_ (by decide) ?_
      · rcases inB_not q with z | z
        · left; exact Int32.lt_iff_toInt_lt.mp z
        · right
          have := Int32.le_iff_toInt_le.mp z
          rw [nI_toInt (by omega)] at this
          omega
      refine b_ldc (pc := 88) k450 dX10_stand_88 ?_
      refine b_iret (pc := 90) rfl dX10_stand_90 ⟨Nat.le_of_ble_eq_true rfl, Nat.le_of_ble_eq_true rfl⟩ ?_
      rotate_left -- leaf 0: return at 90
      -- leaves: 0 return at 90
      exact h
    | true =>
      rw [q, if_pos rfl] at h
      obtain ⟨j, hj, rfl⟩ := (inB_iff (by omega)).mp q
      rw [n_cl (by omega)] at h
      rcases (by omega : j = 0 ∨ j = 1 ∨ j = 2 ∨ j = 3) with rfl | rfl | rfl | rfl
      · refine b_tableIn (pc := 14) (off := 30) 44 dX10_stand_14 (by decide) (by decide) (by decide) (by decide) ?_
        refine b_aloadN (pc := 44) 0 dX10_stand_44 rfl rfl ?_
        refine gf10_2 (pc := 45) 20 rfl k417 dX10_stand_45 ?_
        refine gf2_1 (pc := 48) 26 rfl k275 dX10_stand_48 ?_
        refine gf8_1 (pc := 51) k236 dX10_stand_51 ?_
        refine b_iret (pc := 54) rfl dX10_stand_54 ⟨Nat.le_of_ble_eq_true rfl, Nat.le_of_ble_eq_true rfl⟩ ?_
        rotate_left -- leaf 0: return at 54
        -- leaves: 0 return at 54
        rw [hS.1]; exact h
      · refine b_tableIn (pc := 14) (off := 41) 55 dX10_stand_14 (by decide) (by decide) (by decide) (by decide) ?_
        refine b_aloadN (pc := 55) 0 dX10_stand_55 rfl rfl ?_
        refine gf10_2 (pc := 56) 20 rfl k417 dX10_stand_56 ?_
        refine gf2_1 (pc := 59) 26 rfl k275 dX10_stand_59 ?_
        refine gf8_2 (pc := 62) k241 dX10_stand_62 ?_
        refine b_iret (pc := 65) rfl dX10_stand_65 ⟨Nat.le_of_ble_eq_true rfl, Nat.le_of_ble_eq_true rfl⟩ ?_
        rotate_left -- leaf 0: return at 65
        -- leaves: 0 return at 65
        rw [hS.2.1]; exact h
      · refine b_tableIn (pc := 14) (off := 52) 66 dX10_stand_14 (by decide) (by decide) (by decide) (by decide) ?_
        refine b_aloadN (pc := 66) 0 dX10_stand_66 rfl rfl ?_
        refine gf10_2 (pc := 67) 20 rfl k417 dX10_stand_67 ?_
        refine gf2_1 (pc := 70) 26 rfl k275 dX10_stand_70 ?_
        refine gf8_4 (pc := 73) k247 dX10_stand_73 ?_
        refine b_iret (pc := 76) rfl dX10_stand_76 ⟨Nat.le_of_ble_eq_true rfl, Nat.le_of_ble_eq_true rfl⟩ ?_
        rotate_left -- leaf 0: return at 76
        -- leaves: 0 return at 76
        rw [hS.2.2.2.1]; exact h
      · refine b_tableIn (pc := 14) (off := 63) 77 dX10_stand_14 (by decide) (by decide) (by decide) (by decide) ?_
        refine b_aloadN (pc := 77) 0 dX10_stand_77 rfl rfl ?_
        refine gf10_2 (pc := 78) 20 rfl k417 dX10_stand_78 ?_
        refine gf2_1 (pc := 81) 26 rfl k275 dX10_stand_81 ?_
        refine gf8_3 (pc := 84) k244 dX10_stand_84 ?_
        refine b_iret (pc := 87) rfl dX10_stand_87 ⟨Nat.le_of_ble_eq_true rfl, Nat.le_of_ble_eq_true rfl⟩ ?_
        rotate_left -- leaf 0: return at 87
        -- leaves: 0 return at 87
        rw [hS.2.2.1]; exact h
  refine b_aloadN (pc := 0) 0 dX10_stand_0 rfl rfl ?_
  refine gf10_2 (pc := 1) 20 rfl k417 dX10_stand_1 ?_
  refine call_X2_isOpen (pc := 4) k720 (by decide) ⟨Nat.le_of_ble_eq_true rfl, Nat.le_of_ble_eq_true rfl⟩ (Nat.le_of_ble_eq_true rfl) dX10_stand_4 ?_
  refine ⟨rfl, _, hC.num.1, hC.le.1, ?_⟩
  refine b_if_ne (pc := 7) 13 dX10_stand_7 (by decide) (fun c7 => ?_) (fun c7 => ?_)
  rotate_left -- leaf 0: at 13
  refine b_ldc (pc := 10) k624 dX10_stand_10 ?_
  refine b_iret (pc := 12) rfl dX10_stand_12 ⟨Nat.le_of_ble_eq_true rfl, Nat.le_of_ble_eq_true rfl⟩ ?_
  rotate_left -- leaf 1: return at 12
  -- leaves: 0 at 13; 1 return at 12
  · exact st (zF c7)
  · rw [if_pos (zT c7)] at h; exact h
theorem call_X10_stand {E : ME} {Φ : Option AV → AM → Prop} {pc : Nat} {L : List (Option AV)} {st : List AV} {m : AM} {a : Nat × Nat} {idx : Nat} {x0 : AV} {i : Nat} (hl : Cond.methodLink E.2.1 idx yX10_stand ∈ TB) (hdep : 8 + 1 ≤ E.2.2.2.2.2.2) (hroom : a.1 + 0 ≤ E.2.2.2.2.1 ∧ a.2 + 0 ≤ E.2.2.2.2.2.1) (hsr : st.length ≤ 4) (hd : decode E.1 pc = .ok (.invokevirtual idx, 3)) (hsp : Sp_X10_stand [vr 10 i, x0] m (fun r m2 => B E Φ (pc + 3) L (r.toList ++ st) m2 a)) : B E Φ pc L (x0 :: vr 10 i :: st) m a := b_callV S_X10_stand [x0] (RX10, TX10, 9) rfl rfl (by decide) (Or.inl hl) k717 k718 k68 k719 (show _ ∧ _ ∧ Option.map (fun d => d.parameters.length) (parseMethodDescriptor yX10_stand.desc) = some 1 from by decide +kernel) ⟨hdep, by decide⟩ hroom hsr hd hsp
abbrev e_X10_rule : ME := (cX10_rule, (RX10, (3, ((some .int), (0, (0, 8))))))
theorem dX10_rule_0 : decode cX10_rule 0 = .ok (.aload_n 0, 1) := by decide +kernel
theorem dX10_rule_1 : decode cX10_rule 1 = .ok (.getfield 26, 3) := by decide +kernel
theorem dX10_rule_4 : decode cX10_rule 4 = .ok (.getfield 127, 3) := by decide +kernel
theorem dX10_rule_7 : decode cX10_rule 7 = .ok (.iload_n 1, 1) := by decide +kernel
theorem dX10_rule_8 : decode cX10_rule 8 = .ok (.invokevirtual 177, 3) := by decide +kernel
theorem dX10_rule_11 : decode cX10_rule 11 = .ok (.ifCond .ne 6, 3) := by decide +kernel
theorem dX10_rule_14 : decode cX10_rule 14 = .ok (.ldc 69, 2) := by decide +kernel
theorem dX10_rule_16 : decode cX10_rule 16 = .ok (.ireturn, 1) := by decide +kernel
theorem dX10_rule_17 : decode cX10_rule 17 = .ok (.iload_n 2, 1) := by decide +kernel
theorem dX10_rule_18 : decode cX10_rule 18 = .ok (.tableswitch 84 0 3 #[30, 43, 56, 69], 30) := by decide +kernel
theorem dX10_rule_48 : decode cX10_rule 48 = .ok (.aload_n 0, 1) := by decide +kernel
theorem dX10_rule_49 : decode cX10_rule 49 = .ok (.getfield 26, 3) := by decide +kernel
theorem dX10_rule_52 : decode cX10_rule 52 = .ok (.getfield 127, 3) := by decide +kernel
theorem dX10_rule_55 : decode cX10_rule 55 = .ok (.getfield 198, 3) := by decide +kernel
theorem dX10_rule_58 : decode cX10_rule 58 = .ok (.iload_n 1, 1) := by decide +kernel
theorem dX10_rule_59 : decode cX10_rule 59 = .ok (.iaload, 1) := by decide +kernel
theorem dX10_rule_60 : decode cX10_rule 60 = .ok (.ireturn, 1) := by decide +kernel
theorem dX10_rule_61 : decode cX10_rule 61 = .ok (.aload_n 0, 1) := by decide +kernel
theorem dX10_rule_62 : decode cX10_rule 62 = .ok (.getfield 26, 3) := by decide +kernel
theorem dX10_rule_65 : decode cX10_rule 65 = .ok (.getfield 127, 3) := by decide +kernel
theorem dX10_rule_68 : decode cX10_rule 68 = .ok (.getfield 202, 3) := by decide +kernel
theorem dX10_rule_71 : decode cX10_rule 71 = .ok (.iload_n 1, 1) := by decide +kernel
theorem dX10_rule_72 : decode cX10_rule 72 = .ok (.iaload, 1) := by decide +kernel
theorem dX10_rule_73 : decode cX10_rule 73 = .ok (.ireturn, 1) := by decide +kernel
theorem dX10_rule_74 : decode cX10_rule 74 = .ok (.aload_n 0, 1) := by decide +kernel
theorem dX10_rule_75 : decode cX10_rule 75 = .ok (.getfield 26, 3) := by decide +kernel
theorem dX10_rule_78 : decode cX10_rule 78 = .ok (.getfield 127, 3) := by decide +kernel
theorem dX10_rule_81 : decode cX10_rule 81 = .ok (.getfield 205, 3) := by decide +kernel
theorem dX10_rule_84 : decode cX10_rule 84 = .ok (.iload_n 1, 1) := by decide +kernel
theorem dX10_rule_85 : decode cX10_rule 85 = .ok (.iaload, 1) := by decide +kernel
theorem dX10_rule_86 : decode cX10_rule 86 = .ok (.ireturn, 1) := by decide +kernel
theorem dX10_rule_87 : decode cX10_rule 87 = .ok (.aload_n 0, 1) := by decide +kernel
theorem dX10_rule_88 : decode cX10_rule 88 = .ok (.getfield 26, 3) := by decide +kernel
theorem dX10_rule_91 : decode cX10_rule 91 = .ok (.getfield 153, 3) := by decide +kernel
theorem dX10_rule_94 : decode cX10_rule 94 = .ok (.getfield 183, 3) := by decide +kernel
theorem dX10_rule_97 : decode cX10_rule 97 = .ok (.iload_n 1, 1) := by decide +kernel
theorem dX10_rule_98 : decode cX10_rule 98 = .ok (.ishr, 1) := by decide +kernel
theorem dX10_rule_99 : decode cX10_rule 99 = .ok (.iconst 1, 1) := by decide +kernel
theorem dX10_rule_100 : decode cX10_rule 100 = .ok (.iand, 1) := by decide +kernel
theorem dX10_rule_101 : decode cX10_rule 101 = .ok (.ireturn, 1) := by decide +kernel
theorem dX10_rule_102 : decode cX10_rule 102 = .ok (.ldc 69, 2) := by decide +kernel
theorem dX10_rule_104 : decode cX10_rule 104 = .ok (.ireturn, 1) := by decide +kernel
def Sp_X10_rule (av : List AV) (m : AM) (Φ : Option AV → AM → Prop) : Prop := ∃ r w, av = [vr 10 0, vi r, vi w] ∧ ∃ C, CR m C ∧ Φ (some (vi (ruleV C r w))) m
set_option maxRecDepth 20000 in
set_option maxHeartbeats 4000000 in
theorem S_X10_rule : Snd yX10_rule e_X10_rule Sp_X10_rule := by
  refine Snd.of (by decide +kernel) rfl ?_ ?_
  · rintro av m Φ ⟨r, w, rfl, _⟩; exact Nat.le_of_ble_eq_true rfl
  rintro av m Φ ⟨r, w, rfl, C, hC, h⟩ hav hty
  show B e_X10_rule Φ 0 [some (vr 10 0), some (vi r), some (vi w)] [] m (0, 0)
  unfold ruleV at h
  have hle := hC.le
  have st : inB r (C 3) = true → B e_X10_rule Φ 17 [some (vr 10 0), some (vi r), some (vi w)] [] m (0, 0) := by
    intro hr
    rw [hr, Bool.true_and] at h
    obtain ⟨k, hk, rfl⟩ := (inB_iff (by omega)).mp hr
    rw [n_cl (by omega)] at h
    have hB := hC.op (Or.inr (Or.inl (by omega)))
    have hL := hB.2.1.2.2.2.2.1 k hk
    refine b_iloadN (pc := 17) 2 dX10_rule_17 rfl rfl ?_
    cases q : inB w 4 with
    | false =>
      rw [q] at h
      refine b_tableOut (pc := 18) 102 dX10_rule_18 ?_ (by decide) ?_
      · rcases inB_not q with z | z
        · left; exact Int32.lt_iff_toInt_lt.mp z
        · right
          have := Int32.le_iff_toInt_le.mp z
          rw [nI_toInt (by omega)] at this
          omega
      refine b_ldc (pc := 102) k450 dX10_rule_102 ?_
      refine b_iret (pc := 104) rfl dX10_rule_104 ⟨Nat.le_of_ble_eq_true rfl, Nat.le_of_ble_eq_true rfl⟩ ?_
      rotate_left -- leaf 0: return at 104
      -- leaves: 0 return at 104
      exact h
    | true =>
      rw [q, if_pos rfl] at h
      obtain ⟨j, hj, rfl⟩ := (inB_iff (by omega)).mp q
      rw [n_cl (by omega)] at h
      rcases (by omega : j = 0 ∨ j = 1 ∨ j = 2 ∨ j = 3) with rfl | rfl | rfl | rfl
      · refine b_tableIn (pc := 18) (off := 30) 48 dX10_rule_18 (by decide) (by decide) (by decide) (by decide) ?_
        refine b_aloadN (pc := 48) 0 dX10_rule_48 rfl rfl ?_
        refine gf10_2 (pc := 49) 20 rfl k417 dX10_rule_49 ?_
        refine gf2_0 (pc := 52) 21 rfl k269 dX10_rule_52 ?_
        refine gf5_0 (pc := 55) 22 rfl k129 dX10_rule_55 ?_
        refine b_iloadN (pc := 58) 1 dX10_rule_58 rfl rfl ?_
        refine b_iald (pc := 59) (by decide) ?_ dX10_rule_59 ?_
        rotate_left -- leaf 0: index at 59
        refine b_iret (pc := 60) rfl dX10_rule_60 ⟨Nat.le_of_ble_eq_true rfl, Nat.le_of_ble_eq_true rfl⟩ ?_
        rotate_left -- leaf 1: return at 60
        -- leaves: 0 index at 59; 1 return at 60
        · exact n_in (by omega) (by omega)
        · rw [n_cl (by omega), hL.1]; exact h
      · refine b_tableIn (pc := 18) (off := 43) 61 dX10_rule_18 (by decide) (by decide) (by decide) (by decide) ?_
        refine b_aloadN (pc := 61) 0 dX10_rule_61 rfl rfl ?_
        refine gf10_2 (pc := 62) 20 rfl k417 dX10_rule_62 ?_
        refine gf2_0 (pc := 65) 21 rfl k269 dX10_rule_65 ?_
        refine gf5_1 (pc := 68) 23 rfl k132 dX10_rule_68 ?_
        refine b_iloadN (pc := 71) 1 dX10_rule_71 rfl rfl ?_
        refine b_iald (pc := 72) (by decide) ?_ dX10_rule_72 ?_
        rotate_left -- leaf 0: index at 72
        refine b_iret (pc := 73) rfl dX10_rule_73 ⟨Nat.le_of_ble_eq_true rfl, Nat.le_of_ble_eq_true rfl⟩ ?_
        rotate_left -- leaf 1: return at 73
        -- leaves: 0 index at 72; 1 return at 73
        · exact n_in (by omega) (by omega)
        · rw [n_cl (by omega), hL.2.1, show 9 + 4 * k = 8 + 4 * k + 1 by omega]; exact h
      · refine b_tableIn (pc := 18) (off := 56) 74 dX10_rule_18 (by decide) (by decide) (by decide) (by decide) ?_
        refine b_aloadN (pc := 74) 0 dX10_rule_74 rfl rfl ?_
        refine gf10_2 (pc := 75) 20 rfl k417 dX10_rule_75 ?_
        refine gf2_0 (pc := 78) 21 rfl k269 dX10_rule_78 ?_
        refine gf5_2 (pc := 81) 24 rfl k135 dX10_rule_81 ?_
        refine b_iloadN (pc := 84) 1 dX10_rule_84 rfl rfl ?_
        refine b_iald (pc := 85) (by decide) ?_ dX10_rule_85 ?_
        rotate_left -- leaf 0: index at 85
        refine b_iret (pc := 86) rfl dX10_rule_86 ⟨Nat.le_of_ble_eq_true rfl, Nat.le_of_ble_eq_true rfl⟩ ?_
        rotate_left -- leaf 1: return at 86
        -- leaves: 0 index at 85; 1 return at 86
        · exact n_in (by omega) (by omega)
        · rw [n_cl (by omega), hL.2.2, show 10 + 4 * k = 8 + 4 * k + 2 by omega]; exact h
      · refine b_tableIn (pc := 18) (off := 69) 87 dX10_rule_18 (by decide) (by decide) (by decide) (by decide) ?_
        refine b_aloadN (pc := 87) 0 dX10_rule_87 rfl rfl ?_
        refine gf10_2 (pc := 88) 20 rfl k417 dX10_rule_88 ?_
        refine gf2_1 (pc := 91) 26 rfl k275 dX10_rule_91 ?_
        refine gf8_5 (pc := 94) k250 dX10_rule_94 ?_
        refine b_iloadN (pc := 97) 1 dX10_rule_97 rfl rfl ?_
        refine b_ishr (pc := 98) dX10_rule_98 ?_
        refine b_iconst (pc := 99) (nI 1) dX10_rule_99 (by decide) ?_
        refine b_iand (pc := 100) dX10_rule_100 ?_
        refine b_iret (pc := 101) rfl dX10_rule_101 ⟨Nat.le_of_ble_eq_true rfl, Nat.le_of_ble_eq_true rfl⟩ ?_
        rotate_left -- leaf 0: return at 101
        -- leaves: 0 return at 101
        rw [hB.2.2.1.2.2.2.2.1.bit (by omega)]
        have h01 := (hB.1.2.2.2.2.2.2.2.2.1 k hk).2.2.2
        have e : (if k < C 3 ∧ C (11 + 4 * k) = 1 then 1 else 0) = C (8 + 4 * k + 3) := by
          rw [show 8 + 4 * k + 3 = 11 + 4 * k by omega]
          rcases h01 with z | z
          · rw [z]; simp
          · rw [z]; simp [hk]
        rw [e]; exact h
  refine b_aloadN (pc := 0) 0 dX10_rule_0 rfl rfl ?_
  refine gf10_2 (pc := 1) 20 rfl k417 dX10_rule_1 ?_
  refine gf2_0 (pc := 4) 21 rfl k269 dX10_rule_4 ?_
  refine b_iloadN (pc := 7) 1 dX10_rule_7 rfl rfl ?_
  refine call_X5_isRule (pc := 8) k705 (by decide) ⟨Nat.le_of_ble_eq_true rfl, Nat.le_of_ble_eq_true rfl⟩ (Nat.le_of_ble_eq_true rfl) dX10_rule_8 ?_
  refine ⟨_, rfl, _, hC.num.2.2.1, ?_⟩
  refine b_if_ne (pc := 11) 17 dX10_rule_11 (by decide) (fun c11 => ?_) (fun c11 => ?_)
  rotate_left -- leaf 0: at 17
  refine b_ldc (pc := 14) k450 dX10_rule_14 ?_
  refine b_iret (pc := 16) rfl dX10_rule_16 ⟨Nat.le_of_ble_eq_true rfl, Nat.le_of_ble_eq_true rfl⟩ ?_
  rotate_left -- leaf 1: return at 16
  -- leaves: 0 at 17; 1 return at 16
  · exact st (bT c11)
  · rw [bF c11, Bool.false_and] at h; exact h
theorem call_X10_rule {E : ME} {Φ : Option AV → AM → Prop} {pc : Nat} {L : List (Option AV)} {st : List AV} {m : AM} {a : Nat × Nat} {idx : Nat} {x0 x1 : AV} {i : Nat} (hl : Cond.methodLink E.2.1 idx yX10_rule ∈ TB) (hdep : 8 + 1 ≤ E.2.2.2.2.2.2) (hroom : a.1 + 0 ≤ E.2.2.2.2.1 ∧ a.2 + 0 ≤ E.2.2.2.2.2.1) (hsr : st.length ≤ 4) (hd : decode E.1 pc = .ok (.invokevirtual idx, 3)) (hsp : Sp_X10_rule [vr 10 i, x0, x1] m (fun r m2 => B E Φ (pc + 3) L (r.toList ++ st) m2 a)) : B E Φ pc L (x1 :: x0 :: vr 10 i :: st) m a := b_callV S_X10_rule [x0, x1] (RX10, TX10, 9) rfl rfl (by decide) (Or.inl hl) k725 k726 k68 k727 (show _ ∧ _ ∧ Option.map (fun d => d.parameters.length) (parseMethodDescriptor yX10_rule.desc) = some 2 from by decide +kernel) ⟨hdep, by decide⟩ hroom hsr hd hsp
