/-! ever of the class -/
abbrev e_X10_ever : ME := (cX10_ever, (RX10, (2, ((some .int), (3, (12288, 8))))))
theorem dX10_ever_0 : decode cX10_ever 0 = .ok (.aload_n 0, 1) := by decide +kernel
theorem dX10_ever_1 : decode cX10_ever 1 = .ok (.getfield 26, 3) := by decide +kernel
theorem dX10_ever_4 : decode cX10_ever 4 = .ok (.invokevirtual 189, 3) := by decide +kernel
theorem dX10_ever_7 : decode cX10_ever 7 = .ok (.ifCond .ne 6, 3) := by decide +kernel
theorem dX10_ever_10 : decode cX10_ever 10 = .ok (.ldc 142, 2) := by decide +kernel
theorem dX10_ever_12 : decode cX10_ever 12 = .ok (.ireturn, 1) := by decide +kernel
theorem dX10_ever_13 : decode cX10_ever 13 = .ok (.iload_n 1, 1) := by decide +kernel
theorem dX10_ever_14 : decode cX10_ever 14 = .ok (.invokestatic 180, 3) := by decide +kernel
theorem dX10_ever_17 : decode cX10_ever 17 = .ok (.ifCond .eq 8, 3) := by decide +kernel
theorem dX10_ever_20 : decode cX10_ever 20 = .ok (.ldc 69, 2) := by decide +kernel
theorem dX10_ever_22 : decode cX10_ever 22 = .ok (.goto 15, 3) := by decide +kernel
theorem dX10_ever_25 : decode cX10_ever 25 = .ok (.aload_n 0, 1) := by decide +kernel
theorem dX10_ever_26 : decode cX10_ever 26 = .ok (.getfield 46, 3) := by decide +kernel
theorem dX10_ever_29 : decode cX10_ever 29 = .ok (.aload_n 0, 1) := by decide +kernel
theorem dX10_ever_30 : decode cX10_ever 30 = .ok (.getfield 26, 3) := by decide +kernel
theorem dX10_ever_33 : decode cX10_ever 33 = .ok (.iload_n 1, 1) := by decide +kernel
theorem dX10_ever_34 : decode cX10_ever 34 = .ok (.invokevirtual 247, 3) := by decide +kernel
theorem dX10_ever_37 : decode cX10_ever 37 = .ok (.ireturn, 1) := by decide +kernel
def Sp_X10_ever (av : List AV) (m : AM) (Φ : Option AV → AM → Prop) : Prop := ∃ x, av = [vr 10 0, vi x] ∧ ∃ C wk, CR m C ∧ SrI m wk ∧ wk < 999999 ∧ (C 0 = 0 → Φ (some (vi (-1000002))) m) ∧ (0 < C 0 → inB x 2 = false → Φ (some (vi (-1000001))) m) ∧ ∀ w, x = nI w → w < 2 → 0 < C 0 → ∀ m2 rs, Xz m m2 → BR m2 C → SrI m2 (wk + 1) → (∀ so, so < 64 → (rs so = true ↔ RchP C so)) → Φ (some (vi (if w = 0 then nI (orS rs 64) else nI (cntS rs 64)))) m2
set_option maxRecDepth 20000 in
set_option maxHeartbeats 4000000 in
theorem S_X10_ever : Snd yX10_ever e_X10_ever Sp_X10_ever := by
  refine Snd.of (by decide +kernel) rfl ?_ ?_
  · rintro av m Φ ⟨x, rfl, _⟩; exact Nat.le_of_ble_eq_true rfl
  rintro av m Φ ⟨x, rfl, C, wk, hC, hI, hwk, h1, h2, h3⟩ hav hty
  show B e_X10_ever Φ 0 [some (vr 10 0), some (vi x)] [] m (0, 0)
  have noz : ∀ {b : Bool}, nI (if b = true then 0 else 1) = 0 → b = true := fun {b} q => by
    cases b
    · exact absurd q (by decide)
    · rfl
  have yez : ∀ {b : Bool}, ¬ nI (if b = true then 0 else 1) = 0 → b = false := fun {b} q => by
    cases b
    · rfl
    · exact absurd rfl q
  by_cases hx : inB x 2 = true
  · obtain ⟨w, hw, rfl⟩ := (inB_iff (by omega)).mp hx
    by_cases h0 : C 0 = 0
    · skip
      refine b_aloadN (pc := 0) 0 dX10_ever_0 rfl rfl ?_
      refine gf10_2 (pc := 1) 20 rfl k417 dX10_ever_1 ?_
      refine call_X2_isOpen (pc := 4) k720 (by decide) ⟨Nat.le_of_ble_eq_true rfl, Nat.le_of_ble_eq_true rfl⟩ (Nat.le_of_ble_eq_true rfl) dX10_ever_4 ?_
      refine ⟨rfl, _, hC.num.1, hC.le.1, ?_⟩
      refine b_if_ne (pc := 7) 13 dX10_ever_7 (by decide) (fun c7 => ?_) (fun c7 => ?_)
      refine b_iloadN (pc := 13) 1 dX10_ever_13 rfl rfl ?_
      refine call_X10_isNoBit (pc := 14) k709 (by decide) ⟨Nat.le_of_ble_eq_true rfl, Nat.le_of_ble_eq_true rfl⟩ (Nat.le_of_ble_eq_true rfl) dX10_ever_14 ?_
      refine ⟨_, rfl, ?_⟩
      refine b_if_eq (pc := 17) 25 dX10_ever_17 (by decide) (fun c17 => ?_) (fun c17 => ?_)
      rotate_left -- leaf 0: at 25
      refine b_ldc (pc := 20) k450 dX10_ever_20 ?_
      refine b_goto (pc := 22) 37 dX10_ever_22 (by decide) ?_
      refine b_iret (pc := 37) rfl dX10_ever_37 ⟨Nat.le_of_ble_eq_true rfl, Nat.le_of_ble_eq_true rfl⟩ ?_
      rotate_left -- leaf 1: return at 37
      refine b_ldc (pc := 10) k624 dX10_ever_10 ?_
      refine b_iret (pc := 12) rfl dX10_ever_12 ⟨Nat.le_of_ble_eq_true rfl, Nat.le_of_ble_eq_true rfl⟩ ?_
      rotate_left -- leaf 2: return at 12
      -- leaves: 0 at 25; 1 return at 37; 2 return at 12
      · exact absurd c7 (fun z => by have := zF z; omega)
      · exact absurd c7 (fun z => by have := zF z; omega)
      · exact h1 h0
    · have hB := hC.op (Or.inl (by omega))
      have h3 := h3 w rfl hw (by omega)
      refine b_aloadN (pc := 0) 0 dX10_ever_0 rfl rfl ?_
      refine gf10_2 (pc := 1) 20 rfl k417 dX10_ever_1 ?_
      refine call_X2_isOpen (pc := 4) k720 (by decide) ⟨Nat.le_of_ble_eq_true rfl, Nat.le_of_ble_eq_true rfl⟩ (Nat.le_of_ble_eq_true rfl) dX10_ever_4 ?_
      refine ⟨rfl, _, hC.num.1, hC.le.1, ?_⟩
      refine b_if_ne (pc := 7) 13 dX10_ever_7 (by decide) (fun c7 => ?_) (fun c7 => ?_)
      refine b_iloadN (pc := 13) 1 dX10_ever_13 rfl rfl ?_
      refine call_X10_isNoBit (pc := 14) k709 (by decide) ⟨Nat.le_of_ble_eq_true rfl, Nat.le_of_ble_eq_true rfl⟩ (Nat.le_of_ble_eq_true rfl) dX10_ever_14 ?_
      refine ⟨_, rfl, ?_⟩
      refine b_if_eq (pc := 17) 25 dX10_ever_17 (by decide) (fun c17 => ?_) (fun c17 => ?_)
      refine b_aloadN (pc := 25) 0 dX10_ever_25 rfl rfl ?_
      refine gf10_5 (pc := 26) 98 rfl k420 dX10_ever_26 ?_
      refine b_aloadN (pc := 29) 0 dX10_ever_29 rfl rfl ?_
      refine gf10_2 (pc := 30) 20 rfl k417 dX10_ever_30 ?_
      refine b_iloadN (pc := 33) 1 dX10_ever_33 rfl rfl ?_
      refine call_X7_reachable (pc := 34) k848 (by decide) ⟨Nat.le_of_ble_eq_true rfl, Nat.le_of_ble_eq_true rfl⟩ (Nat.le_of_ble_eq_true rfl) dX10_ever_34 ?_
      refine ⟨_, rfl, C, w, wk, hB, rfl, by omega, hI, hwk, fun m34 rs xz34 hB2 hI2 hrs => ?_⟩
      refine b_iret (pc := 37) rfl dX10_ever_37 ⟨Nat.le_of_ble_eq_true rfl, Nat.le_of_ble_eq_true rfl⟩ ?_
      rotate_left -- leaf 0: return at 37
      refine b_ldc (pc := 20) k450 dX10_ever_20 ?_
      refine b_goto (pc := 22) 37 dX10_ever_22 (by decide) ?_
      refine b_iret (pc := 37) rfl dX10_ever_37 ⟨Nat.le_of_ble_eq_true rfl, Nat.le_of_ble_eq_true rfl⟩ ?_
      rotate_left -- leaf 1: return at 37
      refine b_ldc (pc := 10) k624 dX10_ever_10 ?_
      refine b_iret (pc := 12) rfl dX10_ever_12 ⟨Nat.le_of_ble_eq_true rfl, Nat.le_of_ble_eq_true rfl⟩ ?_
      rotate_left -- leaf 2: return at 12
      -- leaves: 0 return at 37; 1 return at 37; 2 return at 12
      · exact h3 m34 rs xz34 hB2 hI2 hrs
      · exact absurd hx (by rw [yez c17]; decide)
      · have := zT c7; omega
  · have hx : inB x 2 = false := by
      cases z : inB x 2
      · rfl
      · exact absurd z hx
    refine b_aloadN (pc := 0) 0 dX10_ever_0 rfl rfl ?_
    refine gf10_2 (pc := 1) 20 rfl k417 dX10_ever_1 ?_
    refine call_X2_isOpen (pc := 4) k720 (by decide) ⟨Nat.le_of_ble_eq_true rfl, Nat.le_of_ble_eq_true rfl⟩ (Nat.le_of_ble_eq_true rfl) dX10_ever_4 ?_
    refine ⟨rfl, _, hC.num.1, hC.le.1, ?_⟩
    refine b_if_ne (pc := 7) 13 dX10_ever_7 (by decide) (fun c7 => ?_) (fun c7 => ?_)
    refine b_iloadN (pc := 13) 1 dX10_ever_13 rfl rfl ?_
    refine call_X10_isNoBit (pc := 14) k709 (by decide) ⟨Nat.le_of_ble_eq_true rfl, Nat.le_of_ble_eq_true rfl⟩ (Nat.le_of_ble_eq_true rfl) dX10_ever_14 ?_
    refine ⟨_, rfl, ?_⟩
    refine b_if_eq (pc := 17) 25 dX10_ever_17 (by decide) (fun c17 => ?_) (fun c17 => ?_)
    rotate_left -- leaf 0: at 25
    refine b_ldc (pc := 20) k450 dX10_ever_20 ?_
    refine b_goto (pc := 22) 37 dX10_ever_22 (by decide) ?_
    refine b_iret (pc := 37) rfl dX10_ever_37 ⟨Nat.le_of_ble_eq_true rfl, Nat.le_of_ble_eq_true rfl⟩ ?_
    rotate_left -- leaf 1: return at 37
    refine b_ldc (pc := 10) k624 dX10_ever_10 ?_
    refine b_iret (pc := 12) rfl dX10_ever_12 ⟨Nat.le_of_ble_eq_true rfl, Nat.le_of_ble_eq_true rfl⟩ ?_
    rotate_left -- leaf 2: return at 12
    -- leaves: 0 at 25; 1 return at 37; 2 return at 12
    · rw [hx] at c17
      exact absurd c17 (by decide)
    · exact h2 (zF c7) hx
    · exact h1 (zT c7)
theorem call_X10_ever {E : ME} {Φ : Option AV → AM → Prop} {pc : Nat} {L : List (Option AV)} {st : List AV} {m : AM} {a : Nat × Nat} {idx : Nat} {x0 : AV} {i : Nat} (hl : Cond.methodLink E.2.1 idx yX10_ever ∈ TB) (hdep : 8 + 1 ≤ E.2.2.2.2.2.2) (hroom : a.1 + 3 ≤ E.2.2.2.2.1 ∧ a.2 + 12288 ≤ E.2.2.2.2.2.1) (hsr : st.length ≤ 4) (hd : decode E.1 pc = .ok (.invokevirtual idx, 3)) (hsp : Sp_X10_ever [vr 10 i, x0] m (fun r m2 => B E Φ (pc + 3) L (r.toList ++ st) m2 (a.1 + 3, a.2 + 12288))) : B E Φ pc L (x0 :: vr 10 i :: st) m a := b_callV S_X10_ever [x0] (RX10, TX10, 9) rfl rfl (by decide) (Or.inl hl) k845 k846 k68 k847 (show _ ∧ _ ∧ Option.map (fun d => d.parameters.length) (parseMethodDescriptor yX10_ever.desc) = some 1 from by decide +kernel) ⟨hdep, by decide⟩ hroom hsr hd hsp
