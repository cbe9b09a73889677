/-! the class's search: fewest, leastCost -/
theorem SrI.xs {m m2 : AM} {w : Nat} {C : Nat → Nat} {bc A Bn : Nat} {lab : Nat → Option (Nat × Nat)} {far : Nat} (hA : SrA m (m.2.2.1 (m.2.1 98 1))) (h : Xs m m2) (hS : SrS C bc w A Bn lab far m2) : SrI m2 w := hS.srI (by rw [h.1]; exact hA.cg h.1)
/-- a goal's answer: r the best walk, w = 0 its cost times P, else its first saying -/
def goA (P : Nat) (r : Option (Nat × Nat)) (w : Nat) : Int32 := match r with
  | none => -1000000
  | some x => if w = 0 then nI (x.1 * P) else nI x.2
theorem goA_1 {P w : Nat} (r : Option (Nat × Nat)) (hw : w ≠ 0) : goA P r w = frN r := by
  cases r with
  | none => rfl
  | some x => exact if_neg hw
theorem goA_0 (r : Option (Nat × Nat)) : goA 1 r 0 = coN r := by
  cases r with
  | none => rfl
  | some x =>
    show nI (x.1 * 1) = nI x.1
    rw [Nat.mul_one]
def goV (C : Nat → Nat) (bc A Bn w : Nat) (r : Option (Nat × Nat)) : Int32 := if metB A Bn (C 1) = true then (if w = 0 then nI 0 else -1000000) else goA (if bc = 0 then 1 else C 2) r w
abbrev e_X7_fewest : ME := (cX7_fewest, (RX7, (6, ((some .int), (3, (12288, 7))))))
theorem dX7_fewest_0 : decode cX7_fewest 0 = .ok (.aload_n 0, 1) := by decide +kernel
theorem dX7_fewest_1 : decode cX7_fewest 1 = .ok (.aload_n 1, 1) := by decide +kernel
theorem dX7_fewest_2 : decode cX7_fewest 2 = .ok (.getfield 24, 3) := by decide +kernel
theorem dX7_fewest_5 : decode cX7_fewest 5 = .ok (.iload_n 2, 1) := by decide +kernel
theorem dX7_fewest_6 : decode cX7_fewest 6 = .ok (.iload_n 3, 1) := by decide +kernel
theorem dX7_fewest_7 : decode cX7_fewest 7 = .ok (.iconst 0, 1) := by decide +kernel
theorem dX7_fewest_8 : decode cX7_fewest 8 = .ok (.invokevirtual 30, 3) := by decide +kernel
theorem dX7_fewest_11 : decode cX7_fewest 11 = .ok (.aload_n 0, 1) := by decide +kernel
theorem dX7_fewest_12 : decode cX7_fewest 12 = .ok (.aload_n 1, 1) := by decide +kernel
theorem dX7_fewest_13 : decode cX7_fewest 13 = .ok (.getfield 34, 3) := by decide +kernel
theorem dX7_fewest_16 : decode cX7_fewest 16 = .ok (.getfield 38, 3) := by decide +kernel
theorem dX7_fewest_19 : decode cX7_fewest 19 = .ok (.invokevirtual 44, 3) := by decide +kernel
theorem dX7_fewest_22 : decode cX7_fewest 22 = .ok (.ifCond .eq 15, 3) := by decide +kernel
theorem dX7_fewest_25 : decode cX7_fewest 25 = .ok (.iload 4, 2) := by decide +kernel
theorem dX7_fewest_27 : decode cX7_fewest 27 = .ok (.ifCond .ne 7, 3) := by decide +kernel
theorem dX7_fewest_30 : decode cX7_fewest 30 = .ok (.iconst 0, 1) := by decide +kernel
theorem dX7_fewest_31 : decode cX7_fewest 31 = .ok (.goto 5, 3) := by decide +kernel
theorem dX7_fewest_34 : decode cX7_fewest 34 = .ok (.ldc 48, 2) := by decide +kernel
theorem dX7_fewest_36 : decode cX7_fewest 36 = .ok (.ireturn, 1) := by decide +kernel
theorem dX7_fewest_37 : decode cX7_fewest 37 = .ok (.aload_n 0, 1) := by decide +kernel
theorem dX7_fewest_38 : decode cX7_fewest 38 = .ok (.aload_n 1, 1) := by decide +kernel
theorem dX7_fewest_39 : decode cX7_fewest 39 = .ok (.invokevirtual 49, 3) := by decide +kernel
theorem dX7_fewest_42 : decode cX7_fewest 42 = .ok (.istore 5, 2) := by decide +kernel
theorem dX7_fewest_44 : decode cX7_fewest 44 = .ok (.iload 4, 2) := by decide +kernel
theorem dX7_fewest_46 : decode cX7_fewest 46 = .ok (.ifCond .ne 8, 3) := by decide +kernel
theorem dX7_fewest_49 : decode cX7_fewest 49 = .ok (.iload 5, 2) := by decide +kernel
theorem dX7_fewest_51 : decode cX7_fewest 51 = .ok (.goto 7, 3) := by decide +kernel
theorem dX7_fewest_54 : decode cX7_fewest 54 = .ok (.aload_n 0, 1) := by decide +kernel
theorem dX7_fewest_55 : decode cX7_fewest 55 = .ok (.getfield 53, 3) := by decide +kernel
theorem dX7_fewest_58 : decode cX7_fewest 58 = .ok (.ireturn, 1) := by decide +kernel
def Sp_X7_fewest (av : List AV) (m : AM) (Φ : Option AV → AM → Prop) : Prop := ∃ x y z, av = [vr 7 98, vr 2 20, vi x, vi y, vi z] ∧ ∃ (C : Nat → Nat) (A Bn w wk : Nat), BR m C ∧ x = nI A ∧ y = nI Bn ∧ z = nI w ∧ w ≤ 1 ∧ A < 1000 ∧ SrI m wk ∧ wk < 999999 ∧ ∀ m2 r, Xz m m2 → BR m2 C → SrI m2 (wk + 1) → (metB A Bn (C 1) = true ∨ bestW C 0 A Bn r) → Φ (some (vi (goV C 0 A Bn w r))) m2
set_option maxRecDepth 20000 in
set_option maxHeartbeats 4000000 in
theorem S_X7_fewest : Snd yX7_fewest e_X7_fewest Sp_X7_fewest := by
  refine Snd.of (by decide +kernel) rfl ?_ ?_
  · rintro av m Φ ⟨x, y, z, rfl, _⟩; exact Nat.le_of_ble_eq_true rfl
  rintro av m Φ ⟨x, y, z, rfl, C, A, Bn, w, wk, hB, rfl, rfl, rfl, hw, hA1, hI, hwk, h⟩ hav hty
  show B e_X7_fewest Φ 0 [some (vr 7 98), some (vr 2 20), some (vi (nI A)), some (vi (nI Bn)), some (vi (nI w)), none] [] m (0, 0)
  have hv := hB.1
  have no : metB A Bn (C 1) = true → ∀ m2, Xz m m2 → BR m2 C → SrI m2 (wk + 1) → Φ (some (vi (if w = 0 then nI 0 else -1000000))) m2 := by
    intro a m2 b c d
    have z := h m2 none b c d (Or.inl a)
    unfold goV at z
    rw [if_pos a] at z
    exact z
  have yes : ¬ metB A Bn (C 1) = true → ∀ m2 r, Xz m m2 → BR m2 C → SrI m2 (wk + 1) → bestW C 0 A Bn r → Φ (some (vi (goA 1 r w))) m2 := by
    intro a m2 r b c d e
    have z := h m2 r b c d (Or.inr e)
    unfold goV at z
    rw [if_neg a] at z
    exact z
  refine b_aloadN (pc := 0) 0 dX7_fewest_0 rfl rfl ?_
  refine b_aloadN (pc := 1) 1 dX7_fewest_1 rfl rfl ?_
  refine gf2_0 (pc := 2) 21 rfl k265 dX7_fewest_2 ?_
  refine b_iloadN (pc := 5) 2 dX7_fewest_5 rfl rfl ?_
  refine b_iloadN (pc := 6) 3 dX7_fewest_6 rfl rfl ?_
  refine b_iconst (pc := 7) (nI 0) dX7_fewest_7 (by decide) ?_
  refine call_X7_begin (pc := 8) k753 (by decide) ⟨Nat.le_of_ble_eq_true rfl, Nat.le_of_ble_eq_true rfl⟩ (Nat.le_of_ble_eq_true rfl) dX7_fewest_8 ?_
  refine ⟨_, _, _, rfl, C, A, Bn, 0, wk, hB, rfl, rfl, rfl, by omega, hI, hwk, fun m8 xz8 ea8 hB2 sa8 hS2 eb8 => ?_⟩
  refine b_aloadN (pc := 11) 0 dX7_fewest_11 rfl rfl ?_
  refine b_aloadN (pc := 12) 1 dX7_fewest_12 rfl rfl ?_
  refine gf2_1 (pc := 13) 26 rfl k271 dX7_fewest_13 ?_
  refine gf8_1 (pc := 16) k232 dX7_fewest_16 ?_
  refine call_X7_isMet (pc := 19) k766 (by decide) ⟨Nat.le_of_ble_eq_true rfl, Nat.le_of_ble_eq_true rfl⟩ (Nat.le_of_ble_eq_true rfl) dX7_fewest_19 ?_
  refine ⟨_, rfl, C 1, A, Bn, hB2.2.2.1.1, hv.c1, hS2.2.1.2.2.2.2.2.2.1, hS2.2.1.2.2.2.2.2.2.2, hA1, ?_⟩
  refine b_if_eq (pc := 22) 37 dX7_fewest_22 (by decide) (fun c22 => ?_) (fun c22 => ?_)
  refine b_aloadN (pc := 37) 0 dX7_fewest_37 rfl rfl ?_
  refine b_aloadN (pc := 38) 1 dX7_fewest_38 rfl rfl ?_
  refine call_X7_explore (pc := 39) k770 (by decide) ⟨Nat.le_of_ble_eq_true rfl, Nat.le_of_ble_eq_true rfl⟩ (Nat.le_of_ble_eq_true rfl) dX7_fewest_39 ?_
  refine ⟨rfl, C, 0, wk + 1, A, Bn, hB2, by omega, by omega, hA1, hS2, eb8, fun m39 lab far r xs39 hB3 hS3 hSd3 hBest f13 hLF hAll => ?_⟩
  refine siG5 (pc := 42) notL_i (by decide) dX7_fewest_42 ?_
  refine b_iloadG (pc := 44) 4 dX7_fewest_44 rfl ?_
  refine b_if_ne (pc := 46) 54 dX7_fewest_46 (by decide) (fun c46 => ?_) (fun c46 => ?_)
  refine b_aloadN (pc := 54) 0 dX7_fewest_54 rfl rfl ?_
  refine gf7_13 (pc := 55) k331 dX7_fewest_55 ?_
  refine b_iret (pc := 58) rfl dX7_fewest_58 ⟨Nat.le_of_ble_eq_true rfl, Nat.le_of_ble_eq_true rfl⟩ ?_
  rotate_left -- leaf 0: return at 58
  refine b_iloadG (pc := 49) 5 dX7_fewest_49 rfl ?_
  refine b_goto (pc := 51) 58 dX7_fewest_51 (by decide) ?_
  refine b_iret (pc := 58) rfl dX7_fewest_58 ⟨Nat.le_of_ble_eq_true rfl, Nat.le_of_ble_eq_true rfl⟩ ?_
  rotate_left -- leaf 1: return at 58
  refine b_iloadG (pc := 25) 4 dX7_fewest_25 rfl ?_
  refine b_if_ne (pc := 27) 34 dX7_fewest_27 (by decide) (fun c27 => ?_) (fun c27 => ?_)
  refine b_ldc (pc := 34) k765 dX7_fewest_34 ?_
  refine b_iret (pc := 36) rfl dX7_fewest_36 ⟨Nat.le_of_ble_eq_true rfl, Nat.le_of_ble_eq_true rfl⟩ ?_
  rotate_left -- leaf 2: return at 36
  refine b_iconst (pc := 30) (nI 0) dX7_fewest_30 (by decide) ?_
  refine b_goto (pc := 31) 36 dX7_fewest_31 (by decide) ?_
  refine b_iret (pc := 36) rfl dX7_fewest_36 ⟨Nat.le_of_ble_eq_true rfl, Nat.le_of_ble_eq_true rfl⟩ ?_
  rotate_left -- leaf 3: return at 36
  -- leaves: 0 return at 58; 1 return at 58; 2 return at 36; 3 return at 36
  · have nm : ¬ metB A Bn (C 1) = true := fun z => by
      rw [if_pos z] at c22
      exact absurd c22 (by decide)
    have y := yes nm m39 r (xz8.tr (Xz.xs hS2.1 xs39)) hB3 (SrI.xs sa8 xs39 hS3) hBest
    rw [goA_1 r (fun z => c46 (by rw [z]; rfl)), ← f13] at y
    exact y
  · have nm : ¬ metB A Bn (C 1) = true := fun z => by
      rw [if_pos z] at c22
      exact absurd c22 (by decide)
    have y := yes nm m39 r (xz8.tr (Xz.xs hS2.1 xs39)) hB3 (SrI.xs sa8 xs39 hS3) hBest
    rw [n_eq0 (by omega)] at c46
    rw [c46, goA_0] at y
    exact y
  · have nm : metB A Bn (C 1) = true := by
      cases z : metB A Bn (C 1)
      · rw [z] at c22
        exact absurd rfl c22
      · rfl
    have y := no nm m8 xz8 hB2 (hS2.srI sa8)
    rw [if_neg (fun z => c27 (by rw [z]; rfl))] at y
    exact y
  · have nm : metB A Bn (C 1) = true := by
      cases z : metB A Bn (C 1)
      · rw [z] at c22
        exact absurd rfl c22
      · rfl
    have y := no nm m8 xz8 hB2 (hS2.srI sa8)
    rw [n_eq0 (by omega)] at c27
    rw [if_pos c27] at y
    exact y
theorem call_X7_fewest {E : ME} {Φ : Option AV → AM → Prop} {pc : Nat} {L : List (Option AV)} {st : List AV} {m : AM} {a : Nat × Nat} {idx : Nat} {x0 x1 x2 x3 : AV} {i : Nat} (hl : Cond.methodLink E.2.1 idx yX7_fewest ∈ TB) (hdep : 7 + 1 ≤ E.2.2.2.2.2.2) (hroom : a.1 + 3 ≤ E.2.2.2.2.1 ∧ a.2 + 12288 ≤ E.2.2.2.2.2.1) (hsr : st.length ≤ 4) (hd : decode E.1 pc = .ok (.invokevirtual idx, 3)) (hsp : Sp_X7_fewest [vr 7 i, x0, x1, x2, x3] m (fun r m2 => B E Φ (pc + 3) L (r.toList ++ st) m2 (a.1 + 3, a.2 + 12288))) : B E Φ pc L (x3 :: x2 :: x1 :: x0 :: vr 7 i :: st) m a := b_callV S_X7_fewest [x0, x1, x2, x3] (RX7, TX7, 14) rfl rfl (by decide) (Or.inl hl) k750 k751 k76 k752 (show _ ∧ _ ∧ Option.map (fun d => d.parameters.length) (parseMethodDescriptor yX7_fewest.desc) = some 4 from by decide +kernel) ⟨hdep, by decide⟩ hroom hsr hd hsp
abbrev e_X7_leastCost : ME := (cX7_leastCost, (RX7, (6, ((some .int), (3, (12288, 7))))))
theorem dX7_leastCost_0 : decode cX7_leastCost 0 = .ok (.aload_n 0, 1) := by decide +kernel
theorem dX7_leastCost_1 : decode cX7_leastCost 1 = .ok (.aload_n 1, 1) := by decide +kernel
theorem dX7_leastCost_2 : decode cX7_leastCost 2 = .ok (.getfield 24, 3) := by decide +kernel
theorem dX7_leastCost_5 : decode cX7_leastCost 5 = .ok (.iload_n 2, 1) := by decide +kernel
theorem dX7_leastCost_6 : decode cX7_leastCost 6 = .ok (.iload_n 3, 1) := by decide +kernel
theorem dX7_leastCost_7 : decode cX7_leastCost 7 = .ok (.iconst 1, 1) := by decide +kernel
theorem dX7_leastCost_8 : decode cX7_leastCost 8 = .ok (.invokevirtual 30, 3) := by decide +kernel
theorem dX7_leastCost_11 : decode cX7_leastCost 11 = .ok (.aload_n 0, 1) := by decide +kernel
theorem dX7_leastCost_12 : decode cX7_leastCost 12 = .ok (.aload_n 1, 1) := by decide +kernel
theorem dX7_leastCost_13 : decode cX7_leastCost 13 = .ok (.getfield 34, 3) := by decide +kernel
theorem dX7_leastCost_16 : decode cX7_leastCost 16 = .ok (.getfield 38, 3) := by decide +kernel
theorem dX7_leastCost_19 : decode cX7_leastCost 19 = .ok (.invokevirtual 44, 3) := by decide +kernel
theorem dX7_leastCost_22 : decode cX7_leastCost 22 = .ok (.ifCond .eq 15, 3) := by decide +kernel
theorem dX7_leastCost_25 : decode cX7_leastCost 25 = .ok (.iload 4, 2) := by decide +kernel
theorem dX7_leastCost_27 : decode cX7_leastCost 27 = .ok (.ifCond .ne 7, 3) := by decide +kernel
theorem dX7_leastCost_30 : decode cX7_leastCost 30 = .ok (.iconst 0, 1) := by decide +kernel
theorem dX7_leastCost_31 : decode cX7_leastCost 31 = .ok (.goto 5, 3) := by decide +kernel
theorem dX7_leastCost_34 : decode cX7_leastCost 34 = .ok (.ldc 48, 2) := by decide +kernel
theorem dX7_leastCost_36 : decode cX7_leastCost 36 = .ok (.ireturn, 1) := by decide +kernel
theorem dX7_leastCost_37 : decode cX7_leastCost 37 = .ok (.aload_n 0, 1) := by decide +kernel
theorem dX7_leastCost_38 : decode cX7_leastCost 38 = .ok (.aload_n 1, 1) := by decide +kernel
theorem dX7_leastCost_39 : decode cX7_leastCost 39 = .ok (.invokevirtual 49, 3) := by decide +kernel
theorem dX7_leastCost_42 : decode cX7_leastCost 42 = .ok (.istore 5, 2) := by decide +kernel
theorem dX7_leastCost_44 : decode cX7_leastCost 44 = .ok (.iload 5, 2) := by decide +kernel
theorem dX7_leastCost_46 : decode cX7_leastCost 46 = .ok (.ldc 48, 2) := by decide +kernel
theorem dX7_leastCost_48 : decode cX7_leastCost 48 = .ok (.if_icmp .ne 6, 3) := by decide +kernel
theorem dX7_leastCost_51 : decode cX7_leastCost 51 = .ok (.ldc 48, 2) := by decide +kernel
theorem dX7_leastCost_53 : decode cX7_leastCost 53 = .ok (.ireturn, 1) := by decide +kernel
theorem dX7_leastCost_54 : decode cX7_leastCost 54 = .ok (.iload 4, 2) := by decide +kernel
theorem dX7_leastCost_56 : decode cX7_leastCost 56 = .ok (.ifCond .ne 16, 3) := by decide +kernel
theorem dX7_leastCost_59 : decode cX7_leastCost 59 = .ok (.iload 5, 2) := by decide +kernel
theorem dX7_leastCost_61 : decode cX7_leastCost 61 = .ok (.aload_n 1, 1) := by decide +kernel
theorem dX7_leastCost_62 : decode cX7_leastCost 62 = .ok (.getfield 24, 3) := by decide +kernel
theorem dX7_leastCost_65 : decode cX7_leastCost 65 = .ok (.getfield 56, 3) := by decide +kernel
theorem dX7_leastCost_68 : decode cX7_leastCost 68 = .ok (.imul, 1) := by decide +kernel
theorem dX7_leastCost_69 : decode cX7_leastCost 69 = .ok (.goto 7, 3) := by decide +kernel
theorem dX7_leastCost_72 : decode cX7_leastCost 72 = .ok (.aload_n 0, 1) := by decide +kernel
theorem dX7_leastCost_73 : decode cX7_leastCost 73 = .ok (.getfield 53, 3) := by decide +kernel
theorem dX7_leastCost_76 : decode cX7_leastCost 76 = .ok (.ireturn, 1) := by decide +kernel
def Sp_X7_leastCost (av : List AV) (m : AM) (Φ : Option AV → AM → Prop) : Prop := ∃ x y z, av = [vr 7 98, vr 2 20, vi x, vi y, vi z] ∧ ∃ (C : Nat → Nat) (A Bn w wk : Nat), BR m C ∧ x = nI A ∧ y = nI Bn ∧ z = nI w ∧ w ≤ 1 ∧ A < 1000 ∧ SrI m wk ∧ wk < 999999 ∧ ∀ m2 r, Xz m m2 → BR m2 C → SrI m2 (wk + 1) → (metB A Bn (C 1) = true ∨ bestW C 1 A Bn r) → Φ (some (vi (goV C 1 A Bn w r))) m2
set_option maxRecDepth 20000 in
set_option maxHeartbeats 4000000 in
theorem S_X7_leastCost : Snd yX7_leastCost e_X7_leastCost Sp_X7_leastCost := by
  refine Snd.of (by decide +kernel) rfl ?_ ?_
  · rintro av m Φ ⟨x, y, z, rfl, _⟩; exact Nat.le_of_ble_eq_true rfl
  rintro av m Φ ⟨x, y, z, rfl, C, A, Bn, w, wk, hB, rfl, rfl, rfl, hw, hA1, hI, hwk, h⟩ hav hty
  show B e_X7_leastCost Φ 0 [some (vr 7 98), some (vr 2 20), some (vi (nI A)), some (vi (nI Bn)), some (vi (nI w)), none] [] m (0, 0)
  have hv := hB.1
  have no : metB A Bn (C 1) = true → ∀ m2, Xz m m2 → BR m2 C → SrI m2 (wk + 1) → Φ (some (vi (if w = 0 then nI 0 else -1000000))) m2 := by
    intro a m2 b c d
    have z := h m2 none b c d (Or.inl a)
    unfold goV at z
    rw [if_pos a] at z
    exact z
  have yes : ¬ metB A Bn (C 1) = true → ∀ m2 r, Xz m m2 → BR m2 C → SrI m2 (wk + 1) → bestW C 1 A Bn r → Φ (some (vi (goA (C 2) r w))) m2 := by
    intro a m2 r b c d e
    have z := h m2 r b c d (Or.inr e)
    unfold goV at z
    rw [if_neg a] at z
    exact z
  refine b_aloadN (pc := 0) 0 dX7_leastCost_0 rfl rfl ?_
  refine b_aloadN (pc := 1) 1 dX7_leastCost_1 rfl rfl ?_
  refine gf2_0 (pc := 2) 21 rfl k265 dX7_leastCost_2 ?_
  refine b_iloadN (pc := 5) 2 dX7_leastCost_5 rfl rfl ?_
  refine b_iloadN (pc := 6) 3 dX7_leastCost_6 rfl rfl ?_
  refine b_iconst (pc := 7) (nI 1) dX7_leastCost_7 (by decide) ?_
  refine call_X7_begin (pc := 8) k753 (by decide) ⟨Nat.le_of_ble_eq_true rfl, Nat.le_of_ble_eq_true rfl⟩ (Nat.le_of_ble_eq_true rfl) dX7_leastCost_8 ?_
  refine ⟨_, _, _, rfl, C, A, Bn, 1, wk, hB, rfl, rfl, rfl, by omega, hI, hwk, fun m8 xz8 ea8 hB2 sa8 hS2 eb8 => ?_⟩
  refine b_aloadN (pc := 11) 0 dX7_leastCost_11 rfl rfl ?_
  refine b_aloadN (pc := 12) 1 dX7_leastCost_12 rfl rfl ?_
  refine gf2_1 (pc := 13) 26 rfl k271 dX7_leastCost_13 ?_
  refine gf8_1 (pc := 16) k232 dX7_leastCost_16 ?_
  refine call_X7_isMet (pc := 19) k766 (by decide) ⟨Nat.le_of_ble_eq_true rfl, Nat.le_of_ble_eq_true rfl⟩ (Nat.le_of_ble_eq_true rfl) dX7_leastCost_19 ?_
  refine ⟨_, rfl, C 1, A, Bn, hB2.2.2.1.1, hv.c1, hS2.2.1.2.2.2.2.2.2.1, hS2.2.1.2.2.2.2.2.2.2, hA1, ?_⟩
  refine b_if_eq (pc := 22) 37 dX7_leastCost_22 (by decide) (fun c22 => ?_) (fun c22 => ?_)
  refine b_aloadN (pc := 37) 0 dX7_leastCost_37 rfl rfl ?_
  refine b_aloadN (pc := 38) 1 dX7_leastCost_38 rfl rfl ?_
  refine call_X7_explore (pc := 39) k770 (by decide) ⟨Nat.le_of_ble_eq_true rfl, Nat.le_of_ble_eq_true rfl⟩ (Nat.le_of_ble_eq_true rfl) dX7_leastCost_39 ?_
  refine ⟨rfl, C, 1, wk + 1, A, Bn, hB2, by omega, by omega, hA1, hS2, eb8, fun m39 lab far r xs39 hB3 hS3 hSd3 hBest f13 hLF hAll => ?_⟩
  refine siG5 (pc := 42) notL_i (by decide) dX7_leastCost_42 ?_
  refine b_iloadG (pc := 44) 5 dX7_leastCost_44 rfl ?_
  refine b_ldc (pc := 46) k765 dX7_leastCost_46 ?_
  refine b_icmp_ne (pc := 48) 54 dX7_leastCost_48 (by decide) (fun c48 => ?_) (fun c48 => ?_)
  refine b_iloadG (pc := 54) 4 dX7_leastCost_54 rfl ?_
  refine b_if_ne (pc := 56) 72 dX7_leastCost_56 (by decide) (fun c56 => ?_) (fun c56 => ?_)
  refine b_aloadN (pc := 72) 0 dX7_leastCost_72 rfl rfl ?_
  refine gf7_13 (pc := 73) k331 dX7_leastCost_73 ?_
  refine b_iret (pc := 76) rfl dX7_leastCost_76 ⟨Nat.le_of_ble_eq_true rfl, Nat.le_of_ble_eq_true rfl⟩ ?_
  rotate_left -- leaf 0: return at 76
  refine b_iloadG (pc := 59) 5 dX7_leastCost_59 rfl ?_
  refine b_aloadN (pc := 61) 1 dX7_leastCost_61 rfl rfl ?_
  refine gf2_0 (pc := 62) 21 rfl k265 dX7_leastCost_62 ?_
  refine gf5_6 (pc := 65) k152 dX7_leastCost_65 ?_
  refine b_imul (pc := 68) dX7_leastCost_68 ?_
  refine b_goto (pc := 69) 76 dX7_leastCost_69 (by decide) ?_
  refine b_iret (pc := 76) rfl dX7_leastCost_76 ⟨Nat.le_of_ble_eq_true rfl, Nat.le_of_ble_eq_true rfl⟩ ?_
  rotate_left -- leaf 1: return at 76
  refine b_ldc (pc := 51) k765 dX7_leastCost_51 ?_
  refine b_iret (pc := 53) rfl dX7_leastCost_53 ⟨Nat.le_of_ble_eq_true rfl, Nat.le_of_ble_eq_true rfl⟩ ?_
  rotate_left -- leaf 2: return at 53
  refine b_iloadG (pc := 25) 4 dX7_leastCost_25 rfl ?_
  refine b_if_ne (pc := 27) 34 dX7_leastCost_27 (by decide) (fun c27 => ?_) (fun c27 => ?_)
  refine b_ldc (pc := 34) k765 dX7_leastCost_34 ?_
  refine b_iret (pc := 36) rfl dX7_leastCost_36 ⟨Nat.le_of_ble_eq_true rfl, Nat.le_of_ble_eq_true rfl⟩ ?_
  rotate_left -- leaf 3: return at 36
  refine b_iconst (pc := 30) (nI 0) dX7_leastCost_30 (by decide) ?_
  refine b_goto (pc := 31) 36 dX7_leastCost_31 (by decide) ?_
  refine b_iret (pc := 36) rfl dX7_leastCost_36 ⟨Nat.le_of_ble_eq_true rfl, Nat.le_of_ble_eq_true rfl⟩ ?_
  rotate_left -- leaf 4: return at 36
  -- leaves: 0 return at 76; 1 return at 76; 2 return at 53; 3 return at 36; 4 return at 36
  · have nm : ¬ metB A Bn (C 1) = true := fun z => by
      rw [if_pos z] at c22
      exact absurd c22 (by decide)
    have y := yes nm m39 r (xz8.tr (Xz.xs hS2.1 xs39)) hB3 (SrI.xs sa8 xs39 hS3) hBest
    rw [goA_1 r (fun z => c56 (by rw [z]; rfl)), ← f13] at y
    exact y
  · have nm : ¬ metB A Bn (C 1) = true := fun z => by
      rw [if_pos z] at c22
      exact absurd c22 (by decide)
    have y := yes nm m39 r (xz8.tr (Xz.xs hS2.1 xs39)) hB3 (SrI.xs sa8 xs39 hS3) hBest
    rw [n_eq0 (by omega)] at c56
    rw [c56] at y
    rw [hB3.2.1.2.1]
    cases r with
    | none => exact absurd rfl c48
    | some x =>
      rw [show coN (some x) = nI x.1 from rfl, n_mul]
      exact y
  · have nm : ¬ metB A Bn (C 1) = true := fun z => by
      rw [if_pos z] at c22
      exact absurd c22 (by decide)
    have y := yes nm m39 r (xz8.tr (Xz.xs hS2.1 xs39)) hB3 (SrI.xs sa8 xs39 hS3) hBest
    cases r with
    | none => exact y
    | some x => exact absurd c48 (n_ne_none (by have := (hLF x rfl).1; omega))
  · have nm : metB A Bn (C 1) = true := by
      cases z : metB A Bn (C 1)
      · rw [z] at c22
        exact absurd rfl c22
      · rfl
    have y := no nm m8 xz8 hB2 (hS2.srI sa8)
    rw [if_neg (fun z => c27 (by rw [z]; rfl))] at y
    exact y
  · have nm : metB A Bn (C 1) = true := by
      cases z : metB A Bn (C 1)
      · rw [z] at c22
        exact absurd rfl c22
      · rfl
    have y := no nm m8 xz8 hB2 (hS2.srI sa8)
    rw [n_eq0 (by omega)] at c27
    rw [if_pos c27] at y
    exact y
theorem call_X7_leastCost {E : ME} {Φ : Option AV → AM → Prop} {pc : Nat} {L : List (Option AV)} {st : List AV} {m : AM} {a : Nat × Nat} {idx : Nat} {x0 x1 x2 x3 : AV} {i : Nat} (hl : Cond.methodLink E.2.1 idx yX7_leastCost ∈ TB) (hdep : 7 + 1 ≤ E.2.2.2.2.2.2) (hroom : a.1 + 3 ≤ E.2.2.2.2.1 ∧ a.2 + 12288 ≤ E.2.2.2.2.2.1) (hsr : st.length ≤ 4) (hd : decode E.1 pc = .ok (.invokevirtual idx, 3)) (hsp : Sp_X7_leastCost [vr 7 i, x0, x1, x2, x3] m (fun r m2 => B E Φ (pc + 3) L (r.toList ++ st) m2 (a.1 + 3, a.2 + 12288))) : B E Φ pc L (x3 :: x2 :: x1 :: x0 :: vr 7 i :: st) m a := b_callV S_X7_leastCost [x0, x1, x2, x3] (RX7, TX7, 14) rfl rfl (by decide) (Or.inl hl) k805 k806 k76 k807 (show _ ∧ _ ∧ Option.map (fun d => d.parameters.length) (parseMethodDescriptor yX7_leastCost.desc) = some 4 from by decide +kernel) ⟨hdep, by decide⟩ hroom hsr hd hsp
