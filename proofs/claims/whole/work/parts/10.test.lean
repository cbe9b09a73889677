/-! the first methods -/
abbrev e_X5_isPerson : ME := (cX5_isPerson, (RX5, (2, ((some .boolean), (0, (0, 1))))))
theorem dX5_isPerson_0 : decode cX5_isPerson 0 = .ok (.iload_n 1, 1) := by decide +kernel
theorem dX5_isPerson_1 : decode cX5_isPerson 1 = .ok (.ifCond .lt 15, 3) := by decide +kernel
theorem dX5_isPerson_4 : decode cX5_isPerson 4 = .ok (.iload_n 1, 1) := by decide +kernel
theorem dX5_isPerson_5 : decode cX5_isPerson 5 = .ok (.aload_n 0, 1) := by decide +kernel
theorem dX5_isPerson_6 : decode cX5_isPerson 6 = .ok (.getfield 37, 3) := by decide +kernel
theorem dX5_isPerson_9 : decode cX5_isPerson 9 = .ok (.if_icmp .ge 7, 3) := by decide +kernel
theorem dX5_isPerson_12 : decode cX5_isPerson 12 = .ok (.iconst 1, 1) := by decide +kernel
theorem dX5_isPerson_13 : decode cX5_isPerson 13 = .ok (.goto 4, 3) := by decide +kernel
theorem dX5_isPerson_16 : decode cX5_isPerson 16 = .ok (.iconst 0, 1) := by decide +kernel
theorem dX5_isPerson_17 : decode cX5_isPerson 17 = .ok (.ireturn, 1) := by decide +kernel
def Sp_X5_isPerson (av : List AV) (m : AM) (Φ : Option AV → AM → Prop) : Prop := ∃ i p, av = [vr 5 i, vi p] ∧ Φ (some (vi (if p < 0 then 0 else if m.1 i 8 ≤ p then 0 else 1))) m
set_option maxRecDepth 20000 in
set_option maxHeartbeats 4000000 in
theorem S_X5_isPerson : Snd yX5_isPerson e_X5_isPerson Sp_X5_isPerson := by
  refine Snd.of (by decide +kernel) rfl ?_ ?_
  · rintro av m Φ ⟨i, p, rfl, _⟩; exact Nat.le_of_ble_eq_true rfl
  rintro av m Φ ⟨i, p, rfl, h⟩ hav hty
  show B e_X5_isPerson Φ 0 [some (vr 5 i), some (vi p)] [] m (0, 0)
  refine b_iloadN (pc := 0) 1 dX5_isPerson_0 rfl rfl ?_
  refine b_if_lt (pc := 1) 16 dX5_isPerson_1 (by decide) (fun c1 => ?_) (fun c1 => ?_)
  refine b_iconst (pc := 16) (0) dX5_isPerson_16 (by decide) ?_
  refine b_zret (pc := 17) rfl ?_ dX5_isPerson_17 ⟨Nat.le_of_ble_eq_true rfl, Nat.le_of_ble_eq_true rfl⟩ ?_
  rotate_left -- leaf 0: bool at 17
  rotate_left -- leaf 1: return at 17
  refine b_iloadN (pc := 4) 1 dX5_isPerson_4 rfl rfl ?_
  refine b_aloadN (pc := 5) 0 dX5_isPerson_5 rfl rfl ?_
  refine gf5_8 (pc := 6) k160 dX5_isPerson_6 ?_
  refine b_icmp_ge (pc := 9) 16 dX5_isPerson_9 (by decide) (fun c9 => ?_) (fun c9 => ?_)
  refine b_iconst (pc := 16) (0) dX5_isPerson_16 (by decide) ?_
  refine b_zret (pc := 17) rfl ?_ dX5_isPerson_17 ⟨Nat.le_of_ble_eq_true rfl, Nat.le_of_ble_eq_true rfl⟩ ?_
  rotate_left -- leaf 2: bool at 17
  rotate_left -- leaf 3: return at 17
  refine b_iconst (pc := 12) (1) dX5_isPerson_12 (by decide) ?_
  refine b_goto (pc := 13) 17 dX5_isPerson_13 (by decide) ?_
  refine b_zret (pc := 17) rfl ?_ dX5_isPerson_17 ⟨Nat.le_of_ble_eq_true rfl, Nat.le_of_ble_eq_true rfl⟩ ?_
  rotate_left -- leaf 4: bool at 17
  rotate_left -- leaf 5: return at 17
  -- leaves: 0 bool at 17; 1 return at 17; 2 bool at 17; 3 return at 17; 4 bool at 17; 5 return at 17
  all_goals sorry
theorem call_X5_isPerson {E : ME} {Φ : Option AV → AM → Prop} {pc : Nat} {L : List (Option AV)} {st : List AV} {m : AM} {a : Nat × Nat} {idx : Nat} {x0 : AV} {i : Nat} (hl : Cond.methodLink E.2.1 idx yX5_isPerson ∈ TB) (hdep : 1 + 1 ≤ E.2.2.2.2.2.2) (hroom : a.1 + 0 ≤ E.2.2.2.2.1 ∧ a.2 + 0 ≤ E.2.2.2.2.2.1) (hsr : st.length ≤ 4) (hd : decode E.1 pc = .ok (.invokevirtual idx, 3)) (hsp : Sp_X5_isPerson [vr 5 i, x0] m (fun r m2 => B E Φ (pc + 3) L (r.toList ++ st) m2 a)) : B E Φ pc L (x0 :: vr 5 i :: st) m a := b_callV S_X5_isPerson [x0] (RX5, TX5, 9) rfl rfl (by decide) (Or.inl hl) k643 k644 k72 k645 (by decide +kernel) ⟨hdep, by decide⟩ hroom hsr hd hsp
