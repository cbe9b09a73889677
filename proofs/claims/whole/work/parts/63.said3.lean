/-! said, of the class: waysInAll, firstOfAll, the call -/
abbrev e_X3_waysInAll : ME := (cX3_waysInAll, (RX3, (3, ((some .int), (0, (0, 1))))))
theorem dX3_waysInAll_0 : decode cX3_waysInAll 0 = .ok (.iconst 0, 1) := by decide +kernel
theorem dX3_waysInAll_1 : decode cX3_waysInAll 1 = .ok (.istore_n 1, 1) := by decide +kernel
theorem dX3_waysInAll_2 : decode cX3_waysInAll 2 = .ok (.iconst 0, 1) := by decide +kernel
theorem dX3_waysInAll_3 : decode cX3_waysInAll 3 = .ok (.istore_n 2, 1) := by decide +kernel
theorem dX3_waysInAll_4 : decode cX3_waysInAll 4 = .ok (.iload_n 2, 1) := by decide +kernel
theorem dX3_waysInAll_5 : decode cX3_waysInAll 5 = .ok (.bipush 64, 2) := by decide +kernel
theorem dX3_waysInAll_7 : decode cX3_waysInAll 7 = .ok (.if_icmp .ge 18, 3) := by decide +kernel
theorem dX3_waysInAll_10 : decode cX3_waysInAll 10 = .ok (.iload_n 1, 1) := by decide +kernel
theorem dX3_waysInAll_11 : decode cX3_waysInAll 11 = .ok (.aload_n 0, 1) := by decide +kernel
theorem dX3_waysInAll_12 : decode cX3_waysInAll 12 = .ok (.getfield 11, 3) := by decide +kernel
theorem dX3_waysInAll_15 : decode cX3_waysInAll 15 = .ok (.iload_n 2, 1) := by decide +kernel
theorem dX3_waysInAll_16 : decode cX3_waysInAll 16 = .ok (.iaload, 1) := by decide +kernel
theorem dX3_waysInAll_17 : decode cX3_waysInAll 17 = .ok (.iadd, 1) := by decide +kernel
theorem dX3_waysInAll_18 : decode cX3_waysInAll 18 = .ok (.istore_n 1, 1) := by decide +kernel
theorem dX3_waysInAll_19 : decode cX3_waysInAll 19 = .ok (.iinc 2 1, 3) := by decide +kernel
theorem dX3_waysInAll_22 : decode cX3_waysInAll 22 = .ok (.goto (-18), 3) := by decide +kernel
theorem dX3_waysInAll_25 : decode cX3_waysInAll 25 = .ok (.iload_n 1, 1) := by decide +kernel
theorem dX3_waysInAll_26 : decode cX3_waysInAll 26 = .ok (.ireturn, 1) := by decide +kernel
def Sp_X3_waysInAll (av : List AV) (m : AM) (Φ : Option AV → AM → Prop) : Prop := av = [vr 3 103] ∧ ∃ W : Nat → Nat, FsR m ∧ (∀ s, s < 64 → m.1 (m.2.1 103 0) s = nI (W s)) ∧ Φ (some (vi (nI (sumN 64 W)))) m
set_option maxRecDepth 20000 in
set_option maxHeartbeats 4000000 in
theorem S_X3_waysInAll : Snd yX3_waysInAll e_X3_waysInAll Sp_X3_waysInAll := by
  refine Snd.of (by decide +kernel) rfl ?_ ?_
  · rintro av m Φ ⟨rfl, _⟩; exact Nat.le_of_ble_eq_true rfl
  rintro av m Φ ⟨rfl, W, hFs, hW, h⟩ hav hty
  show B e_X3_waysInAll Φ 0 [some (vr 3 103), none, none] [] m (0, 0)
  have r0 := hFs.1 0 (by omega)
  have l0 := hFs.2.2 _ r0.1 r0.2
  have loop : ∀ e k, k + e = 64 → B e_X3_waysInAll Φ 4 [some (vr 3 103), some (vi (nI (sumN k W))), some (vi (nI k))] [] m (0, 0) := by
    intro e
    induction e with
    | zero =>
      intro k h1
      refine b_iloadN (pc := 4) 2 dX3_waysInAll_4 rfl rfl ?_
      refine b_bipush (pc := 5) (nI 64) dX3_waysInAll_5 (by decide) ?_
      refine b_icmp_ge (pc := 7) 25 dX3_waysInAll_7 (by decide) (fun c7 => ?_) (fun c7 => ?_)
      refine b_iloadN (pc := 25) 1 dX3_waysInAll_25 rfl rfl ?_
      refine b_iret (pc := 26) rfl dX3_waysInAll_26 ⟨Nat.le_of_ble_eq_true rfl, Nat.le_of_ble_eq_true rfl⟩ ?_
      rotate_left -- leaf 0: return at 26
      rotate_left -- leaf 1: at 10
      -- leaves: 0 return at 26; 1 at 10
      · rw [show k = 64 by omega]; exact h
      · rw [n_le (by omega) (by omega)] at c7; omega
    | succ e ih =>
      intro k h1
      refine b_iloadN (pc := 4) 2 dX3_waysInAll_4 rfl rfl ?_
      refine b_bipush (pc := 5) (nI 64) dX3_waysInAll_5 (by decide) ?_
      refine b_icmp_ge (pc := 7) 25 dX3_waysInAll_7 (by decide) (fun c7 => ?_) (fun c7 => ?_)
      rotate_left -- leaf 0: at 25
      refine b_iloadN (pc := 10) 1 dX3_waysInAll_10 rfl rfl ?_
      refine b_aloadN (pc := 11) 0 dX3_waysInAll_11 rfl rfl ?_
      refine gf3_0 (pc := 12) k367 dX3_waysInAll_12 ?_
      refine b_iloadN (pc := 15) 2 dX3_waysInAll_15 rfl rfl ?_
      refine b_ialdD (pc := 16) ?_ dX3_waysInAll_16 ?_
      rotate_left -- leaf 1: index at 16
      refine b_iadd (pc := 17) dX3_waysInAll_17 ?_
      refine siN1 (pc := 18) rfl notL_r (by decide) dX3_waysInAll_18 ?_
      refine inc2 (pc := 19) notL_i (by decide) dX3_waysInAll_19 ?_
      refine b_goto (pc := 22) 4 dX3_waysInAll_22 (by decide) ?_
      rotate_left -- leaf 2: at 4
      -- leaves: 0 at 25; 1 index at 16; 2 at 4
      · rw [n_le (by omega) (by omega)] at c7; omega
      · rw [l0]; exact n_in (by omega) (by omega)
      · rw [n_cl (by omega), hW k (by omega), n_add, n_inc]
        exact ih (k + 1) (by omega)
  refine b_iconst (pc := 0) (nI 0) dX3_waysInAll_0 (by decide) ?_
  refine siN1 (pc := 1) rfl notL_r (by decide) dX3_waysInAll_1 ?_
  refine b_iconst (pc := 2) (nI 0) dX3_waysInAll_2 (by decide) ?_
  refine siN2 (pc := 3) rfl notL_i (by decide) dX3_waysInAll_3 ?_
  rotate_left -- leaf 0: at 4
  -- leaves: 0 at 4
  exact loop 64 0 (by omega)
theorem call_X3_waysInAll {E : ME} {Φ : Option AV → AM → Prop} {pc : Nat} {L : List (Option AV)} {st : List AV} {m : AM} {a : Nat × Nat} {idx : Nat} {i : Nat} (hl : Cond.methodLink E.2.1 idx yX3_waysInAll ∈ TB) (hdep : 1 + 1 ≤ E.2.2.2.2.2.2) (hroom : a.1 + 0 ≤ E.2.2.2.2.1 ∧ a.2 + 0 ≤ E.2.2.2.2.2.1) (hsr : st.length ≤ 4) (hd : decode E.1 pc = .ok (.invokevirtual idx, 3)) (hsp : Sp_X3_waysInAll [vr 3 i] m (fun r m2 => B E Φ (pc + 3) L (r.toList ++ st) m2 a)) : B E Φ pc L (vr 3 i :: st) m a := b_callV S_X3_waysInAll [] (RX3, TX3, 4) rfl rfl (by decide) (Or.inl hl) k899 k900 k77 k901 (show _ ∧ _ ∧ Option.map (fun d => d.parameters.length) (parseMethodDescriptor yX3_waysInAll.desc) = some 0 from by decide +kernel) ⟨hdep, by decide⟩ hroom hsr hd hsp
abbrev e_X3_firstOfAll : ME := (cX3_firstOfAll, (RX3, (3, ((some .int), (0, (0, 1))))))
theorem dX3_firstOfAll_0 : decode cX3_firstOfAll 0 = .ok (.ldc 61, 2) := by decide +kernel
theorem dX3_firstOfAll_2 : decode cX3_firstOfAll 2 = .ok (.istore_n 1, 1) := by decide +kernel
theorem dX3_firstOfAll_3 : decode cX3_firstOfAll 3 = .ok (.iconst 0, 1) := by decide +kernel
theorem dX3_firstOfAll_4 : decode cX3_firstOfAll 4 = .ok (.istore_n 2, 1) := by decide +kernel
theorem dX3_firstOfAll_5 : decode cX3_firstOfAll 5 = .ok (.iload_n 2, 1) := by decide +kernel
theorem dX3_firstOfAll_6 : decode cX3_firstOfAll 6 = .ok (.bipush 64, 2) := by decide +kernel
theorem dX3_firstOfAll_8 : decode cX3_firstOfAll 8 = .ok (.if_icmp .ge 41, 3) := by decide +kernel
theorem dX3_firstOfAll_11 : decode cX3_firstOfAll 11 = .ok (.aload_n 0, 1) := by decide +kernel
theorem dX3_firstOfAll_12 : decode cX3_firstOfAll 12 = .ok (.getfield 11, 3) := by decide +kernel
theorem dX3_firstOfAll_15 : decode cX3_firstOfAll 15 = .ok (.iload_n 2, 1) := by decide +kernel
theorem dX3_firstOfAll_16 : decode cX3_firstOfAll 16 = .ok (.iaload, 1) := by decide +kernel
theorem dX3_firstOfAll_17 : decode cX3_firstOfAll 17 = .ok (.ifCond .eq 26, 3) := by decide +kernel
theorem dX3_firstOfAll_20 : decode cX3_firstOfAll 20 = .ok (.iload_n 1, 1) := by decide +kernel
theorem dX3_firstOfAll_21 : decode cX3_firstOfAll 21 = .ok (.ldc 61, 2) := by decide +kernel
theorem dX3_firstOfAll_23 : decode cX3_firstOfAll 23 = .ok (.if_icmp .eq 13, 3) := by decide +kernel
theorem dX3_firstOfAll_26 : decode cX3_firstOfAll 26 = .ok (.aload_n 0, 1) := by decide +kernel
theorem dX3_firstOfAll_27 : decode cX3_firstOfAll 27 = .ok (.getfield 15, 3) := by decide +kernel
theorem dX3_firstOfAll_30 : decode cX3_firstOfAll 30 = .ok (.iload_n 2, 1) := by decide +kernel
theorem dX3_firstOfAll_31 : decode cX3_firstOfAll 31 = .ok (.iaload, 1) := by decide +kernel
theorem dX3_firstOfAll_32 : decode cX3_firstOfAll 32 = .ok (.iload_n 1, 1) := by decide +kernel
theorem dX3_firstOfAll_33 : decode cX3_firstOfAll 33 = .ok (.if_icmp .ge 10, 3) := by decide +kernel
theorem dX3_firstOfAll_36 : decode cX3_firstOfAll 36 = .ok (.aload_n 0, 1) := by decide +kernel
theorem dX3_firstOfAll_37 : decode cX3_firstOfAll 37 = .ok (.getfield 15, 3) := by decide +kernel
theorem dX3_firstOfAll_40 : decode cX3_firstOfAll 40 = .ok (.iload_n 2, 1) := by decide +kernel
theorem dX3_firstOfAll_41 : decode cX3_firstOfAll 41 = .ok (.iaload, 1) := by decide +kernel
theorem dX3_firstOfAll_42 : decode cX3_firstOfAll 42 = .ok (.istore_n 1, 1) := by decide +kernel
theorem dX3_firstOfAll_43 : decode cX3_firstOfAll 43 = .ok (.iinc 2 1, 3) := by decide +kernel
theorem dX3_firstOfAll_46 : decode cX3_firstOfAll 46 = .ok (.goto (-41), 3) := by decide +kernel
theorem dX3_firstOfAll_49 : decode cX3_firstOfAll 49 = .ok (.iload_n 1, 1) := by decide +kernel
theorem dX3_firstOfAll_50 : decode cX3_firstOfAll 50 = .ok (.ireturn, 1) := by decide +kernel
def Sp_X3_firstOfAll (av : List AV) (m : AM) (Φ : Option AV → AM → Prop) : Prop := av = [vr 3 103] ∧ ∃ W F : Nat → Nat, FsR m ∧ (∀ s, s < 64 → m.1 (m.2.1 103 0) s = nI (W s)) ∧ (∀ s, s < 64 → W s ≤ 20736) ∧ (∀ s, F s < 1000) ∧ (∀ s, s < 64 → 0 < W s → m.1 (m.2.1 103 1) s = nI (F s)) ∧ ∀ v, minR W F 64 v → Φ (some (vi v)) m
set_option maxRecDepth 20000 in
set_option maxHeartbeats 4000000 in
theorem S_X3_firstOfAll : Snd yX3_firstOfAll e_X3_firstOfAll Sp_X3_firstOfAll := by
  refine Snd.of (by decide +kernel) rfl ?_ ?_
  · rintro av m Φ ⟨rfl, _⟩; exact Nat.le_of_ble_eq_true rfl
  rintro av m Φ ⟨rfl, W, F, hFs, hW, hWb, hFb, hF, h⟩ hav hty
  show B e_X3_firstOfAll Φ 0 [some (vr 3 103), none, none] [] m (0, 0)
  have r0 := hFs.1 0 (by omega)
  have l0 := hFs.2.2 _ r0.1 r0.2
  have r1 := hFs.1 1 (by omega)
  have l1 := hFs.2.2 _ r1.1 r1.2
  have loop : ∀ e k v, k + e = 64 → minR W F k v → B e_X3_firstOfAll Φ 5 [some (vr 3 103), some (vi v), some (vi (nI k))] [] m (0, 0) := by
    intro e
    induction e with
    | zero =>
      intro k v h1 h2
      refine b_iloadN (pc := 5) 2 dX3_firstOfAll_5 rfl rfl ?_
      refine b_bipush (pc := 6) (nI 64) dX3_firstOfAll_6 (by decide) ?_
      refine b_icmp_ge (pc := 8) 49 dX3_firstOfAll_8 (by decide) (fun c8 => ?_) (fun c8 => ?_)
      refine b_iloadN (pc := 49) 1 dX3_firstOfAll_49 rfl rfl ?_
      refine b_iret (pc := 50) rfl dX3_firstOfAll_50 ⟨Nat.le_of_ble_eq_true rfl, Nat.le_of_ble_eq_true rfl⟩ ?_
      rotate_left -- leaf 0: return at 50
      rotate_left -- leaf 1: at 11
      -- leaves: 0 return at 50; 1 at 11
      · rw [show k = 64 by omega] at h2; exact h v h2
      · rw [n_le (by omega) (by omega)] at c8; omega
    | succ e ih =>
      intro k v h1 h2
      have wb := hWb k (by omega)
      have fb := hFb k
      have take : 0 < W k → (v = -1000000 ∨ ∃ t, t < k ∧ 0 < W t ∧ v = nI (F t) ∧ F k < F t) → minR W F (k + 1) (nI (F k)) := by
        intro w c
        refine Or.inr ⟨k, by omega, w, rfl, fun u hu hw => ?_⟩
        rcases Nat.lt_or_ge u k with z | z
        · rcases h2 with ⟨a, b⟩ | ⟨t, t1, t2, t3, t4⟩
          · have := b u z
            omega
          · rcases c with c | ⟨t', u1, u2, u3, u4⟩
            · rw [c] at t3
              exact absurd t3.symm (n_ne_none (by have := hFb t; omega))
            · have e2 : F t = F t' := by
                rw [t3] at u3
                rw [n_eq (by have := hFb t; omega) (by have := hFb t'; omega)] at u3
                exact u3
              have := t4 u z hw
              omega
        · rw [show u = k by omega]; exact Nat.le_refl _
      have keep0 : W k = 0 → minR W F (k + 1) v := by
        intro w
        rcases h2 with ⟨a, b⟩ | ⟨t, t1, t2, t3, t4⟩
        · refine Or.inl ⟨a, fun u hu => ?_⟩
          rcases Nat.lt_or_ge u k with z | z
          · exact b u z
          · rw [show u = k by omega]; exact w
        · refine Or.inr ⟨t, by omega, t2, t3, fun u hu hw => ?_⟩
          rcases Nat.lt_or_ge u k with z | z
          · exact t4 u z hw
          · rw [show u = k by omega] at hw; omega
      have keep1 : ∀ t, t < k → 0 < W t → v = nI (F t) → F t ≤ F k → minR W F (k + 1) v := by
        intro t t1 t2 t3 t5
        rcases h2 with ⟨a, b⟩ | ⟨t', u1, u2, u3, u4⟩
        · have := b t t1; omega
        · refine Or.inr ⟨t, by omega, t2, t3, fun u hu hw => ?_⟩
          have e2 : F t = F t' := by
            rw [t3] at u3
            rw [n_eq (by have := hFb t; omega) (by have := hFb t'; omega)] at u3
            exact u3
          rcases Nat.lt_or_ge u k with z | z
          · have := u4 u z hw
            omega
          · rw [show u = k by omega]; exact t5
      refine b_iloadN (pc := 5) 2 dX3_firstOfAll_5 rfl rfl ?_
      refine b_bipush (pc := 6) (nI 64) dX3_firstOfAll_6 (by decide) ?_
      refine b_icmp_ge (pc := 8) 49 dX3_firstOfAll_8 (by decide) (fun c8 => ?_) (fun c8 => ?_)
      rotate_left -- leaf 0: at 49
      refine b_aloadN (pc := 11) 0 dX3_firstOfAll_11 rfl rfl ?_
      refine gf3_0 (pc := 12) k367 dX3_firstOfAll_12 ?_
      refine b_iloadN (pc := 15) 2 dX3_firstOfAll_15 rfl rfl ?_
      refine b_ialdD (pc := 16) ?_ dX3_firstOfAll_16 ?_
      rotate_left -- leaf 1: index at 16
      refine b_if_eq (pc := 17) 43 dX3_firstOfAll_17 (by decide) (fun c17 => ?_) (fun c17 => ?_)
      refine inc2 (pc := 43) notL_i (by decide) dX3_firstOfAll_43 ?_
      refine b_goto (pc := 46) 5 dX3_firstOfAll_46 (by decide) ?_
      rotate_left -- leaf 2: at 5
      refine b_iloadN (pc := 20) 1 dX3_firstOfAll_20 rfl rfl ?_
      refine b_ldc (pc := 21) k827 dX3_firstOfAll_21 ?_
      refine b_icmp_eq (pc := 23) 36 dX3_firstOfAll_23 (by decide) (fun c23 => ?_) (fun c23 => ?_)
      refine b_aloadN (pc := 36) 0 dX3_firstOfAll_36 rfl rfl ?_
      refine gf3_1 (pc := 37) k368 dX3_firstOfAll_37 ?_
      refine b_iloadN (pc := 40) 2 dX3_firstOfAll_40 rfl rfl ?_
      refine b_ialdD (pc := 41) ?_ dX3_firstOfAll_41 ?_
      rotate_left -- leaf 3: index at 41
      refine siN1 (pc := 42) rfl notL_r (by decide) dX3_firstOfAll_42 ?_
      refine inc2 (pc := 43) notL_i (by decide) dX3_firstOfAll_43 ?_
      refine b_goto (pc := 46) 5 dX3_firstOfAll_46 (by decide) ?_
      rotate_left -- leaf 4: at 5
      refine b_aloadN (pc := 26) 0 dX3_firstOfAll_26 rfl rfl ?_
      refine gf3_1 (pc := 27) k368 dX3_firstOfAll_27 ?_
      refine b_iloadN (pc := 30) 2 dX3_firstOfAll_30 rfl rfl ?_
      refine b_ialdD (pc := 31) ?_ dX3_firstOfAll_31 ?_
      rotate_left -- leaf 5: index at 31
      refine b_iloadN (pc := 32) 1 dX3_firstOfAll_32 rfl rfl ?_
      refine b_icmp_ge (pc := 33) 43 dX3_firstOfAll_33 (by decide) (fun c33 => ?_) (fun c33 => ?_)
      refine inc2 (pc := 43) notL_i (by decide) dX3_firstOfAll_43 ?_
      refine b_goto (pc := 46) 5 dX3_firstOfAll_46 (by decide) ?_
      rotate_left -- leaf 6: at 5
      refine b_aloadN (pc := 36) 0 dX3_firstOfAll_36 rfl rfl ?_
      refine gf3_1 (pc := 37) k368 dX3_firstOfAll_37 ?_
      refine b_iloadN (pc := 40) 2 dX3_firstOfAll_40 rfl rfl ?_
      refine b_ialdD (pc := 41) ?_ dX3_firstOfAll_41 ?_
      rotate_left -- leaf 7: index at 41
      refine siN1 (pc := 42) rfl notL_r (by decide) dX3_firstOfAll_42 ?_
      refine inc2 (pc := 43) notL_i (by decide) dX3_firstOfAll_43 ?_
      refine b_goto (pc := 46) 5 dX3_firstOfAll_46 (by decide) ?_
      rotate_left -- leaf 8: at 5
      -- leaves: 0 at 49; 1 index at 16; 2 at 5; 3 index at 41; 4 at 5; 5 index at 31; 6 at 5; 7 index at 41; 8 at 5
      · rw [n_le (by omega) (by omega)] at c8; omega
      · rw [l0]; exact n_in (by omega) (by omega)
      · rw [n_cl (by omega), hW k (by omega), n_eq0 (by omega)] at c17
        rw [n_inc]
        exact ih (k + 1) v (by omega) (keep0 c17)
      · rw [l1]; exact n_in (by omega) (by omega)
      · rw [n_cl (by omega), hW k (by omega), n_eq0 (by omega)] at c17
        rw [n_cl (by omega), hF k (by omega) (by omega), n_inc]
        exact ih (k + 1) _ (by omega) (take (by omega) (Or.inl c23))
      · rw [l1]; exact n_in (by omega) (by omega)
      · rw [n_cl (by omega), hW k (by omega), n_eq0 (by omega)] at c17
        rw [n_cl (by omega), hF k (by omega) (by omega)] at c33
        rw [n_inc]
        rcases h2 with ⟨a, b⟩ | ⟨t, t1, t2, t3, t4⟩
        · exact absurd a c23
        · have fbt := hFb t
          rw [t3, n_le (by omega) (by omega)] at c33
          exact ih (k + 1) v (by omega) (keep1 t t1 t2 t3 c33)
      · rw [l1]; exact n_in (by omega) (by omega)
      · rw [n_cl (by omega), hW k (by omega), n_eq0 (by omega)] at c17
        rw [n_cl (by omega), hF k (by omega) (by omega)] at c33
        rw [n_cl (by omega), hF k (by omega) (by omega), n_inc]
        rcases h2 with ⟨a, b⟩ | ⟨t, t1, t2, t3, t4⟩
        · exact absurd a c23
        · have fbt := hFb t
          rw [t3, n_le (by omega) (by omega)] at c33
          exact ih (k + 1) _ (by omega) (take (by omega) (Or.inr ⟨t, t1, t2, t3, by omega⟩))
  refine b_ldc (pc := 0) k827 dX3_firstOfAll_0 ?_
  refine siN1 (pc := 2) rfl notL_r (by decide) dX3_firstOfAll_2 ?_
  refine b_iconst (pc := 3) (nI 0) dX3_firstOfAll_3 (by decide) ?_
  refine siN2 (pc := 4) rfl notL_i (by decide) dX3_firstOfAll_4 ?_
  rotate_left -- leaf 0: at 5
  -- leaves: 0 at 5
  exact loop 64 0 _ (by omega) (Or.inl ⟨rfl, fun t ht => absurd ht (Nat.not_lt_zero t)⟩)
theorem call_X3_firstOfAll {E : ME} {Φ : Option AV → AM → Prop} {pc : Nat} {L : List (Option AV)} {st : List AV} {m : AM} {a : Nat × Nat} {idx : Nat} {i : Nat} (hl : Cond.methodLink E.2.1 idx yX3_firstOfAll ∈ TB) (hdep : 1 + 1 ≤ E.2.2.2.2.2.2) (hroom : a.1 + 0 ≤ E.2.2.2.2.1 ∧ a.2 + 0 ≤ E.2.2.2.2.2.1) (hsr : st.length ≤ 4) (hd : decode E.1 pc = .ok (.invokevirtual idx, 3)) (hsp : Sp_X3_firstOfAll [vr 3 i] m (fun r m2 => B E Φ (pc + 3) L (r.toList ++ st) m2 a)) : B E Φ pc L (vr 3 i :: st) m a := b_callV S_X3_firstOfAll [] (RX3, TX3, 4) rfl rfl (by decide) (Or.inl hl) k903 k904 k77 k905 (show _ ∧ _ ∧ Option.map (fun d => d.parameters.length) (parseMethodDescriptor yX3_firstOfAll.desc) = some 0 from by decide +kernel) ⟨hdep, by decide⟩ hroom hsr hd hsp
theorem FsR.nw {m m2 : AM} {N : Nat} {g : Nat → Int32} (h : FsR m) (nw : NewA m m2 N g) (hty : TY m) : FsR m2 := by
  unfold FsR
  rw [nw.1]
  exact ⟨h.1, h.2.1, fun i a b => by
    have h125 := hty.1
    unfold nS at h125
    rw [(nw.2.2.1 i (by omega)).2]
    exact h.2.2 i a b⟩
def saiC (C : Nat → Nat) (p r n w : Int32) : Bool := inB p (C 4) && (inB r 8 && ((inB n 5 && decide (¬ n = nI 0)) && inB w 2))
/-- what persists: refs of lr, ints of li may change; arrays may be new -/
def Xg (lr li : List Nat) (m m2 : AM) : Prop := (∀ i k, i ∉ lr → m2.2.1 i k = m.2.1 i k) ∧ m.2.2.2 ≤ m2.2.2.2 ∧ (∀ a, a < m.2.2.2 → m2.2.2.1 a = m.2.2.1 a) ∧ ∀ a, a < m.2.2.2 → a ∉ li → m2.1 a = m.1 a
theorem Xg.fr {lr l : List Nat} {m m2 : AM} (h : Fr l m m2) : Xg lr l m m2 := ⟨fun i k _ => by rw [h.1], Nat.le_of_eq (by rw [h.1]), fun a _ => by rw [h.1], fun a _ hl => h.2 a hl⟩
theorem Xg.nw {lr l : List Nat} {m m2 : AM} {N : Nat} {g : Nat → Int32} (h : NewA m m2 N g) : Xg lr l m m2 := ⟨fun i k _ => by rw [h.1], by rw [h.2.1]; omega, fun a ha => (h.2.2.1 a ha).2, fun a ha _ => (h.2.2.1 a ha).1⟩
theorem Xg.tr {lr l : List Nat} {m m2 m3 : AM} (h : Xg lr l m m2) (h2 : Xg lr l m2 m3) : Xg lr l m m3 := ⟨fun i k hi => (h2.1 i k hi).trans (h.1 i k hi), Nat.le_trans h.2.1 h2.2.1, fun a ha => (h2.2.2.1 a (Nat.lt_of_lt_of_le ha h.2.1)).trans (h.2.2.1 a ha), fun a ha hl => (h2.2.2.2 a (Nat.lt_of_lt_of_le ha h.2.1) hl).trans (h.2.2.2 a ha hl)⟩
theorem Xg.xt {l : List Nat} {m m2 : AM} (h : Xt l m m2) : Xg [] l m m2 := ⟨fun i k _ => by rw [h.1], h.2.1, h.2.2.1, h.2.2.2⟩
theorem Xg.mono {lr l lr2 l2 : List Nat} {m m2 : AM} (h : Xg lr l m m2) (h1 : ∀ a, a ∈ lr → a ∈ lr2) (h2 : ∀ a, a ∈ l → a ∈ l2) : Xg lr2 l2 m m2 := ⟨fun i k hi => h.1 i k (fun z => hi (h1 i z)), h.2.1, h.2.2.1, fun a ha hl => h.2.2.2 a ha (fun z => hl (h2 a z))⟩
theorem Xg.xf {m m2 : AM} (h : XF m m2) : Xg [103] [0, 30, 104, 105, 106, 107] m m2 := ⟨fun i k hi => h.2.1 i k (by simp at hi; exact hi), Nat.le_of_eq (by rw [h.1]), fun a _ => by rw [h.1], fun a _ hl => h.2.2 a (by simp at hl; omega) (by simp at hl; omega)⟩
abbrev e_X10_said : ME := (cX10_said, (RX10, (7, ((some .int), (1, (40, 8))))))
theorem dX10_said_0 : decode cX10_said 0 = .ok (.aload_n 0, 1) := by decide +kernel
theorem dX10_said_1 : decode cX10_said 1 = .ok (.getfield 26, 3) := by decide +kernel
theorem dX10_said_4 : decode cX10_said 4 = .ok (.getfield 127, 3) := by decide +kernel
theorem dX10_said_7 : decode cX10_said 7 = .ok (.iload_n 1, 1) := by decide +kernel
theorem dX10_said_8 : decode cX10_said 8 = .ok (.invokevirtual 147, 3) := by decide +kernel
theorem dX10_said_11 : decode cX10_said 11 = .ok (.ifCond .eq 30, 3) := by decide +kernel
theorem dX10_said_14 : decode cX10_said 14 = .ok (.iload_n 2, 1) := by decide +kernel
theorem dX10_said_15 : decode cX10_said 15 = .ok (.invokestatic 65, 3) := by decide +kernel
theorem dX10_said_18 : decode cX10_said 18 = .ok (.ifCond .eq 23, 3) := by decide +kernel
theorem dX10_said_21 : decode cX10_said 21 = .ok (.iload 4, 2) := by decide +kernel
theorem dX10_said_23 : decode cX10_said 23 = .ok (.iconst 1, 1) := by decide +kernel
theorem dX10_said_24 : decode cX10_said 24 = .ok (.if_icmp .lt 17, 3) := by decide +kernel
theorem dX10_said_27 : decode cX10_said 27 = .ok (.iload 4, 2) := by decide +kernel
theorem dX10_said_29 : decode cX10_said 29 = .ok (.iconst 4, 1) := by decide +kernel
theorem dX10_said_30 : decode cX10_said 30 = .ok (.if_icmp .gt 11, 3) := by decide +kernel
theorem dX10_said_33 : decode cX10_said 33 = .ok (.iload 5, 2) := by decide +kernel
theorem dX10_said_35 : decode cX10_said 35 = .ok (.invokestatic 180, 3) := by decide +kernel
theorem dX10_said_38 : decode cX10_said 38 = .ok (.ifCond .eq 6, 3) := by decide +kernel
theorem dX10_said_41 : decode cX10_said 41 = .ok (.ldc 69, 2) := by decide +kernel
theorem dX10_said_43 : decode cX10_said 43 = .ok (.ireturn, 1) := by decide +kernel
theorem dX10_said_44 : decode cX10_said 44 = .ok (.aload_n 0, 1) := by decide +kernel
theorem dX10_said_45 : decode cX10_said 45 = .ok (.getfield 10, 3) := by decide +kernel
theorem dX10_said_48 : decode cX10_said 48 = .ok (.iload_n 2, 1) := by decide +kernel
theorem dX10_said_49 : decode cX10_said 49 = .ok (.iload_n 3, 1) := by decide +kernel
theorem dX10_said_50 : decode cX10_said 50 = .ok (.iload 4, 2) := by decide +kernel
theorem dX10_said_52 : decode cX10_said 52 = .ok (.invokevirtual 81, 3) := by decide +kernel
theorem dX10_said_55 : decode cX10_said 55 = .ok (.istore 6, 2) := by decide +kernel
theorem dX10_said_57 : decode cX10_said 57 = .ok (.iload 6, 2) := by decide +kernel
theorem dX10_said_59 : decode cX10_said 59 = .ok (.ifCond .eq 10, 3) := by decide +kernel
theorem dX10_said_62 : decode cX10_said 62 = .ok (.aload_n 0, 1) := by decide +kernel
theorem dX10_said_63 : decode cX10_said 63 = .ok (.iload 6, 2) := by decide +kernel
theorem dX10_said_65 : decode cX10_said 65 = .ok (.invokevirtual 70, 3) := by decide +kernel
theorem dX10_said_68 : decode cX10_said 68 = .ok (.ireturn, 1) := by decide +kernel
theorem dX10_said_69 : decode cX10_said 69 = .ok (.aload_n 0, 1) := by decide +kernel
theorem dX10_said_70 : decode cX10_said 70 = .ok (.getfield 53, 3) := by decide +kernel
theorem dX10_said_73 : decode cX10_said 73 = .ok (.aload_n 0, 1) := by decide +kernel
theorem dX10_said_74 : decode cX10_said 74 = .ok (.getfield 26, 3) := by decide +kernel
theorem dX10_said_77 : decode cX10_said 77 = .ok (.aload_n 0, 1) := by decide +kernel
theorem dX10_said_78 : decode cX10_said 78 = .ok (.getfield 26, 3) := by decide +kernel
theorem dX10_said_81 : decode cX10_said 81 = .ok (.getfield 127, 3) := by decide +kernel
theorem dX10_said_84 : decode cX10_said 84 = .ok (.getfield 211, 3) := by decide +kernel
theorem dX10_said_87 : decode cX10_said 87 = .ok (.iload_n 1, 1) := by decide +kernel
theorem dX10_said_88 : decode cX10_said 88 = .ok (.iaload, 1) := by decide +kernel
theorem dX10_said_89 : decode cX10_said 89 = .ok (.aload_n 0, 1) := by decide +kernel
theorem dX10_said_90 : decode cX10_said 90 = .ok (.getfield 10, 3) := by decide +kernel
theorem dX10_said_93 : decode cX10_said 93 = .ok (.iload_n 2, 1) := by decide +kernel
theorem dX10_said_94 : decode cX10_said 94 = .ok (.iload_n 3, 1) := by decide +kernel
theorem dX10_said_95 : decode cX10_said 95 = .ok (.iload 4, 2) := by decide +kernel
theorem dX10_said_97 : decode cX10_said 97 = .ok (.invokevirtual 250, 3) := by decide +kernel
theorem dX10_said_100 : decode cX10_said 100 = .ok (.invokevirtual 254, 3) := by decide +kernel
theorem dX10_said_103 : decode cX10_said 103 = .ok (.aload_n 0, 1) := by decide +kernel
theorem dX10_said_104 : decode cX10_said 104 = .ok (.iload 5, 2) := by decide +kernel
theorem dX10_said_106 : decode cX10_said 106 = .ok (.ifCond .ne 13, 3) := by decide +kernel
theorem dX10_said_109 : decode cX10_said 109 = .ok (.aload_n 0, 1) := by decide +kernel
theorem dX10_said_110 : decode cX10_said 110 = .ok (.getfield 53, 3) := by decide +kernel
theorem dX10_said_113 : decode cX10_said 113 = .ok (.invokevirtual 258, 3) := by decide +kernel
theorem dX10_said_116 : decode cX10_said 116 = .ok (.goto 10, 3) := by decide +kernel
theorem dX10_said_119 : decode cX10_said 119 = .ok (.aload_n 0, 1) := by decide +kernel
theorem dX10_said_120 : decode cX10_said 120 = .ok (.getfield 53, 3) := by decide +kernel
theorem dX10_said_123 : decode cX10_said 123 = .ok (.invokevirtual 261, 3) := by decide +kernel
theorem dX10_said_126 : decode cX10_said 126 = .ok (.invokevirtual 78, 3) := by decide +kernel
theorem dX10_said_129 : decode cX10_said 129 = .ok (.ireturn, 1) := by decide +kernel
def Sp_X10_said (av : List AV) (m : AM) (Φ : Option AV → AM → Prop) : Prop := ∃ p r i n w, av = [vr 10 0, vi p, vi r, vi i, vi n, vi w] ∧ ∃ C La Ma It, CR m C ∧ RowR m La Ma It ∧ FsR m ∧ (saiC C p r n w = false → Φ (some (vi (-1000001))) m) ∧ (saiC C p r n w = true → ∀ k, k = lackN La Ma r.toNatClampNeg i n → ¬ k = 0 → Φ (some (vi (-1000010 - nI k))) (mset m 0 8 (nI k))) ∧ (saiC C p r n w = true → lackN La Ma r.toNatClampNeg i n = 0 → ∀ D, D = (fun j => It r.toNatClampNeg (i.toNatClampNeg + j)) → ∀ q, q = C (40 + 2 * p.toNatClampNeg) → ∀ m2, Xg [103] [0, 30, 104, 105, 106, 107] m m2 → BR m2 C → FsR m2 → m2.1 0 8 = nI 0 → Φ (some (vi (if w = nI 0 then nI (saidN C q D n.toNatClampNeg) else saidF C q D n.toNatClampNeg))) m2)
set_option maxRecDepth 20000 in
set_option maxHeartbeats 4000000 in
theorem S_X10_said : Snd yX10_said e_X10_said Sp_X10_said := by
  refine Snd.of (by decide +kernel) rfl ?_ ?_
  · rintro av m Φ ⟨p, r, i, n, w, rfl, _⟩; exact Nat.le_of_ble_eq_true rfl
  rintro av m Φ ⟨p, r, i, n, w, rfl, C, La, Ma, It, hC, hR, hFs, h1, h2, h3⟩ hav hty
  show B e_X10_said Φ 0 [some (vr 10 0), some (vi p), some (vi r), some (vi i), some (vi n), some (vi w), none] [] m (0, 0)
  have hle := hC.le
  by_cases hc : saiC C p r n w = true
  · have hc2 := hc
    unfold saiC at hc2
    rw [Bool.and_eq_true, Bool.and_eq_true, Bool.and_eq_true] at hc2
    have hn4 := (nN (K := 4) (by omega)).mpr hc2.2.2.1
    have hc3 := hc2.2.2.1
    rw [Bool.and_eq_true] at hc3
    obtain ⟨P, hP, rfl⟩ := (inB_iff (by omega)).mp hc2.1
    obtain ⟨r, hr, rfl⟩ := (inB_iff (by omega)).mp hc2.2.1
    obtain ⟨N, hN, rfl⟩ := (inB_iff (by omega)).mp hc3.1
    have hN0 : N ≠ 0 := fun z => of_decide_eq_true hc3.2 (by rw [z])
    rw [n_cl (show r < 2147483648 by omega)] at h2 h3
    rw [n_cl (show P < 2147483648 by omega), n_cl (show N < 2147483648 by omega)] at h3
    have hB := hC.op (Or.inr (Or.inr (by omega)))
    have hv := hB.1
    have h06 := hv.1
    have h45 := hv.2.2.2.2.1
    have hlk := lackN_lt La Ma r i (nI N)
    have no11 : ∀ (z : nI (if inB (nI P) (C 4) = true then 1 else 0) = 0), False := fun z => by rw [hc2.1] at z; exact absurd z (by decide)
    have no18 : ∀ (z : nI (if inB (nI r) 8 = true then 1 else 0) = 0), False := fun z => by rw [hc2.2.1] at z; exact absurd z (by decide)
    have no38 : ¬ nI (if inB w 2 = true then 0 else 1) = 0 → False := fun z => by rw [hc2.2.2.2] at z; exact z rfl
    have wb2 : ∀ s, s < 64 → WN C (C (40 + 2 * P)) (fun j => It r (i.toNatClampNeg + j)) N s ≤ 20736 := fun s _ => Nat.le_trans (WN_le _ _ _ _ _) (E_pow hv (Nat.le_refl N) (by omega))
    by_cases hz : lackN La Ma r i (nI N) = 0
    · obtain ⟨hl, hfit⟩ := lackN_0.mp hz
      have ww := (hR r hr).2 hl
      obtain ⟨I, b, hi, hb, hle2⟩ := fit_to ww.2.2.2.1 hfit
      have w40 := ww.2.2.2.1
      rw [n_eq (by omega) (by omega)] at hb
      subst hi
      rw [n_cl (show I < 2147483648 by omega)] at h3 wb2
      have hi : nI I = nI I := rfl
      have h4 := h3 hc hz (fun j => It r (I + j)) rfl _ rfl
      refine b_aloadN (pc := 0) 0 dX10_said_0 rfl rfl ?_
      refine gf10_2 (pc := 1) 20 rfl k417 dX10_said_1 ?_
      refine gf2_0 (pc := 4) 21 rfl k269 dX10_said_4 ?_
      refine b_iloadN (pc := 7) 1 dX10_said_7 rfl rfl ?_
      refine call_X5_isPerson (pc := 8) k642 (by decide) ⟨Nat.le_of_ble_eq_true rfl, Nat.le_of_ble_eq_true rfl⟩ (Nat.le_of_ble_eq_true rfl) dX10_said_8 ?_
      refine ⟨_, rfl, _, hC.num.2.2.2.1, ?_⟩
      refine b_if_eq (pc := 11) 41 dX10_said_11 (by decide) (fun c11 => ?_) (fun c11 => ?_)
      rotate_left -- leaf 0: at 41
      refine b_iloadN (pc := 14) 2 dX10_said_14 rfl rfl ?_
      refine call_X10_isRow (pc := 15) k447 (by decide) ⟨Nat.le_of_ble_eq_true rfl, Nat.le_of_ble_eq_true rfl⟩ (Nat.le_of_ble_eq_true rfl) dX10_said_15 ?_
      refine ⟨_, rfl, ?_⟩
      refine b_if_eq (pc := 18) 41 dX10_said_18 (by decide) (fun c18 => ?_) (fun c18 => ?_)
      rotate_left -- leaf 1: at 41
      refine b_iloadG (pc := 21) 4 dX10_said_21 rfl ?_
      refine b_iconst (pc := 23) (nI 1) dX10_said_23 (by decide) ?_
      refine b_icmp_lt (pc := 24) 41 dX10_said_24 (by decide) (fun c24 => ?_) (fun c24 => ?_)
      rotate_left -- leaf 2: at 41
      refine b_iloadG (pc := 27) 4 dX10_said_27 rfl ?_
      refine b_iconst (pc := 29) (nI 4) dX10_said_29 (by decide) ?_
      refine b_icmp_gt (pc := 30) 41 dX10_said_30 (by decide) (fun c30 => ?_) (fun c30 => ?_)
      rotate_left -- leaf 3: at 41
      refine b_iloadG (pc := 33) 5 dX10_said_33 rfl ?_
      refine call_X10_isNoBit (pc := 35) k709 (by decide) ⟨Nat.le_of_ble_eq_true rfl, Nat.le_of_ble_eq_true rfl⟩ (Nat.le_of_ble_eq_true rfl) dX10_said_35 ?_
      refine ⟨_, rfl, ?_⟩
      refine b_if_eq (pc := 38) 44 dX10_said_38 (by decide) (fun c38 => ?_) (fun c38 => ?_)
      refine b_aloadN (pc := 44) 0 dX10_said_44 rfl rfl ?_
      refine gf10_0 (pc := 45) 1 rfl k415 dX10_said_45 ?_
      refine b_iloadN (pc := 48) 2 dX10_said_48 rfl rfl ?_
      refine b_iloadN (pc := 49) 3 dX10_said_49 rfl rfl ?_
      refine b_iloadG (pc := 50) 4 dX10_said_50 rfl ?_
      refine call_X6_lack (pc := 52) k468 (by decide) ⟨Nat.le_of_ble_eq_true rfl, Nat.le_of_ble_eq_true rfl⟩ (Nat.le_of_ble_eq_true rfl) dX10_said_52 ?_
      refine ⟨_, _, _, rfl, La, Ma, It, r, hR, rfl, hr, ?_⟩
      refine siG6 (pc := 55) notL_i (by decide) dX10_said_55 ?_
      refine b_iloadG (pc := 57) 6 dX10_said_57 rfl ?_
      refine b_if_eq (pc := 59) 69 dX10_said_59 (by decide) (fun c59 => ?_) (fun c59 => ?_)
      refine b_aloadN (pc := 69) 0 dX10_said_69 rfl rfl ?_
      refine gf10_6 (pc := 70) 103 rfl k421 dX10_said_70 ?_
      refine b_aloadN (pc := 73) 0 dX10_said_73 rfl rfl ?_
      refine gf10_2 (pc := 74) 20 rfl k417 dX10_said_74 ?_
      refine b_aloadN (pc := 77) 0 dX10_said_77 rfl rfl ?_
      refine gf10_2 (pc := 78) 20 rfl k417 dX10_said_78 ?_
      refine gf2_0 (pc := 81) 21 rfl k269 dX10_said_81 ?_
      refine gf5_3 (pc := 84) 25 rfl k141 dX10_said_84 ?_
      refine b_iloadN (pc := 87) 1 dX10_said_87 rfl rfl ?_
      refine b_iald (pc := 88) (by decide) ?_ dX10_said_88 ?_
      rotate_left -- leaf 4: index at 88
      refine b_aloadN (pc := 89) 0 dX10_said_89 rfl rfl ?_
      refine gf10_0 (pc := 90) 1 rfl k415 dX10_said_90 ?_
      refine b_iloadN (pc := 93) 2 dX10_said_93 rfl rfl ?_
      refine b_iloadN (pc := 94) 3 dX10_said_94 rfl rfl ?_
      refine b_iloadG (pc := 95) 4 dX10_said_95 rfl ?_
      refine call_X6_itemsFrom (pc := 97) k862 (by decide) ⟨Nat.le_of_ble_eq_true rfl, Nat.le_of_ble_eq_true rfl⟩ (Nat.le_of_ble_eq_true rfl) dX10_said_97 ?_
      refine ⟨_, _, _, rfl, La, Ma, It, r, I, N, hR, rfl, hi, rfl, hr, hl, ?_, ?_, fun m97 nw97 => ?_⟩
      rotate_left -- leaf 5: in of X6_itemsFrom at 97
      rotate_left -- leaf 6: many of X6_itemsFrom at 97
      refine call_X3_tellRows (pc := 100) k884 (by decide) ⟨Nat.le_of_ble_eq_true rfl, Nat.le_of_ble_eq_true rfl⟩ (Nat.le_of_ble_eq_true rfl) dX10_said_100 ?_
      refine ⟨_, _, rfl, C, C (40 + 2 * P), (fun j => It r (I + j)), N, ?_, ?_, ?_, ?_, ?_, ?_, ?_, ?_, fun m100 xf100 hB100 hFs2 hW2 F2 hFI2 hFb2 hF2 => ?_⟩
      rotate_left -- leaf 7: bench of X3_tellRows at 100
      rotate_left -- leaf 8: fs of X3_tellRows at 100
      rotate_left -- leaf 9: kd of X3_tellRows at 100
      rotate_left -- leaf 10: q5 of X3_tellRows at 100
      rotate_left -- leaf 11: len of X3_tellRows at 100
      rotate_left -- leaf 12: n4 of X3_tellRows at 100
      rotate_left -- leaf 13: j125 of X3_tellRows at 100
      rotate_left -- leaf 14: dat of X3_tellRows at 100
      have hWb2 := wb2
      refine b_aloadN (pc := 103) 0 dX10_said_103 rfl rfl ?_
      refine b_iloadG (pc := 104) 5 dX10_said_104 rfl ?_
      refine b_if_ne (pc := 106) 119 dX10_said_106 (by decide) (fun c106 => ?_) (fun c106 => ?_)
      refine b_aloadN (pc := 119) 0 dX10_said_119 rfl rfl ?_
      refine gf10_6 (pc := 120) 103 rfl k421 dX10_said_120 ?_
      refine call_X3_firstOfAll (pc := 123) k902 (by decide) ⟨Nat.le_of_ble_eq_true rfl, Nat.le_of_ble_eq_true rfl⟩ (Nat.le_of_ble_eq_true rfl) dX10_said_123 ?_
      refine ⟨rfl, _, F2, hFs2, hW2, hWb2, hFb2, hF2, fun v123 mn123 => ?_⟩
      refine call_X10_fine (pc := 126) k460 (by decide) ⟨Nat.le_of_ble_eq_true rfl, Nat.le_of_ble_eq_true rfl⟩ (Nat.le_of_ble_eq_true rfl) dX10_said_126 ?_
      refine ⟨_, rfl, ?_⟩
      refine b_iret (pc := 129) rfl dX10_said_129 ⟨Nat.le_of_ble_eq_true rfl, Nat.le_of_ble_eq_true rfl⟩ ?_
      rotate_left -- leaf 15: return at 129
      refine b_aloadN (pc := 109) 0 dX10_said_109 rfl rfl ?_
      refine gf10_6 (pc := 110) 103 rfl k421 dX10_said_110 ?_
      refine call_X3_waysInAll (pc := 113) k898 (by decide) ⟨Nat.le_of_ble_eq_true rfl, Nat.le_of_ble_eq_true rfl⟩ (Nat.le_of_ble_eq_true rfl) dX10_said_113 ?_
      refine ⟨rfl, _, hFs2, hW2, ?_⟩
      refine b_goto (pc := 116) 126 dX10_said_116 (by decide) ?_
      refine call_X10_fine (pc := 126) k460 (by decide) ⟨Nat.le_of_ble_eq_true rfl, Nat.le_of_ble_eq_true rfl⟩ (Nat.le_of_ble_eq_true rfl) dX10_said_126 ?_
      refine ⟨_, rfl, ?_⟩
      refine b_iret (pc := 129) rfl dX10_said_129 ⟨Nat.le_of_ble_eq_true rfl, Nat.le_of_ble_eq_true rfl⟩ ?_
      rotate_left -- leaf 16: return at 129
      rotate_left -- leaf 17: at 62
      rotate_left -- leaf 18: at 41
      -- leaves: 0 at 41; 1 at 41; 2 at 41; 3 at 41; 4 index at 88; 5 in of X6_itemsFrom at 97; 6 many of X6_itemsFrom at 97; 7 bench of X3_tellRows at 100; 8 fs of X3_tellRows at 100; 9 kd of X3_tellRows at 100; 10 q5 of X3_tellRows at 100; 11 len of X3_tellRows at 100; 12 n4 of X3_tellRows at 100; 13 j125 of X3_tellRows at 100; 14 dat of X3_tellRows at 100; 15 return at 129; 16 return at 129; 17 at 62; 18 at 41
      · exact (no11 c11).elim
      · exact (no18 c18).elim
      · exact absurd c24 hn4.1
      · exact absurd hn4.2 (Int32.not_le.mpr c30)
      · exact n_in (by omega) (by omega)
      · omega
      · omega
      · exact hB.fr (fun a h1 h2 => nw97.old hty a (by omega))
      · exact hFs.nw nw97 hty
      · rw [n_cl (by omega)]; exact hB.2.1.2.2.2.2.2 P hP
      · exact (hv.2.2.2.2.2.2.2.2.2 P hP).1
      · exact nw97.2.2.2.1
      · omega
      · have := hty.1
        unfold nS at this
        omega
      · intro j hj
        exact nw97.2.2.2.2 j hj
      · have t := h4 (mset m100 0 8 (nI 0)) (((Xg.nw nw97).tr (Xg.xf xf100)).tr (Xg.fr ((Fr.rf _ _).ms (by simp)))) (hB100.fr (fun a _ _ => mset_ne _ _ _ (by omega))) (hFs2.cg rfl) (by rw [mset_at, if_pos rfl])
        rw [if_neg (show ¬ w = nI 0 from c106), ← minR_said hv hFI2 mn123] at t
        exact t
      · have t := h4 (mset m100 0 8 (nI 0)) (((Xg.nw nw97).tr (Xg.xf xf100)).tr (Xg.fr ((Fr.rf _ _).ms (by simp)))) (hB100.fr (fun a _ _ => mset_ne _ _ _ (by omega))) (hFs2.cg rfl) (by rw [mset_at, if_pos rfl])
        rw [if_pos (show w = nI 0 from c106), ← WN_all hv] at t
        exact t
      · rw [n_eq0 (by omega)] at c59
        exact absurd hz c59
      · exact (no38 c38).elim
    · have bad := h2 hc _ rfl hz
      refine b_aloadN (pc := 0) 0 dX10_said_0 rfl rfl ?_
      refine gf10_2 (pc := 1) 20 rfl k417 dX10_said_1 ?_
      refine gf2_0 (pc := 4) 21 rfl k269 dX10_said_4 ?_
      refine b_iloadN (pc := 7) 1 dX10_said_7 rfl rfl ?_
      refine call_X5_isPerson (pc := 8) k642 (by decide) ⟨Nat.le_of_ble_eq_true rfl, Nat.le_of_ble_eq_true rfl⟩ (Nat.le_of_ble_eq_true rfl) dX10_said_8 ?_
      refine ⟨_, rfl, _, hC.num.2.2.2.1, ?_⟩
      refine b_if_eq (pc := 11) 41 dX10_said_11 (by decide) (fun c11 => ?_) (fun c11 => ?_)
      rotate_left -- leaf 0: at 41
      refine b_iloadN (pc := 14) 2 dX10_said_14 rfl rfl ?_
      refine call_X10_isRow (pc := 15) k447 (by decide) ⟨Nat.le_of_ble_eq_true rfl, Nat.le_of_ble_eq_true rfl⟩ (Nat.le_of_ble_eq_true rfl) dX10_said_15 ?_
      refine ⟨_, rfl, ?_⟩
      refine b_if_eq (pc := 18) 41 dX10_said_18 (by decide) (fun c18 => ?_) (fun c18 => ?_)
      rotate_left -- leaf 1: at 41
      refine b_iloadG (pc := 21) 4 dX10_said_21 rfl ?_
      refine b_iconst (pc := 23) (nI 1) dX10_said_23 (by decide) ?_
      refine b_icmp_lt (pc := 24) 41 dX10_said_24 (by decide) (fun c24 => ?_) (fun c24 => ?_)
      rotate_left -- leaf 2: at 41
      refine b_iloadG (pc := 27) 4 dX10_said_27 rfl ?_
      refine b_iconst (pc := 29) (nI 4) dX10_said_29 (by decide) ?_
      refine b_icmp_gt (pc := 30) 41 dX10_said_30 (by decide) (fun c30 => ?_) (fun c30 => ?_)
      rotate_left -- leaf 3: at 41
      refine b_iloadG (pc := 33) 5 dX10_said_33 rfl ?_
      refine call_X10_isNoBit (pc := 35) k709 (by decide) ⟨Nat.le_of_ble_eq_true rfl, Nat.le_of_ble_eq_true rfl⟩ (Nat.le_of_ble_eq_true rfl) dX10_said_35 ?_
      refine ⟨_, rfl, ?_⟩
      refine b_if_eq (pc := 38) 44 dX10_said_38 (by decide) (fun c38 => ?_) (fun c38 => ?_)
      refine b_aloadN (pc := 44) 0 dX10_said_44 rfl rfl ?_
      refine gf10_0 (pc := 45) 1 rfl k415 dX10_said_45 ?_
      refine b_iloadN (pc := 48) 2 dX10_said_48 rfl rfl ?_
      refine b_iloadN (pc := 49) 3 dX10_said_49 rfl rfl ?_
      refine b_iloadG (pc := 50) 4 dX10_said_50 rfl ?_
      refine call_X6_lack (pc := 52) k468 (by decide) ⟨Nat.le_of_ble_eq_true rfl, Nat.le_of_ble_eq_true rfl⟩ (Nat.le_of_ble_eq_true rfl) dX10_said_52 ?_
      refine ⟨_, _, _, rfl, La, Ma, It, r, hR, rfl, hr, ?_⟩
      refine siG6 (pc := 55) notL_i (by decide) dX10_said_55 ?_
      refine b_iloadG (pc := 57) 6 dX10_said_57 rfl ?_
      refine b_if_eq (pc := 59) 69 dX10_said_59 (by decide) (fun c59 => ?_) (fun c59 => ?_)
      rotate_left -- leaf 4: at 69
      refine b_aloadN (pc := 62) 0 dX10_said_62 rfl rfl ?_
      refine b_iloadG (pc := 63) 6 dX10_said_63 rfl ?_
      refine call_X10_found (pc := 65) k451 (by decide) ⟨Nat.le_of_ble_eq_true rfl, Nat.le_of_ble_eq_true rfl⟩ (Nat.le_of_ble_eq_true rfl) dX10_said_65 ?_
      refine ⟨_, rfl, ?_⟩
      refine b_iret (pc := 68) rfl dX10_said_68 ⟨Nat.le_of_ble_eq_true rfl, Nat.le_of_ble_eq_true rfl⟩ ?_
      rotate_left -- leaf 5: return at 68
      rotate_left -- leaf 6: at 41
      -- leaves: 0 at 41; 1 at 41; 2 at 41; 3 at 41; 4 at 69; 5 return at 68; 6 at 41
      · exact (no11 c11).elim
      · exact (no18 c18).elim
      · exact absurd c24 hn4.1
      · exact absurd hn4.2 (Int32.not_le.mpr c30)
      · rw [n_eq0 (by omega)] at c59
        exact absurd c59 hz
      · exact bad
      · exact (no38 c38).elim
  · have e : saiC C p r n w = false := by
      cases q : saiC C p r n w
      · rfl
      · exact absurd q hc
    have bad := h1 e
    refine b_aloadN (pc := 0) 0 dX10_said_0 rfl rfl ?_
    refine gf10_2 (pc := 1) 20 rfl k417 dX10_said_1 ?_
    refine gf2_0 (pc := 4) 21 rfl k269 dX10_said_4 ?_
    refine b_iloadN (pc := 7) 1 dX10_said_7 rfl rfl ?_
    refine call_X5_isPerson (pc := 8) k642 (by decide) ⟨Nat.le_of_ble_eq_true rfl, Nat.le_of_ble_eq_true rfl⟩ (Nat.le_of_ble_eq_true rfl) dX10_said_8 ?_
    refine ⟨_, rfl, _, hC.num.2.2.2.1, ?_⟩
    refine b_if_eq (pc := 11) 41 dX10_said_11 (by decide) (fun c11 => ?_) (fun c11 => ?_)
    refine b_ldc (pc := 41) k450 dX10_said_41 ?_
    refine b_iret (pc := 43) rfl dX10_said_43 ⟨Nat.le_of_ble_eq_true rfl, Nat.le_of_ble_eq_true rfl⟩ ?_
    rotate_left -- leaf 0: return at 43
    refine b_iloadN (pc := 14) 2 dX10_said_14 rfl rfl ?_
    refine call_X10_isRow (pc := 15) k447 (by decide) ⟨Nat.le_of_ble_eq_true rfl, Nat.le_of_ble_eq_true rfl⟩ (Nat.le_of_ble_eq_true rfl) dX10_said_15 ?_
    refine ⟨_, rfl, ?_⟩
    refine b_if_eq (pc := 18) 41 dX10_said_18 (by decide) (fun c18 => ?_) (fun c18 => ?_)
    refine b_ldc (pc := 41) k450 dX10_said_41 ?_
    refine b_iret (pc := 43) rfl dX10_said_43 ⟨Nat.le_of_ble_eq_true rfl, Nat.le_of_ble_eq_true rfl⟩ ?_
    rotate_left -- leaf 1: return at 43
    refine b_iloadG (pc := 21) 4 dX10_said_21 rfl ?_
    refine b_iconst (pc := 23) (nI 1) dX10_said_23 (by decide) ?_
    refine b_icmp_lt (pc := 24) 41 dX10_said_24 (by decide) (fun c24 => ?_) (fun c24 => ?_)
    refine b_ldc (pc := 41) k450 dX10_said_41 ?_
    refine b_iret (pc := 43) rfl dX10_said_43 ⟨Nat.le_of_ble_eq_true rfl, Nat.le_of_ble_eq_true rfl⟩ ?_
    rotate_left -- leaf 2: return at 43
    refine b_iloadG (pc := 27) 4 dX10_said_27 rfl ?_
    refine b_iconst (pc := 29) (nI 4) dX10_said_29 (by decide) ?_
    refine b_icmp_gt (pc := 30) 41 dX10_said_30 (by decide) (fun c30 => ?_) (fun c30 => ?_)
    refine b_ldc (pc := 41) k450 dX10_said_41 ?_
    refine b_iret (pc := 43) rfl dX10_said_43 ⟨Nat.le_of_ble_eq_true rfl, Nat.le_of_ble_eq_true rfl⟩ ?_
    rotate_left -- leaf 3: return at 43
    refine b_iloadG (pc := 33) 5 dX10_said_33 rfl ?_
    refine call_X10_isNoBit (pc := 35) k709 (by decide) ⟨Nat.le_of_ble_eq_true rfl, Nat.le_of_ble_eq_true rfl⟩ (Nat.le_of_ble_eq_true rfl) dX10_said_35 ?_
    refine ⟨_, rfl, ?_⟩
    refine b_if_eq (pc := 38) 44 dX10_said_38 (by decide) (fun c38 => ?_) (fun c38 => ?_)
    rotate_left -- leaf 4: at 44
    refine b_ldc (pc := 41) k450 dX10_said_41 ?_
    refine b_iret (pc := 43) rfl dX10_said_43 ⟨Nat.le_of_ble_eq_true rfl, Nat.le_of_ble_eq_true rfl⟩ ?_
    rotate_left -- leaf 5: return at 43
    -- leaves: 0 return at 43; 1 return at 43; 2 return at 43; 3 return at 43; 4 at 44; 5 return at 43
    · exact bad
    · exact bad
    · exact bad
    · exact bad
    · exact absurd (by unfold saiC; rw [bT c11, bT c18, (nN (K := 4) (by omega)).mp ⟨c24, Int32.not_lt.mp c30⟩, dT c38]; rfl) hc
    · exact bad
theorem call_X10_said {E : ME} {Φ : Option AV → AM → Prop} {pc : Nat} {L : List (Option AV)} {st : List AV} {m : AM} {a : Nat × Nat} {idx : Nat} {x0 x1 x2 x3 x4 : AV} {i : Nat} (hl : Cond.methodLink E.2.1 idx yX10_said ∈ TB) (hdep : 8 + 1 ≤ E.2.2.2.2.2.2) (hroom : a.1 + 1 ≤ E.2.2.2.2.1 ∧ a.2 + 40 ≤ E.2.2.2.2.2.1) (hsr : st.length ≤ 4) (hd : decode E.1 pc = .ok (.invokevirtual idx, 3)) (hsp : Sp_X10_said [vr 10 i, x0, x1, x2, x3, x4] m (fun r m2 => B E Φ (pc + 3) L (r.toList ++ st) m2 (a.1 + 1, a.2 + 40))) : B E Φ pc L (x4 :: x3 :: x2 :: x1 :: x0 :: vr 10 i :: st) m a := b_callV S_X10_said [x0, x1, x2, x3, x4] (RX10, TX10, 9) rfl rfl (by decide) (Or.inl hl) k859 k860 k68 k861 (show _ ∧ _ ∧ Option.map (fun d => d.parameters.length) (parseMethodDescriptor yX10_said.desc) = some 5 from by decide +kernel) ⟨hdep, by decide⟩ hroom hsr hd hsp
