/-! shortest, cheapest of the reference -/
theorem goC_at (C : Nat → Nat) (x y z : Int32) : goC C x y z = (atB C x y && inB z 2) := by
  unfold goC atB
  rw [Bool.and_assoc, Bool.and_assoc]
abbrev e_X11_shortest : ME := (cX11_shortest, (RX11, (4, ((some .int), (0, (0, 8))))))
theorem dX11_shortest_0 : decode cX11_shortest 0 = .ok (.aload_n 0, 1) := by decide +kernel
theorem dX11_shortest_1 : decode cX11_shortest 1 = .ok (.iconst 0, 1) := by decide +kernel
theorem dX11_shortest_2 : decode cX11_shortest 2 = .ok (.putfield 53, 3) := by decide +kernel
theorem dX11_shortest_5 : decode cX11_shortest 5 = .ok (.aload_n 0, 1) := by decide +kernel
theorem dX11_shortest_6 : decode cX11_shortest 6 = .ok (.invokevirtual 199, 3) := by decide +kernel
theorem dX11_shortest_9 : decode cX11_shortest 9 = .ok (.ifCond .ne 6, 3) := by decide +kernel
theorem dX11_shortest_12 : decode cX11_shortest 12 = .ok (.ldc 195, 2) := by decide +kernel
theorem dX11_shortest_14 : decode cX11_shortest 14 = .ok (.ireturn, 1) := by decide +kernel
theorem dX11_shortest_15 : decode cX11_shortest 15 = .ok (.aload_n 0, 1) := by decide +kernel
theorem dX11_shortest_16 : decode cX11_shortest 16 = .ok (.iload_n 1, 1) := by decide +kernel
theorem dX11_shortest_17 : decode cX11_shortest 17 = .ok (.iload_n 2, 1) := by decide +kernel
theorem dX11_shortest_18 : decode cX11_shortest 18 = .ok (.invokevirtual 220, 3) := by decide +kernel
theorem dX11_shortest_21 : decode cX11_shortest 21 = .ok (.ifCond .eq 13, 3) := by decide +kernel
theorem dX11_shortest_24 : decode cX11_shortest 24 = .ok (.iload_n 3, 1) := by decide +kernel
theorem dX11_shortest_25 : decode cX11_shortest 25 = .ok (.i2l, 1) := by decide +kernel
theorem dX11_shortest_26 : decode cX11_shortest 26 = .ok (.lconst 0, 1) := by decide +kernel
theorem dX11_shortest_27 : decode cX11_shortest 27 = .ok (.lconst 1, 1) := by decide +kernel
theorem dX11_shortest_28 : decode cX11_shortest 28 = .ok (.invokestatic 63, 3) := by decide +kernel
theorem dX11_shortest_31 : decode cX11_shortest 31 = .ok (.ifCond .ne 6, 3) := by decide +kernel
theorem dX11_shortest_34 : decode cX11_shortest 34 = .ok (.ldc 73, 2) := by decide +kernel
theorem dX11_shortest_36 : decode cX11_shortest 36 = .ok (.ireturn, 1) := by decide +kernel
theorem dX11_shortest_37 : decode cX11_shortest 37 = .ok (.aload_n 0, 1) := by decide +kernel
theorem dX11_shortest_38 : decode cX11_shortest 38 = .ok (.iload_n 1, 1) := by decide +kernel
theorem dX11_shortest_39 : decode cX11_shortest 39 = .ok (.iload_n 2, 1) := by decide +kernel
theorem dX11_shortest_40 : decode cX11_shortest 40 = .ok (.invokevirtual 224, 3) := by decide +kernel
theorem dX11_shortest_43 : decode cX11_shortest 43 = .ok (.ifCond .eq 14, 3) := by decide +kernel
theorem dX11_shortest_46 : decode cX11_shortest 46 = .ok (.iload_n 3, 1) := by decide +kernel
theorem dX11_shortest_47 : decode cX11_shortest 47 = .ok (.ifCond .ne 7, 3) := by decide +kernel
theorem dX11_shortest_50 : decode cX11_shortest 50 = .ok (.iconst 0, 1) := by decide +kernel
theorem dX11_shortest_51 : decode cX11_shortest 51 = .ok (.goto 5, 3) := by decide +kernel
theorem dX11_shortest_54 : decode cX11_shortest 54 = .ok (.ldc 96, 2) := by decide +kernel
theorem dX11_shortest_56 : decode cX11_shortest 56 = .ok (.ireturn, 1) := by decide +kernel
theorem dX11_shortest_57 : decode cX11_shortest 57 = .ok (.aload_n 0, 1) := by decide +kernel
theorem dX11_shortest_58 : decode cX11_shortest 58 = .ok (.iconst 0, 1) := by decide +kernel
theorem dX11_shortest_59 : decode cX11_shortest 59 = .ok (.invokevirtual 227, 3) := by decide +kernel
theorem dX11_shortest_62 : decode cX11_shortest 62 = .ok (.aload_n 0, 1) := by decide +kernel
theorem dX11_shortest_63 : decode cX11_shortest 63 = .ok (.iload_n 1, 1) := by decide +kernel
theorem dX11_shortest_64 : decode cX11_shortest 64 = .ok (.iload_n 2, 1) := by decide +kernel
theorem dX11_shortest_65 : decode cX11_shortest 65 = .ok (.iload_n 3, 1) := by decide +kernel
theorem dX11_shortest_66 : decode cX11_shortest 66 = .ok (.invokevirtual 230, 3) := by decide +kernel
theorem dX11_shortest_69 : decode cX11_shortest 69 = .ok (.ireturn, 1) := by decide +kernel
def Sp_X11_shortest (av : List AV) (m : AM) (Φ : Option AV → AM → Prop) : Prop := ∃ x y z, av = [vr 11 110, vi x, vi y, vi z] ∧ ∃ C, MCo m C ∧ (∀ v, v = refG C x y z → ¬ v = 0 → ∀ m2, Fm [] [0] m m2 → Φ (some (vi v)) m2) ∧ (∀ A Bn w, x = nI A → y = nI Bn → z = nI w → A < 2 ^ C 0 → Bn < 2 ^ C 0 → w < 2 → A &&& Bn = 0 → refG C x y z = 0 → ∀ m2 r, Fm [118, 119, 120, 121] [0, 22, 23] m m2 → (metB A Bn (C 1) = true ∨ bestW C 0 A Bn r) → Φ (some (vi (goV C 0 A Bn w r))) m2)
set_option maxRecDepth 20000 in
set_option maxHeartbeats 4000000 in
theorem S_X11_shortest : Snd yX11_shortest e_X11_shortest Sp_X11_shortest := by
  refine Snd.of (by decide +kernel) rfl ?_ ?_
  · rintro av m Φ ⟨x, y, z, rfl, _⟩; exact Nat.le_of_ble_eq_true rfl
  rintro av m Φ ⟨x, y, z, rfl, C, hC, h1, h2⟩ hav hty
  show B e_X11_shortest Φ 0 [some (vr 11 110), some (vi x), some (vi y), some (vi z)] [] m (0, 0)
  have hle := hC.le
  have hpw := hC.pow
  have hC2 : MCo (mset m 110 0 (nI 0)) C := ⟨MC.ms hC.1 (by decide), hC.2⟩
  have f0 : Fm [] [0] m (mset m 110 0 (nI 0)) := (Fm.rf _ _ m).m0 (by simp)
  by_cases hz : refG C x y z = 0
  · obtain ⟨h0, hg⟩ := refG_ok hz
    obtain ⟨A, Bn, w, rfl, rfl, rfl, hA, hBn, hw, hAB⟩ := goC_to hpw hg
    have hv := hC.op (Or.inl h0)
    have hA64 : A < 64 := by omega
    have hB64 : Bn < 64 := by omega
    have h3 := h2 A Bn w rfl rfl rfl hA hBn hw hAB hz
    rw [goC_at, Bool.and_eq_true] at hg
    have f2 : Fm [118, 119, 120, 121] [0, 22, 23] m (mset m 110 0 (nI 0)) := (Fm.rf _ _ m).m0 (by simp)
    have no : metB A Bn (C 1) = true → Φ (some (vi (if w = 0 then nI 0 else -1000000))) (mset m 110 0 (nI 0)) := by
      intro a
      have t := h3 _ none f2 (Or.inl a)
      unfold goV at t
      rw [if_pos a] at t
      exact t
    have yes : ¬ metB A Bn (C 1) = true → ∀ m2 r, Fm [118, 119, 120, 121] [22, 23] (mset m 110 0 (nI 0)) m2 → bestW C 0 A Bn r → Φ (some (vi (goA (wtP C 0) r w))) m2 := by
      intro a m2 r b e
      have t := h3 m2 r (f2.tr (b.mono2 (fun a z => z) (fun a z => by simp at z; simp [z]))) (Or.inr e)
      unfold goV at t
      rw [if_neg a] at t
      exact t
    refine b_aloadN (pc := 0) 0 dX11_shortest_0 rfl rfl ?_
    refine b_iconst (pc := 1) (nI 0) dX11_shortest_1 (by decide) ?_
    refine pf11_0 (pc := 2) k1042 dX11_shortest_2 ?_
    refine b_aloadN (pc := 5) 0 dX11_shortest_5 rfl rfl ?_
    refine call_X11_isThere (pc := 6) k1292 (by decide) ⟨Nat.le_of_ble_eq_true rfl, Nat.le_of_ble_eq_true rfl⟩ (Nat.le_of_ble_eq_true rfl) dX11_shortest_6 ?_
    refine ⟨rfl, _, hC.1 0 (by omega), ?_, ?_⟩
    rotate_left -- leaf 0: six of X11_isThere at 6
    refine b_if_ne (pc := 9) 15 dX11_shortest_9 (by decide) (fun c9 => ?_) (fun c9 => ?_)
    refine b_aloadN (pc := 15) 0 dX11_shortest_15 rfl rfl ?_
    refine b_iloadN (pc := 16) 1 dX11_shortest_16 rfl rfl ?_
    refine b_iloadN (pc := 17) 2 dX11_shortest_17 rfl rfl ?_
    refine call_X11_areTold (pc := 18) k1313 (by decide) ⟨Nat.le_of_ble_eq_true rfl, Nat.le_of_ble_eq_true rfl⟩ (Nat.le_of_ble_eq_true rfl) dX11_shortest_18 ?_
    refine ⟨_, _, rfl, C, hC2, hle.1, ?_⟩
    refine b_if_eq (pc := 21) 34 dX11_shortest_21 (by decide) (fun c21 => ?_) (fun c21 => ?_)
    rotate_left -- leaf 1: at 34
    refine b_iloadN (pc := 24) 3 dX11_shortest_24 rfl rfl ?_
    refine b_i2l (pc := 25) dX11_shortest_25 ?_
    refine b_lconst (pc := 26) 0 dX11_shortest_26 (by decide) ?_
    refine b_lconst (pc := 27) 1 dX11_shortest_27 (by decide) ?_
    refine call_X11_in (pc := 28) k1136 (by decide) ⟨Nat.le_of_ble_eq_true rfl, Nat.le_of_ble_eq_true rfl⟩ (Nat.le_of_ble_eq_true rfl) dX11_shortest_28 ?_
    refine ⟨_, _, _, rfl, ?_⟩
    refine b_if_ne (pc := 31) 37 dX11_shortest_31 (by decide) (fun c31 => ?_) (fun c31 => ?_)
    refine b_aloadN (pc := 37) 0 dX11_shortest_37 rfl rfl ?_
    refine b_iloadN (pc := 38) 1 dX11_shortest_38 rfl rfl ?_
    refine b_iloadN (pc := 39) 2 dX11_shortest_39 rfl rfl ?_
    refine call_X11_isSoNow (pc := 40) k1321 (by decide) ⟨Nat.le_of_ble_eq_true rfl, Nat.le_of_ble_eq_true rfl⟩ (Nat.le_of_ble_eq_true rfl) dX11_shortest_40 ?_
    refine ⟨_, _, rfl, C, A, Bn, hC2.1, hv.c1, rfl, rfl, hA64, ?_⟩
    refine b_if_eq (pc := 43) 57 dX11_shortest_43 (by decide) (fun c43 => ?_) (fun c43 => ?_)
    refine b_aloadN (pc := 57) 0 dX11_shortest_57 rfl rfl ?_
    refine b_iconst (pc := 58) (nI 0) dX11_shortest_58 (by decide) ?_
    refine call_X11_spread (pc := 59) k1325 (by decide) ⟨Nat.le_of_ble_eq_true rfl, Nat.le_of_ble_eq_true rfl⟩ (Nat.le_of_ble_eq_true rfl) dX11_shortest_59 ?_
    refine ⟨_, rfl, C, 0, hv, hC2.1, by omega, rfl, fun m59 lab fm59 far59 => ?_⟩
    refine b_aloadN (pc := 62) 0 dX11_shortest_62 rfl rfl ?_
    refine b_iloadN (pc := 63) 1 dX11_shortest_63 rfl rfl ?_
    refine b_iloadN (pc := 64) 2 dX11_shortest_64 rfl rfl ?_
    refine b_iloadN (pc := 65) 3 dX11_shortest_65 rfl rfl ?_
    refine call_X11_bestOf (pc := 66) k1337 (by decide) ⟨Nat.le_of_ble_eq_true rfl, Nat.le_of_ble_eq_true rfl⟩ (Nat.le_of_ble_eq_true rfl) dX11_shortest_66 ?_
    refine ⟨_, _, _, rfl, C, 0, A, Bn, w, lab, hv, rfl, rfl, rfl, hA64, hB64, hw, far59, fun r hbest => ?_⟩
    refine b_iret (pc := 69) rfl dX11_shortest_69 ⟨Nat.le_of_ble_eq_true rfl, Nat.le_of_ble_eq_true rfl⟩ ?_
    rotate_left -- leaf 2: return at 69
    refine b_iloadN (pc := 46) 3 dX11_shortest_46 rfl rfl ?_
    refine b_if_ne (pc := 47) 54 dX11_shortest_47 (by decide) (fun c47 => ?_) (fun c47 => ?_)
    refine b_ldc (pc := 54) k1180 dX11_shortest_54 ?_
    refine b_iret (pc := 56) rfl dX11_shortest_56 ⟨Nat.le_of_ble_eq_true rfl, Nat.le_of_ble_eq_true rfl⟩ ?_
    rotate_left -- leaf 3: return at 56
    refine b_iconst (pc := 50) (nI 0) dX11_shortest_50 (by decide) ?_
    refine b_goto (pc := 51) 56 dX11_shortest_51 (by decide) ?_
    refine b_iret (pc := 56) rfl dX11_shortest_56 ⟨Nat.le_of_ble_eq_true rfl, Nat.le_of_ble_eq_true rfl⟩ ?_
    rotate_left -- leaf 4: return at 56
    rotate_left -- leaf 5: at 34
    refine b_ldc (pc := 12) k1275 dX11_shortest_12 ?_
    refine b_iret (pc := 14) rfl dX11_shortest_14 ⟨Nat.le_of_ble_eq_true rfl, Nat.le_of_ble_eq_true rfl⟩ ?_
    rotate_left -- leaf 6: return at 14
    -- leaves: 0 six of X11_isThere at 6; 1 at 34; 2 return at 69; 3 return at 56; 4 return at 56; 5 at 34; 6 return at 14
    · exact hle.1
    · rw [hg.1] at c21
      exact absurd c21 (by decide)
    · exact yes (by rw [bF c43]; decide) m59 r fm59 hbest
    · have y := no (bT c43)
      rw [if_neg (fun z => c47 (by rw [z]; rfl))] at y
      exact y
    · have y := no (bT c43)
      rw [n_eq0 (by omega)] at c47
      rw [if_pos c47] at y
      exact y
    · rw [inLc 2 rfl (by omega), hg.2] at c31
      exact absurd c31 (by decide)
    · have := zT c9; omega
  · have h3 := h1 _ rfl hz _ f0
    unfold refG at h3 hz
    refine b_aloadN (pc := 0) 0 dX11_shortest_0 rfl rfl ?_
    refine b_iconst (pc := 1) (nI 0) dX11_shortest_1 (by decide) ?_
    refine pf11_0 (pc := 2) k1042 dX11_shortest_2 ?_
    refine b_aloadN (pc := 5) 0 dX11_shortest_5 rfl rfl ?_
    refine call_X11_isThere (pc := 6) k1292 (by decide) ⟨Nat.le_of_ble_eq_true rfl, Nat.le_of_ble_eq_true rfl⟩ (Nat.le_of_ble_eq_true rfl) dX11_shortest_6 ?_
    refine ⟨rfl, _, hC.1 0 (by omega), ?_, ?_⟩
    rotate_left -- leaf 0: six of X11_isThere at 6
    refine b_if_ne (pc := 9) 15 dX11_shortest_9 (by decide) (fun c9 => ?_) (fun c9 => ?_)
    refine b_aloadN (pc := 15) 0 dX11_shortest_15 rfl rfl ?_
    refine b_iloadN (pc := 16) 1 dX11_shortest_16 rfl rfl ?_
    refine b_iloadN (pc := 17) 2 dX11_shortest_17 rfl rfl ?_
    refine call_X11_areTold (pc := 18) k1313 (by decide) ⟨Nat.le_of_ble_eq_true rfl, Nat.le_of_ble_eq_true rfl⟩ (Nat.le_of_ble_eq_true rfl) dX11_shortest_18 ?_
    refine ⟨_, _, rfl, C, hC2, hle.1, ?_⟩
    refine b_if_eq (pc := 21) 34 dX11_shortest_21 (by decide) (fun c21 => ?_) (fun c21 => ?_)
    refine b_ldc (pc := 34) k1140 dX11_shortest_34 ?_
    refine b_iret (pc := 36) rfl dX11_shortest_36 ⟨Nat.le_of_ble_eq_true rfl, Nat.le_of_ble_eq_true rfl⟩ ?_
    rotate_left -- leaf 1: return at 36
    refine b_iloadN (pc := 24) 3 dX11_shortest_24 rfl rfl ?_
    refine b_i2l (pc := 25) dX11_shortest_25 ?_
    refine b_lconst (pc := 26) 0 dX11_shortest_26 (by decide) ?_
    refine b_lconst (pc := 27) 1 dX11_shortest_27 (by decide) ?_
    refine call_X11_in (pc := 28) k1136 (by decide) ⟨Nat.le_of_ble_eq_true rfl, Nat.le_of_ble_eq_true rfl⟩ (Nat.le_of_ble_eq_true rfl) dX11_shortest_28 ?_
    refine ⟨_, _, _, rfl, ?_⟩
    refine b_if_ne (pc := 31) 37 dX11_shortest_31 (by decide) (fun c31 => ?_) (fun c31 => ?_)
    rotate_left -- leaf 2: at 37
    refine b_ldc (pc := 34) k1140 dX11_shortest_34 ?_
    refine b_iret (pc := 36) rfl dX11_shortest_36 ⟨Nat.le_of_ble_eq_true rfl, Nat.le_of_ble_eq_true rfl⟩ ?_
    rotate_left -- leaf 3: return at 36
    refine b_ldc (pc := 12) k1275 dX11_shortest_12 ?_
    refine b_iret (pc := 14) rfl dX11_shortest_14 ⟨Nat.le_of_ble_eq_true rfl, Nat.le_of_ble_eq_true rfl⟩ ?_
    rotate_left -- leaf 4: return at 14
    -- leaves: 0 six of X11_isThere at 6; 1 return at 36; 2 at 37; 3 return at 36; 4 return at 14
    · exact hle.1
    · have := zF c9
      rw [if_neg (by omega), goC_at, bF c21, Bool.false_and, if_neg (by decide)] at h3
      exact h3
    · have := zF c9
      rw [inLc 2 rfl (by omega)] at c31
      refine absurd ?_ hz
      rw [if_neg (by omega), goC_at, bT c21, bT c31]
      rfl
    · have := zF c9
      rw [inLc 2 rfl (by omega)] at c31
      rw [if_neg (by omega), goC_at, bF c31, Bool.and_false, if_neg (by decide)] at h3
      exact h3
    · rw [if_pos (zT c9)] at h3
      exact h3
theorem call_X11_shortest {E : ME} {Φ : Option AV → AM → Prop} {pc : Nat} {L : List (Option AV)} {st : List AV} {m : AM} {a : Nat × Nat} {idx : Nat} {x0 x1 x2 : AV} {i : Nat} (hl : Cond.methodLink E.2.1 idx yX11_shortest ∈ TB) (hdep : 8 + 1 ≤ E.2.2.2.2.2.2) (hroom : a.1 + 0 ≤ E.2.2.2.2.1 ∧ a.2 + 0 ≤ E.2.2.2.2.2.1) (hsr : st.length ≤ 4) (hd : decode E.1 pc = .ok (.invokevirtual idx, 3)) (hsp : Sp_X11_shortest [vr 11 i, x0, x1, x2] m (fun r m2 => B E Φ (pc + 3) L (r.toList ++ st) m2 a)) : B E Φ pc L (x2 :: x1 :: x0 :: vr 11 i :: st) m a := b_callV S_X11_shortest [x0, x1, x2] (RX11, TX11, 28) rfl rfl (by decide) (Or.inl hl) k1310 k1311 k80 k1312 (show _ ∧ _ ∧ Option.map (fun d => d.parameters.length) (parseMethodDescriptor yX11_shortest.desc) = some 3 from by decide +kernel) ⟨hdep, by decide⟩ hroom hsr hd hsp
abbrev e_X11_cheapest : ME := (cX11_cheapest, (RX11, (4, ((some .int), (0, (0, 8))))))
theorem dX11_cheapest_0 : decode cX11_cheapest 0 = .ok (.aload_n 0, 1) := by decide +kernel
theorem dX11_cheapest_1 : decode cX11_cheapest 1 = .ok (.iconst 0, 1) := by decide +kernel
theorem dX11_cheapest_2 : decode cX11_cheapest 2 = .ok (.putfield 53, 3) := by decide +kernel
theorem dX11_cheapest_5 : decode cX11_cheapest 5 = .ok (.aload_n 0, 1) := by decide +kernel
theorem dX11_cheapest_6 : decode cX11_cheapest 6 = .ok (.invokevirtual 199, 3) := by decide +kernel
theorem dX11_cheapest_9 : decode cX11_cheapest 9 = .ok (.ifCond .ne 6, 3) := by decide +kernel
theorem dX11_cheapest_12 : decode cX11_cheapest 12 = .ok (.ldc 195, 2) := by decide +kernel
theorem dX11_cheapest_14 : decode cX11_cheapest 14 = .ok (.ireturn, 1) := by decide +kernel
theorem dX11_cheapest_15 : decode cX11_cheapest 15 = .ok (.aload_n 0, 1) := by decide +kernel
theorem dX11_cheapest_16 : decode cX11_cheapest 16 = .ok (.iload_n 1, 1) := by decide +kernel
theorem dX11_cheapest_17 : decode cX11_cheapest 17 = .ok (.iload_n 2, 1) := by decide +kernel
theorem dX11_cheapest_18 : decode cX11_cheapest 18 = .ok (.invokevirtual 220, 3) := by decide +kernel
theorem dX11_cheapest_21 : decode cX11_cheapest 21 = .ok (.ifCond .eq 13, 3) := by decide +kernel
theorem dX11_cheapest_24 : decode cX11_cheapest 24 = .ok (.iload_n 3, 1) := by decide +kernel
theorem dX11_cheapest_25 : decode cX11_cheapest 25 = .ok (.i2l, 1) := by decide +kernel
theorem dX11_cheapest_26 : decode cX11_cheapest 26 = .ok (.lconst 0, 1) := by decide +kernel
theorem dX11_cheapest_27 : decode cX11_cheapest 27 = .ok (.lconst 1, 1) := by decide +kernel
theorem dX11_cheapest_28 : decode cX11_cheapest 28 = .ok (.invokestatic 63, 3) := by decide +kernel
theorem dX11_cheapest_31 : decode cX11_cheapest 31 = .ok (.ifCond .ne 6, 3) := by decide +kernel
theorem dX11_cheapest_34 : decode cX11_cheapest 34 = .ok (.ldc 73, 2) := by decide +kernel
theorem dX11_cheapest_36 : decode cX11_cheapest 36 = .ok (.ireturn, 1) := by decide +kernel
theorem dX11_cheapest_37 : decode cX11_cheapest 37 = .ok (.aload_n 0, 1) := by decide +kernel
theorem dX11_cheapest_38 : decode cX11_cheapest 38 = .ok (.iload_n 1, 1) := by decide +kernel
theorem dX11_cheapest_39 : decode cX11_cheapest 39 = .ok (.iload_n 2, 1) := by decide +kernel
theorem dX11_cheapest_40 : decode cX11_cheapest 40 = .ok (.invokevirtual 224, 3) := by decide +kernel
theorem dX11_cheapest_43 : decode cX11_cheapest 43 = .ok (.ifCond .eq 14, 3) := by decide +kernel
theorem dX11_cheapest_46 : decode cX11_cheapest 46 = .ok (.iload_n 3, 1) := by decide +kernel
theorem dX11_cheapest_47 : decode cX11_cheapest 47 = .ok (.ifCond .ne 7, 3) := by decide +kernel
theorem dX11_cheapest_50 : decode cX11_cheapest 50 = .ok (.iconst 0, 1) := by decide +kernel
theorem dX11_cheapest_51 : decode cX11_cheapest 51 = .ok (.goto 5, 3) := by decide +kernel
theorem dX11_cheapest_54 : decode cX11_cheapest 54 = .ok (.ldc 96, 2) := by decide +kernel
theorem dX11_cheapest_56 : decode cX11_cheapest 56 = .ok (.ireturn, 1) := by decide +kernel
theorem dX11_cheapest_57 : decode cX11_cheapest 57 = .ok (.aload_n 0, 1) := by decide +kernel
theorem dX11_cheapest_58 : decode cX11_cheapest 58 = .ok (.iconst 1, 1) := by decide +kernel
theorem dX11_cheapest_59 : decode cX11_cheapest 59 = .ok (.invokevirtual 227, 3) := by decide +kernel
theorem dX11_cheapest_62 : decode cX11_cheapest 62 = .ok (.aload_n 0, 1) := by decide +kernel
theorem dX11_cheapest_63 : decode cX11_cheapest 63 = .ok (.iload_n 1, 1) := by decide +kernel
theorem dX11_cheapest_64 : decode cX11_cheapest 64 = .ok (.iload_n 2, 1) := by decide +kernel
theorem dX11_cheapest_65 : decode cX11_cheapest 65 = .ok (.iload_n 3, 1) := by decide +kernel
theorem dX11_cheapest_66 : decode cX11_cheapest 66 = .ok (.invokevirtual 230, 3) := by decide +kernel
theorem dX11_cheapest_69 : decode cX11_cheapest 69 = .ok (.ireturn, 1) := by decide +kernel
def Sp_X11_cheapest (av : List AV) (m : AM) (Φ : Option AV → AM → Prop) : Prop := ∃ x y z, av = [vr 11 110, vi x, vi y, vi z] ∧ ∃ C, MCo m C ∧ (∀ v, v = refG C x y z → ¬ v = 0 → ∀ m2, Fm [] [0] m m2 → Φ (some (vi v)) m2) ∧ (∀ A Bn w, x = nI A → y = nI Bn → z = nI w → A < 2 ^ C 0 → Bn < 2 ^ C 0 → w < 2 → A &&& Bn = 0 → refG C x y z = 0 → ∀ m2 r, Fm [118, 119, 120, 121] [0, 22, 23] m m2 → (metB A Bn (C 1) = true ∨ bestW C 1 A Bn r) → Φ (some (vi (goV C 1 A Bn w r))) m2)
set_option maxRecDepth 20000 in
set_option maxHeartbeats 4000000 in
theorem S_X11_cheapest : Snd yX11_cheapest e_X11_cheapest Sp_X11_cheapest := by
  refine Snd.of (by decide +kernel) rfl ?_ ?_
  · rintro av m Φ ⟨x, y, z, rfl, _⟩; exact Nat.le_of_ble_eq_true rfl
  rintro av m Φ ⟨x, y, z, rfl, C, hC, h1, h2⟩ hav hty
  show B e_X11_cheapest Φ 0 [some (vr 11 110), some (vi x), some (vi y), some (vi z)] [] m (0, 0)
  have hle := hC.le
  have hpw := hC.pow
  have hC2 : MCo (mset m 110 0 (nI 0)) C := ⟨MC.ms hC.1 (by decide), hC.2⟩
  have f0 : Fm [] [0] m (mset m 110 0 (nI 0)) := (Fm.rf _ _ m).m0 (by simp)
  by_cases hz : refG C x y z = 0
  · obtain ⟨h0, hg⟩ := refG_ok hz
    obtain ⟨A, Bn, w, rfl, rfl, rfl, hA, hBn, hw, hAB⟩ := goC_to hpw hg
    have hv := hC.op (Or.inl h0)
    have hA64 : A < 64 := by omega
    have hB64 : Bn < 64 := by omega
    have h3 := h2 A Bn w rfl rfl rfl hA hBn hw hAB hz
    rw [goC_at, Bool.and_eq_true] at hg
    have f2 : Fm [118, 119, 120, 121] [0, 22, 23] m (mset m 110 0 (nI 0)) := (Fm.rf _ _ m).m0 (by simp)
    have no : metB A Bn (C 1) = true → Φ (some (vi (if w = 0 then nI 0 else -1000000))) (mset m 110 0 (nI 0)) := by
      intro a
      have t := h3 _ none f2 (Or.inl a)
      unfold goV at t
      rw [if_pos a] at t
      exact t
    have yes : ¬ metB A Bn (C 1) = true → ∀ m2 r, Fm [118, 119, 120, 121] [22, 23] (mset m 110 0 (nI 0)) m2 → bestW C 1 A Bn r → Φ (some (vi (goA (wtP C 1) r w))) m2 := by
      intro a m2 r b e
      have t := h3 m2 r (f2.tr (b.mono2 (fun a z => z) (fun a z => by simp at z; simp [z]))) (Or.inr e)
      unfold goV at t
      rw [if_neg a] at t
      exact t
    refine b_aloadN (pc := 0) 0 dX11_cheapest_0 rfl rfl ?_
    refine b_iconst (pc := 1) (nI 0) dX11_cheapest_1 (by decide) ?_
    refine pf11_0 (pc := 2) k1042 dX11_cheapest_2 ?_
    refine b_aloadN (pc := 5) 0 dX11_cheapest_5 rfl rfl ?_
    refine call_X11_isThere (pc := 6) k1292 (by decide) ⟨Nat.le_of_ble_eq_true rfl, Nat.le_of_ble_eq_true rfl⟩ (Nat.le_of_ble_eq_true rfl) dX11_cheapest_6 ?_
    refine ⟨rfl, _, hC.1 0 (by omega), ?_, ?_⟩
    rotate_left -- leaf 0: six of X11_isThere at 6
    refine b_if_ne (pc := 9) 15 dX11_cheapest_9 (by decide) (fun c9 => ?_) (fun c9 => ?_)
    refine b_aloadN (pc := 15) 0 dX11_cheapest_15 rfl rfl ?_
    refine b_iloadN (pc := 16) 1 dX11_cheapest_16 rfl rfl ?_
    refine b_iloadN (pc := 17) 2 dX11_cheapest_17 rfl rfl ?_
    refine call_X11_areTold (pc := 18) k1313 (by decide) ⟨Nat.le_of_ble_eq_true rfl, Nat.le_of_ble_eq_true rfl⟩ (Nat.le_of_ble_eq_true rfl) dX11_cheapest_18 ?_
    refine ⟨_, _, rfl, C, hC2, hle.1, ?_⟩
    refine b_if_eq (pc := 21) 34 dX11_cheapest_21 (by decide) (fun c21 => ?_) (fun c21 => ?_)
    rotate_left -- leaf 1: at 34
    refine b_iloadN (pc := 24) 3 dX11_cheapest_24 rfl rfl ?_
    refine b_i2l (pc := 25) dX11_cheapest_25 ?_
    refine b_lconst (pc := 26) 0 dX11_cheapest_26 (by decide) ?_
    refine b_lconst (pc := 27) 1 dX11_cheapest_27 (by decide) ?_
    refine call_X11_in (pc := 28) k1136 (by decide) ⟨Nat.le_of_ble_eq_true rfl, Nat.le_of_ble_eq_true rfl⟩ (Nat.le_of_ble_eq_true rfl) dX11_cheapest_28 ?_
    refine ⟨_, _, _, rfl, ?_⟩
    refine b_if_ne (pc := 31) 37 dX11_cheapest_31 (by decide) (fun c31 => ?_) (fun c31 => ?_)
    refine b_aloadN (pc := 37) 0 dX11_cheapest_37 rfl rfl ?_
    refine b_iloadN (pc := 38) 1 dX11_cheapest_38 rfl rfl ?_
    refine b_iloadN (pc := 39) 2 dX11_cheapest_39 rfl rfl ?_
    refine call_X11_isSoNow (pc := 40) k1321 (by decide) ⟨Nat.le_of_ble_eq_true rfl, Nat.le_of_ble_eq_true rfl⟩ (Nat.le_of_ble_eq_true rfl) dX11_cheapest_40 ?_
    refine ⟨_, _, rfl, C, A, Bn, hC2.1, hv.c1, rfl, rfl, hA64, ?_⟩
    refine b_if_eq (pc := 43) 57 dX11_cheapest_43 (by decide) (fun c43 => ?_) (fun c43 => ?_)
    refine b_aloadN (pc := 57) 0 dX11_cheapest_57 rfl rfl ?_
    refine b_iconst (pc := 58) (nI 1) dX11_cheapest_58 (by decide) ?_
    refine call_X11_spread (pc := 59) k1325 (by decide) ⟨Nat.le_of_ble_eq_true rfl, Nat.le_of_ble_eq_true rfl⟩ (Nat.le_of_ble_eq_true rfl) dX11_cheapest_59 ?_
    refine ⟨_, rfl, C, 1, hv, hC2.1, by omega, rfl, fun m59 lab fm59 far59 => ?_⟩
    refine b_aloadN (pc := 62) 0 dX11_cheapest_62 rfl rfl ?_
    refine b_iloadN (pc := 63) 1 dX11_cheapest_63 rfl rfl ?_
    refine b_iloadN (pc := 64) 2 dX11_cheapest_64 rfl rfl ?_
    refine b_iloadN (pc := 65) 3 dX11_cheapest_65 rfl rfl ?_
    refine call_X11_bestOf (pc := 66) k1337 (by decide) ⟨Nat.le_of_ble_eq_true rfl, Nat.le_of_ble_eq_true rfl⟩ (Nat.le_of_ble_eq_true rfl) dX11_cheapest_66 ?_
    refine ⟨_, _, _, rfl, C, 1, A, Bn, w, lab, hv, rfl, rfl, rfl, hA64, hB64, hw, far59, fun r hbest => ?_⟩
    refine b_iret (pc := 69) rfl dX11_cheapest_69 ⟨Nat.le_of_ble_eq_true rfl, Nat.le_of_ble_eq_true rfl⟩ ?_
    rotate_left -- leaf 2: return at 69
    refine b_iloadN (pc := 46) 3 dX11_cheapest_46 rfl rfl ?_
    refine b_if_ne (pc := 47) 54 dX11_cheapest_47 (by decide) (fun c47 => ?_) (fun c47 => ?_)
    refine b_ldc (pc := 54) k1180 dX11_cheapest_54 ?_
    refine b_iret (pc := 56) rfl dX11_cheapest_56 ⟨Nat.le_of_ble_eq_true rfl, Nat.le_of_ble_eq_true rfl⟩ ?_
    rotate_left -- leaf 3: return at 56
    refine b_iconst (pc := 50) (nI 0) dX11_cheapest_50 (by decide) ?_
    refine b_goto (pc := 51) 56 dX11_cheapest_51 (by decide) ?_
    refine b_iret (pc := 56) rfl dX11_cheapest_56 ⟨Nat.le_of_ble_eq_true rfl, Nat.le_of_ble_eq_true rfl⟩ ?_
    rotate_left -- leaf 4: return at 56
    rotate_left -- leaf 5: at 34
    refine b_ldc (pc := 12) k1275 dX11_cheapest_12 ?_
    refine b_iret (pc := 14) rfl dX11_cheapest_14 ⟨Nat.le_of_ble_eq_true rfl, Nat.le_of_ble_eq_true rfl⟩ ?_
    rotate_left -- leaf 6: return at 14
    -- leaves: 0 six of X11_isThere at 6; 1 at 34; 2 return at 69; 3 return at 56; 4 return at 56; 5 at 34; 6 return at 14
    · exact hle.1
    · rw [hg.1] at c21
      exact absurd c21 (by decide)
    · exact yes (by rw [bF c43]; decide) m59 r fm59 hbest
    · have y := no (bT c43)
      rw [if_neg (fun z => c47 (by rw [z]; rfl))] at y
      exact y
    · have y := no (bT c43)
      rw [n_eq0 (by omega)] at c47
      rw [if_pos c47] at y
      exact y
    · rw [inLc 2 rfl (by omega), hg.2] at c31
      exact absurd c31 (by decide)
    · have := zT c9; omega
  · have h3 := h1 _ rfl hz _ f0
    unfold refG at h3 hz
    refine b_aloadN (pc := 0) 0 dX11_cheapest_0 rfl rfl ?_
    refine b_iconst (pc := 1) (nI 0) dX11_cheapest_1 (by decide) ?_
    refine pf11_0 (pc := 2) k1042 dX11_cheapest_2 ?_
    refine b_aloadN (pc := 5) 0 dX11_cheapest_5 rfl rfl ?_
    refine call_X11_isThere (pc := 6) k1292 (by decide) ⟨Nat.le_of_ble_eq_true rfl, Nat.le_of_ble_eq_true rfl⟩ (Nat.le_of_ble_eq_true rfl) dX11_cheapest_6 ?_
    refine ⟨rfl, _, hC.1 0 (by omega), ?_, ?_⟩
    rotate_left -- leaf 0: six of X11_isThere at 6
    refine b_if_ne (pc := 9) 15 dX11_cheapest_9 (by decide) (fun c9 => ?_) (fun c9 => ?_)
    refine b_aloadN (pc := 15) 0 dX11_cheapest_15 rfl rfl ?_
    refine b_iloadN (pc := 16) 1 dX11_cheapest_16 rfl rfl ?_
    refine b_iloadN (pc := 17) 2 dX11_cheapest_17 rfl rfl ?_
    refine call_X11_areTold (pc := 18) k1313 (by decide) ⟨Nat.le_of_ble_eq_true rfl, Nat.le_of_ble_eq_true rfl⟩ (Nat.le_of_ble_eq_true rfl) dX11_cheapest_18 ?_
    refine ⟨_, _, rfl, C, hC2, hle.1, ?_⟩
    refine b_if_eq (pc := 21) 34 dX11_cheapest_21 (by decide) (fun c21 => ?_) (fun c21 => ?_)
    refine b_ldc (pc := 34) k1140 dX11_cheapest_34 ?_
    refine b_iret (pc := 36) rfl dX11_cheapest_36 ⟨Nat.le_of_ble_eq_true rfl, Nat.le_of_ble_eq_true rfl⟩ ?_
    rotate_left -- leaf 1: return at 36
    refine b_iloadN (pc := 24) 3 dX11_cheapest_24 rfl rfl ?_
    refine b_i2l (pc := 25) dX11_cheapest_25 ?_
    refine b_lconst (pc := 26) 0 dX11_cheapest_26 (by decide) ?_
    refine b_lconst (pc := 27) 1 dX11_cheapest_27 (by decide) ?_
    refine call_X11_in (pc := 28) k1136 (by decide) ⟨Nat.le_of_ble_eq_true rfl, Nat.le_of_ble_eq_true rfl⟩ (Nat.le_of_ble_eq_true rfl) dX11_cheapest_28 ?_
    refine ⟨_, _, _, rfl, ?_⟩
    refine b_if_ne (pc := 31) 37 dX11_cheapest_31 (by decide) (fun c31 => ?_) (fun c31 => ?_)
    rotate_left -- leaf 2: at 37
    refine b_ldc (pc := 34) k1140 dX11_cheapest_34 ?_
    refine b_iret (pc := 36) rfl dX11_cheapest_36 ⟨Nat.le_of_ble_eq_true rfl, Nat.le_of_ble_eq_true rfl⟩ ?_
    rotate_left -- leaf 3: return at 36
    refine b_ldc (pc := 12) k1275 dX11_cheapest_12 ?_
    refine b_iret (pc := 14) rfl dX11_cheapest_14 ⟨Nat.le_of_ble_eq_true rfl, Nat.le_of_ble_eq_true rfl⟩ ?_
    rotate_left -- leaf 4: return at 14
    -- leaves: 0 six of X11_isThere at 6; 1 return at 36; 2 at 37; 3 return at 36; 4 return at 14
    · exact hle.1
    · have := zF c9
      rw [if_neg (by omega), goC_at, bF c21, Bool.false_and, if_neg (by decide)] at h3
      exact h3
    · have := zF c9
      rw [inLc 2 rfl (by omega)] at c31
      refine absurd ?_ hz
      rw [if_neg (by omega), goC_at, bT c21, bT c31]
      rfl
    · have := zF c9
      rw [inLc 2 rfl (by omega)] at c31
      rw [if_neg (by omega), goC_at, bF c31, Bool.and_false, if_neg (by decide)] at h3
      exact h3
    · rw [if_pos (zT c9)] at h3
      exact h3
theorem call_X11_cheapest {E : ME} {Φ : Option AV → AM → Prop} {pc : Nat} {L : List (Option AV)} {st : List AV} {m : AM} {a : Nat × Nat} {idx : Nat} {x0 x1 x2 : AV} {i : Nat} (hl : Cond.methodLink E.2.1 idx yX11_cheapest ∈ TB) (hdep : 8 + 1 ≤ E.2.2.2.2.2.2) (hroom : a.1 + 0 ≤ E.2.2.2.2.1 ∧ a.2 + 0 ≤ E.2.2.2.2.2.1) (hsr : st.length ≤ 4) (hd : decode E.1 pc = .ok (.invokevirtual idx, 3)) (hsp : Sp_X11_cheapest [vr 11 i, x0, x1, x2] m (fun r m2 => B E Φ (pc + 3) L (r.toList ++ st) m2 a)) : B E Φ pc L (x2 :: x1 :: x0 :: vr 11 i :: st) m a := b_callV S_X11_cheapest [x0, x1, x2] (RX11, TX11, 28) rfl rfl (by decide) (Or.inl hl) k1342 k1343 k80 k1344 (show _ ∧ _ ∧ Option.map (fun d => d.parameters.length) (parseMethodDescriptor yX11_cheapest.desc) = some 3 from by decide +kernel) ⟨hdep, by decide⟩ hroom hsr hd hsp
