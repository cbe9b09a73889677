/-! the law's loop -/
theorem and63 (x : Int32) : ∃ u, u < 64 ∧ x &&& nI 63 = nI u := by
  have e : x = nI x.toBitVec.toNat := by
    apply Int32.toBitVec_inj.mp
    show x.toBitVec = BitVec.ofNat 32 x.toBitVec.toNat
    simp
  refine ⟨x.toBitVec.toNat &&& 63, Nat.and_lt_two_pow _ (n := 6) (by decide), ?_⟩
  rw [← n_and, ← e]
theorem RI.up {m : AM} {t : Nat} (h : RI m t) : RI m (t + 1) := by
  obtain ⟨C, a, nx, W, La, Ma, It, T, n, Tr, I0, I1, wk, st, ft, hw, r⟩ := h
  exact ⟨C, a, nx, W, La, Ma, It, T, n, Tr, I0, I1, wk, st, ft, by omega, r⟩
theorem stpb {x y K B j : Nat} (h : x ≤ y + K) (h2 : y ≤ B + K * j) : x ≤ B + K * (j + 1) := by
  rw [Nat.mul_succ]
  omega
theorem bndb {y K B j N : Nat} (h2 : y ≤ B + K * j) (hj : j ≤ 64) (h : B + K * 64 + K ≤ N) : y + K ≤ N := by
  have := Nat.mul_le_mul_left K hj
  omega
theorem law_loop {bs n : Nat} {xs : Nat → Int32} (hn : n ≤ 448) : ∀ e j m a, 65 ≤ j + e → 7 * j ≤ n → TY m → RI m j → a.1 ≤ 200 + 8 * j → a.2 ≤ 30000 + 12400 * j → BL bs n xs 18 (nI (7 * j)) [] m a := by
  intro e
  induction e with
  | zero => intro j m a z1 z2; omega
  | succ e ih =>
    intro j m a z1 z2 hty hri h1 h2
    have tail : ∀ m3 (a3 : Nat × Nat), 7 * j + 7 ≤ n → TY m3 → RI m3 (j + 1) → a3.1 ≤ a.1 + 8 → a3.2 ≤ a.2 + 12400 → BL bs n xs 1242 (nI (7 * j)) [] m3 a3 := by
      intro m3 a3 hj hty3 hri3 q1 q2
      refine l_inc (v := nI (7 * (j + 1))) dL_law_1242 (by rw [show 7 * (j + 1) = 7 * j + 7 by omega]; exact n_add (7 * j) 7) ?_
      refine l_goto 18 dL_law_1245 (by decide) ?_
      exact ih (j + 1) m3 a3 (by omega) (by omega) hty3 hri3 (stpb q1 h1) (stpb q2 h2)
    refine l_iload dL_law_18 ?_
    refine l_len dL_law_19 dL_law_20 ?_
    refine l_bipush (nI 7) dL_law_21 (by decide) ?_
    refine l_isub dL_law_23 ?_
    refine l_gt 1248 dL_law_24 (by decide) (fun c => ?_) (fun c => ?_)
    · exact l_end ⟨Nat.le_trans (Nat.le_add_right _ _) (bndb h1 (by omega) (by decide)), Nat.le_trans (Nat.le_add_right _ _) (bndb h2 (by omega) (by decide))⟩ dL_law_1248 dL_law_1249
    · rw [i_lt, i_sub (by rw [nI_toInt (by omega), nI_toInt (by omega)]; omega) (by rw [nI_toInt (by omega), nI_toInt (by omega)]; omega), nI_toInt (by omega), nI_toInt (by omega), nI_toInt (by omega)] at c
      have hj : 7 * j + 7 ≤ n := by omega
      have tl := fun m3 a3 => tail m3 a3 hj
      have ha : a.1 + 8 ≤ 600000 ∧ a.2 + 12400 ≤ 7302250 := ⟨bndb h1 (by omega) (by decide), bndb h2 (by omega) (by decide)⟩
      refine l_scr0 (by omega) (by omega) dL_law_27 dL_law_28 dL_law_29 ?_
      refine l_bipush (nI 63) dL_law_30 (by decide) ?_
      refine l_iand dL_law_32 ?_
      obtain ⟨u, hu, eu⟩ := and63 (xs (7 * j))
      rw [eu]
      by_cases q : u ≤ 32
      · rcases (show u = 0 ∨ u = 1 ∨ u = 2 ∨ u = 3 ∨ u = 4 ∨ u = 5 ∨ u = 6 ∨ u = 7 ∨ u = 8 ∨ u = 9 ∨ u = 10 ∨ u = 11 ∨ u = 12 ∨ u = 13 ∨ u = 14 ∨ u = 15 ∨ u = 16 ∨ u = 17 ∨ u = 18 ∨ u = 19 ∨ u = 20 ∨ u = 21 ∨ u = 22 ∨ u = 23 ∨ u = 24 ∨ u = 25 ∨ u = 26 ∨ u = 27 ∨ u = 28 ∨ u = 29 ∨ u = 30 ∨ u = 31 ∨ u = 32 by omega) with rfl | rfl | rfl | rfl | rfl | rfl | rfl | rfl | rfl | rfl | rfl | rfl | rfl | rfl | rfl | rfl | rfl | rfl | rfl | rfl | rfl | rfl | rfl | rfl | rfl | rfl | rfl | rfl | rfl | rfl | rfl | rfl | rfl
        · exact l_tabIn (off := 147) 180 dL_law_33 (by decide) (by decide) (by decide +kernel) (by decide) (law_0 hn hj hty hri (by omega) ha tl)
        · exact l_tabIn (off := 190) 223 dL_law_33 (by decide) (by decide) (by decide +kernel) (by decide) (law_1 hn hj hty hri (by omega) ha tl)
        · exact l_tabIn (off := 233) 266 dL_law_33 (by decide) (by decide) (by decide +kernel) (by decide) (law_2 hn hj hty hri (by omega) ha tl)
        · exact l_tabIn (off := 296) 329 dL_law_33 (by decide) (by decide) (by decide +kernel) (by decide) (law_3 hn hj hty hri (by omega) ha tl)
        · exact l_tabIn (off := 319) 352 dL_law_33 (by decide) (by decide) (by decide +kernel) (by decide) (law_4 hn hj hty hri (by omega) ha tl)
        · exact l_tabIn (off := 342) 375 dL_law_33 (by decide) (by decide) (by decide +kernel) (by decide) (law_5 hn hj hty hri (by omega) ha tl)
        · exact l_tabIn (off := 355) 388 dL_law_33 (by decide) (by decide) (by decide +kernel) (by decide) (law_6 hn hj hty hri (by omega) ha tl)
        · exact l_tabIn (off := 368) 401 dL_law_33 (by decide) (by decide) (by decide +kernel) (by decide) (law_7 hn hj hty hri (by omega) ha tl)
        · exact l_tabIn (off := 381) 414 dL_law_33 (by decide) (by decide) (by decide +kernel) (by decide) (law_8 hn hj hty hri (by omega) ha tl)
        · exact l_tabIn (off := 414) 447 dL_law_33 (by decide) (by decide) (by decide +kernel) (by decide) (law_9 hn hj hty hri (by omega) ha tl)
        · exact l_tabIn (off := 437) 470 dL_law_33 (by decide) (by decide) (by decide +kernel) (by decide) (law_10 hn hj hty hri (by omega) ha tl)
        · exact l_tabIn (off := 470) 503 dL_law_33 (by decide) (by decide) (by decide +kernel) (by decide) (law_11 hn hj hty hri (by omega) ha tl)
        · exact l_tabIn (off := 493) 526 dL_law_33 (by decide) (by decide) (by decide +kernel) (by decide) (law_12 hn hj hty hri (by omega) ha tl)
        · exact l_tabIn (off := 526) 559 dL_law_33 (by decide) (by decide) (by decide +kernel) (by decide) (law_13 hn hj hty hri (by omega) ha tl)
        · exact l_tabIn (off := 549) 582 dL_law_33 (by decide) (by decide) (by decide +kernel) (by decide) (law_14 hn hj hty hri (by omega) ha tl)
        · exact l_tabIn (off := 582) 615 dL_law_33 (by decide) (by decide) (by decide +kernel) (by decide) (law_15 hn hj hty hri (by omega) ha tl)
        · exact l_tabIn (off := 625) 658 dL_law_33 (by decide) (by decide) (by decide +kernel) (by decide) (law_16 hn hj hty hri (by omega) ha tl)
        · exact l_tabIn (off := 668) 701 dL_law_33 (by decide) (by decide) (by decide +kernel) (by decide) (law_17 hn hj hty hri (by omega) ha tl)
        · exact l_tabIn (off := 691) 724 dL_law_33 (by decide) (by decide) (by decide +kernel) (by decide) (law_18 hn hj hty hri (by omega) ha tl)
        · exact l_tabIn (off := 724) 757 dL_law_33 (by decide) (by decide) (by decide +kernel) (by decide) (law_19 hn hj hty hri (by omega) ha tl)
        · exact l_tabIn (off := 757) 790 dL_law_33 (by decide) (by decide) (by decide +kernel) (by decide) (law_20 hn hj hty hri (by omega) ha tl)
        · exact l_tabIn (off := 780) 813 dL_law_33 (by decide) (by decide) (by decide +kernel) (by decide) (law_21 hn hj hty hri (by omega) ha tl)
        · exact l_tabIn (off := 843) 876 dL_law_33 (by decide) (by decide) (by decide +kernel) (by decide) (law_22 hn hj hty hri (by omega) ha tl)
        · exact l_tabIn (off := 896) 929 dL_law_33 (by decide) (by decide) (by decide +kernel) (by decide) (law_23 hn hj hty hri (by omega) ha tl)
        · exact l_tabIn (off := 972) 1005 dL_law_33 (by decide) (by decide) (by decide +kernel) (by decide) (law_24 hn hj hty hri (by omega) ha tl)
        · exact l_tabIn (off := 1015) 1048 dL_law_33 (by decide) (by decide) (by decide +kernel) (by decide) (law_25 hn hj hty hri (by omega) ha tl)
        · exact l_tabIn (off := 1038) 1071 dL_law_33 (by decide) (by decide) (by decide +kernel) (by decide) (law_26 hn hj hty hri (by omega) ha tl)
        · exact l_tabIn (off := 1061) 1094 dL_law_33 (by decide) (by decide) (by decide +kernel) (by decide) (law_27 hn hj hty hri (by omega) ha tl)
        · exact l_tabIn (off := 1084) 1117 dL_law_33 (by decide) (by decide) (by decide +kernel) (by decide) (law_28 hn hj hty hri (by omega) ha tl)
        · exact l_tabIn (off := 1117) 1150 dL_law_33 (by decide) (by decide) (by decide +kernel) (by decide) (law_29 hn hj hty hri (by omega) ha tl)
        · exact l_tabIn (off := 1150) 1183 dL_law_33 (by decide) (by decide) (by decide +kernel) (by decide) (law_30 hn hj hty hri (by omega) ha tl)
        · exact l_tabIn (off := 1173) 1206 dL_law_33 (by decide) (by decide) (by decide +kernel) (by decide) (law_31 hn hj hty hri (by omega) ha tl)
        · exact l_tabIn (off := 1196) 1229 dL_law_33 (by decide) (by decide) (by decide +kernel) (by decide) (law_32 hn hj hty hri (by omega) ha tl)
      · refine l_tabOut 1242 dL_law_33 (Or.inr ?_) (by decide) ?_
        · rw [nI_toInt (by omega)]; omega
        · exact tl m a hty (RI.up hri) (Nat.le_add_right _ _) (Nat.le_add_right _ _)
