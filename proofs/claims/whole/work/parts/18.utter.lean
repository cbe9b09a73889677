/-! utter; acts; images -/
abbrev e_X2_utter : ME := (cX2_utter, (RX2, (4, ((some .int), (0, (0, 4))))))
theorem dX2_utter_0 : decode cX2_utter 0 = .ok (.aload_n 0, 1) := by decide +kernel
theorem dX2_utter_1 : decode cX2_utter 1 = .ok (.aload_n 0, 1) := by decide +kernel
theorem dX2_utter_2 : decode cX2_utter 2 = .ok (.getfield 12, 3) := by decide +kernel
theorem dX2_utter_5 : decode cX2_utter 5 = .ok (.getfield 86, 3) := by decide +kernel
theorem dX2_utter_8 : decode cX2_utter 8 = .ok (.iload_n 1, 1) := by decide +kernel
theorem dX2_utter_9 : decode cX2_utter 9 = .ok (.iaload, 1) := by decide +kernel
theorem dX2_utter_10 : decode cX2_utter 10 = .ok (.iload_n 2, 1) := by decide +kernel
theorem dX2_utter_11 : decode cX2_utter 11 = .ok (.aload_n 0, 1) := by decide +kernel
theorem dX2_utter_12 : decode cX2_utter 12 = .ok (.getfield 21, 3) := by decide +kernel
theorem dX2_utter_15 : decode cX2_utter 15 = .ok (.getfield 89, 3) := by decide +kernel
theorem dX2_utter_18 : decode cX2_utter 18 = .ok (.aload_n 0, 1) := by decide +kernel
theorem dX2_utter_19 : decode cX2_utter 19 = .ok (.getfield 21, 3) := by decide +kernel
theorem dX2_utter_22 : decode cX2_utter 22 = .ok (.getfield 92, 3) := by decide +kernel
theorem dX2_utter_25 : decode cX2_utter 25 = .ok (.invokevirtual 95, 3) := by decide +kernel
theorem dX2_utter_28 : decode cX2_utter 28 = .ok (.istore_n 3, 1) := by decide +kernel
theorem dX2_utter_29 : decode cX2_utter 29 = .ok (.aload_n 0, 1) := by decide +kernel
theorem dX2_utter_30 : decode cX2_utter 30 = .ok (.getfield 21, 3) := by decide +kernel
theorem dX2_utter_33 : decode cX2_utter 33 = .ok (.dup, 1) := by decide +kernel
theorem dX2_utter_34 : decode cX2_utter 34 = .ok (.getfield 92, 3) := by decide +kernel
theorem dX2_utter_37 : decode cX2_utter 37 = .ok (.iload_n 2, 1) := by decide +kernel
theorem dX2_utter_38 : decode cX2_utter 38 = .ok (.invokestatic 99, 3) := by decide +kernel
theorem dX2_utter_41 : decode cX2_utter 41 = .ok (.ior, 1) := by decide +kernel
theorem dX2_utter_42 : decode cX2_utter 42 = .ok (.putfield 92, 3) := by decide +kernel
theorem dX2_utter_45 : decode cX2_utter 45 = .ok (.aload_n 0, 1) := by decide +kernel
theorem dX2_utter_46 : decode cX2_utter 46 = .ok (.getfield 21, 3) := by decide +kernel
theorem dX2_utter_49 : decode cX2_utter 49 = .ok (.dup, 1) := by decide +kernel
theorem dX2_utter_50 : decode cX2_utter 50 = .ok (.getfield 102, 3) := by decide +kernel
theorem dX2_utter_53 : decode cX2_utter 53 = .ok (.iconst 1, 1) := by decide +kernel
theorem dX2_utter_54 : decode cX2_utter 54 = .ok (.iadd, 1) := by decide +kernel
theorem dX2_utter_55 : decode cX2_utter 55 = .ok (.putfield 102, 3) := by decide +kernel
theorem dX2_utter_58 : decode cX2_utter 58 = .ok (.iload_n 3, 1) := by decide +kernel
theorem dX2_utter_59 : decode cX2_utter 59 = .ok (.ldc 105, 2) := by decide +kernel
theorem dX2_utter_61 : decode cX2_utter 61 = .ok (.if_icmp .ne 19, 3) := by decide +kernel
theorem dX2_utter_64 : decode cX2_utter 64 = .ok (.aload_n 0, 1) := by decide +kernel
theorem dX2_utter_65 : decode cX2_utter 65 = .ok (.getfield 21, 3) := by decide +kernel
theorem dX2_utter_68 : decode cX2_utter 68 = .ok (.getfield 106, 3) := by decide +kernel
theorem dX2_utter_71 : decode cX2_utter 71 = .ok (.iload_n 1, 1) := by decide +kernel
theorem dX2_utter_72 : decode cX2_utter 72 = .ok (.dup2, 1) := by decide +kernel
theorem dX2_utter_73 : decode cX2_utter 73 = .ok (.iaload, 1) := by decide +kernel
theorem dX2_utter_74 : decode cX2_utter 74 = .ok (.iconst 1, 1) := by decide +kernel
theorem dX2_utter_75 : decode cX2_utter 75 = .ok (.iadd, 1) := by decide +kernel
theorem dX2_utter_76 : decode cX2_utter 76 = .ok (.iastore, 1) := by decide +kernel
theorem dX2_utter_77 : decode cX2_utter 77 = .ok (.ldc 105, 2) := by decide +kernel
theorem dX2_utter_79 : decode cX2_utter 79 = .ok (.ireturn, 1) := by decide +kernel
theorem dX2_utter_80 : decode cX2_utter 80 = .ok (.aload_n 0, 1) := by decide +kernel
theorem dX2_utter_81 : decode cX2_utter 81 = .ok (.getfield 21, 3) := by decide +kernel
theorem dX2_utter_84 : decode cX2_utter 84 = .ok (.dup, 1) := by decide +kernel
theorem dX2_utter_85 : decode cX2_utter 85 = .ok (.getfield 109, 3) := by decide +kernel
theorem dX2_utter_88 : decode cX2_utter 88 = .ok (.aload_n 0, 1) := by decide +kernel
theorem dX2_utter_89 : decode cX2_utter 89 = .ok (.aload_n 0, 1) := by decide +kernel
theorem dX2_utter_90 : decode cX2_utter 90 = .ok (.getfield 21, 3) := by decide +kernel
theorem dX2_utter_93 : decode cX2_utter 93 = .ok (.getfield 89, 3) := by decide +kernel
theorem dX2_utter_96 : decode cX2_utter 96 = .ok (.iload_n 3, 1) := by decide +kernel
theorem dX2_utter_97 : decode cX2_utter 97 = .ok (.invokevirtual 112, 3) := by decide +kernel
theorem dX2_utter_100 : decode cX2_utter 100 = .ok (.iadd, 1) := by decide +kernel
theorem dX2_utter_101 : decode cX2_utter 101 = .ok (.putfield 109, 3) := by decide +kernel
theorem dX2_utter_104 : decode cX2_utter 104 = .ok (.aload_n 0, 1) := by decide +kernel
theorem dX2_utter_105 : decode cX2_utter 105 = .ok (.getfield 21, 3) := by decide +kernel
theorem dX2_utter_108 : decode cX2_utter 108 = .ok (.iload_n 3, 1) := by decide +kernel
theorem dX2_utter_109 : decode cX2_utter 109 = .ok (.putfield 89, 3) := by decide +kernel
theorem dX2_utter_112 : decode cX2_utter 112 = .ok (.iload_n 3, 1) := by decide +kernel
theorem dX2_utter_113 : decode cX2_utter 113 = .ok (.ireturn, 1) := by decide +kernel
def Sp_X2_utter (av : List AV) (m : AM) (Φ : Option AV → AM → Prop) : Prop := ∃ x y, av = [vr 2 20, vi x, vi y] ∧ ∃ C p k, BR m C ∧ x = nI p ∧ y = nI k ∧ p < C 4 ∧ k < 2 * C 0 ∧ C 7 ≤ 998 ∧ ∀ m2, Fr [26, 27, 30] m m2 → BR m2 (sayC C p k) → Φ (some (vi (sayO C p k))) m2
set_option maxRecDepth 20000 in
set_option maxHeartbeats 4000000 in
theorem S_X2_utter : Snd yX2_utter e_X2_utter Sp_X2_utter := by
  refine Snd.of (by decide +kernel) rfl ?_ ?_
  · rintro av m Φ ⟨x, y, rfl, _⟩; exact Nat.le_of_ble_eq_true rfl
  rintro av m Φ ⟨x, y, rfl, C, p, k, hB, rfl, rfl, hp, hk, h7, h⟩ hav hty
  show B e_X2_utter Φ 0 [some (vr 2 20), some (vi (nI p)), some (vi (nI k)), none] [] m (0, 0)
  obtain ⟨hv, hL, hS, hM, hC⟩ := id hB
  have h5 := hv.2.2.2.2.1.2
  have h06 := hv.1.2
  have hq := (hv.2.2.2.2.2.2.2.2.2 p hp).1
  have hsm := sayC_same C p k
  have hvs := hv.say hp hk h7
  have fin : ∀ m3, Fr [26, 30] m m3 → m3.1 26 1 = nI (C 1) → m3.1 26 2 = nI (C 5 ||| 2 ^ (k / 2)) → m3.1 26 3 = nI (C 7 + 1) → m3.1 26 4 = nI (C 6) → m3.1 26 5 = m.1 26 5 → CacR m3 C → B e_X2_utter Φ 58 [some (vr 2 20), some (vi (nI p)), some (vi (nI k)), some (vi (oI (outN C (C (40 + 2 * p)) (C 1) (C 5) k)))] [] m3 (0, 0) := by
    intro m3 hf q1 q2 q3 q4 q5 hc3
    have f27 : m3.1 27 = m.1 27 := hf.2 27 (by decide)
    have f21 : m3.1 21 = m.1 21 := hf.2 21 (by decide)
    have fof : ∀ m4 : AM, (∀ a, a ≠ 26 → a ≠ 27 → m4.1 a = m3.1 a) → ∀ a, 21 ≤ a ∧ a ≤ 25 ∨ a = 28 ∨ a = 29 → m4.1 a = m.1 a := fun m4 h1 a h2 => by
      rw [h1 a (by omega) (by omega)]
      exact hf.2 a (by simp; omega)
    cases e : outN C (C (40 + 2 * p)) (C 1) (C 5) k with
    | none =>
      have hO : sayO C p k = -1000000 := by unfold sayO; rw [e]; rfl
      have hCe : sayC C p k = upC (upC (upC C 5 (C 5 ||| 2 ^ (k / 2))) 7 (C 7 + 1)) (41 + 2 * p) (C (41 + 2 * p) + 1) := by unfold sayC; rw [e]
      refine b_iloadN (pc := 58) 3 dX2_utter_58 rfl rfl ?_
      refine b_ldc (pc := 59) k678 dX2_utter_59 ?_
      refine b_icmp_ne (pc := 61) 80 dX2_utter_61 (by decide) (fun c61 => ?_) (fun c61 => ?_)
      rotate_left -- leaf 0: at 80
      refine b_aloadN (pc := 64) 0 dX2_utter_64 rfl rfl ?_
      refine gf2_1 (pc := 65) 26 rfl k270 dX2_utter_65 ?_
      refine gf8_0 (pc := 68) 27 rfl k229 dX2_utter_68 ?_
      refine b_iloadN (pc := 71) 1 dX2_utter_71 rfl rfl ?_
      refine b_dup2 (pc := 72) dX2_utter_72 ?_
      refine b_iald (pc := 73) (by decide) ?_ dX2_utter_73 ?_
      rotate_left -- leaf 1: index at 73
      refine b_iconst (pc := 74) (nI 1) dX2_utter_74 (by decide) ?_
      refine b_iadd (pc := 75) dX2_utter_75 ?_
      refine b_iast (pc := 76) (by decide) ?_ dX2_utter_76 ?_
      rotate_left -- leaf 2: index at 76
      refine b_ldc (pc := 77) k678 dX2_utter_77 ?_
      refine b_iret (pc := 79) rfl dX2_utter_79 ⟨Nat.le_of_ble_eq_true rfl, Nat.le_of_ble_eq_true rfl⟩ ?_
      rotate_left -- leaf 3: return at 79
      -- leaves: 0 at 80; 1 index at 73; 2 index at 76; 3 return at 79
      · exact absurd rfl c61
      · exact n_in (by omega) (by omega)
      · exact n_in (by omega) (by omega)
      · rw [n_cl (by omega), f27, hS.2.2.2.2.2 p hp, n_add]
        rw [hO] at h
        refine h _ ((hf.mono (by decide)).ms (by simp)) (hB.re hsm.1 hsm.2.1 hsm.2.2.1 hsm.2.2.2.1 hsm.2.2.2.2 hvs (fof _ (fun a h1 h2 => mset_ne _ _ _ h2)) ?_ ?_)
        · intro s q; rw [mset_ne _ _ _ (by decide)]; exact hc3 s q
        · unfold StR
          rw [mset_ne _ _ _ (by decide), q1, q2, q3, q4, q5, hCe]
          refine ⟨?_, ?_, ?_, ?_, ?_, fun j hj => ?_⟩
          · rw [upC_ne _ _ (by omega), upC_ne _ _ (by omega), upC_ne _ _ (by omega)]
          · rw [upC_ne _ _ (by omega), upC_ne _ _ (by omega), upC_at]
          · rw [upC_ne _ _ (by omega), upC_at]
          · rw [upC_ne _ _ (by omega), upC_ne _ _ (by omega), upC_ne _ _ (by omega)]
          · rw [← hCe]; exact hS.2.2.2.2.1.cg hsm.1 hv.2.2.2.1
          · rw [← hCe, hsm.2.2.2.1] at hj
            rw [mset_at]
            by_cases z : j = p
            · subst z; rw [if_pos rfl, upC_at]
            · rw [if_neg z, f27, upC_ne _ _ (by omega), upC_ne _ _ (by omega), upC_ne _ _ (by omega)]
              exact hS.2.2.2.2.2 j hj
    | some v =>
      have hv2 : v < 2 ^ C 0 := set_lt hv (bel_lt hv _ _ hv.2.1 hk) e
      have hv6 : v < 64 := by
        have h : 2 ^ C 0 ≤ 2 ^ 6 := Nat.pow_le_pow_right (by omega) h06
        omega
      have hO : sayO C p k = nI v := by unfold sayO; rw [e]; rfl
      have hCe : sayC C p k = upC (upC (upC (upC C 5 (C 5 ||| 2 ^ (k / 2))) 7 (C 7 + 1)) 6 (C 6 + C 2 * pc6 (C 1 ^^^ v))) 1 v := by unfold sayC; rw [e]
      refine b_iloadN (pc := 58) 3 dX2_utter_58 rfl rfl ?_
      refine b_ldc (pc := 59) k678 dX2_utter_59 ?_
      refine b_icmp_ne (pc := 61) 80 dX2_utter_61 (by decide) (fun c61 => ?_) (fun c61 => ?_)
      refine b_aloadN (pc := 80) 0 dX2_utter_80 rfl rfl ?_
      refine gf2_1 (pc := 81) 26 rfl k270 dX2_utter_81 ?_
      refine b_dup_r (pc := 84) dX2_utter_84 ?_
      refine gf8_4 (pc := 85) k246 dX2_utter_85 ?_
      refine b_aloadN (pc := 88) 0 dX2_utter_88 rfl rfl ?_
      refine b_aloadN (pc := 89) 0 dX2_utter_89 rfl rfl ?_
      refine gf2_1 (pc := 90) 26 rfl k270 dX2_utter_90 ?_
      refine gf8_1 (pc := 93) k235 dX2_utter_93 ?_
      refine b_iloadN (pc := 96) 3 dX2_utter_96 rfl rfl ?_
      refine call_X2_price (pc := 97) k687 (by decide) ⟨Nat.le_of_ble_eq_true rfl, Nat.le_of_ble_eq_true rfl⟩ (Nat.le_of_ble_eq_true rfl) dX2_utter_97 ?_
      refine ⟨_, _, rfl, C 2, C 1, v, ?_, ?_, ?_, ?_, ?_, ?_⟩
      rotate_left -- leaf 0: price of X2_price at 97
      rotate_left -- leaf 1: before of X2_price at 97
      rotate_left -- leaf 2: after of X2_price at 97
      rotate_left -- leaf 3: b64 of X2_price at 97
      rotate_left -- leaf 4: a64 of X2_price at 97
      refine b_iadd (pc := 100) dX2_utter_100 ?_
      refine pf8_4 (pc := 101) k246 dX2_utter_101 ?_
      refine b_aloadN (pc := 104) 0 dX2_utter_104 rfl rfl ?_
      refine gf2_1 (pc := 105) 26 rfl k270 dX2_utter_105 ?_
      refine b_iloadN (pc := 108) 3 dX2_utter_108 rfl rfl ?_
      refine pf8_1 (pc := 109) k235 dX2_utter_109 ?_
      refine b_iloadN (pc := 112) 3 dX2_utter_112 rfl rfl ?_
      refine b_iret (pc := 113) rfl dX2_utter_113 ⟨Nat.le_of_ble_eq_true rfl, Nat.le_of_ble_eq_true rfl⟩ ?_
      rotate_left -- leaf 5: return at 113
      refine b_aloadN (pc := 64) 0 dX2_utter_64 rfl rfl ?_
      refine gf2_1 (pc := 65) 26 rfl k270 dX2_utter_65 ?_
      refine gf8_0 (pc := 68) 27 rfl k229 dX2_utter_68 ?_
      refine b_iloadN (pc := 71) 1 dX2_utter_71 rfl rfl ?_
      refine b_dup2 (pc := 72) dX2_utter_72 ?_
      refine b_iald (pc := 73) (by decide) ?_ dX2_utter_73 ?_
      rotate_left -- leaf 6: index at 73
      refine b_iconst (pc := 74) (nI 1) dX2_utter_74 (by decide) ?_
      refine b_iadd (pc := 75) dX2_utter_75 ?_
      refine b_iast (pc := 76) (by decide) ?_ dX2_utter_76 ?_
      rotate_left -- leaf 7: index at 76
      refine b_ldc (pc := 77) k678 dX2_utter_77 ?_
      refine b_iret (pc := 79) rfl dX2_utter_79 ⟨Nat.le_of_ble_eq_true rfl, Nat.le_of_ble_eq_true rfl⟩ ?_
      rotate_left -- leaf 8: return at 79
      -- leaves: 0 price of X2_price at 97; 1 before of X2_price at 97; 2 after of X2_price at 97; 3 b64 of X2_price at 97; 4 a64 of X2_price at 97; 5 return at 113; 6 index at 73; 7 index at 76; 8 return at 79
      · rw [f21]; exact hL.2.1
      · exact q1
      · rfl
      · exact hv.c1
      · exact hv6
      · rw [q4, n_add]
        rw [hO] at h
        refine h _ (((hf.mono (by decide)).ms (by simp)).ms (by simp)) (hB.re hsm.1 hsm.2.1 hsm.2.2.1 hsm.2.2.2.1 hsm.2.2.2.2 hvs (fof _ (fun a h1 h2 => by rw [mset_ne _ _ _ h1, mset_ne _ _ _ h1])) ?_ ?_)
        · intro s q; rw [mset_ne _ _ _ (by decide), mset_ne _ _ _ (by decide)]; exact hc3 s q
        · unfold StR
          refine ⟨?_, ?_, ?_, ?_, ?_, fun j hj => ?_⟩
          · rw [mset_at, if_pos rfl, hCe, upC_at]
            rfl
          · rw [mset_at, if_neg (by decide), mset_at, if_neg (by decide), q2, hCe, upC_ne _ _ (by omega), upC_ne _ _ (by omega), upC_ne _ _ (by omega), upC_at]
          · rw [mset_at, if_neg (by decide), mset_at, if_neg (by decide), q3, hCe, upC_ne _ _ (by omega), upC_ne _ _ (by omega), upC_at]
          · rw [mset_at, if_neg (by decide), mset_at, if_pos rfl, hCe, upC_ne _ _ (by omega), upC_at]
          · rw [mset_at, if_neg (by decide), mset_at, if_neg (by decide), q5]
            exact hS.2.2.2.2.1.cg hsm.1 hv.2.2.2.1
          · rw [hsm.2.2.2.1] at hj
            rw [mset_ne _ _ _ (by decide), mset_ne _ _ _ (by decide), f27, hCe, upC_ne _ _ (by omega), upC_ne _ _ (by omega), upC_ne _ _ (by omega), upC_ne _ _ (by omega)]
            exact hS.2.2.2.2.2 j hj
      all_goals exact absurd c61 (n_ne_none (show v < 2147483648 by omega))
  refine b_aloadN (pc := 0) 0 dX2_utter_0 rfl rfl ?_
  refine b_aloadN (pc := 1) 0 dX2_utter_1 rfl rfl ?_
  refine gf2_0 (pc := 2) 21 rfl k264 dX2_utter_2 ?_
  refine gf5_3 (pc := 5) 25 rfl k138 dX2_utter_5 ?_
  refine b_iloadN (pc := 8) 1 dX2_utter_8 rfl rfl ?_
  refine b_iald (pc := 9) (by decide) ?_ dX2_utter_9 ?_
  rotate_left -- leaf 0: index at 9
  refine b_iloadN (pc := 10) 2 dX2_utter_10 rfl rfl ?_
  refine b_aloadN (pc := 11) 0 dX2_utter_11 rfl rfl ?_
  refine gf2_1 (pc := 12) 26 rfl k270 dX2_utter_12 ?_
  refine gf8_1 (pc := 15) k235 dX2_utter_15 ?_
  refine b_aloadN (pc := 18) 0 dX2_utter_18 rfl rfl ?_
  refine gf2_1 (pc := 19) 26 rfl k270 dX2_utter_19 ?_
  refine gf8_2 (pc := 22) k239 dX2_utter_22 ?_
  refine call_X2_outcome (pc := 25) k663 (by decide) ⟨Nat.le_of_ble_eq_true rfl, Nat.le_of_ble_eq_true rfl⟩ (Nat.le_of_ble_eq_true rfl) dX2_utter_25 ?_
  refine ⟨_, _, _, _, rfl, C, C (40 + 2 * p), k, C 1, C 5, hB, ?_, rfl, ?_, ?_, ?_, ?_, ?_, ?_, fun m25 h25 => ?_⟩
  rotate_left -- leaf 1: kd of X2_outcome at 25
  rotate_left -- leaf 2: so of X2_outcome at 25
  rotate_left -- leaf 3: sd of X2_outcome at 25
  rotate_left -- leaf 4: kind of X2_outcome at 25
  rotate_left -- leaf 5: saying of X2_outcome at 25
  rotate_left -- leaf 6: so64 of X2_outcome at 25
  rotate_left -- leaf 7: sd64 of X2_outcome at 25
  refine siN3 (pc := 28) rfl notL_i (by decide) dX2_utter_28 ?_
  refine b_aloadN (pc := 29) 0 dX2_utter_29 rfl rfl ?_
  refine gf2_1 (pc := 30) 26 rfl k270 dX2_utter_30 ?_
  refine b_dup_r (pc := 33) dX2_utter_33 ?_
  refine gf8_2 (pc := 34) k239 dX2_utter_34 ?_
  refine b_iloadN (pc := 37) 2 dX2_utter_37 rfl rfl ?_
  refine call_X2_factOf (pc := 38) k671 (by decide) ⟨Nat.le_of_ble_eq_true rfl, Nat.le_of_ble_eq_true rfl⟩ (Nat.le_of_ble_eq_true rfl) dX2_utter_38 ?_
  refine ⟨_, rfl, _, rfl, ?_, ?_⟩
  rotate_left -- leaf 8: bound of X2_factOf at 38
  refine b_ior (pc := 41) dX2_utter_41 ?_
  refine pf8_2 (pc := 42) k239 dX2_utter_42 ?_
  refine b_aloadN (pc := 45) 0 dX2_utter_45 rfl rfl ?_
  refine gf2_1 (pc := 46) 26 rfl k270 dX2_utter_46 ?_
  refine b_dup_r (pc := 49) dX2_utter_49 ?_
  refine gf8_3 (pc := 50) k243 dX2_utter_50 ?_
  refine b_iconst (pc := 53) (nI 1) dX2_utter_53 (by decide) ?_
  refine b_iadd (pc := 54) dX2_utter_54 ?_
  refine pf8_3 (pc := 55) k243 dX2_utter_55 ?_
  rotate_left -- leaf 9: at 58
  -- leaves: 0 index at 9; 1 kd of X2_outcome at 25; 2 so of X2_outcome at 25; 3 sd of X2_outcome at 25; 4 kind of X2_outcome at 25; 5 saying of X2_outcome at 25; 6 so64 of X2_outcome at 25; 7 sd64 of X2_outcome at 25; 8 bound of X2_factOf at 38; 9 at 58
  · exact n_in (by omega) (by omega)
  · rw [n_cl (by omega)]; exact hL.2.2.2.2.2 p hp
  · exact hS.1
  · exact hS.2.1
  · exact hq
  · exact hk
  · exact hv.c1
  · exact hv.c5
  · omega
  · have f26 : m25.1 26 = m.1 26 := h25.ne (by decide)
    refine fin _ (((h25.fr.mono (by decide)).ms (by simp)).ms (by simp)) ?_ ?_ ?_ ?_ ?_ ?_
    · rw [mset_at, if_neg (by decide), mset_at, if_neg (by decide), f26]; exact hS.1
    · rw [mset_at, if_neg (by decide), mset_at, if_pos rfl, f26, hS.2.1, n_or]
    · rw [mset_at, if_pos rfl, mset_at, if_neg (by decide), f26, hS.2.2.1, n_add]
    · rw [mset_at, if_neg (by decide), mset_at, if_neg (by decide), f26]; exact hS.2.2.2.1
    · rw [mset_at, if_neg (by decide), mset_at, if_neg (by decide), f26]
    · intro s q; rw [mset_ne _ _ _ (by decide), mset_ne _ _ _ (by decide)]; exact (hB.cu h25).2.2.2.2 s q
theorem call_X2_utter {E : ME} {Φ : Option AV → AM → Prop} {pc : Nat} {L : List (Option AV)} {st : List AV} {m : AM} {a : Nat × Nat} {idx : Nat} {x0 x1 : AV} {i : Nat} (hl : Cond.methodLink E.2.1 idx yX2_utter ∈ TB) (hdep : 4 + 1 ≤ E.2.2.2.2.2.2) (hroom : a.1 + 0 ≤ E.2.2.2.2.1 ∧ a.2 + 0 ≤ E.2.2.2.2.2.1) (hsr : st.length ≤ 4) (hd : decode E.1 pc = .ok (.invokevirtual idx, 3)) (hsp : Sp_X2_utter [vr 2 i, x0, x1] m (fun r m2 => B E Φ (pc + 3) L (r.toList ++ st) m2 a)) : B E Φ pc L (x1 :: x0 :: vr 2 i :: st) m a := b_callV S_X2_utter [x0, x1] (RX2, TX2, 5) rfl rfl (by decide) (Or.inl hl) k660 k661 k73 k662 (show _ ∧ _ ∧ Option.map (fun d => d.parameters.length) (parseMethodDescriptor yX2_utter.desc) = some 2 from by decide +kernel) ⟨hdep, by decide⟩ hroom hsr hd hsp
