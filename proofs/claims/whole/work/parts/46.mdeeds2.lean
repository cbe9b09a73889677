/-! the reference: strike, undo, image, restore, rule -/
theorem sumS_le {C : Nat → Nat} (h : ∀ r, r < 8 → C (11 + 4 * r) ≤ 1) : ∀ n, n ≤ 8 → sumS C n ≤ n
  | 0, _ => Nat.le_refl 0
  | n + 1, hn => by
    have h1 := sumS_le h n (by omega)
    have h2 := h n (by omega)
    show sumS C n + C (11 + 4 * n) ≤ n + 1
    omega
abbrev e_X11_strike : ME := (cX11_strike, (RX11, (5, ((some .int), (0, (0, 8))))))
theorem dX11_strike_0 : decode cX11_strike 0 = .ok (.aload_n 0, 1) := by decide +kernel
theorem dX11_strike_1 : decode cX11_strike 1 = .ok (.iconst 0, 1) := by decide +kernel
theorem dX11_strike_2 : decode cX11_strike 2 = .ok (.putfield 53, 3) := by decide +kernel
theorem dX11_strike_5 : decode cX11_strike 5 = .ok (.aload_n 0, 1) := by decide +kernel
theorem dX11_strike_6 : decode cX11_strike 6 = .ok (.iload_n 1, 1) := by decide +kernel
theorem dX11_strike_7 : decode cX11_strike 7 = .ok (.invokevirtual 196, 3) := by decide +kernel
theorem dX11_strike_10 : decode cX11_strike 10 = .ok (.ifCond .eq 13, 3) := by decide +kernel
theorem dX11_strike_13 : decode cX11_strike 13 = .ok (.iload_n 2, 1) := by decide +kernel
theorem dX11_strike_14 : decode cX11_strike 14 = .ok (.i2l, 1) := by decide +kernel
theorem dX11_strike_15 : decode cX11_strike 15 = .ok (.lconst 0, 1) := by decide +kernel
theorem dX11_strike_16 : decode cX11_strike 16 = .ok (.lconst 1, 1) := by decide +kernel
theorem dX11_strike_17 : decode cX11_strike 17 = .ok (.invokestatic 63, 3) := by decide +kernel
theorem dX11_strike_20 : decode cX11_strike 20 = .ok (.ifCond .ne 6, 3) := by decide +kernel
theorem dX11_strike_23 : decode cX11_strike 23 = .ok (.ldc 73, 2) := by decide +kernel
theorem dX11_strike_25 : decode cX11_strike 25 = .ok (.ireturn, 1) := by decide +kernel
theorem dX11_strike_26 : decode cX11_strike 26 = .ok (.aload_n 0, 1) := by decide +kernel
theorem dX11_strike_27 : decode cX11_strike 27 = .ok (.getfield 19, 3) := by decide +kernel
theorem dX11_strike_30 : decode cX11_strike 30 = .ok (.bipush 8, 2) := by decide +kernel
theorem dX11_strike_32 : decode cX11_strike 32 = .ok (.iconst 4, 1) := by decide +kernel
theorem dX11_strike_33 : decode cX11_strike 33 = .ok (.iload_n 1, 1) := by decide +kernel
theorem dX11_strike_34 : decode cX11_strike 34 = .ok (.imul, 1) := by decide +kernel
theorem dX11_strike_35 : decode cX11_strike 35 = .ok (.iadd, 1) := by decide +kernel
theorem dX11_strike_36 : decode cX11_strike 36 = .ok (.iconst 3, 1) := by decide +kernel
theorem dX11_strike_37 : decode cX11_strike 37 = .ok (.iadd, 1) := by decide +kernel
theorem dX11_strike_38 : decode cX11_strike 38 = .ok (.iaload, 1) := by decide +kernel
theorem dX11_strike_39 : decode cX11_strike 39 = .ok (.iload_n 2, 1) := by decide +kernel
theorem dX11_strike_40 : decode cX11_strike 40 = .ok (.if_icmp .ne 6, 3) := by decide +kernel
theorem dX11_strike_43 : decode cX11_strike 43 = .ok (.ldc 195, 2) := by decide +kernel
theorem dX11_strike_45 : decode cX11_strike 45 = .ok (.ireturn, 1) := by decide +kernel
theorem dX11_strike_46 : decode cX11_strike 46 = .ok (.aload_n 0, 1) := by decide +kernel
theorem dX11_strike_47 : decode cX11_strike 47 = .ok (.invokevirtual 183, 3) := by decide +kernel
theorem dX11_strike_50 : decode cX11_strike 50 = .ok (.aload_n 0, 1) := by decide +kernel
theorem dX11_strike_51 : decode cX11_strike 51 = .ok (.getfield 19, 3) := by decide +kernel
theorem dX11_strike_54 : decode cX11_strike 54 = .ok (.bipush 8, 2) := by decide +kernel
theorem dX11_strike_56 : decode cX11_strike 56 = .ok (.iconst 4, 1) := by decide +kernel
theorem dX11_strike_57 : decode cX11_strike 57 = .ok (.iload_n 1, 1) := by decide +kernel
theorem dX11_strike_58 : decode cX11_strike 58 = .ok (.imul, 1) := by decide +kernel
theorem dX11_strike_59 : decode cX11_strike 59 = .ok (.iadd, 1) := by decide +kernel
theorem dX11_strike_60 : decode cX11_strike 60 = .ok (.iconst 3, 1) := by decide +kernel
theorem dX11_strike_61 : decode cX11_strike 61 = .ok (.iadd, 1) := by decide +kernel
theorem dX11_strike_62 : decode cX11_strike 62 = .ok (.iload_n 2, 1) := by decide +kernel
theorem dX11_strike_63 : decode cX11_strike 63 = .ok (.iastore, 1) := by decide +kernel
theorem dX11_strike_64 : decode cX11_strike 64 = .ok (.iconst 0, 1) := by decide +kernel
theorem dX11_strike_65 : decode cX11_strike 65 = .ok (.istore_n 3, 1) := by decide +kernel
theorem dX11_strike_66 : decode cX11_strike 66 = .ok (.iconst 0, 1) := by decide +kernel
theorem dX11_strike_67 : decode cX11_strike 67 = .ok (.istore 4, 2) := by decide +kernel
theorem dX11_strike_69 : decode cX11_strike 69 = .ok (.iload 4, 2) := by decide +kernel
theorem dX11_strike_71 : decode cX11_strike 71 = .ok (.aload_n 0, 1) := by decide +kernel
theorem dX11_strike_72 : decode cX11_strike 72 = .ok (.getfield 19, 3) := by decide +kernel
theorem dX11_strike_75 : decode cX11_strike 75 = .ok (.iconst 3, 1) := by decide +kernel
theorem dX11_strike_76 : decode cX11_strike 76 = .ok (.iaload, 1) := by decide +kernel
theorem dX11_strike_77 : decode cX11_strike 77 = .ok (.if_icmp .ge 26, 3) := by decide +kernel
theorem dX11_strike_80 : decode cX11_strike 80 = .ok (.iload_n 3, 1) := by decide +kernel
theorem dX11_strike_81 : decode cX11_strike 81 = .ok (.aload_n 0, 1) := by decide +kernel
theorem dX11_strike_82 : decode cX11_strike 82 = .ok (.getfield 19, 3) := by decide +kernel
theorem dX11_strike_85 : decode cX11_strike 85 = .ok (.bipush 8, 2) := by decide +kernel
theorem dX11_strike_87 : decode cX11_strike 87 = .ok (.iconst 4, 1) := by decide +kernel
theorem dX11_strike_88 : decode cX11_strike 88 = .ok (.iload 4, 2) := by decide +kernel
theorem dX11_strike_90 : decode cX11_strike 90 = .ok (.imul, 1) := by decide +kernel
theorem dX11_strike_91 : decode cX11_strike 91 = .ok (.iadd, 1) := by decide +kernel
theorem dX11_strike_92 : decode cX11_strike 92 = .ok (.iconst 3, 1) := by decide +kernel
theorem dX11_strike_93 : decode cX11_strike 93 = .ok (.iadd, 1) := by decide +kernel
theorem dX11_strike_94 : decode cX11_strike 94 = .ok (.iaload, 1) := by decide +kernel
theorem dX11_strike_95 : decode cX11_strike 95 = .ok (.iadd, 1) := by decide +kernel
theorem dX11_strike_96 : decode cX11_strike 96 = .ok (.istore_n 3, 1) := by decide +kernel
theorem dX11_strike_97 : decode cX11_strike 97 = .ok (.iinc 4 1, 3) := by decide +kernel
theorem dX11_strike_100 : decode cX11_strike 100 = .ok (.goto (-31), 3) := by decide +kernel
theorem dX11_strike_103 : decode cX11_strike 103 = .ok (.iload_n 3, 1) := by decide +kernel
theorem dX11_strike_104 : decode cX11_strike 104 = .ok (.ireturn, 1) := by decide +kernel
def Sp_X11_strike (av : List AV) (m : AM) (Φ : Option AV → AM → Prop) : Prop := ∃ r o, av = [vr 11 110, vi r, vi o] ∧ ∃ C a W, MCo m C ∧ MAct m a W ∧ ((inB r (C 3) && inB o 2) = false → ∀ m2, Fm [] [0] m m2 → Φ (some (vi (-1000001))) m2) ∧ ((inB r (C 3) && inB o 2) = true → nI (C (11 + 4 * r.toNatClampNeg)) = o → ∀ m2, Fm [] [0] m m2 → Φ (some (vi (-1000002))) m2) ∧ ((inB r (C 3) && inB o 2) = true → ¬ nI (C (11 + 4 * r.toNatClampNeg)) = o → ∀ m2, Fm [114, 116] [0, 8] m m2 → MC m2 (strN C r.toNatClampNeg o.toNatClampNeg) → MAct m2 (keepA a) (keepW a W C) → Φ (some (vi (nI (sumS (strN C r.toNatClampNeg o.toNatClampNeg) (C 3))))) m2)
set_option maxRecDepth 20000 in
set_option maxHeartbeats 4000000 in
theorem S_X11_strike : Snd yX11_strike e_X11_strike Sp_X11_strike := by
  refine Snd.of (by decide +kernel) rfl ?_ ?_
  · rintro av m Φ ⟨r, o, rfl, _⟩; exact Nat.le_of_ble_eq_true rfl
  rintro av m Φ ⟨r, o, rfl, C, a, W, hC0, hA, h1, h2, h3⟩ hav hty
  show B e_X11_strike Φ 0 [some (vr 11 110), some (vi r), some (vi o), none, none] [] m (0, 0)
  have hC : MCo (mset m 110 0 (nI 0)) C := hC0.ms (by decide)
  have hle := hC.le
  by_cases hp : inB r (C 3) = true
  · by_cases hs : inB o 2 = true
    · have hps : (inB r (C 3) && inB o 2) = true := by rw [hp, hs]; rfl
      obtain ⟨j, hj, rfl⟩ := (inB_iff (by omega)).mp hp
      obtain ⟨k, hk, rfl⟩ := (inB_iff (by omega)).mp hs
      have hv := hC.op (Or.inr (Or.inl (by omega)))
      rw [n_cl (show j < 2147483648 by omega)] at h2 h3
      rw [n_cl (show k < 2147483648 by omega)] at h3
      have hr01 := hv.2.2.2.2.2.2.2.2.1
      have D3 : strN C j k 3 = C 3 := upC_ne C _ (by omega)
      have loop : ∀ m2, MC m2 (strN C j k) → (Φ (some (vi (nI (sumS (strN C j k) (C 3))))) m2) → ∀ n i, C 3 + 1 ≤ i + n → i ≤ C 3 → B e_X11_strike Φ 69 [some (vr 11 110), some (vi (nI j)), some (vi (nI k)), some (vi (nI (sumS (strN C j k) i))), some (vi (nI i))] [] m2 (0, 0) := by
        intro m2 hM hk2 n
        induction n with
        | zero => intro i a b; omega
        | succ n ih =>
          intro i a b
          refine b_iloadG (pc := 69) 4 dX11_strike_69 rfl ?_
          refine b_aloadN (pc := 71) 0 dX11_strike_71 rfl rfl ?_
          refine gf11_5 (pc := 72) 114 rfl k1047 dX11_strike_72 ?_
          refine b_iconst (pc := 75) (nI 3) dX11_strike_75 (by decide) ?_
          refine b_iald (pc := 76) (by decide) ?_ dX11_strike_76 ?_
          rotate_left -- leaf 0: index at 76
          refine b_icmp_ge (pc := 77) 103 dX11_strike_77 (by decide) (fun c77 => ?_) (fun c77 => ?_)
          refine b_iloadN (pc := 103) 3 dX11_strike_103 rfl rfl ?_
          refine b_iret (pc := 104) rfl dX11_strike_104 ⟨Nat.le_of_ble_eq_true rfl, Nat.le_of_ble_eq_true rfl⟩ ?_
          rotate_left -- leaf 1: return at 104
          refine b_iloadN (pc := 80) 3 dX11_strike_80 rfl rfl ?_
          refine b_aloadN (pc := 81) 0 dX11_strike_81 rfl rfl ?_
          refine gf11_5 (pc := 82) 114 rfl k1047 dX11_strike_82 ?_
          refine b_bipush (pc := 85) (nI 8) dX11_strike_85 (by decide) ?_
          refine b_iconst (pc := 87) (nI 4) dX11_strike_87 (by decide) ?_
          refine b_iloadG (pc := 88) 4 dX11_strike_88 rfl ?_
          refine b_imul (pc := 90) dX11_strike_90 ?_
          refine b_iadd (pc := 91) dX11_strike_91 ?_
          refine b_iconst (pc := 92) (nI 3) dX11_strike_92 (by decide) ?_
          refine b_iadd (pc := 93) dX11_strike_93 ?_
          refine b_iald (pc := 94) (by decide) ?_ dX11_strike_94 ?_
          rotate_left -- leaf 2: index at 94
          refine b_iadd (pc := 95) dX11_strike_95 ?_
          refine siN3 (pc := 96) rfl notL_i (by decide) dX11_strike_96 ?_
          refine inc4 (pc := 97) notL_i (by decide) dX11_strike_97 ?_
          refine b_goto (pc := 100) 69 dX11_strike_100 (by decide) ?_
          rotate_left -- leaf 3: at 69
          -- leaves: 0 index at 76; 1 return at 104; 2 index at 94; 3 at 69
          · exact n_in (by omega) (by omega)
          · rw [n_cl (by omega), hM 3 (by omega), D3, n_le (by omega) (by omega)] at c77
            rw [show i = C 3 by omega]
            exact hk2
          · rw [n_cl (by omega), hM 3 (by omega), D3, n_le (by omega) (by omega)] at c77
            rw [n_mul, n_add, n_add]; exact n_in (by omega) (by omega)
          · rw [n_cl (by omega), hM 3 (by omega), D3, n_le (by omega) (by omega)] at c77
            rw [n_mul, n_add, n_add, n_cl (by omega), hM _ (by omega), n_add, n_inc, show 8 + 4 * i + 3 = 11 + 4 * i by omega]
            exact ih (i + 1) (by omega) (by omega)
      refine b_aloadN (pc := 0) 0 dX11_strike_0 rfl rfl ?_
      refine b_iconst (pc := 1) (nI 0) dX11_strike_1 (by decide) ?_
      refine pf11_0 (pc := 2) k1042 dX11_strike_2 ?_
      refine b_aloadN (pc := 5) 0 dX11_strike_5 rfl rfl ?_
      refine b_iloadN (pc := 6) 1 dX11_strike_6 rfl rfl ?_
      refine call_X11_isRule (pc := 7) k1280 (by decide) ⟨Nat.le_of_ble_eq_true rfl, Nat.le_of_ble_eq_true rfl⟩ (Nat.le_of_ble_eq_true rfl) dX11_strike_7 ?_
      refine ⟨_, rfl, _, hC.1 3 (by omega), ?_, ?_⟩
      rotate_left -- leaf 0: small of X11_isRule at 7
      refine b_if_eq (pc := 10) 23 dX11_strike_10 (by decide) (fun c10 => ?_) (fun c10 => ?_)
      refine b_ldc (pc := 23) k1140 dX11_strike_23 ?_
      refine b_iret (pc := 25) rfl dX11_strike_25 ⟨Nat.le_of_ble_eq_true rfl, Nat.le_of_ble_eq_true rfl⟩ ?_
      rotate_left -- leaf 1: return at 25
      refine b_iloadN (pc := 13) 2 dX11_strike_13 rfl rfl ?_
      refine b_i2l (pc := 14) dX11_strike_14 ?_
      refine b_lconst (pc := 15) 0 dX11_strike_15 (by decide) ?_
      refine b_lconst (pc := 16) 1 dX11_strike_16 (by decide) ?_
      refine call_X11_in (pc := 17) k1136 (by decide) ⟨Nat.le_of_ble_eq_true rfl, Nat.le_of_ble_eq_true rfl⟩ (Nat.le_of_ble_eq_true rfl) dX11_strike_17 ?_
      refine ⟨_, _, _, rfl, ?_⟩
      refine b_if_ne (pc := 20) 26 dX11_strike_20 (by decide) (fun c20 => ?_) (fun c20 => ?_)
      refine b_aloadN (pc := 26) 0 dX11_strike_26 rfl rfl ?_
      refine gf11_5 (pc := 27) 114 rfl k1047 dX11_strike_27 ?_
      refine b_bipush (pc := 30) (nI 8) dX11_strike_30 (by decide) ?_
      refine b_iconst (pc := 32) (nI 4) dX11_strike_32 (by decide) ?_
      refine b_iloadN (pc := 33) 1 dX11_strike_33 rfl rfl ?_
      refine b_imul (pc := 34) dX11_strike_34 ?_
      refine b_iadd (pc := 35) dX11_strike_35 ?_
      refine b_iconst (pc := 36) (nI 3) dX11_strike_36 (by decide) ?_
      refine b_iadd (pc := 37) dX11_strike_37 ?_
      refine b_iald (pc := 38) (by decide) ?_ dX11_strike_38 ?_
      rotate_left -- leaf 2: index at 38
      refine b_iloadN (pc := 39) 2 dX11_strike_39 rfl rfl ?_
      refine b_icmp_ne (pc := 40) 46 dX11_strike_40 (by decide) (fun c40 => ?_) (fun c40 => ?_)
      refine b_aloadN (pc := 46) 0 dX11_strike_46 rfl rfl ?_
      refine call_X11_keep (pc := 47) k1237 (by decide) ⟨Nat.le_of_ble_eq_true rfl, Nat.le_of_ble_eq_true rfl⟩ (Nat.le_of_ble_eq_true rfl) dX11_strike_47 ?_
      refine ⟨rfl, C, a, W, hC.1, hA.m0 (by decide), fun m47 fm47 ac47 => ?_⟩
      refine b_aloadN (pc := 50) 0 dX11_strike_50 rfl rfl ?_
      refine gf11_5 (pc := 51) 114 rfl k1047 dX11_strike_51 ?_
      refine b_bipush (pc := 54) (nI 8) dX11_strike_54 (by decide) ?_
      refine b_iconst (pc := 56) (nI 4) dX11_strike_56 (by decide) ?_
      refine b_iloadN (pc := 57) 1 dX11_strike_57 rfl rfl ?_
      refine b_imul (pc := 58) dX11_strike_58 ?_
      refine b_iadd (pc := 59) dX11_strike_59 ?_
      refine b_iconst (pc := 60) (nI 3) dX11_strike_60 (by decide) ?_
      refine b_iadd (pc := 61) dX11_strike_61 ?_
      refine b_iloadN (pc := 62) 2 dX11_strike_62 rfl rfl ?_
      refine b_iast (pc := 63) (by decide) ?_ dX11_strike_63 ?_
      rotate_left -- leaf 3: index at 63
      refine b_iconst (pc := 64) (nI 0) dX11_strike_64 (by decide) ?_
      refine siN3 (pc := 65) rfl notL_i (by decide) dX11_strike_65 ?_
      refine b_iconst (pc := 66) (nI 0) dX11_strike_66 (by decide) ?_
      refine siG4 (pc := 67) notL_i (by decide) dX11_strike_67 ?_
      rotate_left -- leaf 4: at 69
      refine b_ldc (pc := 43) k1275 dX11_strike_43 ?_
      refine b_iret (pc := 45) rfl dX11_strike_45 ⟨Nat.le_of_ble_eq_true rfl, Nat.le_of_ble_eq_true rfl⟩ ?_
      rotate_left -- leaf 5: return at 45
      refine b_ldc (pc := 23) k1140 dX11_strike_23 ?_
      refine b_iret (pc := 25) rfl dX11_strike_25 ⟨Nat.le_of_ble_eq_true rfl, Nat.le_of_ble_eq_true rfl⟩ ?_
      rotate_left -- leaf 6: return at 25
      -- leaves: 0 small of X11_isRule at 7; 1 return at 25; 2 index at 38; 3 index at 63; 4 at 69; 5 return at 45; 6 return at 25
      · omega
      · rw [hp] at c10; exact absurd c10 (by decide)
      · rw [n_mul, n_add, n_add]; exact n_in (by omega) (by omega)
      · rw [n_mul, n_add, n_add]; exact n_in (by omega) (by omega)
      · rw [n_mul, n_add, n_add, n_cl (by omega), hC.1 _ (by omega), show 8 + 4 * j + 3 = 11 + 4 * j by omega] at c40
        rw [n_mul, n_add, n_add, n_cl (by omega), show 8 + 4 * j + 3 = 11 + 4 * j by omega]
        have M0 := (MC.fm fm47 hC.1 (by simp)).up (k := 11 + 4 * j) (v := k) rfl
        exact loop _ M0 (h3 hps c40 _ (((fm47.mono (by simp) (by simp)).st (by simp)).ms (by decide) (by simp)) M0 (ac47.ms (by decide) (by decide))) (C 3 + 1) 0 (by omega) (by omega)
      · rw [n_mul, n_add, n_add, n_cl (by omega), hC.1 _ (by omega), show 8 + 4 * j + 3 = 11 + 4 * j by omega] at c40
        exact h2 hps c40 _ ((Fm.rf _ _ m).m0 (by simp))
      · rw [inLc 2 rfl (by omega), hs] at c20; exact absurd c20 (by decide)
    · have q : (inB r (C 3) && inB o 2) = false := by
        cases e : inB o 2
        · rw [Bool.and_false]
        · exact absurd e hs
      refine b_aloadN (pc := 0) 0 dX11_strike_0 rfl rfl ?_
      refine b_iconst (pc := 1) (nI 0) dX11_strike_1 (by decide) ?_
      refine pf11_0 (pc := 2) k1042 dX11_strike_2 ?_
      refine b_aloadN (pc := 5) 0 dX11_strike_5 rfl rfl ?_
      refine b_iloadN (pc := 6) 1 dX11_strike_6 rfl rfl ?_
      refine call_X11_isRule (pc := 7) k1280 (by decide) ⟨Nat.le_of_ble_eq_true rfl, Nat.le_of_ble_eq_true rfl⟩ (Nat.le_of_ble_eq_true rfl) dX11_strike_7 ?_
      refine ⟨_, rfl, _, hC.1 3 (by omega), ?_, ?_⟩
      rotate_left -- leaf 0: small of X11_isRule at 7
      refine b_if_eq (pc := 10) 23 dX11_strike_10 (by decide) (fun c10 => ?_) (fun c10 => ?_)
      refine b_ldc (pc := 23) k1140 dX11_strike_23 ?_
      refine b_iret (pc := 25) rfl dX11_strike_25 ⟨Nat.le_of_ble_eq_true rfl, Nat.le_of_ble_eq_true rfl⟩ ?_
      rotate_left -- leaf 1: return at 25
      refine b_iloadN (pc := 13) 2 dX11_strike_13 rfl rfl ?_
      refine b_i2l (pc := 14) dX11_strike_14 ?_
      refine b_lconst (pc := 15) 0 dX11_strike_15 (by decide) ?_
      refine b_lconst (pc := 16) 1 dX11_strike_16 (by decide) ?_
      refine call_X11_in (pc := 17) k1136 (by decide) ⟨Nat.le_of_ble_eq_true rfl, Nat.le_of_ble_eq_true rfl⟩ (Nat.le_of_ble_eq_true rfl) dX11_strike_17 ?_
      refine ⟨_, _, _, rfl, ?_⟩
      refine b_if_ne (pc := 20) 26 dX11_strike_20 (by decide) (fun c20 => ?_) (fun c20 => ?_)
      rotate_left -- leaf 2: at 26
      refine b_ldc (pc := 23) k1140 dX11_strike_23 ?_
      refine b_iret (pc := 25) rfl dX11_strike_25 ⟨Nat.le_of_ble_eq_true rfl, Nat.le_of_ble_eq_true rfl⟩ ?_
      rotate_left -- leaf 3: return at 25
      -- leaves: 0 small of X11_isRule at 7; 1 return at 25; 2 at 26; 3 return at 25
      · omega
      · exact h1 q _ ((Fm.rf _ _ m).m0 (by simp))
      · rw [inLc 2 rfl (by omega)] at c20
        exact absurd (bT c20) hs
      · exact h1 q _ ((Fm.rf _ _ m).m0 (by simp))
  · have q : (inB r (C 3) && inB o 2) = false := by
      cases e : inB r (C 3)
      · rfl
      · exact absurd e hp
    refine b_aloadN (pc := 0) 0 dX11_strike_0 rfl rfl ?_
    refine b_iconst (pc := 1) (nI 0) dX11_strike_1 (by decide) ?_
    refine pf11_0 (pc := 2) k1042 dX11_strike_2 ?_
    refine b_aloadN (pc := 5) 0 dX11_strike_5 rfl rfl ?_
    refine b_iloadN (pc := 6) 1 dX11_strike_6 rfl rfl ?_
    refine call_X11_isRule (pc := 7) k1280 (by decide) ⟨Nat.le_of_ble_eq_true rfl, Nat.le_of_ble_eq_true rfl⟩ (Nat.le_of_ble_eq_true rfl) dX11_strike_7 ?_
    refine ⟨_, rfl, _, hC.1 3 (by omega), ?_, ?_⟩
    rotate_left -- leaf 0: small of X11_isRule at 7
    refine b_if_eq (pc := 10) 23 dX11_strike_10 (by decide) (fun c10 => ?_) (fun c10 => ?_)
    refine b_ldc (pc := 23) k1140 dX11_strike_23 ?_
    refine b_iret (pc := 25) rfl dX11_strike_25 ⟨Nat.le_of_ble_eq_true rfl, Nat.le_of_ble_eq_true rfl⟩ ?_
    rotate_left -- leaf 1: return at 25
    refine b_iloadN (pc := 13) 2 dX11_strike_13 rfl rfl ?_
    refine b_i2l (pc := 14) dX11_strike_14 ?_
    refine b_lconst (pc := 15) 0 dX11_strike_15 (by decide) ?_
    refine b_lconst (pc := 16) 1 dX11_strike_16 (by decide) ?_
    refine call_X11_in (pc := 17) k1136 (by decide) ⟨Nat.le_of_ble_eq_true rfl, Nat.le_of_ble_eq_true rfl⟩ (Nat.le_of_ble_eq_true rfl) dX11_strike_17 ?_
    refine ⟨_, _, _, rfl, ?_⟩
    refine b_if_ne (pc := 20) 26 dX11_strike_20 (by decide) (fun c20 => ?_) (fun c20 => ?_)
    rotate_left -- leaf 2: at 26
    refine b_ldc (pc := 23) k1140 dX11_strike_23 ?_
    refine b_iret (pc := 25) rfl dX11_strike_25 ⟨Nat.le_of_ble_eq_true rfl, Nat.le_of_ble_eq_true rfl⟩ ?_
    rotate_left -- leaf 3: return at 25
    -- leaves: 0 small of X11_isRule at 7; 1 return at 25; 2 at 26; 3 return at 25
    · omega
    · exact h1 q _ ((Fm.rf _ _ m).m0 (by simp))
    · exact absurd (bT c10) hp
    · exact absurd (bT c10) hp
theorem call_X11_strike {E : ME} {Φ : Option AV → AM → Prop} {pc : Nat} {L : List (Option AV)} {st : List AV} {m : AM} {a : Nat × Nat} {idx : Nat} {x0 x1 : AV} {i : Nat} (hl : Cond.methodLink E.2.1 idx yX11_strike ∈ TB) (hdep : 8 + 1 ≤ E.2.2.2.2.2.2) (hroom : a.1 + 0 ≤ E.2.2.2.2.1 ∧ a.2 + 0 ≤ E.2.2.2.2.2.1) (hsr : st.length ≤ 4) (hd : decode E.1 pc = .ok (.invokevirtual idx, 3)) (hsp : Sp_X11_strike [vr 11 i, x0, x1] m (fun r m2 => B E Φ (pc + 3) L (r.toList ++ st) m2 a)) : B E Φ pc L (x1 :: x0 :: vr 11 i :: st) m a := b_callV S_X11_strike [x0, x1] (RX11, TX11, 28) rfl rfl (by decide) (Or.inl hl) k1277 k1278 k80 k1279 (show _ ∧ _ ∧ Option.map (fun d => d.parameters.length) (parseMethodDescriptor yX11_strike.desc) = some 2 from by decide +kernel) ⟨hdep, by decide⟩ hroom hsr hd hsp
abbrev e_X11_undo : ME := (cX11_undo, (RX11, (2, ((some .int), (0, (0, 8))))))
theorem dX11_undo_0 : decode cX11_undo 0 = .ok (.aload_n 0, 1) := by decide +kernel
theorem dX11_undo_1 : decode cX11_undo 1 = .ok (.iconst 0, 1) := by decide +kernel
theorem dX11_undo_2 : decode cX11_undo 2 = .ok (.putfield 53, 3) := by decide +kernel
theorem dX11_undo_5 : decode cX11_undo 5 = .ok (.aload_n 0, 1) := by decide +kernel
theorem dX11_undo_6 : decode cX11_undo 6 = .ok (.getfield 156, 3) := by decide +kernel
theorem dX11_undo_9 : decode cX11_undo 9 = .ok (.ifCond .ne 6, 3) := by decide +kernel
theorem dX11_undo_12 : decode cX11_undo 12 = .ok (.ldc 195, 2) := by decide +kernel
theorem dX11_undo_14 : decode cX11_undo 14 = .ok (.ireturn, 1) := by decide +kernel
theorem dX11_undo_15 : decode cX11_undo 15 = .ok (.aload_n 0, 1) := by decide +kernel
theorem dX11_undo_16 : decode cX11_undo 16 = .ok (.dup, 1) := by decide +kernel
theorem dX11_undo_17 : decode cX11_undo 17 = .ok (.getfield 156, 3) := by decide +kernel
theorem dX11_undo_20 : decode cX11_undo 20 = .ok (.iconst 1, 1) := by decide +kernel
theorem dX11_undo_21 : decode cX11_undo 21 = .ok (.isub, 1) := by decide +kernel
theorem dX11_undo_22 : decode cX11_undo 22 = .ok (.putfield 156, 3) := by decide +kernel
theorem dX11_undo_25 : decode cX11_undo 25 = .ok (.iconst 0, 1) := by decide +kernel
theorem dX11_undo_26 : decode cX11_undo 26 = .ok (.istore_n 1, 1) := by decide +kernel
theorem dX11_undo_27 : decode cX11_undo 27 = .ok (.iload_n 1, 1) := by decide +kernel
theorem dX11_undo_28 : decode cX11_undo 28 = .ok (.bipush 50, 2) := by decide +kernel
theorem dX11_undo_30 : decode cX11_undo 30 = .ok (.if_icmp .ge 29, 3) := by decide +kernel
theorem dX11_undo_33 : decode cX11_undo 33 = .ok (.aload_n 0, 1) := by decide +kernel
theorem dX11_undo_34 : decode cX11_undo 34 = .ok (.getfield 19, 3) := by decide +kernel
theorem dX11_undo_37 : decode cX11_undo 37 = .ok (.iload_n 1, 1) := by decide +kernel
theorem dX11_undo_38 : decode cX11_undo 38 = .ok (.aload_n 0, 1) := by decide +kernel
theorem dX11_undo_39 : decode cX11_undo 39 = .ok (.getfield 25, 3) := by decide +kernel
theorem dX11_undo_42 : decode cX11_undo 42 = .ok (.bipush 50, 2) := by decide +kernel
theorem dX11_undo_44 : decode cX11_undo 44 = .ok (.aload_n 0, 1) := by decide +kernel
theorem dX11_undo_45 : decode cX11_undo 45 = .ok (.getfield 156, 3) := by decide +kernel
theorem dX11_undo_48 : decode cX11_undo 48 = .ok (.imul, 1) := by decide +kernel
theorem dX11_undo_49 : decode cX11_undo 49 = .ok (.iload_n 1, 1) := by decide +kernel
theorem dX11_undo_50 : decode cX11_undo 50 = .ok (.iadd, 1) := by decide +kernel
theorem dX11_undo_51 : decode cX11_undo 51 = .ok (.iaload, 1) := by decide +kernel
theorem dX11_undo_52 : decode cX11_undo 52 = .ok (.iastore, 1) := by decide +kernel
theorem dX11_undo_53 : decode cX11_undo 53 = .ok (.iinc 1 1, 3) := by decide +kernel
theorem dX11_undo_56 : decode cX11_undo 56 = .ok (.goto (-29), 3) := by decide +kernel
theorem dX11_undo_59 : decode cX11_undo 59 = .ok (.aload_n 0, 1) := by decide +kernel
theorem dX11_undo_60 : decode cX11_undo 60 = .ok (.getfield 156, 3) := by decide +kernel
theorem dX11_undo_63 : decode cX11_undo 63 = .ok (.ireturn, 1) := by decide +kernel
def Sp_X11_undo (av : List AV) (m : AM) (Φ : Option AV → AM → Prop) : Prop := av = [vr 11 110] ∧ ∃ a W, MAct m a W ∧ (a = 0 → ∀ m2, Fm [] [0] m m2 → Φ (some (vi (-1000002))) m2) ∧ (0 < a → ∀ m2, Fm [114] [0, 8] m m2 → MC m2 (W (a - 1)) → MAct m2 (a - 1) W → Φ (some (vi (nI (a - 1)))) m2)
set_option maxRecDepth 20000 in
set_option maxHeartbeats 4000000 in
theorem S_X11_undo : Snd yX11_undo e_X11_undo Sp_X11_undo := by
  refine Snd.of (by decide +kernel) rfl ?_ ?_
  · rintro av m Φ ⟨rfl, _⟩; exact Nat.le_of_ble_eq_true rfl
  rintro av m Φ ⟨rfl, a, W, hA, h1, h2⟩ hav hty
  show B e_X11_undo Φ 0 [some (vr 11 110), none] [] m (0, 0)
  have ha := hA.2.1
  have copy : ∀ b (m1 : AM) g, b < 24 → m1.1 110 8 = nI b → (∀ m2, m2 = aset m1 114 (va_cpy (m1.1 116) g (50 * b) 0 50) → Φ (some (vi (nI b))) m2) → ∀ n k, 51 ≤ k + n → k ≤ 50 → B e_X11_undo Φ 27 [some (vr 11 110), some (vi (nI k))] [] (aset m1 114 (va_cpy (m1.1 116) g (50 * b) 0 k)) (0, 0) := by
    intro b m1 g hb h8 hk n
    have e8 : ∀ f, (aset m1 114 f).1 110 8 = nI b := fun f => by rw [aset_ne _ _ (by decide)]; exact h8
    have e116 : ∀ f, (aset m1 114 f).1 116 = m1.1 116 := fun f => aset_ne _ _ (by decide)
    induction n with
    | zero => intro k h1 h2; omega
    | succ n ih =>
      intro k h1 h2
      refine b_iloadN (pc := 27) 1 dX11_undo_27 rfl rfl ?_
      refine b_bipush (pc := 28) (nI 50) dX11_undo_28 (by decide) ?_
      refine b_icmp_ge (pc := 30) 59 dX11_undo_30 (by decide) (fun c30 => ?_) (fun c30 => ?_)
      refine b_aloadN (pc := 59) 0 dX11_undo_59 rfl rfl ?_
      refine gf11_8 (pc := 60) k1050 dX11_undo_60 ?_
      refine b_iret (pc := 63) rfl dX11_undo_63 ⟨Nat.le_of_ble_eq_true rfl, Nat.le_of_ble_eq_true rfl⟩ ?_
      rotate_left -- leaf 0: return at 63
      refine b_aloadN (pc := 33) 0 dX11_undo_33 rfl rfl ?_
      refine gf11_5 (pc := 34) 114 rfl k1047 dX11_undo_34 ?_
      refine b_iloadN (pc := 37) 1 dX11_undo_37 rfl rfl ?_
      refine b_aloadN (pc := 38) 0 dX11_undo_38 rfl rfl ?_
      refine gf11_7 (pc := 39) 116 rfl k1049 dX11_undo_39 ?_
      refine b_bipush (pc := 42) (nI 50) dX11_undo_42 (by decide) ?_
      refine b_aloadN (pc := 44) 0 dX11_undo_44 rfl rfl ?_
      refine gf11_8 (pc := 45) k1050 dX11_undo_45 ?_
      refine b_imul (pc := 48) dX11_undo_48 ?_
      refine b_iloadN (pc := 49) 1 dX11_undo_49 rfl rfl ?_
      refine b_iadd (pc := 50) dX11_undo_50 ?_
      refine b_iald (pc := 51) (by decide) ?_ dX11_undo_51 ?_
      rotate_left -- leaf 1: index at 51
      refine b_iast (pc := 52) (by decide) ?_ dX11_undo_52 ?_
      rotate_left -- leaf 2: index at 52
      refine inc1 (pc := 53) notL_r (by decide) dX11_undo_53 ?_
      refine b_goto (pc := 56) 27 dX11_undo_56 (by decide) ?_
      rotate_left -- leaf 3: at 27
      -- leaves: 0 return at 63; 1 index at 51; 2 index at 52; 3 at 27
      · rw [n_le (by omega) (by omega)] at c30
        have e : k = 50 := by omega
        subst e
        rw [e8]
        exact hk _ rfl
      · rw [n_le (by omega) (by omega)] at c30
        rw [e8, n_mul, n_add]; exact n_in (by omega) (by omega)
      · rw [n_le (by omega) (by omega)] at c30
        exact n_in (by omega) (by omega)
      · rw [n_le (by omega) (by omega)] at c30
        rw [e8, e116, n_mul, n_add, n_cl (by omega), n_cl (by omega), n_inc, mset_of_aset]
        have := cpy_s (m1.1 116) g (50 * b) 0 k
        rw [Nat.zero_add] at this
        rw [this]
        exact ih (k + 1) (by omega) (by omega)
  have e8 : ∀ x, (mset m 110 0 x).1 110 8 = nI a := fun x => by rw [mset_at, if_neg (by decide)]; exact hA.1
  refine b_aloadN (pc := 0) 0 dX11_undo_0 rfl rfl ?_
  refine b_iconst (pc := 1) (nI 0) dX11_undo_1 (by decide) ?_
  refine pf11_0 (pc := 2) k1042 dX11_undo_2 ?_
  refine b_aloadN (pc := 5) 0 dX11_undo_5 rfl rfl ?_
  refine gf11_8 (pc := 6) k1050 dX11_undo_6 ?_
  refine b_if_ne (pc := 9) 15 dX11_undo_9 (by decide) (fun c9 => ?_) (fun c9 => ?_)
  refine b_aloadN (pc := 15) 0 dX11_undo_15 rfl rfl ?_
  refine b_dup_r (pc := 16) dX11_undo_16 ?_
  refine gf11_8 (pc := 17) k1050 dX11_undo_17 ?_
  refine b_iconst (pc := 20) (nI 1) dX11_undo_20 (by decide) ?_
  refine b_isub (pc := 21) dX11_undo_21 ?_
  refine pf11_8 (pc := 22) k1050 dX11_undo_22 ?_
  refine b_iconst (pc := 25) (nI 0) dX11_undo_25 (by decide) ?_
  refine siN1 (pc := 26) rfl notL_r (by decide) dX11_undo_26 ?_
  rotate_left -- leaf 0: at 27
  refine b_ldc (pc := 12) k1275 dX11_undo_12 ?_
  refine b_iret (pc := 14) rfl dX11_undo_14 ⟨Nat.le_of_ble_eq_true rfl, Nat.le_of_ble_eq_true rfl⟩ ?_
  rotate_left -- leaf 1: return at 14
  -- leaves: 0 at 27; 1 return at 14
  · rw [e8, n_eq0 (by omega)] at c9
    rw [e8, n_sub (by omega)]
    have l := copy (a - 1) (mset (mset m 110 0 (nI 0)) 110 8 (nI (a - 1))) (m.1 114) (by omega) (by rw [mset_at, if_pos rfl]) (fun m2 e => by
      subst e
      refine h2 (by omega) _ ((((Fm.rf _ _ m).m0 (by simp)).m0 (by simp)).as (by decide) (by simp)) (fun j hj => ?_) ⟨?_, by omega, fun i hi j hj => ?_⟩
      · rw [aset_at]
        unfold va_cpy
        rw [if_pos (by omega), mset_ne _ _ _ (by decide), mset_ne _ _ _ (by decide), show 50 * (a - 1) + (j - 0) = 50 * (a - 1) + j by omega]
        exact hA.2.2 (a - 1) (by omega) j hj
      · rw [aset_ne _ _ (by decide), mset_at, if_pos rfl]
      · rw [aset_ne _ _ (by decide), mset_ne _ _ _ (by decide), mset_ne _ _ _ (by decide)]
        exact hA.2.2 i (by omega) j hj) 51 0 (by omega) (by omega)
    rw [cpy_0, aset_self _ _ _ (by rw [mset_ne _ _ _ (by decide), mset_ne _ _ _ (by decide)])] at l
    exact l
  · rw [e8, n_eq0 (by omega)] at c9
    exact h1 c9 _ ((Fm.rf _ _ m).m0 (by simp))
theorem call_X11_undo {E : ME} {Φ : Option AV → AM → Prop} {pc : Nat} {L : List (Option AV)} {st : List AV} {m : AM} {a : Nat × Nat} {idx : Nat} {i : Nat} (hl : Cond.methodLink E.2.1 idx yX11_undo ∈ TB) (hdep : 8 + 1 ≤ E.2.2.2.2.2.2) (hroom : a.1 + 0 ≤ E.2.2.2.2.1 ∧ a.2 + 0 ≤ E.2.2.2.2.2.1) (hsr : st.length ≤ 4) (hd : decode E.1 pc = .ok (.invokevirtual idx, 3)) (hsp : Sp_X11_undo [vr 11 i] m (fun r m2 => B E Φ (pc + 3) L (r.toList ++ st) m2 a)) : B E Φ pc L (vr 11 i :: st) m a := b_callV S_X11_undo [] (RX11, TX11, 28) rfl rfl (by decide) (Or.inl hl) k1285 k1286 k80 k1287 (show _ ∧ _ ∧ Option.map (fun d => d.parameters.length) (parseMethodDescriptor yX11_undo.desc) = some 0 from by decide +kernel) ⟨hdep, by decide⟩ hroom hsr hd hsp
abbrev e_X11_image : ME := (cX11_image, (RX11, (3, ((some .int), (0, (0, 8))))))
theorem dX11_image_0 : decode cX11_image 0 = .ok (.aload_n 0, 1) := by decide +kernel
theorem dX11_image_1 : decode cX11_image 1 = .ok (.iconst 0, 1) := by decide +kernel
theorem dX11_image_2 : decode cX11_image 2 = .ok (.putfield 53, 3) := by decide +kernel
theorem dX11_image_5 : decode cX11_image 5 = .ok (.iload_n 1, 1) := by decide +kernel
theorem dX11_image_6 : decode cX11_image 6 = .ok (.i2l, 1) := by decide +kernel
theorem dX11_image_7 : decode cX11_image 7 = .ok (.lconst 0, 1) := by decide +kernel
theorem dX11_image_8 : decode cX11_image 8 = .ok (.lconst 1, 1) := by decide +kernel
theorem dX11_image_9 : decode cX11_image 9 = .ok (.invokestatic 63, 3) := by decide +kernel
theorem dX11_image_12 : decode cX11_image 12 = .ok (.ifCond .ne 6, 3) := by decide +kernel
theorem dX11_image_15 : decode cX11_image 15 = .ok (.ldc 73, 2) := by decide +kernel
theorem dX11_image_17 : decode cX11_image 17 = .ok (.ireturn, 1) := by decide +kernel
theorem dX11_image_18 : decode cX11_image 18 = .ok (.aload_n 0, 1) := by decide +kernel
theorem dX11_image_19 : decode cX11_image 19 = .ok (.invokevirtual 199, 3) := by decide +kernel
theorem dX11_image_22 : decode cX11_image 22 = .ok (.ifCond .ne 6, 3) := by decide +kernel
theorem dX11_image_25 : decode cX11_image 25 = .ok (.ldc 195, 2) := by decide +kernel
theorem dX11_image_27 : decode cX11_image 27 = .ok (.ireturn, 1) := by decide +kernel
theorem dX11_image_28 : decode cX11_image 28 = .ok (.iconst 0, 1) := by decide +kernel
theorem dX11_image_29 : decode cX11_image 29 = .ok (.istore_n 2, 1) := by decide +kernel
theorem dX11_image_30 : decode cX11_image 30 = .ok (.iload_n 2, 1) := by decide +kernel
theorem dX11_image_31 : decode cX11_image 31 = .ok (.bipush 50, 2) := by decide +kernel
theorem dX11_image_33 : decode cX11_image 33 = .ok (.if_icmp .ge 26, 3) := by decide +kernel
theorem dX11_image_36 : decode cX11_image 36 = .ok (.aload_n 0, 1) := by decide +kernel
theorem dX11_image_37 : decode cX11_image 37 = .ok (.getfield 47, 3) := by decide +kernel
theorem dX11_image_40 : decode cX11_image 40 = .ok (.bipush 50, 2) := by decide +kernel
theorem dX11_image_42 : decode cX11_image 42 = .ok (.iload_n 1, 1) := by decide +kernel
theorem dX11_image_43 : decode cX11_image 43 = .ok (.imul, 1) := by decide +kernel
theorem dX11_image_44 : decode cX11_image 44 = .ok (.iload_n 2, 1) := by decide +kernel
theorem dX11_image_45 : decode cX11_image 45 = .ok (.iadd, 1) := by decide +kernel
theorem dX11_image_46 : decode cX11_image 46 = .ok (.aload_n 0, 1) := by decide +kernel
theorem dX11_image_47 : decode cX11_image 47 = .ok (.getfield 19, 3) := by decide +kernel
theorem dX11_image_50 : decode cX11_image 50 = .ok (.iload_n 2, 1) := by decide +kernel
theorem dX11_image_51 : decode cX11_image 51 = .ok (.iaload, 1) := by decide +kernel
theorem dX11_image_52 : decode cX11_image 52 = .ok (.iastore, 1) := by decide +kernel
theorem dX11_image_53 : decode cX11_image 53 = .ok (.iinc 2 1, 3) := by decide +kernel
theorem dX11_image_56 : decode cX11_image 56 = .ok (.goto (-26), 3) := by decide +kernel
theorem dX11_image_59 : decode cX11_image 59 = .ok (.aload_n 0, 1) := by decide +kernel
theorem dX11_image_60 : decode cX11_image 60 = .ok (.getfield 44, 3) := by decide +kernel
theorem dX11_image_63 : decode cX11_image 63 = .ok (.iload_n 1, 1) := by decide +kernel
theorem dX11_image_64 : decode cX11_image 64 = .ok (.iconst 1, 1) := by decide +kernel
theorem dX11_image_65 : decode cX11_image 65 = .ok (.bastore, 1) := by decide +kernel
theorem dX11_image_66 : decode cX11_image 66 = .ok (.iconst 1, 1) := by decide +kernel
theorem dX11_image_67 : decode cX11_image 67 = .ok (.ireturn, 1) := by decide +kernel
def Sp_X11_image (av : List AV) (m : AM) (Φ : Option AV → AM → Prop) : Prop := ∃ k, av = [vr 11 110, vi k] ∧ ∃ C, MCo m C ∧ (inB k 2 = false → ∀ m2, Fm [] [0] m m2 → Φ (some (vi (-1000001))) m2) ∧ (inB k 2 = true → C 0 = 0 → ∀ m2, Fm [] [0] m m2 → Φ (some (vi (-1000002))) m2) ∧ (inB k 2 = true → 0 < C 0 → ∀ m2, Fm [122, 123] [0] m m2 → m2.1 122 = upd (m.1 122) k.toNatClampNeg (nI 1) → m2.1 123 = va_cpy (m.1 114) (m.1 123) 0 (50 * k.toNatClampNeg) 50 → Φ (some (vi (nI 1))) m2)
set_option maxRecDepth 20000 in
set_option maxHeartbeats 4000000 in
theorem S_X11_image : Snd yX11_image e_X11_image Sp_X11_image := by
  refine Snd.of (by decide +kernel) rfl ?_ ?_
  · rintro av m Φ ⟨k, rfl, _⟩; exact Nat.le_of_ble_eq_true rfl
  rintro av m Φ ⟨k, rfl, C, hC0, h1, h2, h3⟩ hav hty
  show B e_X11_image Φ 0 [some (vr 11 110), some (vi k), none] [] m (0, 0)
  have hC : MCo (mset m 110 0 (nI 0)) C := hC0.ms (by decide)
  have hle := hC.le
  have copy : ∀ b (m1 : AM) g, b < 2 → (∀ m2, m2 = mset (aset m1 123 (va_cpy (m1.1 114) g 0 (50 * b) 50)) 122 b (nI 1) → Φ (some (vi (nI 1))) m2) → ∀ n k, 51 ≤ k + n → k ≤ 50 → B e_X11_image Φ 30 [some (vr 11 110), some (vi (nI b)), some (vi (nI k))] [] (aset m1 123 (va_cpy (m1.1 114) g 0 (50 * b) k)) (0, 0) := by
    intro b m1 g hb hk n
    have e114 : ∀ f, (aset m1 123 f).1 114 = m1.1 114 := fun f => aset_ne _ _ (by decide)
    induction n with
    | zero => intro k h1 h2; omega
    | succ n ih =>
      intro k h1 h2
      refine b_iloadN (pc := 30) 2 dX11_image_30 rfl rfl ?_
      refine b_bipush (pc := 31) (nI 50) dX11_image_31 (by decide) ?_
      refine b_icmp_ge (pc := 33) 59 dX11_image_33 (by decide) (fun c33 => ?_) (fun c33 => ?_)
      refine b_aloadN (pc := 59) 0 dX11_image_59 rfl rfl ?_
      refine gf11_24 (pc := 60) 122 rfl k1066 dX11_image_60 ?_
      refine b_iloadN (pc := 63) 1 dX11_image_63 rfl rfl ?_
      refine b_iconst (pc := 64) (nI 1) dX11_image_64 (by decide) ?_
      refine b_zast (pc := 65) (by decide) ?_ ?_ dX11_image_65 ?_
      rotate_left -- leaf 0: index at 65
      rotate_left -- leaf 1: bool at 65
      refine b_iconst (pc := 66) (nI 1) dX11_image_66 (by decide) ?_
      refine b_iret (pc := 67) rfl dX11_image_67 ⟨Nat.le_of_ble_eq_true rfl, Nat.le_of_ble_eq_true rfl⟩ ?_
      rotate_left -- leaf 2: return at 67
      refine b_aloadN (pc := 36) 0 dX11_image_36 rfl rfl ?_
      refine gf11_25 (pc := 37) 123 rfl k1067 dX11_image_37 ?_
      refine b_bipush (pc := 40) (nI 50) dX11_image_40 (by decide) ?_
      refine b_iloadN (pc := 42) 1 dX11_image_42 rfl rfl ?_
      refine b_imul (pc := 43) dX11_image_43 ?_
      refine b_iloadN (pc := 44) 2 dX11_image_44 rfl rfl ?_
      refine b_iadd (pc := 45) dX11_image_45 ?_
      refine b_aloadN (pc := 46) 0 dX11_image_46 rfl rfl ?_
      refine gf11_5 (pc := 47) 114 rfl k1047 dX11_image_47 ?_
      refine b_iloadN (pc := 50) 2 dX11_image_50 rfl rfl ?_
      refine b_iald (pc := 51) (by decide) ?_ dX11_image_51 ?_
      rotate_left -- leaf 3: index at 51
      refine b_iast (pc := 52) (by decide) ?_ dX11_image_52 ?_
      rotate_left -- leaf 4: index at 52
      refine inc2 (pc := 53) notL_i (by decide) dX11_image_53 ?_
      refine b_goto (pc := 56) 30 dX11_image_56 (by decide) ?_
      rotate_left -- leaf 5: at 30
      -- leaves: 0 index at 65; 1 bool at 65; 2 return at 67; 3 index at 51; 4 index at 52; 5 at 30
      · exact n_in (by omega) (by omega)
      · exact Or.inr rfl
      · rw [n_le (by omega) (by omega)] at c33
        have e : k = 50 := by omega
        subst e
        rw [n_cl (by omega)]
        exact hk _ rfl
      all_goals rw [n_le (by omega) (by omega)] at c33
      · exact n_in (by omega) (by omega)
      · rw [n_mul, n_add]; exact n_in (by omega) (by omega)
      · rw [e114, n_mul, n_add, n_cl (by omega), n_cl (by omega), n_inc, mset_of_aset]
        have := cpy_s (m1.1 114) g 0 (50 * b) k
        rw [Nat.zero_add] at this
        rw [this]
        exact ih (k + 1) (by omega) (by omega)
  refine b_aloadN (pc := 0) 0 dX11_image_0 rfl rfl ?_
  refine b_iconst (pc := 1) (nI 0) dX11_image_1 (by decide) ?_
  refine pf11_0 (pc := 2) k1042 dX11_image_2 ?_
  refine b_iloadN (pc := 5) 1 dX11_image_5 rfl rfl ?_
  refine b_i2l (pc := 6) dX11_image_6 ?_
  refine b_lconst (pc := 7) 0 dX11_image_7 (by decide) ?_
  refine b_lconst (pc := 8) 1 dX11_image_8 (by decide) ?_
  refine call_X11_in (pc := 9) k1136 (by decide) ⟨Nat.le_of_ble_eq_true rfl, Nat.le_of_ble_eq_true rfl⟩ (Nat.le_of_ble_eq_true rfl) dX11_image_9 ?_
  refine ⟨_, _, _, rfl, ?_⟩
  refine b_if_ne (pc := 12) 18 dX11_image_12 (by decide) (fun c12 => ?_) (fun c12 => ?_)
  refine b_aloadN (pc := 18) 0 dX11_image_18 rfl rfl ?_
  refine call_X11_isThere (pc := 19) k1292 (by decide) ⟨Nat.le_of_ble_eq_true rfl, Nat.le_of_ble_eq_true rfl⟩ (Nat.le_of_ble_eq_true rfl) dX11_image_19 ?_
  refine ⟨rfl, _, hC.1 0 (by omega), ?_, ?_⟩
  rotate_left -- leaf 0: six of X11_isThere at 19
  refine b_if_ne (pc := 22) 28 dX11_image_22 (by decide) (fun c22 => ?_) (fun c22 => ?_)
  refine b_iconst (pc := 28) (nI 0) dX11_image_28 (by decide) ?_
  refine siN2 (pc := 29) rfl notL_i (by decide) dX11_image_29 ?_
  rotate_left -- leaf 1: at 30
  refine b_ldc (pc := 25) k1275 dX11_image_25 ?_
  refine b_iret (pc := 27) rfl dX11_image_27 ⟨Nat.le_of_ble_eq_true rfl, Nat.le_of_ble_eq_true rfl⟩ ?_
  rotate_left -- leaf 2: return at 27
  refine b_ldc (pc := 15) k1140 dX11_image_15 ?_
  refine b_iret (pc := 17) rfl dX11_image_17 ⟨Nat.le_of_ble_eq_true rfl, Nat.le_of_ble_eq_true rfl⟩ ?_
  rotate_left -- leaf 3: return at 17
  -- leaves: 0 six of X11_isThere at 19; 1 at 30; 2 return at 27; 3 return at 17
  · omega
  · rw [inLc 2 rfl (by omega)] at c12
    obtain ⟨b, hb, rfl⟩ := (inB_iff (by omega)).mp (bT c12)
    rw [n_cl (show b < 2147483648 by omega)] at h3
    have l := copy b (mset m 110 0 (nI 0)) (m.1 123) hb (fun m2 e => by
      subst e
      refine h3 (bT c12) (zF c22) _ ((((Fm.rf _ _ m).m0 (by simp)).as (by decide) (by simp)).ms (by decide) (by simp)) ?_ ?_
      · rw [mset_upd, aset_ne _ _ (by decide), mset_ne _ _ _ (by decide)]
      · rw [mset_ne _ _ _ (by decide), aset_at, mset_ne _ _ _ (by decide)]) 51 0 (by omega) (by omega)
    rw [cpy_0, aset_self _ _ _ (by rw [mset_ne _ _ _ (by decide)])] at l
    exact l
  · rw [inLc 2 rfl (by omega)] at c12
    exact h2 (bT c12) (zT c22) _ ((Fm.rf _ _ m).m0 (by simp))
  · rw [inLc 2 rfl (by omega)] at c12
    exact h1 (bF c12) _ ((Fm.rf _ _ m).m0 (by simp))
theorem call_X11_image {E : ME} {Φ : Option AV → AM → Prop} {pc : Nat} {L : List (Option AV)} {st : List AV} {m : AM} {a : Nat × Nat} {idx : Nat} {x0 : AV} {i : Nat} (hl : Cond.methodLink E.2.1 idx yX11_image ∈ TB) (hdep : 8 + 1 ≤ E.2.2.2.2.2.2) (hroom : a.1 + 0 ≤ E.2.2.2.2.1 ∧ a.2 + 0 ≤ E.2.2.2.2.2.1) (hsr : st.length ≤ 4) (hd : decode E.1 pc = .ok (.invokevirtual idx, 3)) (hsp : Sp_X11_image [vr 11 i, x0] m (fun r m2 => B E Φ (pc + 3) L (r.toList ++ st) m2 a)) : B E Φ pc L (x0 :: vr 11 i :: st) m a := b_callV S_X11_image [x0] (RX11, TX11, 28) rfl rfl (by decide) (Or.inl hl) k1396 k1397 k80 k1398 (show _ ∧ _ ∧ Option.map (fun d => d.parameters.length) (parseMethodDescriptor yX11_image.desc) = some 1 from by decide +kernel) ⟨hdep, by decide⟩ hroom hsr hd hsp
abbrev e_X11_restore : ME := (cX11_restore, (RX11, (3, ((some .int), (0, (0, 8))))))
theorem dX11_restore_0 : decode cX11_restore 0 = .ok (.aload_n 0, 1) := by decide +kernel
theorem dX11_restore_1 : decode cX11_restore 1 = .ok (.iconst 0, 1) := by decide +kernel
theorem dX11_restore_2 : decode cX11_restore 2 = .ok (.putfield 53, 3) := by decide +kernel
theorem dX11_restore_5 : decode cX11_restore 5 = .ok (.iload_n 1, 1) := by decide +kernel
theorem dX11_restore_6 : decode cX11_restore 6 = .ok (.i2l, 1) := by decide +kernel
theorem dX11_restore_7 : decode cX11_restore 7 = .ok (.lconst 0, 1) := by decide +kernel
theorem dX11_restore_8 : decode cX11_restore 8 = .ok (.lconst 1, 1) := by decide +kernel
theorem dX11_restore_9 : decode cX11_restore 9 = .ok (.invokestatic 63, 3) := by decide +kernel
theorem dX11_restore_12 : decode cX11_restore 12 = .ok (.ifCond .ne 6, 3) := by decide +kernel
theorem dX11_restore_15 : decode cX11_restore 15 = .ok (.ldc 73, 2) := by decide +kernel
theorem dX11_restore_17 : decode cX11_restore 17 = .ok (.ireturn, 1) := by decide +kernel
theorem dX11_restore_18 : decode cX11_restore 18 = .ok (.aload_n 0, 1) := by decide +kernel
theorem dX11_restore_19 : decode cX11_restore 19 = .ok (.getfield 44, 3) := by decide +kernel
theorem dX11_restore_22 : decode cX11_restore 22 = .ok (.iload_n 1, 1) := by decide +kernel
theorem dX11_restore_23 : decode cX11_restore 23 = .ok (.baload, 1) := by decide +kernel
theorem dX11_restore_24 : decode cX11_restore 24 = .ok (.ifCond .ne 6, 3) := by decide +kernel
theorem dX11_restore_27 : decode cX11_restore 27 = .ok (.ldc 195, 2) := by decide +kernel
theorem dX11_restore_29 : decode cX11_restore 29 = .ok (.ireturn, 1) := by decide +kernel
theorem dX11_restore_30 : decode cX11_restore 30 = .ok (.iconst 0, 1) := by decide +kernel
theorem dX11_restore_31 : decode cX11_restore 31 = .ok (.istore_n 2, 1) := by decide +kernel
theorem dX11_restore_32 : decode cX11_restore 32 = .ok (.iload_n 2, 1) := by decide +kernel
theorem dX11_restore_33 : decode cX11_restore 33 = .ok (.bipush 50, 2) := by decide +kernel
theorem dX11_restore_35 : decode cX11_restore 35 = .ok (.if_icmp .ge 26, 3) := by decide +kernel
theorem dX11_restore_38 : decode cX11_restore 38 = .ok (.aload_n 0, 1) := by decide +kernel
theorem dX11_restore_39 : decode cX11_restore 39 = .ok (.getfield 19, 3) := by decide +kernel
theorem dX11_restore_42 : decode cX11_restore 42 = .ok (.iload_n 2, 1) := by decide +kernel
theorem dX11_restore_43 : decode cX11_restore 43 = .ok (.aload_n 0, 1) := by decide +kernel
theorem dX11_restore_44 : decode cX11_restore 44 = .ok (.getfield 47, 3) := by decide +kernel
theorem dX11_restore_47 : decode cX11_restore 47 = .ok (.bipush 50, 2) := by decide +kernel
theorem dX11_restore_49 : decode cX11_restore 49 = .ok (.iload_n 1, 1) := by decide +kernel
theorem dX11_restore_50 : decode cX11_restore 50 = .ok (.imul, 1) := by decide +kernel
theorem dX11_restore_51 : decode cX11_restore 51 = .ok (.iload_n 2, 1) := by decide +kernel
theorem dX11_restore_52 : decode cX11_restore 52 = .ok (.iadd, 1) := by decide +kernel
theorem dX11_restore_53 : decode cX11_restore 53 = .ok (.iaload, 1) := by decide +kernel
theorem dX11_restore_54 : decode cX11_restore 54 = .ok (.iastore, 1) := by decide +kernel
theorem dX11_restore_55 : decode cX11_restore 55 = .ok (.iinc 2 1, 3) := by decide +kernel
theorem dX11_restore_58 : decode cX11_restore 58 = .ok (.goto (-26), 3) := by decide +kernel
theorem dX11_restore_61 : decode cX11_restore 61 = .ok (.aload_n 0, 1) := by decide +kernel
theorem dX11_restore_62 : decode cX11_restore 62 = .ok (.iconst 0, 1) := by decide +kernel
theorem dX11_restore_63 : decode cX11_restore 63 = .ok (.putfield 156, 3) := by decide +kernel
theorem dX11_restore_66 : decode cX11_restore 66 = .ok (.iconst 1, 1) := by decide +kernel
theorem dX11_restore_67 : decode cX11_restore 67 = .ok (.ireturn, 1) := by decide +kernel
def Sp_X11_restore (av : List AV) (m : AM) (Φ : Option AV → AM → Prop) : Prop := ∃ k, av = [vr 11 110, vi k] ∧ ∃ K fl, (inB k 2 = false → ∀ m2, Fm [] [0] m m2 → Φ (some (vi (-1000001))) m2) ∧ (inB k 2 = true → m.1 122 k.toNatClampNeg = nI fl ∧ fl ≤ 1 ∧ (fl = 1 → ∀ j, j < 50 → m.1 123 (50 * k.toNatClampNeg + j) = nI (K j))) ∧ (inB k 2 = true → fl = 0 → ∀ m2, Fm [] [0] m m2 → Φ (some (vi (-1000002))) m2) ∧ (inB k 2 = true → fl = 1 → ∀ m2, Fm [114] [0, 8] m m2 → MC m2 K → m2.1 110 8 = nI 0 → Φ (some (vi (nI 1))) m2)
set_option maxRecDepth 20000 in
set_option maxHeartbeats 4000000 in
theorem S_X11_restore : Snd yX11_restore e_X11_restore Sp_X11_restore := by
  refine Snd.of (by decide +kernel) rfl ?_ ?_
  · rintro av m Φ ⟨k, rfl, _⟩; exact Nat.le_of_ble_eq_true rfl
  rintro av m Φ ⟨k, rfl, K, fl, h1, hk, h2, h3⟩ hav hty
  show B e_X11_restore Φ 0 [some (vr 11 110), some (vi k), none] [] m (0, 0)
  have copy : ∀ b (m1 : AM) g, b < 2 → (∀ m2, m2 = mset (aset m1 114 (va_cpy (m1.1 123) g (50 * b) 0 50)) 110 8 (nI 0) → Φ (some (vi (nI 1))) m2) → ∀ n k, 51 ≤ k + n → k ≤ 50 → B e_X11_restore Φ 32 [some (vr 11 110), some (vi (nI b)), some (vi (nI k))] [] (aset m1 114 (va_cpy (m1.1 123) g (50 * b) 0 k)) (0, 0) := by
    intro b m1 g hb hk n
    have e123 : ∀ f, (aset m1 114 f).1 123 = m1.1 123 := fun f => aset_ne _ _ (by decide)
    induction n with
    | zero => intro k h1 h2; omega
    | succ n ih =>
      intro k h1 h2
      refine b_iloadN (pc := 32) 2 dX11_restore_32 rfl rfl ?_
      refine b_bipush (pc := 33) (nI 50) dX11_restore_33 (by decide) ?_
      refine b_icmp_ge (pc := 35) 61 dX11_restore_35 (by decide) (fun c35 => ?_) (fun c35 => ?_)
      refine b_aloadN (pc := 61) 0 dX11_restore_61 rfl rfl ?_
      refine b_iconst (pc := 62) (nI 0) dX11_restore_62 (by decide) ?_
      refine pf11_8 (pc := 63) k1050 dX11_restore_63 ?_
      refine b_iconst (pc := 66) (nI 1) dX11_restore_66 (by decide) ?_
      refine b_iret (pc := 67) rfl dX11_restore_67 ⟨Nat.le_of_ble_eq_true rfl, Nat.le_of_ble_eq_true rfl⟩ ?_
      rotate_left -- leaf 0: return at 67
      refine b_aloadN (pc := 38) 0 dX11_restore_38 rfl rfl ?_
      refine gf11_5 (pc := 39) 114 rfl k1047 dX11_restore_39 ?_
      refine b_iloadN (pc := 42) 2 dX11_restore_42 rfl rfl ?_
      refine b_aloadN (pc := 43) 0 dX11_restore_43 rfl rfl ?_
      refine gf11_25 (pc := 44) 123 rfl k1067 dX11_restore_44 ?_
      refine b_bipush (pc := 47) (nI 50) dX11_restore_47 (by decide) ?_
      refine b_iloadN (pc := 49) 1 dX11_restore_49 rfl rfl ?_
      refine b_imul (pc := 50) dX11_restore_50 ?_
      refine b_iloadN (pc := 51) 2 dX11_restore_51 rfl rfl ?_
      refine b_iadd (pc := 52) dX11_restore_52 ?_
      refine b_iald (pc := 53) (by decide) ?_ dX11_restore_53 ?_
      rotate_left -- leaf 1: index at 53
      refine b_iast (pc := 54) (by decide) ?_ dX11_restore_54 ?_
      rotate_left -- leaf 2: index at 54
      refine inc2 (pc := 55) notL_i (by decide) dX11_restore_55 ?_
      refine b_goto (pc := 58) 32 dX11_restore_58 (by decide) ?_
      rotate_left -- leaf 3: at 32
      -- leaves: 0 return at 67; 1 index at 53; 2 index at 54; 3 at 32
      · rw [n_le (by omega) (by omega)] at c35
        have e : k = 50 := by omega
        subst e
        exact hk _ rfl
      all_goals rw [n_le (by omega) (by omega)] at c35
      · rw [n_mul, n_add]; exact n_in (by omega) (by omega)
      · exact n_in (by omega) (by omega)
      · rw [e123, n_mul, n_add, n_cl (by omega), n_cl (by omega), n_inc, mset_of_aset]
        have := cpy_s (m1.1 123) g (50 * b) 0 k
        rw [Nat.zero_add] at this
        rw [this]
        exact ih (k + 1) (by omega) (by omega)
  by_cases q : inB k 2 = true
  · have w := hk q
    obtain ⟨b, hb, rfl⟩ := (inB_iff (by omega)).mp q
    rw [n_cl (show b < 2147483648 by omega)] at w
    refine b_aloadN (pc := 0) 0 dX11_restore_0 rfl rfl ?_
    refine b_iconst (pc := 1) (nI 0) dX11_restore_1 (by decide) ?_
    refine pf11_0 (pc := 2) k1042 dX11_restore_2 ?_
    refine b_iloadN (pc := 5) 1 dX11_restore_5 rfl rfl ?_
    refine b_i2l (pc := 6) dX11_restore_6 ?_
    refine b_lconst (pc := 7) 0 dX11_restore_7 (by decide) ?_
    refine b_lconst (pc := 8) 1 dX11_restore_8 (by decide) ?_
    refine call_X11_in (pc := 9) k1136 (by decide) ⟨Nat.le_of_ble_eq_true rfl, Nat.le_of_ble_eq_true rfl⟩ (Nat.le_of_ble_eq_true rfl) dX11_restore_9 ?_
    refine ⟨_, _, _, rfl, ?_⟩
    refine b_if_ne (pc := 12) 18 dX11_restore_12 (by decide) (fun c12 => ?_) (fun c12 => ?_)
    refine b_aloadN (pc := 18) 0 dX11_restore_18 rfl rfl ?_
    refine gf11_24 (pc := 19) 122 rfl k1066 dX11_restore_19 ?_
    refine b_iloadN (pc := 22) 1 dX11_restore_22 rfl rfl ?_
    refine b_zald (pc := 23) (by decide) ?_ dX11_restore_23 ?_
    rotate_left -- leaf 0: index at 23
    refine b_if_ne (pc := 24) 30 dX11_restore_24 (by decide) (fun c24 => ?_) (fun c24 => ?_)
    refine b_iconst (pc := 30) (nI 0) dX11_restore_30 (by decide) ?_
    refine siN2 (pc := 31) rfl notL_i (by decide) dX11_restore_31 ?_
    rotate_left -- leaf 1: at 32
    refine b_ldc (pc := 27) k1275 dX11_restore_27 ?_
    refine b_iret (pc := 29) rfl dX11_restore_29 ⟨Nat.le_of_ble_eq_true rfl, Nat.le_of_ble_eq_true rfl⟩ ?_
    rotate_left -- leaf 2: return at 29
    refine b_ldc (pc := 15) k1140 dX11_restore_15 ?_
    refine b_iret (pc := 17) rfl dX11_restore_17 ⟨Nat.le_of_ble_eq_true rfl, Nat.le_of_ble_eq_true rfl⟩ ?_
    rotate_left -- leaf 3: return at 17
    -- leaves: 0 index at 23; 1 at 32; 2 return at 29; 3 return at 17
    · exact n_in (by omega) (by omega)
    · rw [n_cl (by omega), mset_ne _ _ _ (by decide), w.1, n_eq0 (by omega)] at c24
      have w3 := w.2.2 (by omega)
      have l := copy b (mset m 110 0 (nI 0)) (m.1 114) hb (fun m2 e => by
        subst e
        refine h3 q (by omega) _ ((((Fm.rf _ _ m).m0 (by simp)).as (by decide) (by simp)).m0 (by simp)) (fun j hj => ?_) ?_
        · rw [mset_ne _ _ _ (by decide), aset_at, mset_ne _ _ _ (by decide)]
          unfold va_cpy
          rw [if_pos (by omega), show 50 * b + (j - 0) = 50 * b + j by omega]
          exact w3 j hj
        · rw [mset_at, if_pos rfl]) 51 0 (by omega) (by omega)
      rw [cpy_0, aset_self _ _ _ (by rw [mset_ne _ _ _ (by decide)])] at l
      exact l
    · rw [n_cl (by omega), mset_ne _ _ _ (by decide), w.1, n_eq0 (by omega)] at c24
      exact h2 q c24 _ ((Fm.rf _ _ m).m0 (by simp))
    · rw [inLc 2 rfl (by omega), q] at c12
      exact absurd c12 (by decide)
  · skip
    refine b_aloadN (pc := 0) 0 dX11_restore_0 rfl rfl ?_
    refine b_iconst (pc := 1) (nI 0) dX11_restore_1 (by decide) ?_
    refine pf11_0 (pc := 2) k1042 dX11_restore_2 ?_
    refine b_iloadN (pc := 5) 1 dX11_restore_5 rfl rfl ?_
    refine b_i2l (pc := 6) dX11_restore_6 ?_
    refine b_lconst (pc := 7) 0 dX11_restore_7 (by decide) ?_
    refine b_lconst (pc := 8) 1 dX11_restore_8 (by decide) ?_
    refine call_X11_in (pc := 9) k1136 (by decide) ⟨Nat.le_of_ble_eq_true rfl, Nat.le_of_ble_eq_true rfl⟩ (Nat.le_of_ble_eq_true rfl) dX11_restore_9 ?_
    refine ⟨_, _, _, rfl, ?_⟩
    refine b_if_ne (pc := 12) 18 dX11_restore_12 (by decide) (fun c12 => ?_) (fun c12 => ?_)
    rotate_left -- leaf 0: at 18
    refine b_ldc (pc := 15) k1140 dX11_restore_15 ?_
    refine b_iret (pc := 17) rfl dX11_restore_17 ⟨Nat.le_of_ble_eq_true rfl, Nat.le_of_ble_eq_true rfl⟩ ?_
    rotate_left -- leaf 1: return at 17
    -- leaves: 0 at 18; 1 return at 17
    · rw [inLc 2 rfl (by omega)] at c12
      exact absurd (bT c12) q
    · rw [inLc 2 rfl (by omega)] at c12
      exact h1 (bF c12) _ ((Fm.rf _ _ m).m0 (by simp))
theorem call_X11_restore {E : ME} {Φ : Option AV → AM → Prop} {pc : Nat} {L : List (Option AV)} {st : List AV} {m : AM} {a : Nat × Nat} {idx : Nat} {x0 : AV} {i : Nat} (hl : Cond.methodLink E.2.1 idx yX11_restore ∈ TB) (hdep : 8 + 1 ≤ E.2.2.2.2.2.2) (hroom : a.1 + 0 ≤ E.2.2.2.2.1 ∧ a.2 + 0 ≤ E.2.2.2.2.2.1) (hsr : st.length ≤ 4) (hd : decode E.1 pc = .ok (.invokevirtual idx, 3)) (hsp : Sp_X11_restore [vr 11 i, x0] m (fun r m2 => B E Φ (pc + 3) L (r.toList ++ st) m2 a)) : B E Φ pc L (x0 :: vr 11 i :: st) m a := b_callV S_X11_restore [x0] (RX11, TX11, 28) rfl rfl (by decide) (Or.inl hl) k1400 k1401 k80 k1402 (show _ ∧ _ ∧ Option.map (fun d => d.parameters.length) (parseMethodDescriptor yX11_restore.desc) = some 1 from by decide +kernel) ⟨hdep, by decide⟩ hroom hsr hd hsp
abbrev e_X11_rule : ME := (cX11_rule, (RX11, (3, ((some .int), (0, (0, 8))))))
theorem dX11_rule_0 : decode cX11_rule 0 = .ok (.aload_n 0, 1) := by decide +kernel
theorem dX11_rule_1 : decode cX11_rule 1 = .ok (.iconst 0, 1) := by decide +kernel
theorem dX11_rule_2 : decode cX11_rule 2 = .ok (.putfield 53, 3) := by decide +kernel
theorem dX11_rule_5 : decode cX11_rule 5 = .ok (.aload_n 0, 1) := by decide +kernel
theorem dX11_rule_6 : decode cX11_rule 6 = .ok (.iload_n 1, 1) := by decide +kernel
theorem dX11_rule_7 : decode cX11_rule 7 = .ok (.invokevirtual 196, 3) := by decide +kernel
theorem dX11_rule_10 : decode cX11_rule 10 = .ok (.ifCond .eq 31, 3) := by decide +kernel
theorem dX11_rule_13 : decode cX11_rule 13 = .ok (.iload_n 2, 1) := by decide +kernel
theorem dX11_rule_14 : decode cX11_rule 14 = .ok (.i2l, 1) := by decide +kernel
theorem dX11_rule_15 : decode cX11_rule 15 = .ok (.lconst 0, 1) := by decide +kernel
theorem dX11_rule_16 : decode cX11_rule 16 = .ok (.ldc2_w 202, 3) := by decide +kernel
theorem dX11_rule_19 : decode cX11_rule 19 = .ok (.invokestatic 63, 3) := by decide +kernel
theorem dX11_rule_22 : decode cX11_rule 22 = .ok (.ifCond .eq 19, 3) := by decide +kernel
theorem dX11_rule_25 : decode cX11_rule 25 = .ok (.aload_n 0, 1) := by decide +kernel
theorem dX11_rule_26 : decode cX11_rule 26 = .ok (.getfield 19, 3) := by decide +kernel
theorem dX11_rule_29 : decode cX11_rule 29 = .ok (.bipush 8, 2) := by decide +kernel
theorem dX11_rule_31 : decode cX11_rule 31 = .ok (.iconst 4, 1) := by decide +kernel
theorem dX11_rule_32 : decode cX11_rule 32 = .ok (.iload_n 1, 1) := by decide +kernel
theorem dX11_rule_33 : decode cX11_rule 33 = .ok (.imul, 1) := by decide +kernel
theorem dX11_rule_34 : decode cX11_rule 34 = .ok (.iadd, 1) := by decide +kernel
theorem dX11_rule_35 : decode cX11_rule 35 = .ok (.iload_n 2, 1) := by decide +kernel
theorem dX11_rule_36 : decode cX11_rule 36 = .ok (.iadd, 1) := by decide +kernel
theorem dX11_rule_37 : decode cX11_rule 37 = .ok (.iaload, 1) := by decide +kernel
theorem dX11_rule_38 : decode cX11_rule 38 = .ok (.goto 5, 3) := by decide +kernel
theorem dX11_rule_41 : decode cX11_rule 41 = .ok (.ldc 73, 2) := by decide +kernel
theorem dX11_rule_43 : decode cX11_rule 43 = .ok (.ireturn, 1) := by decide +kernel
def Sp_X11_rule (av : List AV) (m : AM) (Φ : Option AV → AM → Prop) : Prop := ∃ r w, av = [vr 11 110, vi r, vi w] ∧ ∃ C, MCo m C ∧ Φ (some (vi (ruleV C r w))) (mset m 110 0 (nI 0))
set_option maxRecDepth 20000 in
set_option maxHeartbeats 4000000 in
theorem S_X11_rule : Snd yX11_rule e_X11_rule Sp_X11_rule := by
  refine Snd.of (by decide +kernel) rfl ?_ ?_
  · rintro av m Φ ⟨r, w, rfl, _⟩; exact Nat.le_of_ble_eq_true rfl
  rintro av m Φ ⟨r, w, rfl, C, hC0, h⟩ hav hty
  show B e_X11_rule Φ 0 [some (vr 11 110), some (vi r), some (vi w)] [] m (0, 0)
  have hC : MCo (mset m 110 0 (nI 0)) C := hC0.ms (by decide)
  have hle := hC.le
  unfold ruleV at h
  refine b_aloadN (pc := 0) 0 dX11_rule_0 rfl rfl ?_
  refine b_iconst (pc := 1) (nI 0) dX11_rule_1 (by decide) ?_
  refine pf11_0 (pc := 2) k1042 dX11_rule_2 ?_
  refine b_aloadN (pc := 5) 0 dX11_rule_5 rfl rfl ?_
  refine b_iloadN (pc := 6) 1 dX11_rule_6 rfl rfl ?_
  refine call_X11_isRule (pc := 7) k1280 (by decide) ⟨Nat.le_of_ble_eq_true rfl, Nat.le_of_ble_eq_true rfl⟩ (Nat.le_of_ble_eq_true rfl) dX11_rule_7 ?_
  refine ⟨_, rfl, _, hC.1 3 (by omega), ?_, ?_⟩
  rotate_left -- leaf 0: small of X11_isRule at 7
  refine b_if_eq (pc := 10) 41 dX11_rule_10 (by decide) (fun c10 => ?_) (fun c10 => ?_)
  refine b_ldc (pc := 41) k1140 dX11_rule_41 ?_
  refine b_iret (pc := 43) rfl dX11_rule_43 ⟨Nat.le_of_ble_eq_true rfl, Nat.le_of_ble_eq_true rfl⟩ ?_
  rotate_left -- leaf 1: return at 43
  refine b_iloadN (pc := 13) 2 dX11_rule_13 rfl rfl ?_
  refine b_i2l (pc := 14) dX11_rule_14 ?_
  refine b_lconst (pc := 15) 0 dX11_rule_15 (by decide) ?_
  refine b_ldc2 (pc := 16) k1300 dX11_rule_16 ?_
  refine call_X11_in (pc := 19) k1136 (by decide) ⟨Nat.le_of_ble_eq_true rfl, Nat.le_of_ble_eq_true rfl⟩ (Nat.le_of_ble_eq_true rfl) dX11_rule_19 ?_
  refine ⟨_, _, _, rfl, ?_⟩
  refine b_if_eq (pc := 22) 41 dX11_rule_22 (by decide) (fun c22 => ?_) (fun c22 => ?_)
  refine b_ldc (pc := 41) k1140 dX11_rule_41 ?_
  refine b_iret (pc := 43) rfl dX11_rule_43 ⟨Nat.le_of_ble_eq_true rfl, Nat.le_of_ble_eq_true rfl⟩ ?_
  rotate_left -- leaf 2: return at 43
  refine b_aloadN (pc := 25) 0 dX11_rule_25 rfl rfl ?_
  refine gf11_5 (pc := 26) 114 rfl k1047 dX11_rule_26 ?_
  refine b_bipush (pc := 29) (nI 8) dX11_rule_29 (by decide) ?_
  refine b_iconst (pc := 31) (nI 4) dX11_rule_31 (by decide) ?_
  refine b_iloadN (pc := 32) 1 dX11_rule_32 rfl rfl ?_
  refine b_imul (pc := 33) dX11_rule_33 ?_
  refine b_iadd (pc := 34) dX11_rule_34 ?_
  refine b_iloadN (pc := 35) 2 dX11_rule_35 rfl rfl ?_
  refine b_iadd (pc := 36) dX11_rule_36 ?_
  refine b_iald (pc := 37) (by decide) ?_ dX11_rule_37 ?_
  rotate_left -- leaf 3: index at 37
  refine b_goto (pc := 38) 43 dX11_rule_38 (by decide) ?_
  refine b_iret (pc := 43) rfl dX11_rule_43 ⟨Nat.le_of_ble_eq_true rfl, Nat.le_of_ble_eq_true rfl⟩ ?_
  rotate_left -- leaf 4: return at 43
  -- leaves: 0 small of X11_isRule at 7; 1 return at 43; 2 return at 43; 3 index at 37; 4 return at 43
  · omega
  · rw [bF c10, Bool.false_and] at h; exact h
  · rw [inLc 4 rfl (by omega)] at c22
    rw [bF c22, Bool.and_false] at h; exact h
  · rw [inLc 4 rfl (by omega)] at c22
    obtain ⟨j, hj, rfl⟩ := (inB_iff (by omega)).mp (bT c10)
    obtain ⟨k, hk, rfl⟩ := (inB_iff (by omega)).mp (bT c22)
    rw [n_mul, n_add, n_add]; exact n_in (by omega) (by omega)
  · rw [inLc 4 rfl (by omega)] at c22
    rw [bT c10, bT c22] at h
    obtain ⟨j, hj, rfl⟩ := (inB_iff (by omega)).mp (bT c10)
    obtain ⟨k, hk, rfl⟩ := (inB_iff (by omega)).mp (bT c22)
    rw [n_cl (show j < 2147483648 by omega), n_cl (show k < 2147483648 by omega)] at h
    rw [n_mul, n_add, n_add, n_cl (by omega), hC.1 _ (by omega)]
    exact h
theorem call_X11_rule {E : ME} {Φ : Option AV → AM → Prop} {pc : Nat} {L : List (Option AV)} {st : List AV} {m : AM} {a : Nat × Nat} {idx : Nat} {x0 x1 : AV} {i : Nat} (hl : Cond.methodLink E.2.1 idx yX11_rule ∈ TB) (hdep : 8 + 1 ≤ E.2.2.2.2.2.2) (hroom : a.1 + 0 ≤ E.2.2.2.2.1 ∧ a.2 + 0 ≤ E.2.2.2.2.2.1) (hsr : st.length ≤ 4) (hd : decode E.1 pc = .ok (.invokevirtual idx, 3)) (hsp : Sp_X11_rule [vr 11 i, x0, x1] m (fun r m2 => B E Φ (pc + 3) L (r.toList ++ st) m2 a)) : B E Φ pc L (x1 :: x0 :: vr 11 i :: st) m a := b_callV S_X11_rule [x0, x1] (RX11, TX11, 28) rfl rfl (by decide) (Or.inl hl) k1297 k1298 k80 k1299 (show _ ∧ _ ∧ Option.map (fun d => d.parameters.length) (parseMethodDescriptor yX11_rule.desc) = some 2 from by decide +kernel) ⟨hdep, by decide⟩ hroom hsr hd hsp
