/-! the reference: closed, canBe, afterBy, after -/
abbrev e_X11_closed : ME := (cX11_closed, (RX11, (7, ((some .int), (0, (0, 1))))))
theorem dX11_closed_0 : decode cX11_closed 0 = .ok (.iload_n 1, 1) := by decide +kernel
theorem dX11_closed_1 : decode cX11_closed 1 = .ok (.istore_n 2, 1) := by decide +kernel
theorem dX11_closed_2 : decode cX11_closed 2 = .ok (.iconst 0, 1) := by decide +kernel
theorem dX11_closed_3 : decode cX11_closed 3 = .ok (.istore_n 3, 1) := by decide +kernel
theorem dX11_closed_4 : decode cX11_closed 4 = .ok (.iload_n 3, 1) := by decide +kernel
theorem dX11_closed_5 : decode cX11_closed 5 = .ok (.bipush 6, 2) := by decide +kernel
theorem dX11_closed_7 : decode cX11_closed 7 = .ok (.if_icmp .ge 107, 3) := by decide +kernel
theorem dX11_closed_10 : decode cX11_closed 10 = .ok (.iconst 0, 1) := by decide +kernel
theorem dX11_closed_11 : decode cX11_closed 11 = .ok (.istore 4, 2) := by decide +kernel
theorem dX11_closed_13 : decode cX11_closed 13 = .ok (.iload 4, 2) := by decide +kernel
theorem dX11_closed_15 : decode cX11_closed 15 = .ok (.aload_n 0, 1) := by decide +kernel
theorem dX11_closed_16 : decode cX11_closed 16 = .ok (.getfield 19, 3) := by decide +kernel
theorem dX11_closed_19 : decode cX11_closed 19 = .ok (.iconst 3, 1) := by decide +kernel
theorem dX11_closed_20 : decode cX11_closed 20 = .ok (.iaload, 1) := by decide +kernel
theorem dX11_closed_21 : decode cX11_closed 21 = .ok (.if_icmp .ge 87, 3) := by decide +kernel
theorem dX11_closed_24 : decode cX11_closed 24 = .ok (.bipush 8, 2) := by decide +kernel
theorem dX11_closed_26 : decode cX11_closed 26 = .ok (.iconst 4, 1) := by decide +kernel
theorem dX11_closed_27 : decode cX11_closed 27 = .ok (.iload 4, 2) := by decide +kernel
theorem dX11_closed_29 : decode cX11_closed 29 = .ok (.imul, 1) := by decide +kernel
theorem dX11_closed_30 : decode cX11_closed 30 = .ok (.iadd, 1) := by decide +kernel
theorem dX11_closed_31 : decode cX11_closed 31 = .ok (.istore 5, 2) := by decide +kernel
theorem dX11_closed_33 : decode cX11_closed 33 = .ok (.aload_n 0, 1) := by decide +kernel
theorem dX11_closed_34 : decode cX11_closed 34 = .ok (.getfield 19, 3) := by decide +kernel
theorem dX11_closed_37 : decode cX11_closed 37 = .ok (.iload 5, 2) := by decide +kernel
theorem dX11_closed_39 : decode cX11_closed 39 = .ok (.iaload, 1) := by decide +kernel
theorem dX11_closed_40 : decode cX11_closed 40 = .ok (.ifCond .ne 36, 3) := by decide +kernel
theorem dX11_closed_43 : decode cX11_closed 43 = .ok (.aload_n 0, 1) := by decide +kernel
theorem dX11_closed_44 : decode cX11_closed 44 = .ok (.getfield 19, 3) := by decide +kernel
theorem dX11_closed_47 : decode cX11_closed 47 = .ok (.iload 5, 2) := by decide +kernel
theorem dX11_closed_49 : decode cX11_closed 49 = .ok (.iconst 3, 1) := by decide +kernel
theorem dX11_closed_50 : decode cX11_closed 50 = .ok (.iadd, 1) := by decide +kernel
theorem dX11_closed_51 : decode cX11_closed 51 = .ok (.iaload, 1) := by decide +kernel
theorem dX11_closed_52 : decode cX11_closed 52 = .ok (.ifCond .ne 24, 3) := by decide +kernel
theorem dX11_closed_55 : decode cX11_closed 55 = .ok (.iload_n 2, 1) := by decide +kernel
theorem dX11_closed_56 : decode cX11_closed 56 = .ok (.aload_n 0, 1) := by decide +kernel
theorem dX11_closed_57 : decode cX11_closed 57 = .ok (.getfield 19, 3) := by decide +kernel
theorem dX11_closed_60 : decode cX11_closed 60 = .ok (.iload 5, 2) := by decide +kernel
theorem dX11_closed_62 : decode cX11_closed 62 = .ok (.iconst 1, 1) := by decide +kernel
theorem dX11_closed_63 : decode cX11_closed 63 = .ok (.iadd, 1) := by decide +kernel
theorem dX11_closed_64 : decode cX11_closed 64 = .ok (.iaload, 1) := by decide +kernel
theorem dX11_closed_65 : decode cX11_closed 65 = .ok (.ishr, 1) := by decide +kernel
theorem dX11_closed_66 : decode cX11_closed 66 = .ok (.iconst 1, 1) := by decide +kernel
theorem dX11_closed_67 : decode cX11_closed 67 = .ok (.iand, 1) := by decide +kernel
theorem dX11_closed_68 : decode cX11_closed 68 = .ok (.iconst 1, 1) := by decide +kernel
theorem dX11_closed_69 : decode cX11_closed 69 = .ok (.if_icmp .ne 7, 3) := by decide +kernel
theorem dX11_closed_72 : decode cX11_closed 72 = .ok (.iconst 1, 1) := by decide +kernel
theorem dX11_closed_73 : decode cX11_closed 73 = .ok (.goto 4, 3) := by decide +kernel
theorem dX11_closed_76 : decode cX11_closed 76 = .ok (.iconst 0, 1) := by decide +kernel
theorem dX11_closed_77 : decode cX11_closed 77 = .ok (.istore 6, 2) := by decide +kernel
theorem dX11_closed_79 : decode cX11_closed 79 = .ok (.iload_n 2, 1) := by decide +kernel
theorem dX11_closed_80 : decode cX11_closed 80 = .ok (.iload 6, 2) := by decide +kernel
theorem dX11_closed_82 : decode cX11_closed 82 = .ok (.ifCond .eq 17, 3) := by decide +kernel
theorem dX11_closed_85 : decode cX11_closed 85 = .ok (.iconst 1, 1) := by decide +kernel
theorem dX11_closed_86 : decode cX11_closed 86 = .ok (.aload_n 0, 1) := by decide +kernel
theorem dX11_closed_87 : decode cX11_closed 87 = .ok (.getfield 19, 3) := by decide +kernel
theorem dX11_closed_90 : decode cX11_closed 90 = .ok (.iload 5, 2) := by decide +kernel
theorem dX11_closed_92 : decode cX11_closed 92 = .ok (.iconst 2, 1) := by decide +kernel
theorem dX11_closed_93 : decode cX11_closed 93 = .ok (.iadd, 1) := by decide +kernel
theorem dX11_closed_94 : decode cX11_closed 94 = .ok (.iaload, 1) := by decide +kernel
theorem dX11_closed_95 : decode cX11_closed 95 = .ok (.ishl, 1) := by decide +kernel
theorem dX11_closed_96 : decode cX11_closed 96 = .ok (.goto 4, 3) := by decide +kernel
theorem dX11_closed_99 : decode cX11_closed 99 = .ok (.iconst 0, 1) := by decide +kernel
theorem dX11_closed_100 : decode cX11_closed 100 = .ok (.ior, 1) := by decide +kernel
theorem dX11_closed_101 : decode cX11_closed 101 = .ok (.istore_n 2, 1) := by decide +kernel
theorem dX11_closed_102 : decode cX11_closed 102 = .ok (.iinc 4 1, 3) := by decide +kernel
theorem dX11_closed_105 : decode cX11_closed 105 = .ok (.goto (-92), 3) := by decide +kernel
theorem dX11_closed_108 : decode cX11_closed 108 = .ok (.iinc 3 1, 3) := by decide +kernel
theorem dX11_closed_111 : decode cX11_closed 111 = .ok (.goto (-107), 3) := by decide +kernel
theorem dX11_closed_114 : decode cX11_closed 114 = .ok (.iload_n 2, 1) := by decide +kernel
theorem dX11_closed_115 : decode cX11_closed 115 = .ok (.ireturn, 1) := by decide +kernel
def Sp_X11_closed (av : List AV) (m : AM) (Φ : Option AV → AM → Prop) : Prop := ∃ x, av = [vr 11 110, vi x] ∧ ∃ C s, VC C ∧ MC m C ∧ x = nI s ∧ s < 64 ∧ Φ (some (vi (nI (closedN C s)))) m
set_option maxRecDepth 20000 in
set_option maxHeartbeats 4000000 in
theorem S_X11_closed : Snd yX11_closed e_X11_closed Sp_X11_closed := by
  refine Snd.of (by decide +kernel) rfl ?_ ?_
  · rintro av m Φ ⟨x, rfl, _⟩; exact Nat.le_of_ble_eq_true rfl
  rintro av m Φ ⟨x, rfl, C, s, hv, hM, rfl, hs, h⟩ hav hty
  show B e_X11_closed Φ 0 [some (vr 11 110), some (vi (nI s)), none, none, none, none, none] [] m (0, 0)
  have h8 := hv.2.2.2.1
  have hr := hv.2.2.2.2.2.2.2.2.1
  have h06 := hv.1.2
  have outer : ∀ n t o4 o5 o6, 7 ≤ t + n → t ≤ 6 → B e_X11_closed Φ 4 [some (vr 11 110), some (vi (nI s)), some (vi (nI (clN C t s))), some (vi (nI t)), o4, o5, o6] [] m (0, 0) := by
    intro n
    induction n with
    | zero => intro t o4 o5 o6 h1 h2; omega
    | succ n ih =>
      intro t o4 o5 o6 h1 h2
      have inner : t < 6 → ∀ n k o5 o6, C 3 + 1 ≤ k + n → k ≤ C 3 → B e_X11_closed Φ 13 [some (vr 11 110), some (vi (nI s)), some (vi (nI (clRound C k (clN C t s)))), some (vi (nI t)), some (vi (nI k)), o5, o6] [] m (0, 0) := by
        intro ht n
        induction n with
        | zero => intro k o5 o6 h3 h4; omega
        | succ n ih2 =>
          intro k o5 o6 h3 h4
          have hlt := clRound_lt hv.hv k _ h4 (clN_lt hv.hv t s hs)
          have mid : k < C 3 → ∀ e o6, e ≤ 1 → (e = 1 ↔ ((C (8 + 4 * k) = 0 ∧ C (11 + 4 * k) = 0) ∧ (clRound C k (clN C t s)).testBit (C (9 + 4 * k)) = true)) → B e_X11_closed Φ 77 [some (vr 11 110), some (vi (nI s)), some (vi (nI (clRound C k (clN C t s)))), some (vi (nI t)), some (vi (nI k)), some (vi (nI (8 + 4 * k))), o6] [vi (nI e)] m (0, 0) := by
            intro hk e o6 he hie
            have hrk := hr k hk
            refine siG6 (pc := 77) notL_i (by decide) dX11_closed_77 ?_
            refine b_iloadN (pc := 79) 2 dX11_closed_79 rfl rfl ?_
            refine b_iloadG (pc := 80) 6 dX11_closed_80 rfl ?_
            refine b_if_eq (pc := 82) 99 dX11_closed_82 (by decide) (fun c82 => ?_) (fun c82 => ?_)
            refine b_iconst (pc := 99) (nI 0) dX11_closed_99 (by decide) ?_
            refine b_ior (pc := 100) dX11_closed_100 ?_
            refine siN2 (pc := 101) rfl notL_i (by decide) dX11_closed_101 ?_
            refine inc4 (pc := 102) notL_i (by decide) dX11_closed_102 ?_
            refine b_goto (pc := 105) 13 dX11_closed_105 (by decide) ?_
            rotate_left -- leaf 0: at 13
            refine b_iconst (pc := 85) (nI 1) dX11_closed_85 (by decide) ?_
            refine b_aloadN (pc := 86) 0 dX11_closed_86 rfl rfl ?_
            refine gf11_5 (pc := 87) 114 rfl k1047 dX11_closed_87 ?_
            refine b_iloadG (pc := 90) 5 dX11_closed_90 rfl ?_
            refine b_iconst (pc := 92) (nI 2) dX11_closed_92 (by decide) ?_
            refine b_iadd (pc := 93) dX11_closed_93 ?_
            refine b_iald (pc := 94) (by decide) ?_ dX11_closed_94 ?_
            rotate_left -- leaf 1: index at 94
            refine b_ishl (pc := 95) dX11_closed_95 ?_
            refine b_goto (pc := 96) 100 dX11_closed_96 (by decide) ?_
            refine b_ior (pc := 100) dX11_closed_100 ?_
            refine siN2 (pc := 101) rfl notL_i (by decide) dX11_closed_101 ?_
            refine inc4 (pc := 102) notL_i (by decide) dX11_closed_102 ?_
            refine b_goto (pc := 105) 13 dX11_closed_105 (by decide) ?_
            rotate_left -- leaf 2: at 13
            -- leaves: 0 at 13; 1 index at 94; 2 at 13
            · rw [n_eq0 (by omega)] at c82
              rw [n_or, Nat.or_zero, n_inc]
              have e2 : clRound C (k + 1) (clN C t s) = clRound C k (clN C t s) := by
                show clStep C k _ = _
                unfold clStep
                rw [if_neg (fun z => by have := hie.mpr z; omega)]
              have := ih2 (k + 1) (some (vi (nI (8 + 4 * k)))) (some (vi (nI e))) (by omega) (by omega)
              rw [e2] at this
              exact this
            · rw [n_add]; exact n_in (by omega) (by omega)
            · rw [n_eq0 (by omega)] at c82
              rw [n_add, n_cl (by omega), hM _ (by omega), show 8 + 4 * k + 2 = 10 + 4 * k by omega, n_pow (by omega), n_or, n_inc]
              have e2 : clRound C (k + 1) (clN C t s) = clRound C k (clN C t s) ||| 2 ^ C (10 + 4 * k) := by
                show clStep C k _ = _
                unfold clStep
                rw [if_pos (hie.mp (by omega))]
              have := ih2 (k + 1) (some (vi (nI (8 + 4 * k)))) (some (vi (nI e))) (by omega) (by omega)
              rw [e2] at this
              exact this
          refine b_iloadG (pc := 13) 4 dX11_closed_13 rfl ?_
          refine b_aloadN (pc := 15) 0 dX11_closed_15 rfl rfl ?_
          refine gf11_5 (pc := 16) 114 rfl k1047 dX11_closed_16 ?_
          refine b_iconst (pc := 19) (nI 3) dX11_closed_19 (by decide) ?_
          refine b_iald (pc := 20) (by decide) ?_ dX11_closed_20 ?_
          rotate_left -- leaf 0: index at 20
          refine b_icmp_ge (pc := 21) 108 dX11_closed_21 (by decide) (fun c21 => ?_) (fun c21 => ?_)
          refine inc3 (pc := 108) notL_i (by decide) dX11_closed_108 ?_
          refine b_goto (pc := 111) 4 dX11_closed_111 (by decide) ?_
          rotate_left -- leaf 1: at 4
          refine b_bipush (pc := 24) (nI 8) dX11_closed_24 (by decide) ?_
          refine b_iconst (pc := 26) (nI 4) dX11_closed_26 (by decide) ?_
          refine b_iloadG (pc := 27) 4 dX11_closed_27 rfl ?_
          refine b_imul (pc := 29) dX11_closed_29 ?_
          refine b_iadd (pc := 30) dX11_closed_30 ?_
          refine siG5 (pc := 31) notL_i (by decide) dX11_closed_31 ?_
          refine b_aloadN (pc := 33) 0 dX11_closed_33 rfl rfl ?_
          refine gf11_5 (pc := 34) 114 rfl k1047 dX11_closed_34 ?_
          refine b_iloadG (pc := 37) 5 dX11_closed_37 rfl ?_
          refine b_iald (pc := 39) (by decide) ?_ dX11_closed_39 ?_
          rotate_left -- leaf 2: index at 39
          refine b_if_ne (pc := 40) 76 dX11_closed_40 (by decide) (fun c40 => ?_) (fun c40 => ?_)
          refine b_iconst (pc := 76) (nI 0) dX11_closed_76 (by decide) ?_
          rotate_left -- leaf 3: at 77
          refine b_aloadN (pc := 43) 0 dX11_closed_43 rfl rfl ?_
          refine gf11_5 (pc := 44) 114 rfl k1047 dX11_closed_44 ?_
          refine b_iloadG (pc := 47) 5 dX11_closed_47 rfl ?_
          refine b_iconst (pc := 49) (nI 3) dX11_closed_49 (by decide) ?_
          refine b_iadd (pc := 50) dX11_closed_50 ?_
          refine b_iald (pc := 51) (by decide) ?_ dX11_closed_51 ?_
          rotate_left -- leaf 4: index at 51
          refine b_if_ne (pc := 52) 76 dX11_closed_52 (by decide) (fun c52 => ?_) (fun c52 => ?_)
          refine b_iconst (pc := 76) (nI 0) dX11_closed_76 (by decide) ?_
          rotate_left -- leaf 5: at 77
          refine b_iloadN (pc := 55) 2 dX11_closed_55 rfl rfl ?_
          refine b_aloadN (pc := 56) 0 dX11_closed_56 rfl rfl ?_
          refine gf11_5 (pc := 57) 114 rfl k1047 dX11_closed_57 ?_
          refine b_iloadG (pc := 60) 5 dX11_closed_60 rfl ?_
          refine b_iconst (pc := 62) (nI 1) dX11_closed_62 (by decide) ?_
          refine b_iadd (pc := 63) dX11_closed_63 ?_
          refine b_iald (pc := 64) (by decide) ?_ dX11_closed_64 ?_
          rotate_left -- leaf 6: index at 64
          refine b_ishr (pc := 65) dX11_closed_65 ?_
          refine b_iconst (pc := 66) (nI 1) dX11_closed_66 (by decide) ?_
          refine b_iand (pc := 67) dX11_closed_67 ?_
          refine b_iconst (pc := 68) (nI 1) dX11_closed_68 (by decide) ?_
          refine b_icmp_ne (pc := 69) 76 dX11_closed_69 (by decide) (fun c69 => ?_) (fun c69 => ?_)
          refine b_iconst (pc := 76) (nI 0) dX11_closed_76 (by decide) ?_
          rotate_left -- leaf 7: at 77
          refine b_iconst (pc := 72) (nI 1) dX11_closed_72 (by decide) ?_
          refine b_goto (pc := 73) 77 dX11_closed_73 (by decide) ?_
          rotate_left -- leaf 8: at 77
          -- leaves: 0 index at 20; 1 at 4; 2 index at 39; 3 at 77; 4 index at 51; 5 at 77; 6 index at 64; 7 at 77; 8 at 77
          · exact n_in (by omega) (by omega)
          · rw [n_cl (by omega), hM 3 (by omega), n_le (by omega) (by omega)] at c21
            have e : k = C 3 := by omega
            rw [n_inc, e]
            exact ih (t + 1) _ _ _ (by omega) (by omega)
          · rw [n_cl (by omega), hM 3 (by omega), n_le (by omega) (by omega)] at c21
            rw [n_mul, n_add]; exact n_in (by omega) (by omega)
          · rw [n_cl (by omega), hM 3 (by omega), n_le (by omega) (by omega)] at c21
            have hrk := hr k (by omega)
            rw [n_mul, n_add, n_cl (by omega), hM _ (by omega), n_eq0 (by omega)] at c40
            rw [n_mul, n_add]
            exact mid (by omega) 0 _ (by omega) ⟨fun z => by omega, fun z => absurd z.1.1 c40⟩
          · rw [n_cl (by omega), hM 3 (by omega), n_le (by omega) (by omega)] at c21
            rw [n_mul, n_add, n_add]; exact n_in (by omega) (by omega)
          · rw [n_cl (by omega), hM 3 (by omega), n_le (by omega) (by omega)] at c21
            have hrk := hr k (by omega)
            rw [n_mul, n_add, n_add, n_cl (by omega), hM _ (by omega), show 8 + 4 * k + 3 = 11 + 4 * k by omega, n_eq0 (by omega)] at c52
            rw [n_mul, n_add]
            exact mid (by omega) 0 _ (by omega) ⟨fun z => by omega, fun z => absurd z.1.2 c52⟩
          · rw [n_cl (by omega), hM 3 (by omega), n_le (by omega) (by omega)] at c21
            rw [n_mul, n_add, n_add]; exact n_in (by omega) (by omega)
          · rw [n_cl (by omega), hM 3 (by omega), n_le (by omega) (by omega)] at c21
            have hrk := hr k (by omega)
            rw [n_mul, n_add, n_add, n_cl (by omega), hM _ (by omega), show 8 + 4 * k + 1 = 9 + 4 * k by omega, tbit_and1 _ _ (by omega) (by omega)] at c69
            rw [n_mul, n_add]
            refine mid (by omega) 0 _ (by omega) ⟨fun z => by omega, fun z => ?_⟩
            rw [if_pos z.2] at c69
            exact absurd rfl c69
          · rw [n_cl (by omega), hM 3 (by omega), n_le (by omega) (by omega)] at c21
            have hrk := hr k (by omega)
            rw [n_mul, n_add, n_cl (by omega), hM _ (by omega), n_eq0 (by omega)] at c40
            rw [n_mul, n_add, n_add, n_cl (by omega), hM _ (by omega), show 8 + 4 * k + 3 = 11 + 4 * k by omega, n_eq0 (by omega)] at c52
            rw [n_mul, n_add, n_add, n_cl (by omega), hM _ (by omega), show 8 + 4 * k + 1 = 9 + 4 * k by omega, tbit_and1 _ _ (by omega) (by omega)] at c69
            rw [n_mul, n_add]
            refine mid (by omega) 1 _ (by omega) ⟨fun _ => ⟨⟨c40, c52⟩, ?_⟩, fun _ => rfl⟩
            by_cases q : (clRound C k (clN C t s)).testBit (C (9 + 4 * k)) = true
            · exact q
            · rw [if_neg q] at c69; exact absurd c69 (by decide)
      refine b_iloadN (pc := 4) 3 dX11_closed_4 rfl rfl ?_
      refine b_bipush (pc := 5) (nI 6) dX11_closed_5 (by decide) ?_
      refine b_icmp_ge (pc := 7) 114 dX11_closed_7 (by decide) (fun c7 => ?_) (fun c7 => ?_)
      refine b_iloadN (pc := 114) 2 dX11_closed_114 rfl rfl ?_
      refine b_iret (pc := 115) rfl dX11_closed_115 ⟨Nat.le_of_ble_eq_true rfl, Nat.le_of_ble_eq_true rfl⟩ ?_
      rotate_left -- leaf 0: return at 115
      refine b_iconst (pc := 10) (nI 0) dX11_closed_10 (by decide) ?_
      refine siG4 (pc := 11) notL_i (by decide) dX11_closed_11 ?_
      rotate_left -- leaf 1: at 13
      -- leaves: 0 return at 115; 1 at 13
      · rw [n_le (by omega) (by omega)] at c7
        have e : t = 6 := by omega
        rw [e]
        exact h
      · rw [n_le (by omega) (by omega)] at c7
        exact inner (by omega) (C 3 + 1) 0 _ _ (by omega) (by omega)
  refine b_iloadN (pc := 0) 1 dX11_closed_0 rfl rfl ?_
  refine siN2 (pc := 1) rfl notL_i (by decide) dX11_closed_1 ?_
  refine b_iconst (pc := 2) (nI 0) dX11_closed_2 (by decide) ?_
  refine siN3 (pc := 3) rfl notL_i (by decide) dX11_closed_3 ?_
  rotate_left -- leaf 0: at 4
  -- leaves: 0 at 4
  exact outer 7 0 _ _ _ (by omega) (by omega)
theorem call_X11_closed {E : ME} {Φ : Option AV → AM → Prop} {pc : Nat} {L : List (Option AV)} {st : List AV} {m : AM} {a : Nat × Nat} {idx : Nat} {x0 : AV} {i : Nat} (hl : Cond.methodLink E.2.1 idx yX11_closed ∈ TB) (hdep : 1 + 1 ≤ E.2.2.2.2.2.2) (hroom : a.1 + 0 ≤ E.2.2.2.2.1 ∧ a.2 + 0 ≤ E.2.2.2.2.2.1) (hsr : st.length ≤ 4) (hd : decode E.1 pc = .ok (.invokevirtual idx, 3)) (hsp : Sp_X11_closed [vr 11 i, x0] m (fun r m2 => B E Φ (pc + 3) L (r.toList ++ st) m2 a)) : B E Φ pc L (x0 :: vr 11 i :: st) m a := b_callV S_X11_closed [x0] (RX11, TX11, 28) rfl rfl (by decide) (Or.inl hl) k1258 k48 k80 k1259 (show _ ∧ _ ∧ Option.map (fun d => d.parameters.length) (parseMethodDescriptor yX11_closed.desc) = some 1 from by decide +kernel) ⟨hdep, by decide⟩ hroom hsr hd hsp
abbrev e_X11_canBe : ME := (cX11_canBe, (RX11, (5, ((some .boolean), (0, (0, 1))))))
theorem dX11_canBe_0 : decode cX11_canBe 0 = .ok (.iconst 1, 1) := by decide +kernel
theorem dX11_canBe_1 : decode cX11_canBe 1 = .ok (.istore_n 2, 1) := by decide +kernel
theorem dX11_canBe_2 : decode cX11_canBe 2 = .ok (.iconst 0, 1) := by decide +kernel
theorem dX11_canBe_3 : decode cX11_canBe 3 = .ok (.istore_n 3, 1) := by decide +kernel
theorem dX11_canBe_4 : decode cX11_canBe 4 = .ok (.iload_n 3, 1) := by decide +kernel
theorem dX11_canBe_5 : decode cX11_canBe 5 = .ok (.aload_n 0, 1) := by decide +kernel
theorem dX11_canBe_6 : decode cX11_canBe 6 = .ok (.getfield 19, 3) := by decide +kernel
theorem dX11_canBe_9 : decode cX11_canBe 9 = .ok (.iconst 3, 1) := by decide +kernel
theorem dX11_canBe_10 : decode cX11_canBe 10 = .ok (.iaload, 1) := by decide +kernel
theorem dX11_canBe_11 : decode cX11_canBe 11 = .ok (.if_icmp .ge 78, 3) := by decide +kernel
theorem dX11_canBe_14 : decode cX11_canBe 14 = .ok (.bipush 8, 2) := by decide +kernel
theorem dX11_canBe_16 : decode cX11_canBe 16 = .ok (.iconst 4, 1) := by decide +kernel
theorem dX11_canBe_17 : decode cX11_canBe 17 = .ok (.iload_n 3, 1) := by decide +kernel
theorem dX11_canBe_18 : decode cX11_canBe 18 = .ok (.imul, 1) := by decide +kernel
theorem dX11_canBe_19 : decode cX11_canBe 19 = .ok (.iadd, 1) := by decide +kernel
theorem dX11_canBe_20 : decode cX11_canBe 20 = .ok (.istore 4, 2) := by decide +kernel
theorem dX11_canBe_22 : decode cX11_canBe 22 = .ok (.iload_n 2, 1) := by decide +kernel
theorem dX11_canBe_23 : decode cX11_canBe 23 = .ok (.ifCond .eq 58, 3) := by decide +kernel
theorem dX11_canBe_26 : decode cX11_canBe 26 = .ok (.aload_n 0, 1) := by decide +kernel
theorem dX11_canBe_27 : decode cX11_canBe 27 = .ok (.getfield 19, 3) := by decide +kernel
theorem dX11_canBe_30 : decode cX11_canBe 30 = .ok (.iload 4, 2) := by decide +kernel
theorem dX11_canBe_32 : decode cX11_canBe 32 = .ok (.iaload, 1) := by decide +kernel
theorem dX11_canBe_33 : decode cX11_canBe 33 = .ok (.ifCond .eq 44, 3) := by decide +kernel
theorem dX11_canBe_36 : decode cX11_canBe 36 = .ok (.aload_n 0, 1) := by decide +kernel
theorem dX11_canBe_37 : decode cX11_canBe 37 = .ok (.getfield 19, 3) := by decide +kernel
theorem dX11_canBe_40 : decode cX11_canBe 40 = .ok (.iload 4, 2) := by decide +kernel
theorem dX11_canBe_42 : decode cX11_canBe 42 = .ok (.iconst 3, 1) := by decide +kernel
theorem dX11_canBe_43 : decode cX11_canBe 43 = .ok (.iadd, 1) := by decide +kernel
theorem dX11_canBe_44 : decode cX11_canBe 44 = .ok (.iaload, 1) := by decide +kernel
theorem dX11_canBe_45 : decode cX11_canBe 45 = .ok (.iconst 1, 1) := by decide +kernel
theorem dX11_canBe_46 : decode cX11_canBe 46 = .ok (.if_icmp .eq 31, 3) := by decide +kernel
theorem dX11_canBe_49 : decode cX11_canBe 49 = .ok (.iload_n 1, 1) := by decide +kernel
theorem dX11_canBe_50 : decode cX11_canBe 50 = .ok (.aload_n 0, 1) := by decide +kernel
theorem dX11_canBe_51 : decode cX11_canBe 51 = .ok (.getfield 19, 3) := by decide +kernel
theorem dX11_canBe_54 : decode cX11_canBe 54 = .ok (.iload 4, 2) := by decide +kernel
theorem dX11_canBe_56 : decode cX11_canBe 56 = .ok (.iconst 1, 1) := by decide +kernel
theorem dX11_canBe_57 : decode cX11_canBe 57 = .ok (.iadd, 1) := by decide +kernel
theorem dX11_canBe_58 : decode cX11_canBe 58 = .ok (.iaload, 1) := by decide +kernel
theorem dX11_canBe_59 : decode cX11_canBe 59 = .ok (.ishr, 1) := by decide +kernel
theorem dX11_canBe_60 : decode cX11_canBe 60 = .ok (.iload_n 1, 1) := by decide +kernel
theorem dX11_canBe_61 : decode cX11_canBe 61 = .ok (.aload_n 0, 1) := by decide +kernel
theorem dX11_canBe_62 : decode cX11_canBe 62 = .ok (.getfield 19, 3) := by decide +kernel
theorem dX11_canBe_65 : decode cX11_canBe 65 = .ok (.iload 4, 2) := by decide +kernel
theorem dX11_canBe_67 : decode cX11_canBe 67 = .ok (.iconst 2, 1) := by decide +kernel
theorem dX11_canBe_68 : decode cX11_canBe 68 = .ok (.iadd, 1) := by decide +kernel
theorem dX11_canBe_69 : decode cX11_canBe 69 = .ok (.iaload, 1) := by decide +kernel
theorem dX11_canBe_70 : decode cX11_canBe 70 = .ok (.ishr, 1) := by decide +kernel
theorem dX11_canBe_71 : decode cX11_canBe 71 = .ok (.iand, 1) := by decide +kernel
theorem dX11_canBe_72 : decode cX11_canBe 72 = .ok (.iconst 1, 1) := by decide +kernel
theorem dX11_canBe_73 : decode cX11_canBe 73 = .ok (.iand, 1) := by decide +kernel
theorem dX11_canBe_74 : decode cX11_canBe 74 = .ok (.ifCond .ne 7, 3) := by decide +kernel
theorem dX11_canBe_77 : decode cX11_canBe 77 = .ok (.iconst 1, 1) := by decide +kernel
theorem dX11_canBe_78 : decode cX11_canBe 78 = .ok (.goto 4, 3) := by decide +kernel
theorem dX11_canBe_81 : decode cX11_canBe 81 = .ok (.iconst 0, 1) := by decide +kernel
theorem dX11_canBe_82 : decode cX11_canBe 82 = .ok (.istore_n 2, 1) := by decide +kernel
theorem dX11_canBe_83 : decode cX11_canBe 83 = .ok (.iinc 3 1, 3) := by decide +kernel
theorem dX11_canBe_86 : decode cX11_canBe 86 = .ok (.goto (-82), 3) := by decide +kernel
theorem dX11_canBe_89 : decode cX11_canBe 89 = .ok (.iload_n 2, 1) := by decide +kernel
theorem dX11_canBe_90 : decode cX11_canBe 90 = .ok (.ireturn, 1) := by decide +kernel
def Sp_X11_canBe (av : List AV) (m : AM) (Φ : Option AV → AM → Prop) : Prop := ∃ x, av = [vr 11 110, vi x] ∧ ∃ C s, VC C ∧ MC m C ∧ x = nI s ∧ s < 64 ∧ Φ (some (vi (nI (if canBe C s = true then 1 else 0)))) m
theorem bits2 (s a b : Nat) (hs : s < 2147483648) (ha : a < 32) (hb : b < 32) : (nI s >>> (nI a &&& 31)) &&& (nI s >>> (nI b &&& 31)) &&& nI 1 = nI (if (s.testBit a && s.testBit b) = true then 1 else 0) := by
  rw [n_shr hs ha, n_shr hs hb, n_and, n_and]
  have e : s >>> a &&& s >>> b &&& 1 = if (s.testBit a && s.testBit b) = true then 1 else 0 := by
    refine Nat.eq_of_testBit_eq fun i => ?_
    rw [Nat.testBit_and, Nat.testBit_and, Nat.testBit_shiftRight, Nat.testBit_shiftRight]
    cases i with
    | zero =>
      rw [Nat.add_zero, Nat.add_zero]
      cases s.testBit a <;> cases s.testBit b <;> rfl
    | succ i =>
      have e1 : Nat.testBit 1 (i + 1) = false := by rw [show 1 = 2 ^ 0 from rfl, Nat.testBit_two_pow]; simp
      rw [e1, Bool.and_false]
      split
      · exact e1.symm
      · rw [Nat.zero_testBit]
  rw [e]
set_option maxRecDepth 20000 in
set_option maxHeartbeats 4000000 in
theorem S_X11_canBe : Snd yX11_canBe e_X11_canBe Sp_X11_canBe := by
  refine Snd.of (by decide +kernel) rfl ?_ ?_
  · rintro av m Φ ⟨x, rfl, _⟩; exact Nat.le_of_ble_eq_true rfl
  rintro av m Φ ⟨x, rfl, C, s, hv, hM, rfl, hs, h⟩ hav hty
  show B e_X11_canBe Φ 0 [some (vr 11 110), some (vi (nI s)), none, none, none] [] m (0, 0)
  have h8 := hv.2.2.2.1
  have hr := hv.2.2.2.2.2.2.2.2.1
  have h06 := hv.1.2
  have loop : ∀ n k o4, C 3 + 1 ≤ k + n → k ≤ C 3 → B e_X11_canBe Φ 4 [some (vr 11 110), some (vi (nI s)), some (vi (nI (if canB C s k = true then 1 else 0))), some (vi (nI k)), o4] [] m (0, 0) := by
    intro n
    induction n with
    | zero => intro k o4 h3 h4; omega
    | succ n ih =>
      intro k o4 h3 h4
      have b01 : (if canB C s k = true then 1 else 0) < 2 := by split <;> omega
      have mid : k < C 3 → ∀ e : Bool, e = canB C s (k + 1) → B e_X11_canBe Φ 82 [some (vr 11 110), some (vi (nI s)), some (vi (nI (if canB C s k = true then 1 else 0))), some (vi (nI k)), some (vi (nI (8 + 4 * k)))] [vi (nI (if e = true then 1 else 0))] m (0, 0) := by
        intro hk e he
        refine siN2 (pc := 82) rfl notL_i (by decide) dX11_canBe_82 ?_
        refine inc3 (pc := 83) notL_i (by decide) dX11_canBe_83 ?_
        refine b_goto (pc := 86) 4 dX11_canBe_86 (by decide) ?_
        rotate_left -- leaf 0: at 4
        -- leaves: 0 at 4
        rw [n_inc, he]
        exact ih (k + 1) _ (by omega) (by omega)
      have un : canB C s (k + 1) = (canB C s k && (decide (C (8 + 4 * k) = 0) || decide (C (11 + 4 * k) = 1) || !(s.testBit (C (9 + 4 * k)) && s.testBit (C (10 + 4 * k))))) := rfl
      refine b_iloadN (pc := 4) 3 dX11_canBe_4 rfl rfl ?_
      refine b_aloadN (pc := 5) 0 dX11_canBe_5 rfl rfl ?_
      refine gf11_5 (pc := 6) 114 rfl k1047 dX11_canBe_6 ?_
      refine b_iconst (pc := 9) (nI 3) dX11_canBe_9 (by decide) ?_
      refine b_iald (pc := 10) (by decide) ?_ dX11_canBe_10 ?_
      rotate_left -- leaf 0: index at 10
      refine b_icmp_ge (pc := 11) 89 dX11_canBe_11 (by decide) (fun c11 => ?_) (fun c11 => ?_)
      refine b_iloadN (pc := 89) 2 dX11_canBe_89 rfl rfl ?_
      refine b_zret (pc := 90) rfl ?_ dX11_canBe_90 ⟨Nat.le_of_ble_eq_true rfl, Nat.le_of_ble_eq_true rfl⟩ ?_
      rotate_left -- leaf 1: bool at 90
      rotate_left -- leaf 2: return at 90
      refine b_bipush (pc := 14) (nI 8) dX11_canBe_14 (by decide) ?_
      refine b_iconst (pc := 16) (nI 4) dX11_canBe_16 (by decide) ?_
      refine b_iloadN (pc := 17) 3 dX11_canBe_17 rfl rfl ?_
      refine b_imul (pc := 18) dX11_canBe_18 ?_
      refine b_iadd (pc := 19) dX11_canBe_19 ?_
      refine siG4 (pc := 20) notL_i (by decide) dX11_canBe_20 ?_
      refine b_iloadN (pc := 22) 2 dX11_canBe_22 rfl rfl ?_
      refine b_if_eq (pc := 23) 81 dX11_canBe_23 (by decide) (fun c23 => ?_) (fun c23 => ?_)
      refine b_iconst (pc := 81) (nI 0) dX11_canBe_81 (by decide) ?_
      rotate_left -- leaf 3: at 82
      refine b_aloadN (pc := 26) 0 dX11_canBe_26 rfl rfl ?_
      refine gf11_5 (pc := 27) 114 rfl k1047 dX11_canBe_27 ?_
      refine b_iloadG (pc := 30) 4 dX11_canBe_30 rfl ?_
      refine b_iald (pc := 32) (by decide) ?_ dX11_canBe_32 ?_
      rotate_left -- leaf 4: index at 32
      refine b_if_eq (pc := 33) 77 dX11_canBe_33 (by decide) (fun c33 => ?_) (fun c33 => ?_)
      refine b_iconst (pc := 77) (nI 1) dX11_canBe_77 (by decide) ?_
      refine b_goto (pc := 78) 82 dX11_canBe_78 (by decide) ?_
      rotate_left -- leaf 5: at 82
      refine b_aloadN (pc := 36) 0 dX11_canBe_36 rfl rfl ?_
      refine gf11_5 (pc := 37) 114 rfl k1047 dX11_canBe_37 ?_
      refine b_iloadG (pc := 40) 4 dX11_canBe_40 rfl ?_
      refine b_iconst (pc := 42) (nI 3) dX11_canBe_42 (by decide) ?_
      refine b_iadd (pc := 43) dX11_canBe_43 ?_
      refine b_iald (pc := 44) (by decide) ?_ dX11_canBe_44 ?_
      rotate_left -- leaf 6: index at 44
      refine b_iconst (pc := 45) (nI 1) dX11_canBe_45 (by decide) ?_
      refine b_icmp_eq (pc := 46) 77 dX11_canBe_46 (by decide) (fun c46 => ?_) (fun c46 => ?_)
      refine b_iconst (pc := 77) (nI 1) dX11_canBe_77 (by decide) ?_
      refine b_goto (pc := 78) 82 dX11_canBe_78 (by decide) ?_
      rotate_left -- leaf 7: at 82
      refine b_iloadN (pc := 49) 1 dX11_canBe_49 rfl rfl ?_
      refine b_aloadN (pc := 50) 0 dX11_canBe_50 rfl rfl ?_
      refine gf11_5 (pc := 51) 114 rfl k1047 dX11_canBe_51 ?_
      refine b_iloadG (pc := 54) 4 dX11_canBe_54 rfl ?_
      refine b_iconst (pc := 56) (nI 1) dX11_canBe_56 (by decide) ?_
      refine b_iadd (pc := 57) dX11_canBe_57 ?_
      refine b_iald (pc := 58) (by decide) ?_ dX11_canBe_58 ?_
      rotate_left -- leaf 8: index at 58
      refine b_ishr (pc := 59) dX11_canBe_59 ?_
      refine b_iloadN (pc := 60) 1 dX11_canBe_60 rfl rfl ?_
      refine b_aloadN (pc := 61) 0 dX11_canBe_61 rfl rfl ?_
      refine gf11_5 (pc := 62) 114 rfl k1047 dX11_canBe_62 ?_
      refine b_iloadG (pc := 65) 4 dX11_canBe_65 rfl ?_
      refine b_iconst (pc := 67) (nI 2) dX11_canBe_67 (by decide) ?_
      refine b_iadd (pc := 68) dX11_canBe_68 ?_
      refine b_iald (pc := 69) (by decide) ?_ dX11_canBe_69 ?_
      rotate_left -- leaf 9: index at 69
      refine b_ishr (pc := 70) dX11_canBe_70 ?_
      refine b_iand (pc := 71) dX11_canBe_71 ?_
      refine b_iconst (pc := 72) (nI 1) dX11_canBe_72 (by decide) ?_
      refine b_iand (pc := 73) dX11_canBe_73 ?_
      refine b_if_ne (pc := 74) 81 dX11_canBe_74 (by decide) (fun c74 => ?_) (fun c74 => ?_)
      refine b_iconst (pc := 81) (nI 0) dX11_canBe_81 (by decide) ?_
      rotate_left -- leaf 10: at 82
      refine b_iconst (pc := 77) (nI 1) dX11_canBe_77 (by decide) ?_
      refine b_goto (pc := 78) 82 dX11_canBe_78 (by decide) ?_
      rotate_left -- leaf 11: at 82
      -- leaves: 0 index at 10; 1 bool at 90; 2 return at 90; 3 at 82; 4 index at 32; 5 at 82; 6 index at 44; 7 at 82; 8 index at 58; 9 index at 69; 10 at 82; 11 at 82
      · exact n_in (by omega) (by omega)
      · rw [n_cl (by omega), hM 3 (by omega), n_le (by omega) (by omega)] at c11
        have e : k = C 3 := by omega
        rw [e] at b01
        rcases (by omega : (if canB C s (C 3) = true then 1 else 0) = 0 ∨ (if canB C s (C 3) = true then 1 else 0) = 1) with z | z
        · rw [e, z]; exact Or.inl rfl
        · rw [e, z]; exact Or.inr rfl
      · rw [n_cl (by omega), hM 3 (by omega), n_le (by omega) (by omega)] at c11
        have e : k = C 3 := by omega
        rw [e]
        exact h
      · rw [n_cl (by omega), hM 3 (by omega), n_le (by omega) (by omega)] at c11
        rw [n_mul, n_add]
        refine mid (by omega) false ?_
        rw [un, bF c23, Bool.false_and]
      all_goals rw [n_cl (by omega), hM 3 (by omega), n_le (by omega) (by omega)] at c11
      all_goals have hrk := hr k (by omega)
      · rw [n_mul, n_add]; exact n_in (by omega) (by omega)
      · rw [n_mul, n_add, n_cl (by omega), hM _ (by omega), n_eq0 (by omega)] at c33
        rw [n_mul, n_add]
        refine mid (by omega) true ?_
        rw [un, bT c23, decide_eq_true c33]; rfl
      · rw [n_mul, n_add, n_add]; exact n_in (by omega) (by omega)
      · rw [n_mul, n_add, n_add, n_cl (by omega), hM _ (by omega), show 8 + 4 * k + 3 = 11 + 4 * k by omega, n_eq (by omega) (by omega)] at c46
        rw [n_mul, n_add]
        refine mid (by omega) true ?_
        rw [un, bT c23, decide_eq_true c46, Bool.or_true]; rfl
      · rw [n_mul, n_add, n_add]; exact n_in (by omega) (by omega)
      · rw [n_mul, n_add, n_add]; exact n_in (by omega) (by omega)
      all_goals rw [n_mul, n_add, n_cl (by omega), hM _ (by omega), n_eq0 (by omega)] at c33
      all_goals rw [n_mul, n_add, n_add, n_cl (by omega), hM _ (by omega), show 8 + 4 * k + 3 = 11 + 4 * k by omega, n_eq (by omega) (by omega)] at c46
      all_goals rw [n_mul, n_add, n_add, n_cl (show 8 + 4 * k + 1 < 2147483648 by omega), hM (8 + 4 * k + 1) (by omega), n_add, n_cl (show 8 + 4 * k + 2 < 2147483648 by omega), hM (8 + 4 * k + 2) (by omega), show 8 + 4 * k + 1 = 9 + 4 * k by omega, show 8 + 4 * k + 2 = 10 + 4 * k by omega, bits2 _ _ _ (by omega) (by omega) (by omega)] at c74
      all_goals rw [n_mul, n_add]
      · refine mid (by omega) false ?_
        rw [un, bT c23, decide_eq_false c33, decide_eq_false c46, bT c74]; rfl
      · refine mid (by omega) true ?_
        rw [un, bT c23, bF c74, Bool.not_false, Bool.or_true]; rfl
  refine b_iconst (pc := 0) (nI 1) dX11_canBe_0 (by decide) ?_
  refine siN2 (pc := 1) rfl notL_i (by decide) dX11_canBe_1 ?_
  refine b_iconst (pc := 2) (nI 0) dX11_canBe_2 (by decide) ?_
  refine siN3 (pc := 3) rfl notL_i (by decide) dX11_canBe_3 ?_
  rotate_left -- leaf 0: at 4
  -- leaves: 0 at 4
  exact loop (C 3 + 1) 0 none (by omega) (by omega)
theorem call_X11_canBe {E : ME} {Φ : Option AV → AM → Prop} {pc : Nat} {L : List (Option AV)} {st : List AV} {m : AM} {a : Nat × Nat} {idx : Nat} {x0 : AV} {i : Nat} (hl : Cond.methodLink E.2.1 idx yX11_canBe ∈ TB) (hdep : 1 + 1 ≤ E.2.2.2.2.2.2) (hroom : a.1 + 0 ≤ E.2.2.2.2.1 ∧ a.2 + 0 ≤ E.2.2.2.2.2.1) (hsr : st.length ≤ 4) (hd : decode E.1 pc = .ok (.invokevirtual idx, 3)) (hsp : Sp_X11_canBe [vr 11 i, x0] m (fun r m2 => B E Φ (pc + 3) L (r.toList ++ st) m2 a)) : B E Φ pc L (x0 :: vr 11 i :: st) m a := b_callV S_X11_canBe [x0] (RX11, TX11, 28) rfl rfl (by decide) (Or.inl hl) k1262 k49 k80 k1263 (show _ ∧ _ ∧ Option.map (fun d => d.parameters.length) (parseMethodDescriptor yX11_canBe.desc) = some 1 from by decide +kernel) ⟨hdep, by decide⟩ hroom hsr hd hsp
