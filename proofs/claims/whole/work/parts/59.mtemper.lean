/-! temper, of the reference -/
abbrev e_X11_afterAll : ME := (cX11_afterAll, (RX11, (9, ((some .int), (0, (0, 5))))))
theorem dX11_afterAll_0 : decode cX11_afterAll 0 = .ok (.aload_n 0, 1) := by decide +kernel
theorem dX11_afterAll_1 : decode cX11_afterAll 1 = .ok (.getfield 19, 3) := by decide +kernel
theorem dX11_afterAll_4 : decode cX11_afterAll 4 = .ok (.iconst 1, 1) := by decide +kernel
theorem dX11_afterAll_5 : decode cX11_afterAll 5 = .ok (.iaload, 1) := by decide +kernel
theorem dX11_afterAll_6 : decode cX11_afterAll 6 = .ok (.istore 4, 2) := by decide +kernel
theorem dX11_afterAll_8 : decode cX11_afterAll 8 = .ok (.aload_n 0, 1) := by decide +kernel
theorem dX11_afterAll_9 : decode cX11_afterAll 9 = .ok (.getfield 19, 3) := by decide +kernel
theorem dX11_afterAll_12 : decode cX11_afterAll 12 = .ok (.iconst 5, 1) := by decide +kernel
theorem dX11_afterAll_13 : decode cX11_afterAll 13 = .ok (.iaload, 1) := by decide +kernel
theorem dX11_afterAll_14 : decode cX11_afterAll 14 = .ok (.istore 5, 2) := by decide +kernel
theorem dX11_afterAll_16 : decode cX11_afterAll 16 = .ok (.iconst 0, 1) := by decide +kernel
theorem dX11_afterAll_17 : decode cX11_afterAll 17 = .ok (.istore 6, 2) := by decide +kernel
theorem dX11_afterAll_19 : decode cX11_afterAll 19 = .ok (.iload 6, 2) := by decide +kernel
theorem dX11_afterAll_21 : decode cX11_afterAll 21 = .ok (.iload_n 2, 1) := by decide +kernel
theorem dX11_afterAll_22 : decode cX11_afterAll 22 = .ok (.if_icmp .ge 81, 3) := by decide +kernel
theorem dX11_afterAll_25 : decode cX11_afterAll 25 = .ok (.aload_n 0, 1) := by decide +kernel
theorem dX11_afterAll_26 : decode cX11_afterAll 26 = .ok (.getfield 16, 3) := by decide +kernel
theorem dX11_afterAll_29 : decode cX11_afterAll 29 = .ok (.iload_n 1, 1) := by decide +kernel
theorem dX11_afterAll_30 : decode cX11_afterAll 30 = .ok (.iconst 2, 1) := by decide +kernel
theorem dX11_afterAll_31 : decode cX11_afterAll 31 = .ok (.iload 6, 2) := by decide +kernel
theorem dX11_afterAll_33 : decode cX11_afterAll 33 = .ok (.imul, 1) := by decide +kernel
theorem dX11_afterAll_34 : decode cX11_afterAll 34 = .ok (.iadd, 1) := by decide +kernel
theorem dX11_afterAll_35 : decode cX11_afterAll 35 = .ok (.iconst 1, 1) := by decide +kernel
theorem dX11_afterAll_36 : decode cX11_afterAll 36 = .ok (.iadd, 1) := by decide +kernel
theorem dX11_afterAll_37 : decode cX11_afterAll 37 = .ok (.iaload, 1) := by decide +kernel
theorem dX11_afterAll_38 : decode cX11_afterAll 38 = .ok (.iload_n 3, 1) := by decide +kernel
theorem dX11_afterAll_39 : decode cX11_afterAll 39 = .ok (.iload 6, 2) := by decide +kernel
theorem dX11_afterAll_41 : decode cX11_afterAll 41 = .ok (.ishr, 1) := by decide +kernel
theorem dX11_afterAll_42 : decode cX11_afterAll 42 = .ok (.iconst 1, 1) := by decide +kernel
theorem dX11_afterAll_43 : decode cX11_afterAll 43 = .ok (.iand, 1) := by decide +kernel
theorem dX11_afterAll_44 : decode cX11_afterAll 44 = .ok (.ixor, 1) := by decide +kernel
theorem dX11_afterAll_45 : decode cX11_afterAll 45 = .ok (.istore 7, 2) := by decide +kernel
theorem dX11_afterAll_47 : decode cX11_afterAll 47 = .ok (.aload_n 0, 1) := by decide +kernel
theorem dX11_afterAll_48 : decode cX11_afterAll 48 = .ok (.aload_n 0, 1) := by decide +kernel
theorem dX11_afterAll_49 : decode cX11_afterAll 49 = .ok (.getfield 16, 3) := by decide +kernel
theorem dX11_afterAll_52 : decode cX11_afterAll 52 = .ok (.iload_n 1, 1) := by decide +kernel
theorem dX11_afterAll_53 : decode cX11_afterAll 53 = .ok (.iconst 2, 1) := by decide +kernel
theorem dX11_afterAll_54 : decode cX11_afterAll 54 = .ok (.iload 6, 2) := by decide +kernel
theorem dX11_afterAll_56 : decode cX11_afterAll 56 = .ok (.imul, 1) := by decide +kernel
theorem dX11_afterAll_57 : decode cX11_afterAll 57 = .ok (.iadd, 1) := by decide +kernel
theorem dX11_afterAll_58 : decode cX11_afterAll 58 = .ok (.iaload, 1) := by decide +kernel
theorem dX11_afterAll_59 : decode cX11_afterAll 59 = .ok (.iload 4, 2) := by decide +kernel
theorem dX11_afterAll_61 : decode cX11_afterAll 61 = .ok (.iload 5, 2) := by decide +kernel
theorem dX11_afterAll_63 : decode cX11_afterAll 63 = .ok (.iload 7, 2) := by decide +kernel
theorem dX11_afterAll_65 : decode cX11_afterAll 65 = .ok (.invokevirtual 186, 3) := by decide +kernel
theorem dX11_afterAll_68 : decode cX11_afterAll 68 = .ok (.istore 8, 2) := by decide +kernel
theorem dX11_afterAll_70 : decode cX11_afterAll 70 = .ok (.iload 8, 2) := by decide +kernel
theorem dX11_afterAll_72 : decode cX11_afterAll 72 = .ok (.ldc 96, 2) := by decide +kernel
theorem dX11_afterAll_74 : decode cX11_afterAll 74 = .ok (.if_icmp .ne 8, 3) := by decide +kernel
theorem dX11_afterAll_77 : decode cX11_afterAll 77 = .ok (.iload 4, 2) := by decide +kernel
theorem dX11_afterAll_79 : decode cX11_afterAll 79 = .ok (.goto 5, 3) := by decide +kernel
theorem dX11_afterAll_82 : decode cX11_afterAll 82 = .ok (.iload 8, 2) := by decide +kernel
theorem dX11_afterAll_84 : decode cX11_afterAll 84 = .ok (.istore 4, 2) := by decide +kernel
theorem dX11_afterAll_86 : decode cX11_afterAll 86 = .ok (.iload 5, 2) := by decide +kernel
theorem dX11_afterAll_88 : decode cX11_afterAll 88 = .ok (.iconst 1, 1) := by decide +kernel
theorem dX11_afterAll_89 : decode cX11_afterAll 89 = .ok (.iload 7, 2) := by decide +kernel
theorem dX11_afterAll_91 : decode cX11_afterAll 91 = .ok (.iconst 2, 1) := by decide +kernel
theorem dX11_afterAll_92 : decode cX11_afterAll 92 = .ok (.idiv, 1) := by decide +kernel
theorem dX11_afterAll_93 : decode cX11_afterAll 93 = .ok (.ishl, 1) := by decide +kernel
theorem dX11_afterAll_94 : decode cX11_afterAll 94 = .ok (.ior, 1) := by decide +kernel
theorem dX11_afterAll_95 : decode cX11_afterAll 95 = .ok (.istore 5, 2) := by decide +kernel
theorem dX11_afterAll_97 : decode cX11_afterAll 97 = .ok (.iinc 6 1, 3) := by decide +kernel
theorem dX11_afterAll_100 : decode cX11_afterAll 100 = .ok (.goto (-81), 3) := by decide +kernel
theorem dX11_afterAll_103 : decode cX11_afterAll 103 = .ok (.iload 4, 2) := by decide +kernel
theorem dX11_afterAll_105 : decode cX11_afterAll 105 = .ok (.ireturn, 1) := by decide +kernel
def Sp_X11_afterAll (av : List AV) (m : AM) (Φ : Option AV → AM → Prop) : Prop := ∃ x y z, av = [vr 11 110, vi x, vi y, vi z] ∧ ∃ C D b n s, VC C ∧ MC m C ∧ x = nI b ∧ y = nI n ∧ z = nI s ∧ b + 2 * n ≤ 320 ∧ n ≤ 6 ∧ s < 64 ∧ (∀ k, k < 2 * n → m.1 113 (b + k) = D k) ∧ planOk C D n ∧ Φ (some (vi (nI (plS C D s n).1))) m
set_option maxRecDepth 20000 in
set_option maxHeartbeats 4000000 in
theorem S_X11_afterAll : Snd yX11_afterAll e_X11_afterAll Sp_X11_afterAll := by
  refine Snd.of (by decide +kernel) rfl ?_ ?_
  · rintro av m Φ ⟨x, y, z, rfl, _⟩; exact Nat.le_of_ble_eq_true rfl
  rintro av m Φ ⟨x, y, z, rfl, C, D, b, n, s, hv, hM, rfl, rfl, rfl, hb, hn, hs, hD, hok, h⟩ hav hty
  show B e_X11_afterAll Φ 0 [some (vr 11 110), some (vi (nI b)), some (vi (nI n)), some (vi (nI s)), none, none, none, none, none] [] m (0, 0)
  have h06 := hv.1
  have h45 := hv.2.2.2.2.1
  have loop : ∀ e k o7 o8, n + 1 ≤ k + e → k ≤ n → B e_X11_afterAll Φ 19 [some (vr 11 110), some (vi (nI b)), some (vi (nI n)), some (vi (nI s)), some (vi (nI (plS C D s k).1)), some (vi (nI (plS C D s k).2)), some (vi (nI k)), o7, o8] [] m (0, 0) := by
    intro e
    induction e with
    | zero => intro k o7 o8 h1 h2; omega
    | succ e ih =>
      intro k o7 o8 h1 h2
      have hw := plS_lt hv (s := s) hok k h2
      by_cases hk : k < n
      · obtain ⟨P, hP, eP⟩ := (inB_iff (by omega)).mp (hok k hk).1
        obtain ⟨Y, hY, eY⟩ := (inB_iff (by omega)).mp (hok k hk).2
        have er : m.1 113 (nI b + nI 2 * nI k).toNatClampNeg = nI P := by rw [n_mul, n_add, n_cl (by omega), hD _ (by omega), eP]
        have er2 : m.1 113 (nI b + nI 2 * nI k + nI 1).toNatClampNeg = nI Y := by rw [n_mul, n_add, n_add, n_cl (by omega), show b + 2 * k + 1 = b + (2 * k + 1) by omega, hD _ (by omega), eY]
        have eb : ((nI s >>> (nI k &&& 31)) &&& nI 1) = nI (plB s k) := by
          rw [tbit_and1 _ _ (by omega) (by omega)]
          rfl
        have hX := plX_lt (s := s) (k := k) h06.2 hY
        have u1 : (plS C D s (k + 1)).1 = behN C (C (40 + 2 * P)) (plS C D s k).1 (plS C D s k).2 (Y ^^^ plB s k) := by
          show behN C (C (40 + 2 * (D (2 * k)).toNatClampNeg)) (plS C D s k).1 (plS C D s k).2 ((D (2 * k + 1)).toNatClampNeg ^^^ plB s k) = _
          rw [eP, eY, n_cl (by omega), n_cl (by omega)]
        have u2 : (plS C D s (k + 1)).2 = (plS C D s k).2 ||| 2 ^ ((Y ^^^ plB s k) / 2) := by
          show (plS C D s k).2 ||| 2 ^ (((D (2 * k + 1)).toNatClampNeg ^^^ plB s k) / 2) = _
          rw [eY, n_cl (by omega)]
        have e2y : nI (Y ^^^ plB s k) / nI 2 = nI ((Y ^^^ plB s k) / 2) := pk_div (by omega) (by omega) (by omega)
        have mid : ∀ o8, B e_X11_afterAll Φ 84 [some (vr 11 110), some (vi (nI b)), some (vi (nI n)), some (vi (nI s)), some (vi (nI (plS C D s k).1)), some (vi (nI (plS C D s k).2)), some (vi (nI k)), some (vi (nI (Y ^^^ plB s k))), o8] [vi (nI (behN C (C (40 + 2 * P)) (plS C D s k).1 (plS C D s k).2 (Y ^^^ plB s k)))] m (0, 0) := by
          intro o8
          have nx := ih (k + 1) (some (vi (nI (Y ^^^ plB s k)))) o8 (by omega) (by omega)
          rw [u1, u2] at nx
          refine siG4 (pc := 84) notL_i (by decide) dX11_afterAll_84 ?_
          refine b_iloadG (pc := 86) 5 dX11_afterAll_86 rfl ?_
          refine b_iconst (pc := 88) (nI 1) dX11_afterAll_88 (by decide) ?_
          refine b_iloadG (pc := 89) 7 dX11_afterAll_89 rfl ?_
          refine b_iconst (pc := 91) (nI 2) dX11_afterAll_91 (by decide) ?_
          refine b_idiv (pc := 92) dX11_afterAll_92 ?_ ?_
          rotate_left -- leaf 0: divisor at 92
          refine b_ishl (pc := 93) dX11_afterAll_93 ?_
          refine b_ior (pc := 94) dX11_afterAll_94 ?_
          refine siG5 (pc := 95) notL_i (by decide) dX11_afterAll_95 ?_
          refine inc6 (pc := 97) notL_i (by decide) dX11_afterAll_97 ?_
          refine b_goto (pc := 100) 19 dX11_afterAll_100 (by decide) ?_
          rotate_left -- leaf 1: at 19
          -- leaves: 0 divisor at 92; 1 at 19
          · decide
          · rw [e2y, n_pow (by omega), n_or, n_inc]
            exact nx
        refine b_iloadG (pc := 19) 6 dX11_afterAll_19 rfl ?_
        refine b_iloadN (pc := 21) 2 dX11_afterAll_21 rfl rfl ?_
        refine b_icmp_ge (pc := 22) 103 dX11_afterAll_22 (by decide) (fun c22 => ?_) (fun c22 => ?_)
        rotate_left -- leaf 0: at 103
        refine b_aloadN (pc := 25) 0 dX11_afterAll_25 rfl rfl ?_
        refine gf11_4 (pc := 26) 113 rfl k1046 dX11_afterAll_26 ?_
        refine b_iloadN (pc := 29) 1 dX11_afterAll_29 rfl rfl ?_
        refine b_iconst (pc := 30) (nI 2) dX11_afterAll_30 (by decide) ?_
        refine b_iloadG (pc := 31) 6 dX11_afterAll_31 rfl ?_
        refine b_imul (pc := 33) dX11_afterAll_33 ?_
        refine b_iadd (pc := 34) dX11_afterAll_34 ?_
        refine b_iconst (pc := 35) (nI 1) dX11_afterAll_35 (by decide) ?_
        refine b_iadd (pc := 36) dX11_afterAll_36 ?_
        refine b_iald (pc := 37) (by decide) ?_ dX11_afterAll_37 ?_
        rotate_left -- leaf 1: index at 37
        refine b_iloadN (pc := 38) 3 dX11_afterAll_38 rfl rfl ?_
        refine b_iloadG (pc := 39) 6 dX11_afterAll_39 rfl ?_
        refine b_ishr (pc := 41) dX11_afterAll_41 ?_
        refine b_iconst (pc := 42) (nI 1) dX11_afterAll_42 (by decide) ?_
        refine b_iand (pc := 43) dX11_afterAll_43 ?_
        refine b_ixor (pc := 44) dX11_afterAll_44 ?_
        refine siG7 (pc := 45) notL_i (by decide) dX11_afterAll_45 ?_
        refine b_aloadN (pc := 47) 0 dX11_afterAll_47 rfl rfl ?_
        refine b_aloadN (pc := 48) 0 dX11_afterAll_48 rfl rfl ?_
        refine gf11_4 (pc := 49) 113 rfl k1046 dX11_afterAll_49 ?_
        refine b_iloadN (pc := 52) 1 dX11_afterAll_52 rfl rfl ?_
        refine b_iconst (pc := 53) (nI 2) dX11_afterAll_53 (by decide) ?_
        refine b_iloadG (pc := 54) 6 dX11_afterAll_54 rfl ?_
        refine b_imul (pc := 56) dX11_afterAll_56 ?_
        refine b_iadd (pc := 57) dX11_afterAll_57 ?_
        refine b_iald (pc := 58) (by decide) ?_ dX11_afterAll_58 ?_
        rotate_left -- leaf 2: index at 58
        refine b_iloadG (pc := 59) 4 dX11_afterAll_59 rfl ?_
        refine b_iloadG (pc := 61) 5 dX11_afterAll_61 rfl ?_
        refine b_iloadG (pc := 63) 7 dX11_afterAll_63 rfl ?_
        refine call_X11_after (pc := 65) k1241 (by decide) ⟨Nat.le_of_ble_eq_true rfl, Nat.le_of_ble_eq_true rfl⟩ (Nat.le_of_ble_eq_true rfl) dX11_afterAll_65 ?_
        refine ⟨_, _, _, _, rfl, C, P, _, _, Y ^^^ plB s k, hv, hM, ?_, rfl, rfl, ?_, ?_, ?_, ?_, ?_, ?_⟩
        rotate_left -- leaf 3: p of X11_after at 65
        rotate_left -- leaf 4: sy of X11_after at 65
        rotate_left -- leaf 5: person of X11_after at 65
        rotate_left -- leaf 6: so of X11_after at 65
        rotate_left -- leaf 7: said of X11_after at 65
        rotate_left -- leaf 8: saying of X11_after at 65
        refine siG8 (pc := 68) notL_i (by decide) dX11_afterAll_68 ?_
        rotate_left -- leaf 9: at 70
        -- leaves: 0 at 103; 1 index at 37; 2 index at 58; 3 p of X11_after at 65; 4 sy of X11_after at 65; 5 person of X11_after at 65; 6 so of X11_after at 65; 7 said of X11_after at 65; 8 saying of X11_after at 65; 9 at 70
        · rw [n_le (by omega) (by omega)] at c22; omega
        · rw [n_mul, n_add, n_add]; exact n_in (by omega) (by omega)
        · rw [n_mul, n_add]; exact n_in (by omega) (by omega)
        · exact er
        · rw [er2, eb, n_xor]
        · exact hP
        · exact hw.1
        · exact hw.2
        · exact hX
        · rw [er2, eb, n_xor]
          unfold behN at mid
          cases eo : outN C (C (40 + 2 * P)) (plS C D s k).1 (plS C D s k).2 (Y ^^^ plB s k) with
          | none =>
            rw [eo] at mid
            refine b_iloadG (pc := 70) 8 dX11_afterAll_70 rfl ?_
            refine b_ldc (pc := 72) k1180 dX11_afterAll_72 ?_
            refine b_icmp_ne (pc := 74) 82 dX11_afterAll_74 (by decide) (fun c74 => ?_) (fun c74 => ?_)
            rotate_left -- leaf 0: at 82
            refine b_iloadG (pc := 77) 4 dX11_afterAll_77 rfl ?_
            refine b_goto (pc := 79) 84 dX11_afterAll_79 (by decide) ?_
            rotate_left -- leaf 1: at 84
            -- leaves: 0 at 82; 1 at 84
            · exact absurd rfl c74
            · exact mid _
          | some v =>
            rw [eo] at mid
            have hv64 := outN_lt hv hw.1 hX eo
            refine b_iloadG (pc := 70) 8 dX11_afterAll_70 rfl ?_
            refine b_ldc (pc := 72) k1180 dX11_afterAll_72 ?_
            refine b_icmp_ne (pc := 74) 82 dX11_afterAll_74 (by decide) (fun c74 => ?_) (fun c74 => ?_)
            refine b_iloadG (pc := 82) 8 dX11_afterAll_82 rfl ?_
            rotate_left -- leaf 0: at 84
            rotate_left -- leaf 1: at 77
            -- leaves: 0 at 84; 1 at 77
            · exact mid _
            · exact absurd c74 (n_ne_none (show v < 2147483648 by omega))
      · have e : k = n := by omega
        subst e
        refine b_iloadG (pc := 19) 6 dX11_afterAll_19 rfl ?_
        refine b_iloadN (pc := 21) 2 dX11_afterAll_21 rfl rfl ?_
        refine b_icmp_ge (pc := 22) 103 dX11_afterAll_22 (by decide) (fun c22 => ?_) (fun c22 => ?_)
        refine b_iloadG (pc := 103) 4 dX11_afterAll_103 rfl ?_
        refine b_iret (pc := 105) rfl dX11_afterAll_105 ⟨Nat.le_of_ble_eq_true rfl, Nat.le_of_ble_eq_true rfl⟩ ?_
        rotate_left -- leaf 0: return at 105
        rotate_left -- leaf 1: at 25
        -- leaves: 0 return at 105; 1 at 25
        · exact h
        · rw [n_le (by omega) (by omega)] at c22; omega
  refine b_aloadN (pc := 0) 0 dX11_afterAll_0 rfl rfl ?_
  refine gf11_5 (pc := 1) 114 rfl k1047 dX11_afterAll_1 ?_
  refine b_iconst (pc := 4) (nI 1) dX11_afterAll_4 (by decide) ?_
  refine b_iald (pc := 5) (by decide) ?_ dX11_afterAll_5 ?_
  rotate_left -- leaf 0: index at 5
  refine siG4 (pc := 6) notL_i (by decide) dX11_afterAll_6 ?_
  refine b_aloadN (pc := 8) 0 dX11_afterAll_8 rfl rfl ?_
  refine gf11_5 (pc := 9) 114 rfl k1047 dX11_afterAll_9 ?_
  refine b_iconst (pc := 12) (nI 5) dX11_afterAll_12 (by decide) ?_
  refine b_iald (pc := 13) (by decide) ?_ dX11_afterAll_13 ?_
  rotate_left -- leaf 1: index at 13
  refine siG5 (pc := 14) notL_i (by decide) dX11_afterAll_14 ?_
  refine b_iconst (pc := 16) (nI 0) dX11_afterAll_16 (by decide) ?_
  refine siG6 (pc := 17) notL_i (by decide) dX11_afterAll_17 ?_
  rotate_left -- leaf 2: at 19
  -- leaves: 0 index at 5; 1 index at 13; 2 at 19
  · exact n_in (by omega) (by omega)
  · exact n_in (by omega) (by omega)
  · rw [n_cl (by omega), n_cl (by omega), hM 1 (by omega), hM 5 (by omega)]
    exact loop (n + 1) 0 none none (by omega) (by omega)
theorem call_X11_afterAll {E : ME} {Φ : Option AV → AM → Prop} {pc : Nat} {L : List (Option AV)} {st : List AV} {m : AM} {a : Nat × Nat} {idx : Nat} {x0 x1 x2 : AV} {i : Nat} (hl : Cond.methodLink E.2.1 idx yX11_afterAll ∈ TB) (hdep : 5 + 1 ≤ E.2.2.2.2.2.2) (hroom : a.1 + 0 ≤ E.2.2.2.2.1 ∧ a.2 + 0 ≤ E.2.2.2.2.2.1) (hsr : st.length ≤ 4) (hd : decode E.1 pc = .ok (.invokevirtual idx, 3)) (hsp : Sp_X11_afterAll [vr 11 i, x0, x1, x2] m (fun r m2 => B E Φ (pc + 3) L (r.toList ++ st) m2 a)) : B E Φ pc L (x2 :: x1 :: x0 :: vr 11 i :: st) m a := b_callV S_X11_afterAll [x0, x1, x2] (RX11, TX11, 28) rfl rfl (by decide) (Or.inl hl) k1385 k61 k80 k1386 (show _ ∧ _ ∧ Option.map (fun d => d.parameters.length) (parseMethodDescriptor yX11_afterAll.desc) = some 3 from by decide +kernel) ⟨hdep, by decide⟩ hroom hsr hd hsp
theorem inNK {n : Int32} (K : Nat) {b : Int64} (hb : b.toInt = (K : Int)) (hK : K < 1000) : (if (1 : Int64).toInt ≤ n.toInt64.toInt ∧ n.toInt64.toInt ≤ b.toInt then 1 else 0) = (if (inB n (K + 1) && decide (¬ n = nI 0)) = true then 1 else 0) := by
  rw [Int32.toInt_toInt64, show (1 : Int64).toInt = 1 from rfl, hb]
  by_cases q : (inB n (K + 1) && decide (¬ n = nI 0)) = true
  · have w := (nN hK).mpr q
    rw [i_lt, i_le, nI_toInt (by omega), nI_toInt (by omega)] at w
    rw [if_pos q, if_pos ⟨by omega, by omega⟩]
  · rw [if_neg q, if_neg]
    rintro ⟨h1, h2⟩
    exact q ((nN hK).mp ⟨by rw [i_lt, nI_toInt (by omega)]; omega, by rw [i_le, nI_toInt (by omega)]; omega⟩)
abbrev e_X11_temper : ME := (cX11_temper, (RX11, (18, ((some .long), (0, (0, 8))))))
theorem dX11_temper_0 : decode cX11_temper 0 = .ok (.aload_n 0, 1) := by decide +kernel
theorem dX11_temper_1 : decode cX11_temper 1 = .ok (.iconst 0, 1) := by decide +kernel
theorem dX11_temper_2 : decode cX11_temper 2 = .ok (.putfield 53, 3) := by decide +kernel
theorem dX11_temper_5 : decode cX11_temper 5 = .ok (.aload_n 0, 1) := by decide +kernel
theorem dX11_temper_6 : decode cX11_temper 6 = .ok (.invokevirtual 199, 3) := by decide +kernel
theorem dX11_temper_9 : decode cX11_temper 9 = .ok (.ifCond .ne 7, 3) := by decide +kernel
theorem dX11_temper_12 : decode cX11_temper 12 = .ok (.ldc2_w 240, 3) := by decide +kernel
theorem dX11_temper_15 : decode cX11_temper 15 = .ok (.lreturn, 1) := by decide +kernel
theorem dX11_temper_16 : decode cX11_temper 16 = .ok (.aload_n 0, 1) := by decide +kernel
theorem dX11_temper_17 : decode cX11_temper 17 = .ok (.iload_n 1, 1) := by decide +kernel
theorem dX11_temper_18 : decode cX11_temper 18 = .ok (.invokevirtual 217, 3) := by decide +kernel
theorem dX11_temper_21 : decode cX11_temper 21 = .ok (.ifCond .eq 46, 3) := by decide +kernel
theorem dX11_temper_24 : decode cX11_temper 24 = .ok (.iload_n 2, 1) := by decide +kernel
theorem dX11_temper_25 : decode cX11_temper 25 = .ok (.i2l, 1) := by decide +kernel
theorem dX11_temper_26 : decode cX11_temper 26 = .ok (.lconst 0, 1) := by decide +kernel
theorem dX11_temper_27 : decode cX11_temper 27 = .ok (.ldc2_w 242, 3) := by decide +kernel
theorem dX11_temper_30 : decode cX11_temper 30 = .ok (.invokestatic 63, 3) := by decide +kernel
theorem dX11_temper_33 : decode cX11_temper 33 = .ok (.ifCond .eq 34, 3) := by decide +kernel
theorem dX11_temper_36 : decode cX11_temper 36 = .ok (.iload_n 3, 1) := by decide +kernel
theorem dX11_temper_37 : decode cX11_temper 37 = .ok (.invokestatic 67, 3) := by decide +kernel
theorem dX11_temper_40 : decode cX11_temper 40 = .ok (.ifCond .eq 27, 3) := by decide +kernel
theorem dX11_temper_43 : decode cX11_temper 43 = .ok (.iload 5, 2) := by decide +kernel
theorem dX11_temper_45 : decode cX11_temper 45 = .ok (.i2l, 1) := by decide +kernel
theorem dX11_temper_46 : decode cX11_temper 46 = .ok (.lconst 1, 1) := by decide +kernel
theorem dX11_temper_47 : decode cX11_temper 47 = .ok (.ldc2_w 244, 3) := by decide +kernel
theorem dX11_temper_50 : decode cX11_temper 50 = .ok (.invokestatic 63, 3) := by decide +kernel
theorem dX11_temper_53 : decode cX11_temper 53 = .ok (.ifCond .eq 14, 3) := by decide +kernel
theorem dX11_temper_56 : decode cX11_temper 56 = .ok (.iload 6, 2) := by decide +kernel
theorem dX11_temper_58 : decode cX11_temper 58 = .ok (.i2l, 1) := by decide +kernel
theorem dX11_temper_59 : decode cX11_temper 59 = .ok (.lconst 0, 1) := by decide +kernel
theorem dX11_temper_60 : decode cX11_temper 60 = .ok (.lconst 1, 1) := by decide +kernel
theorem dX11_temper_61 : decode cX11_temper 61 = .ok (.invokestatic 63, 3) := by decide +kernel
theorem dX11_temper_64 : decode cX11_temper 64 = .ok (.ifCond .ne 7, 3) := by decide +kernel
theorem dX11_temper_67 : decode cX11_temper 67 = .ok (.ldc2_w 246, 3) := by decide +kernel
theorem dX11_temper_70 : decode cX11_temper 70 = .ok (.lreturn, 1) := by decide +kernel
theorem dX11_temper_71 : decode cX11_temper 71 = .ok (.aload_n 0, 1) := by decide +kernel
theorem dX11_temper_72 : decode cX11_temper 72 = .ok (.getfield 7, 3) := by decide +kernel
theorem dX11_temper_75 : decode cX11_temper 75 = .ok (.iload_n 3, 1) := by decide +kernel
theorem dX11_temper_76 : decode cX11_temper 76 = .ok (.iaload, 1) := by decide +kernel
theorem dX11_temper_77 : decode cX11_temper 77 = .ok (.ifCond .ge 10, 3) := by decide +kernel
theorem dX11_temper_80 : decode cX11_temper 80 = .ok (.aload_n 0, 1) := by decide +kernel
theorem dX11_temper_81 : decode cX11_temper 81 = .ok (.iconst 1, 1) := by decide +kernel
theorem dX11_temper_82 : decode cX11_temper 82 = .ok (.invokevirtual 74, 3) := by decide +kernel
theorem dX11_temper_85 : decode cX11_temper 85 = .ok (.i2l, 1) := by decide +kernel
theorem dX11_temper_86 : decode cX11_temper 86 = .ok (.lreturn, 1) := by decide +kernel
theorem dX11_temper_87 : decode cX11_temper 87 = .ok (.iload 4, 2) := by decide +kernel
theorem dX11_temper_89 : decode cX11_temper 89 = .ok (.ifCond .lt 23, 3) := by decide +kernel
theorem dX11_temper_92 : decode cX11_temper 92 = .ok (.iload 4, 2) := by decide +kernel
theorem dX11_temper_94 : decode cX11_temper 94 = .ok (.i2l, 1) := by decide +kernel
theorem dX11_temper_95 : decode cX11_temper 95 = .ok (.iconst 2, 1) := by decide +kernel
theorem dX11_temper_96 : decode cX11_temper 96 = .ok (.iload 5, 2) := by decide +kernel
theorem dX11_temper_98 : decode cX11_temper 98 = .ok (.imul, 1) := by decide +kernel
theorem dX11_temper_99 : decode cX11_temper 99 = .ok (.i2l, 1) := by decide +kernel
theorem dX11_temper_100 : decode cX11_temper 100 = .ok (.ladd, 1) := by decide +kernel
theorem dX11_temper_101 : decode cX11_temper 101 = .ok (.aload_n 0, 1) := by decide +kernel
theorem dX11_temper_102 : decode cX11_temper 102 = .ok (.getfield 13, 3) := by decide +kernel
theorem dX11_temper_105 : decode cX11_temper 105 = .ok (.iload_n 3, 1) := by decide +kernel
theorem dX11_temper_106 : decode cX11_temper 106 = .ok (.iaload, 1) := by decide +kernel
theorem dX11_temper_107 : decode cX11_temper 107 = .ok (.i2l, 1) := by decide +kernel
theorem dX11_temper_108 : decode cX11_temper 108 = .ok (.lcmp, 1) := by decide +kernel
theorem dX11_temper_109 : decode cX11_temper 109 = .ok (.ifCond .le 10, 3) := by decide +kernel
theorem dX11_temper_112 : decode cX11_temper 112 = .ok (.aload_n 0, 1) := by decide +kernel
theorem dX11_temper_113 : decode cX11_temper 113 = .ok (.iconst 2, 1) := by decide +kernel
theorem dX11_temper_114 : decode cX11_temper 114 = .ok (.invokevirtual 74, 3) := by decide +kernel
theorem dX11_temper_117 : decode cX11_temper 117 = .ok (.i2l, 1) := by decide +kernel
theorem dX11_temper_118 : decode cX11_temper 118 = .ok (.lreturn, 1) := by decide +kernel
theorem dX11_temper_119 : decode cX11_temper 119 = .ok (.bipush 40, 2) := by decide +kernel
theorem dX11_temper_121 : decode cX11_temper 121 = .ok (.iload_n 3, 1) := by decide +kernel
theorem dX11_temper_122 : decode cX11_temper 122 = .ok (.imul, 1) := by decide +kernel
theorem dX11_temper_123 : decode cX11_temper 123 = .ok (.iload 4, 2) := by decide +kernel
theorem dX11_temper_125 : decode cX11_temper 125 = .ok (.iadd, 1) := by decide +kernel
theorem dX11_temper_126 : decode cX11_temper 126 = .ok (.istore 7, 2) := by decide +kernel
theorem dX11_temper_128 : decode cX11_temper 128 = .ok (.iconst 0, 1) := by decide +kernel
theorem dX11_temper_129 : decode cX11_temper 129 = .ok (.istore 8, 2) := by decide +kernel
theorem dX11_temper_131 : decode cX11_temper 131 = .ok (.iload 8, 2) := by decide +kernel
theorem dX11_temper_133 : decode cX11_temper 133 = .ok (.iload 5, 2) := by decide +kernel
theorem dX11_temper_135 : decode cX11_temper 135 = .ok (.if_icmp .ge 54, 3) := by decide +kernel
theorem dX11_temper_138 : decode cX11_temper 138 = .ok (.aload_n 0, 1) := by decide +kernel
theorem dX11_temper_139 : decode cX11_temper 139 = .ok (.aload_n 0, 1) := by decide +kernel
theorem dX11_temper_140 : decode cX11_temper 140 = .ok (.getfield 16, 3) := by decide +kernel
theorem dX11_temper_143 : decode cX11_temper 143 = .ok (.iload 7, 2) := by decide +kernel
theorem dX11_temper_145 : decode cX11_temper 145 = .ok (.iconst 2, 1) := by decide +kernel
theorem dX11_temper_146 : decode cX11_temper 146 = .ok (.iload 8, 2) := by decide +kernel
theorem dX11_temper_148 : decode cX11_temper 148 = .ok (.imul, 1) := by decide +kernel
theorem dX11_temper_149 : decode cX11_temper 149 = .ok (.iadd, 1) := by decide +kernel
theorem dX11_temper_150 : decode cX11_temper 150 = .ok (.iaload, 1) := by decide +kernel
theorem dX11_temper_151 : decode cX11_temper 151 = .ok (.invokevirtual 176, 3) := by decide +kernel
theorem dX11_temper_154 : decode cX11_temper 154 = .ok (.ifCond .eq 25, 3) := by decide +kernel
theorem dX11_temper_157 : decode cX11_temper 157 = .ok (.aload_n 0, 1) := by decide +kernel
theorem dX11_temper_158 : decode cX11_temper 158 = .ok (.aload_n 0, 1) := by decide +kernel
theorem dX11_temper_159 : decode cX11_temper 159 = .ok (.getfield 16, 3) := by decide +kernel
theorem dX11_temper_162 : decode cX11_temper 162 = .ok (.iload 7, 2) := by decide +kernel
theorem dX11_temper_164 : decode cX11_temper 164 = .ok (.iconst 2, 1) := by decide +kernel
theorem dX11_temper_165 : decode cX11_temper 165 = .ok (.iload 8, 2) := by decide +kernel
theorem dX11_temper_167 : decode cX11_temper 167 = .ok (.imul, 1) := by decide +kernel
theorem dX11_temper_168 : decode cX11_temper 168 = .ok (.iadd, 1) := by decide +kernel
theorem dX11_temper_169 : decode cX11_temper 169 = .ok (.iconst 1, 1) := by decide +kernel
theorem dX11_temper_170 : decode cX11_temper 170 = .ok (.iadd, 1) := by decide +kernel
theorem dX11_temper_171 : decode cX11_temper 171 = .ok (.iaload, 1) := by decide +kernel
theorem dX11_temper_172 : decode cX11_temper 172 = .ok (.i2l, 1) := by decide +kernel
theorem dX11_temper_173 : decode cX11_temper 173 = .ok (.invokevirtual 179, 3) := by decide +kernel
theorem dX11_temper_176 : decode cX11_temper 176 = .ok (.ifCond .ne 7, 3) := by decide +kernel
theorem dX11_temper_179 : decode cX11_temper 179 = .ok (.ldc2_w 246, 3) := by decide +kernel
theorem dX11_temper_182 : decode cX11_temper 182 = .ok (.lreturn, 1) := by decide +kernel
theorem dX11_temper_183 : decode cX11_temper 183 = .ok (.iinc 8 1, 3) := by decide +kernel
theorem dX11_temper_186 : decode cX11_temper 186 = .ok (.goto (-55), 3) := by decide +kernel
theorem dX11_temper_189 : decode cX11_temper 189 = .ok (.aload_n 0, 1) := by decide +kernel
theorem dX11_temper_190 : decode cX11_temper 190 = .ok (.iconst 0, 1) := by decide +kernel
theorem dX11_temper_191 : decode cX11_temper 191 = .ok (.putfield 57, 3) := by decide +kernel
theorem dX11_temper_194 : decode cX11_temper 194 = .ok (.lconst 0, 1) := by decide +kernel
theorem dX11_temper_195 : decode cX11_temper 195 = .ok (.lstore 8, 2) := by decide +kernel
theorem dX11_temper_197 : decode cX11_temper 197 = .ok (.lconst 0, 1) := by decide +kernel
theorem dX11_temper_198 : decode cX11_temper 198 = .ok (.lstore 10, 2) := by decide +kernel
theorem dX11_temper_200 : decode cX11_temper 200 = .ok (.iconst 0, 1) := by decide +kernel
theorem dX11_temper_201 : decode cX11_temper 201 = .ok (.istore 12, 2) := by decide +kernel
theorem dX11_temper_203 : decode cX11_temper 203 = .ok (.iload 12, 2) := by decide +kernel
theorem dX11_temper_205 : decode cX11_temper 205 = .ok (.iconst 1, 1) := by decide +kernel
theorem dX11_temper_206 : decode cX11_temper 206 = .ok (.iload 5, 2) := by decide +kernel
theorem dX11_temper_208 : decode cX11_temper 208 = .ok (.ishl, 1) := by decide +kernel
theorem dX11_temper_209 : decode cX11_temper 209 = .ok (.if_icmp .ge 89, 3) := by decide +kernel
theorem dX11_temper_212 : decode cX11_temper 212 = .ok (.lconst 1, 1) := by decide +kernel
theorem dX11_temper_213 : decode cX11_temper 213 = .ok (.lstore 13, 2) := by decide +kernel
theorem dX11_temper_215 : decode cX11_temper 215 = .ok (.iconst 0, 1) := by decide +kernel
theorem dX11_temper_216 : decode cX11_temper 216 = .ok (.istore 15, 2) := by decide +kernel
theorem dX11_temper_218 : decode cX11_temper 218 = .ok (.iload 15, 2) := by decide +kernel
theorem dX11_temper_220 : decode cX11_temper 220 = .ok (.iload 5, 2) := by decide +kernel
theorem dX11_temper_222 : decode cX11_temper 222 = .ok (.if_icmp .ge 36, 3) := by decide +kernel
theorem dX11_temper_225 : decode cX11_temper 225 = .ok (.lload 13, 2) := by decide +kernel
theorem dX11_temper_227 : decode cX11_temper 227 = .ok (.iload 12, 2) := by decide +kernel
theorem dX11_temper_229 : decode cX11_temper 229 = .ok (.iload 15, 2) := by decide +kernel
theorem dX11_temper_231 : decode cX11_temper 231 = .ok (.ishr, 1) := by decide +kernel
theorem dX11_temper_232 : decode cX11_temper 232 = .ok (.iconst 1, 1) := by decide +kernel
theorem dX11_temper_233 : decode cX11_temper 233 = .ok (.iand, 1) := by decide +kernel
theorem dX11_temper_234 : decode cX11_temper 234 = .ok (.iconst 1, 1) := by decide +kernel
theorem dX11_temper_235 : decode cX11_temper 235 = .ok (.if_icmp .ne 8, 3) := by decide +kernel
theorem dX11_temper_238 : decode cX11_temper 238 = .ok (.iload_n 2, 1) := by decide +kernel
theorem dX11_temper_239 : decode cX11_temper 239 = .ok (.i2l, 1) := by decide +kernel
theorem dX11_temper_240 : decode cX11_temper 240 = .ok (.goto 9, 3) := by decide +kernel
theorem dX11_temper_243 : decode cX11_temper 243 = .ok (.ldc2_w 242, 3) := by decide +kernel
theorem dX11_temper_246 : decode cX11_temper 246 = .ok (.iload_n 2, 1) := by decide +kernel
theorem dX11_temper_247 : decode cX11_temper 247 = .ok (.i2l, 1) := by decide +kernel
theorem dX11_temper_248 : decode cX11_temper 248 = .ok (.lsub, 1) := by decide +kernel
theorem dX11_temper_249 : decode cX11_temper 249 = .ok (.lmul, 1) := by decide +kernel
theorem dX11_temper_250 : decode cX11_temper 250 = .ok (.lstore 13, 2) := by decide +kernel
theorem dX11_temper_252 : decode cX11_temper 252 = .ok (.iinc 15 1, 3) := by decide +kernel
theorem dX11_temper_255 : decode cX11_temper 255 = .ok (.goto (-37), 3) := by decide +kernel
theorem dX11_temper_258 : decode cX11_temper 258 = .ok (.lload 10, 2) := by decide +kernel
theorem dX11_temper_260 : decode cX11_temper 260 = .ok (.lload 13, 2) := by decide +kernel
theorem dX11_temper_262 : decode cX11_temper 262 = .ok (.ladd, 1) := by decide +kernel
theorem dX11_temper_263 : decode cX11_temper 263 = .ok (.lstore 10, 2) := by decide +kernel
theorem dX11_temper_265 : decode cX11_temper 265 = .ok (.lload 8, 2) := by decide +kernel
theorem dX11_temper_267 : decode cX11_temper 267 = .ok (.aload_n 0, 1) := by decide +kernel
theorem dX11_temper_268 : decode cX11_temper 268 = .ok (.iload 7, 2) := by decide +kernel
theorem dX11_temper_270 : decode cX11_temper 270 = .ok (.iload 5, 2) := by decide +kernel
theorem dX11_temper_272 : decode cX11_temper 272 = .ok (.iload 12, 2) := by decide +kernel
theorem dX11_temper_274 : decode cX11_temper 274 = .ok (.invokevirtual 248, 3) := by decide +kernel
theorem dX11_temper_277 : decode cX11_temper 277 = .ok (.iload_n 1, 1) := by decide +kernel
theorem dX11_temper_278 : decode cX11_temper 278 = .ok (.iand, 1) := by decide +kernel
theorem dX11_temper_279 : decode cX11_temper 279 = .ok (.iload_n 1, 1) := by decide +kernel
theorem dX11_temper_280 : decode cX11_temper 280 = .ok (.if_icmp .ne 8, 3) := by decide +kernel
theorem dX11_temper_283 : decode cX11_temper 283 = .ok (.lload 13, 2) := by decide +kernel
theorem dX11_temper_285 : decode cX11_temper 285 = .ok (.goto 4, 3) := by decide +kernel
theorem dX11_temper_288 : decode cX11_temper 288 = .ok (.lconst 0, 1) := by decide +kernel
theorem dX11_temper_289 : decode cX11_temper 289 = .ok (.ladd, 1) := by decide +kernel
theorem dX11_temper_290 : decode cX11_temper 290 = .ok (.lstore 8, 2) := by decide +kernel
theorem dX11_temper_292 : decode cX11_temper 292 = .ok (.iinc 12 1, 3) := by decide +kernel
theorem dX11_temper_295 : decode cX11_temper 295 = .ok (.goto (-92), 3) := by decide +kernel
theorem dX11_temper_298 : decode cX11_temper 298 = .ok (.lload 8, 2) := by decide +kernel
theorem dX11_temper_300 : decode cX11_temper 300 = .ok (.lstore 12, 2) := by decide +kernel
theorem dX11_temper_302 : decode cX11_temper 302 = .ok (.lload 10, 2) := by decide +kernel
theorem dX11_temper_304 : decode cX11_temper 304 = .ok (.lstore 14, 2) := by decide +kernel
theorem dX11_temper_306 : decode cX11_temper 306 = .ok (.lload 14, 2) := by decide +kernel
theorem dX11_temper_308 : decode cX11_temper 308 = .ok (.lconst 0, 1) := by decide +kernel
theorem dX11_temper_309 : decode cX11_temper 309 = .ok (.lcmp, 1) := by decide +kernel
theorem dX11_temper_310 : decode cX11_temper 310 = .ok (.ifCond .eq 21, 3) := by decide +kernel
theorem dX11_temper_313 : decode cX11_temper 313 = .ok (.lload 12, 2) := by decide +kernel
theorem dX11_temper_315 : decode cX11_temper 315 = .ok (.lload 14, 2) := by decide +kernel
theorem dX11_temper_317 : decode cX11_temper 317 = .ok (.lrem, 1) := by decide +kernel
theorem dX11_temper_318 : decode cX11_temper 318 = .ok (.lstore 16, 2) := by decide +kernel
theorem dX11_temper_320 : decode cX11_temper 320 = .ok (.lload 14, 2) := by decide +kernel
theorem dX11_temper_322 : decode cX11_temper 322 = .ok (.lstore 12, 2) := by decide +kernel
theorem dX11_temper_324 : decode cX11_temper 324 = .ok (.lload 16, 2) := by decide +kernel
theorem dX11_temper_326 : decode cX11_temper 326 = .ok (.lstore 14, 2) := by decide +kernel
theorem dX11_temper_328 : decode cX11_temper 328 = .ok (.goto (-22), 3) := by decide +kernel
theorem dX11_temper_331 : decode cX11_temper 331 = .ok (.iload 6, 2) := by decide +kernel
theorem dX11_temper_333 : decode cX11_temper 333 = .ok (.ifCond .ne 8, 3) := by decide +kernel
theorem dX11_temper_336 : decode cX11_temper 336 = .ok (.lload 8, 2) := by decide +kernel
theorem dX11_temper_338 : decode cX11_temper 338 = .ok (.goto 5, 3) := by decide +kernel
theorem dX11_temper_341 : decode cX11_temper 341 = .ok (.lload 10, 2) := by decide +kernel
theorem dX11_temper_343 : decode cX11_temper 343 = .ok (.lload 12, 2) := by decide +kernel
theorem dX11_temper_345 : decode cX11_temper 345 = .ok (.ldiv, 1) := by decide +kernel
theorem dX11_temper_346 : decode cX11_temper 346 = .ok (.lreturn, 1) := by decide +kernel
def Sp_X11_temper (av : List AV) (m : AM) (Φ : Option AV → AM → Prop) : Prop := ∃ f p r i n w, av = [vr 11 110, vi f, vi p, vi r, vi i, vi n, vi w] ∧ ∃ C La Ma It, MCo m C ∧ MRow m La Ma It ∧ (C 0 = 0 → ∀ m2, Fm [] [0] m m2 → Φ (some (vl (-1000002))) m2) ∧ (0 < C 0 → temC C f p r n w = false → ∀ m2, Fm [] [0] m m2 → Φ (some (vl (-1000001))) m2) ∧ (0 < C 0 → temC C f p r n w = true → ∀ k, k = lackN La Ma r.toNatClampNeg i (nI (2 * n.toNatClampNeg)) → ¬ k = 0 → ∀ m2, Fm [] [0, 1] m m2 → m2.1 110 1 = nI k → Φ (some (vl (-1000010 - nI k).toInt64)) m2) ∧ (0 < C 0 → temC C f p r n w = true → lackN La Ma r.toNatClampNeg i (nI (2 * n.toNatClampNeg)) = 0 → ∀ D, D = (fun j => It r.toNatClampNeg (i.toNatClampNeg + j)) → (¬ planOk C D n.toNatClampNeg → ∀ m2, Fm [] [0] m m2 → Φ (some (vl (-1000001))) m2) ∧ (planOk C D n.toNatClampNeg → ∀ m2, Fm [] [0, 1] m m2 → m2.1 110 1 = nI 0 → Φ (some (vl (tempV C D f.toNatClampNeg p.toNatClampNeg n.toNatClampNeg w.toNatClampNeg))) m2))
set_option maxRecDepth 20000 in
set_option maxHeartbeats 4000000 in
theorem S_X11_temper : Snd yX11_temper e_X11_temper Sp_X11_temper := by
  refine Snd.of (by decide +kernel) rfl ?_ ?_
  · rintro av m Φ ⟨f, p, r, i, n, w, rfl, _⟩; exact Nat.le_of_ble_eq_true rfl
  rintro av m Φ ⟨f, p, r, i, n, w, rfl, C, La, Ma, It, hC0, hR0, h0, h1, h2, h3⟩ hav hty
  show B e_X11_temper Φ 0 [some (vr 11 110), some (vi f), some (vi p), some (vi r), some (vi i), some (vi n), some (vi w), none, none, none, none, none, none, none, none, none, none, none] [] m (0, 0)
  have hC : MCo (mset m 110 0 (nI 0)) C := hC0.ms (by decide)
  have hR : MRow (mset m 110 0 (nI 0)) La Ma It := hR0.ms
  have f0 : Fm [] [0] m (mset m 110 0 (nI 0)) := (Fm.rf _ _ m).m0 (by simp)
  have f1 : Fm [] [0, 1] m (mset m 110 0 (nI 0)) := (Fm.rf _ _ m).m0 (by simp)
  have fd : ∀ v, Fm [] [0, 1] m (mset (mset m 110 0 (nI 0)) 110 1 v) ∧ (mset (mset m 110 0 (nI 0)) 110 1 v).1 110 1 = v := fun v => ⟨f1.m0 (by simp), by rw [mset_at, if_pos rfl]⟩
  have hle := hC.le
  have hpw := hC.pow
  by_cases hcz : C 0 = 0
  · have t := h0 hcz _ f0
    refine b_aloadN (pc := 0) 0 dX11_temper_0 rfl rfl ?_
    refine b_iconst (pc := 1) (nI 0) dX11_temper_1 (by decide) ?_
    refine pf11_0 (pc := 2) k1042 dX11_temper_2 ?_
    refine b_aloadN (pc := 5) 0 dX11_temper_5 rfl rfl ?_
    refine call_X11_isThere (pc := 6) k1292 (by decide) ⟨Nat.le_of_ble_eq_true rfl, Nat.le_of_ble_eq_true rfl⟩ (Nat.le_of_ble_eq_true rfl) dX11_temper_6 ?_
    refine ⟨rfl, _, hC.1 0 (by omega), ?_, ?_⟩
    rotate_left -- leaf 0: six of X11_isThere at 6
    refine b_if_ne (pc := 9) 16 dX11_temper_9 (by decide) (fun c9 => ?_) (fun c9 => ?_)
    rotate_left -- leaf 1: at 16
    refine b_ldc2 (pc := 12) k1379 dX11_temper_12 ?_
    refine b_lret (pc := 15) rfl dX11_temper_15 ⟨Nat.le_of_ble_eq_true rfl, Nat.le_of_ble_eq_true rfl⟩ ?_
    rotate_left -- leaf 2: return at 15
    -- leaves: 0 six of X11_isThere at 6; 1 at 16; 2 return at 15
    · omega
    · have := zF c9; omega
    · exact t
  by_cases hc : temC C f p r n w = true
  · have hc2 := hc
    unfold temC at hc2
    rw [Bool.and_eq_true, Bool.and_eq_true, Bool.and_eq_true, Bool.and_eq_true] at hc2
    have hn3 := hc2.2.2.2.1
    have hc3 := hc2.2.2.2.1
    rw [Bool.and_eq_true] at hc3
    obtain ⟨F, hF, rfl⟩ := (inB_iff (by omega)).mp hc2.1
    obtain ⟨P, hP, rfl⟩ := (inB_iff (by omega)).mp hc2.2.1
    obtain ⟨r, hr, rfl⟩ := (inB_iff (by omega)).mp hc2.2.2.1
    obtain ⟨N, hN, rfl⟩ := (inB_iff (by omega)).mp hc3.1
    obtain ⟨W, hW, hw⟩ := (inB_iff (by omega)).mp hc2.2.2.2.2
    rw [n_cl (show r < 2147483648 by omega), n_cl (show N < 2147483648 by omega)] at h2 h3
    rw [n_cl (show F < 2147483648 by omega), n_cl (show P < 2147483648 by omega)] at h3
    have hv := hC.op (Or.inl (by omega))
    have h06 := hv.1
    have h45 := hv.2.2.2.2.1
    have hN6 : N ≤ 6 := by omega
    have hten := ten_le hN6
    have h2n : 2 ^ N ≤ 2 ^ 6 := Nat.pow_le_pow_right (by omega) hN6
    have hlk := lackN_lt La Ma r i (nI (2 * N))
    have e2n : nI 2 * nI N = nI (2 * N) := n_mul 2 N
    have qr := hR.lane hr
    have no9 : ∀ (z : nI (if C 0 = 0 then 0 else 1) = 0), False := fun z => hcz (zT z)
    have no21 : ∀ (z : nI (if inB (nI F) (2 ^ C 0) = true then 1 else 0) = 0), False := fun z => by rw [hc2.1] at z; exact absurd z (by decide)
    have no33 : nI (if (0 : Int64).toInt ≤ (nI P).toInt64.toInt ∧ (nI P).toInt64.toInt ≤ (10 : Int64).toInt then 1 else 0) = 0 → False := fun z => by rw [inLc 11 rfl (by omega), hc2.2.1] at z; exact absurd z (by decide)
    have no40 : ∀ (z : nI (if inB (nI r) 8 = true then 1 else 0) = 0), False := fun z => by rw [hc2.2.2.1] at z; exact absurd z (by decide)
    have no53 : nI (if (1 : Int64).toInt ≤ (nI N).toInt64.toInt ∧ (nI N).toInt64.toInt ≤ (6 : Int64).toInt then 1 else 0) = 0 → False := fun z => by rw [inNK 6 rfl (by omega), if_pos hn3] at z; exact absurd z (by decide)
    have no64 : nI (if (0 : Int64).toInt ≤ w.toInt64.toInt ∧ w.toInt64.toInt ≤ (1 : Int64).toInt then 1 else 0) = 0 → False := fun z => by rw [inLc 2 rfl (by omega), hc2.2.2.2.2] at z; exact absurd z (by decide)
    by_cases hz : lackN La Ma r i (nI (2 * N)) = 0
    · obtain ⟨hl, hfit⟩ := lackN_0.mp hz
      have ww := (hR r hr).2 hl
      obtain ⟨I, b, hi, hb, hle2⟩ := fit_to ww.2.2.2.1 hfit
      have w40 := ww.2.2.2.1
      rw [n_eq (by omega) (by omega)] at hb
      subst hi
      have h4 := h3 (by omega) hc hz (fun j => It r (I + j)) (by rw [n_cl (by omega)])
      rw [hw, n_cl (by omega)] at h4
      have it : ∀ m1 : AM, m1.1 113 = (mset m 110 0 (nI 0)).1 113 → ∀ j, j < 2 * N → m1.1 113 (40 * r + I + j) = It r (I + j) := fun m1 e j hj => by
        rw [e, show 40 * r + I + j = 40 * r + (I + j) by omega]
        exact ww.2.2.2.2 _ (by omega)
      have main : planOk C (fun j => It r (I + j)) N → ∀ o8, B e_X11_temper Φ 189 [some (vr 11 110), some (vi (nI F)), some (vi (nI P)), some (vi (nI r)), some (vi (nI I)), some (vi (nI N)), some (vi w), some (vi (nI (40 * r + I))), o8, none, none, none, none, none, none, none, none, none] [] (mset m 110 0 (nI 0)) (0, 0) := by
        intro hok o8
        have hM : MC (mset (mset m 110 0 (nI 0)) 110 1 (nI 0)) C := MC.ms hC.1 (by decide)
        have it1 := it (mset (mset m 110 0 (nI 0)) 110 1 (nI 0)) (mset_ne _ _ _ (by decide))
        have fin := h4.2 hok _ (fd (nI 0)).1 (fd (nI 0)).2
        have key : ∀ m1 : AM, MC m1 C → (∀ j, j < 2 * N → m1.1 113 (40 * r + I + j) = It r (I + j)) → Φ (some (vl (tempV C (fun j => It r (I + j)) F P N W))) m1 → B e_X11_temper Φ 203 [some (vr 11 110), some (vi (nI F)), some (vi (nI P)), some (vi (nI r)), some (vi (nI I)), some (vi (nI N)), some (vi w), some (vi (nI (40 * r + I))), some (vl (lN 0)), none, some (vl (lN 0)), none, some (vi (nI 0)), none, none, none, none, none] [] m1 (0, 0) := by
          intro m1 hM it1 fin
          have ha := abv_lt (C := C) (D := fun j => It r (I + j)) (F := F) (p := P) (by omega) hN6 (Nat.le_refl (2 ^ N))
          have hgp : 0 < Nat.gcd (10 ^ N) (abv C (fun j => It r (I + j)) F P N (2 ^ N)) := Nat.gcd_pos_of_pos_left _ hten.1
          have hgl : Nat.gcd (10 ^ N) (abv C (fun j => It r (I + j)) F P N (2 ^ N)) ≤ 10 ^ N := Nat.gcd_le_left _ hten.1
          have euc : ∀ e x y o16, y < e → x ≤ 10 ^ N → y ≤ 10 ^ N → Nat.gcd x y = Nat.gcd (10 ^ N) (abv C (fun j => It r (I + j)) F P N (2 ^ N)) → B e_X11_temper Φ 306 [some (vr 11 110), some (vi (nI F)), some (vi (nI P)), some (vi (nI r)), some (vi (nI I)), some (vi (nI N)), some (vi w), some (vi (nI (40 * r + I))), some (vl (lN (abv C (fun j => It r (I + j)) F P N (2 ^ N)))), none, some (vl (lN (10 ^ N))), none, some (vl (lN x)), none, some (vl (lN y)), none, o16, none] [] m1 (0, 0) := by
            intro e
            induction e with
            | zero => intro x y o16 z1; exact absurd z1 (Nat.not_lt_zero _)
            | succ e ih =>
              intro x y o16 z1 z2 z3 z4
              have ez : lg_cmp (lN y) 0 = 0 ↔ y = 0 := by
                rw [lg_cmp_eq, show (0 : Int64) = lN 0 from rfl, pk_lEQ (by omega) (by omega)]
              refine b_lloadG (pc := 306) 14 dX11_temper_306 rfl ?_
              refine b_lconst (pc := 308) 0 dX11_temper_308 (by decide) ?_
              refine b_lcmp (pc := 309) dX11_temper_309 ?_
              refine b_if_eq (pc := 310) 331 dX11_temper_310 (by decide) (fun c310 => ?_) (fun c310 => ?_)
              refine b_iloadG (pc := 331) 6 dX11_temper_331 rfl ?_
              refine b_if_ne (pc := 333) 341 dX11_temper_333 (by decide) (fun c333 => ?_) (fun c333 => ?_)
              refine b_lloadG (pc := 341) 10 dX11_temper_341 rfl ?_
              refine b_lloadG (pc := 343) 12 dX11_temper_343 rfl ?_
              refine b_ldiv (pc := 345) dX11_temper_345 ?_ ?_
              rotate_left -- leaf 0: divisor at 345
              refine b_lret (pc := 346) rfl dX11_temper_346 ⟨Nat.le_of_ble_eq_true rfl, Nat.le_of_ble_eq_true rfl⟩ ?_
              rotate_left -- leaf 1: return at 346
              refine b_lloadG (pc := 336) 8 dX11_temper_336 rfl ?_
              refine b_goto (pc := 338) 343 dX11_temper_338 (by decide) ?_
              refine b_lloadG (pc := 343) 12 dX11_temper_343 rfl ?_
              refine b_ldiv (pc := 345) dX11_temper_345 ?_ ?_
              rotate_left -- leaf 2: divisor at 345
              refine b_lret (pc := 346) rfl dX11_temper_346 ⟨Nat.le_of_ble_eq_true rfl, Nat.le_of_ble_eq_true rfl⟩ ?_
              rotate_left -- leaf 3: return at 346
              refine b_lloadG (pc := 313) 12 dX11_temper_313 rfl ?_
              refine b_lloadG (pc := 315) 14 dX11_temper_315 rfl ?_
              refine b_lrem (pc := 317) dX11_temper_317 ?_ ?_
              rotate_left -- leaf 4: divisor at 317
              refine slG16 (pc := 318) notL_n (by decide) dX11_temper_318 ?_
              refine b_lloadG (pc := 320) 14 dX11_temper_320 rfl ?_
              refine slG12 (pc := 322) notL_n (by decide) dX11_temper_322 ?_
              refine b_lloadG (pc := 324) 16 dX11_temper_324 rfl ?_
              refine slG14 (pc := 326) notL_n (by decide) dX11_temper_326 ?_
              refine b_goto (pc := 328) 306 dX11_temper_328 (by decide) ?_
              rotate_left -- leaf 5: at 306
              -- leaves: 0 divisor at 345; 1 return at 346; 2 divisor at 345; 3 return at 346; 4 divisor at 317; 5 at 306
              · rw [ez] at c310
                rw [c310, Nat.gcd_zero_right] at z4
                rw [show (0 : Int64) = lN 0 from rfl, pk_lEQ (by omega) (by omega)]; omega
              · rw [ez] at c310
                rw [c310, Nat.gcd_zero_right] at z4
                rw [hw, n_eq0 (by omega)] at c333
                unfold tempV at fin
                rw [if_neg c333] at fin
                rw [pk_lDiv (by omega) (by omega) (by omega), z4]
                exact fin
              · rw [ez] at c310
                rw [c310, Nat.gcd_zero_right] at z4
                rw [show (0 : Int64) = lN 0 from rfl, pk_lEQ (by omega) (by omega)]; omega
              · rw [ez] at c310
                rw [c310, Nat.gcd_zero_right] at z4
                rw [hw, n_eq0 (by omega)] at c333
                unfold tempV at fin
                rw [if_pos c333] at fin
                rw [pk_lDiv (by omega) (by omega) (by omega), z4]
                exact fin
              · rw [ez] at c310
                rw [show (0 : Int64) = lN 0 from rfl, pk_lEQ (by omega) (by omega)]; exact c310
              · rw [ez] at c310
                have hy : 0 < y := by omega
                have hm := Nat.mod_lt x hy
                rw [pk_lRem (by omega) hy (by omega)]
                exact ih y (x % y) _ (by omega) z3 (by omega) (by rw [gcd_step]; exact z4)
          have outer : ∀ e s o13 o15, 2 ^ N + 1 ≤ s + e → s ≤ 2 ^ N → B e_X11_temper Φ 203 [some (vr 11 110), some (vi (nI F)), some (vi (nI P)), some (vi (nI r)), some (vi (nI I)), some (vi (nI N)), some (vi w), some (vi (nI (40 * r + I))), some (vl (lN (abv C (fun j => It r (I + j)) F P N s))), none, some (vl (lN (blw P N s))), none, some (vi (nI s)), o13, none, o15, none, none] [] m1 (0, 0) := by
            intro e
            induction e with
            | zero => intro s o13 o15 z1 z2; omega
            | succ e ih =>
              intro s o13 o15 z1 z2
              have un : abv C (fun j => It r (I + j)) F P N (s + 1) = abv C (fun j => It r (I + j)) F P N s + if (plS C (fun j => It r (I + j)) s N).1 &&& F = F then cas P s N else 0 := rfl
              have unb : blw P N (s + 1) = blw P N s + cas P s N := rfl
              have hpl := plS_lt hv (s := s) hok N (Nat.le_refl N)
              have hpa : (plS C (fun j => It r (I + j)) s N).1 &&& F < 64 := Nat.and_lt_two_pow (n := 6) _ (show F < 2 ^ 6 by omega)
              by_cases hs : s < 2 ^ N
              · have inner : ∀ e k, N + 1 ≤ k + e → k ≤ N → B e_X11_temper Φ 218 [some (vr 11 110), some (vi (nI F)), some (vi (nI P)), some (vi (nI r)), some (vi (nI I)), some (vi (nI N)), some (vi w), some (vi (nI (40 * r + I))), some (vl (lN (abv C (fun j => It r (I + j)) F P N s))), none, some (vl (lN (blw P N s))), none, some (vi (nI s)), some (vl (lN (cas P s k))), none, some (vi (nI k)), none, none] [] m1 (0, 0) := by
                  intro e
                  induction e with
                  | zero => intro k z1 z2; omega
                  | succ e ih2 =>
                    intro k z3 z4
                    have unc : cas P s (k + 1) = cas P s k * (if s.testBit k = true then P else 10 - P) := rfl
                    by_cases hk : k < N
                    · skip
                      refine b_iloadG (pc := 218) 15 dX11_temper_218 rfl ?_
                      refine b_iloadG (pc := 220) 5 dX11_temper_220 rfl ?_
                      refine b_icmp_ge (pc := 222) 258 dX11_temper_222 (by decide) (fun c222 => ?_) (fun c222 => ?_)
                      rotate_left -- leaf 0: at 258
                      refine b_lloadG (pc := 225) 13 dX11_temper_225 rfl ?_
                      refine b_iloadG (pc := 227) 12 dX11_temper_227 rfl ?_
                      refine b_iloadG (pc := 229) 15 dX11_temper_229 rfl ?_
                      refine b_ishr (pc := 231) dX11_temper_231 ?_
                      refine b_iconst (pc := 232) (nI 1) dX11_temper_232 (by decide) ?_
                      refine b_iand (pc := 233) dX11_temper_233 ?_
                      refine b_iconst (pc := 234) (nI 1) dX11_temper_234 (by decide) ?_
                      refine b_icmp_ne (pc := 235) 243 dX11_temper_235 (by decide) (fun c235 => ?_) (fun c235 => ?_)
                      refine b_ldc2 (pc := 243) k1380 dX11_temper_243 ?_
                      refine b_iloadN (pc := 246) 2 dX11_temper_246 rfl rfl ?_
                      refine b_i2l (pc := 247) dX11_temper_247 ?_
                      refine b_lsub (pc := 248) dX11_temper_248 ?_
                      refine b_lmul (pc := 249) dX11_temper_249 ?_
                      refine slG13 (pc := 250) notL_i (by decide) dX11_temper_250 ?_
                      refine inc15 (pc := 252) notL_n (by decide) dX11_temper_252 ?_
                      refine b_goto (pc := 255) 218 dX11_temper_255 (by decide) ?_
                      rotate_left -- leaf 1: at 218
                      refine b_iloadN (pc := 238) 2 dX11_temper_238 rfl rfl ?_
                      refine b_i2l (pc := 239) dX11_temper_239 ?_
                      refine b_goto (pc := 240) 249 dX11_temper_240 (by decide) ?_
                      refine b_lmul (pc := 249) dX11_temper_249 ?_
                      refine slG13 (pc := 250) notL_i (by decide) dX11_temper_250 ?_
                      refine inc15 (pc := 252) notL_n (by decide) dX11_temper_252 ?_
                      refine b_goto (pc := 255) 218 dX11_temper_255 (by decide) ?_
                      rotate_left -- leaf 2: at 218
                      -- leaves: 0 at 258; 1 at 218; 2 at 218
                      · rw [n_le (by omega) (by omega)] at c222; omega
                      · rw [tbit_and1 _ _ (by omega) (by omega)] at c235
                        rw [if_neg (fun q => by rw [if_pos q] at c235; exact c235 rfl)] at unc
                        rw [nI_l (by omega), show (10 : Int64) = lN 10 from rfl, lN_sub (by omega), lN_mul, ← unc, n_inc]
                        exact ih2 (k + 1) (by omega) (by omega)
                      · rw [tbit_and1 _ _ (by omega) (by omega)] at c235
                        have q : s.testBit k = true := by
                          by_cases q : s.testBit k = true
                          · exact q
                          · rw [if_neg q] at c235; exact absurd c235 (by decide)
                        rw [if_pos q] at unc
                        rw [nI_l (by omega), lN_mul, ← unc, n_inc]
                        exact ih2 (k + 1) (by omega) (by omega)
                    · have ek : N = k := by omega
                      subst ek
                      refine b_iloadG (pc := 218) 15 dX11_temper_218 rfl ?_
                      refine b_iloadG (pc := 220) 5 dX11_temper_220 rfl ?_
                      refine b_icmp_ge (pc := 222) 258 dX11_temper_222 (by decide) (fun c222 => ?_) (fun c222 => ?_)
                      refine b_lloadG (pc := 258) 10 dX11_temper_258 rfl ?_
                      refine b_lloadG (pc := 260) 13 dX11_temper_260 rfl ?_
                      refine b_ladd (pc := 262) dX11_temper_262 ?_
                      refine slG10 (pc := 263) notL_n (by decide) dX11_temper_263 ?_
                      refine b_lloadG (pc := 265) 8 dX11_temper_265 rfl ?_
                      refine b_aloadN (pc := 267) 0 dX11_temper_267 rfl rfl ?_
                      refine b_iloadG (pc := 268) 7 dX11_temper_268 rfl ?_
                      refine b_iloadG (pc := 270) 5 dX11_temper_270 rfl ?_
                      refine b_iloadG (pc := 272) 12 dX11_temper_272 rfl ?_
                      refine call_X11_afterAll (pc := 274) k1383 (by decide) ⟨Nat.le_of_ble_eq_true rfl, Nat.le_of_ble_eq_true rfl⟩ (Nat.le_of_ble_eq_true rfl) dX11_temper_274 ?_
                      refine ⟨_, _, _, rfl, C, (fun j => It r (I + j)), 40 * r + I, N, s, hv, hM, rfl, rfl, rfl, ?_, ?_, ?_, ?_, hok, ?_⟩
                      rotate_left -- leaf 0: b of X11_afterAll at 274
                      rotate_left -- leaf 1: n6 of X11_afterAll at 274
                      rotate_left -- leaf 2: s64 of X11_afterAll at 274
                      rotate_left -- leaf 3: dat of X11_afterAll at 274
                      refine b_iloadN (pc := 277) 1 dX11_temper_277 rfl rfl ?_
                      refine b_iand (pc := 278) dX11_temper_278 ?_
                      refine b_iloadN (pc := 279) 1 dX11_temper_279 rfl rfl ?_
                      refine b_icmp_ne (pc := 280) 288 dX11_temper_280 (by decide) (fun c280 => ?_) (fun c280 => ?_)
                      refine b_lconst (pc := 288) 0 dX11_temper_288 (by decide) ?_
                      refine b_ladd (pc := 289) dX11_temper_289 ?_
                      refine slG8 (pc := 290) notL_i (by decide) dX11_temper_290 ?_
                      refine inc12 (pc := 292) notL_n (by decide) dX11_temper_292 ?_
                      refine b_goto (pc := 295) 203 dX11_temper_295 (by decide) ?_
                      rotate_left -- leaf 4: at 203
                      refine b_lloadG (pc := 283) 13 dX11_temper_283 rfl ?_
                      refine b_goto (pc := 285) 289 dX11_temper_285 (by decide) ?_
                      refine b_ladd (pc := 289) dX11_temper_289 ?_
                      refine slG8 (pc := 290) notL_i (by decide) dX11_temper_290 ?_
                      refine inc12 (pc := 292) notL_n (by decide) dX11_temper_292 ?_
                      refine b_goto (pc := 295) 203 dX11_temper_295 (by decide) ?_
                      rotate_left -- leaf 5: at 203
                      rotate_left -- leaf 6: at 225
                      -- leaves: 0 b of X11_afterAll at 274; 1 n6 of X11_afterAll at 274; 2 s64 of X11_afterAll at 274; 3 dat of X11_afterAll at 274; 4 at 203; 5 at 203; 6 at 225
                      · omega
                      · exact hN6
                      · omega
                      · exact it1
                      · rw [n_and, n_eq (by omega) (by omega)] at c280
                        rw [if_neg c280, Nat.add_zero] at un
                        have nx := ih (s + 1) (some (vl (lN (cas P s N)))) (some (vi (nI N))) (by omega) (by omega)
                        rw [un, unb] at nx
                        rw [show (0 : Int64) = lN 0 from rfl, lN_add, lN_add, Nat.add_zero, n_inc]
                        exact nx
                      · rw [n_and, n_eq (by omega) (by omega)] at c280
                        rw [if_pos c280] at un
                        have nx := ih (s + 1) (some (vl (lN (cas P s N)))) (some (vi (nI N))) (by omega) (by omega)
                        rw [un, unb] at nx
                        rw [lN_add, lN_add, n_inc]
                        exact nx
                      · rw [n_le (by omega) (by omega)] at c222; omega
                refine b_iloadG (pc := 203) 12 dX11_temper_203 rfl ?_
                refine b_iconst (pc := 205) (nI 1) dX11_temper_205 (by decide) ?_
                refine b_iloadG (pc := 206) 5 dX11_temper_206 rfl ?_
                refine b_ishl (pc := 208) dX11_temper_208 ?_
                refine b_icmp_ge (pc := 209) 298 dX11_temper_209 (by decide) (fun c209 => ?_) (fun c209 => ?_)
                rotate_left -- leaf 0: at 298
                refine b_lconst (pc := 212) 1 dX11_temper_212 (by decide) ?_
                refine slG13 (pc := 213) notL_i (by decide) dX11_temper_213 ?_
                refine b_iconst (pc := 215) (nI 0) dX11_temper_215 (by decide) ?_
                refine siG15 (pc := 216) notL_n (by decide) dX11_temper_216 ?_
                rotate_left -- leaf 1: at 218
                -- leaves: 0 at 298; 1 at 218
                · rw [n_pow (by omega), n_le (by omega) (by omega)] at c209; omega
                · exact inner (N + 1) 0 (by omega) (by omega)
              · have es : s = 2 ^ N := by omega
                subst es
                refine b_iloadG (pc := 203) 12 dX11_temper_203 rfl ?_
                refine b_iconst (pc := 205) (nI 1) dX11_temper_205 (by decide) ?_
                refine b_iloadG (pc := 206) 5 dX11_temper_206 rfl ?_
                refine b_ishl (pc := 208) dX11_temper_208 ?_
                refine b_icmp_ge (pc := 209) 298 dX11_temper_209 (by decide) (fun c209 => ?_) (fun c209 => ?_)
                refine b_lloadG (pc := 298) 8 dX11_temper_298 rfl ?_
                refine slG12 (pc := 300) notL_n (by decide) dX11_temper_300 ?_
                refine b_lloadG (pc := 302) 10 dX11_temper_302 rfl ?_
                refine slG14 (pc := 304) notL_n (by decide) dX11_temper_304 ?_
                rotate_left -- leaf 0: at 306
                rotate_left -- leaf 1: at 212
                -- leaves: 0 at 306; 1 at 212
                · rw [blw_all (by omega) hN6]
                  exact euc (10 ^ N + 1) _ _ none (Nat.lt_succ_self _) ha (Nat.le_refl _) (Nat.gcd_comm _ _)
                · rw [n_pow (by omega), n_le (by omega) (by omega)] at c209
                  exact absurd (Nat.le_refl _) c209
          exact outer (2 ^ N + 1) 0 none none (Nat.le_of_eq (Nat.zero_add _).symm) (Nat.zero_le _)
        refine b_aloadN (pc := 189) 0 dX11_temper_189 rfl rfl ?_
        refine b_iconst (pc := 190) (nI 0) dX11_temper_190 (by decide) ?_
        refine pf11_1 (pc := 191) k1043 dX11_temper_191 ?_
        refine b_lconst (pc := 194) 0 dX11_temper_194 (by decide) ?_
        refine slG8 (pc := 195) notL_i (by decide) dX11_temper_195 ?_
        refine b_lconst (pc := 197) 0 dX11_temper_197 (by decide) ?_
        refine slG10 (pc := 198) notL_n (by decide) dX11_temper_198 ?_
        refine b_iconst (pc := 200) (nI 0) dX11_temper_200 (by decide) ?_
        refine siG12 (pc := 201) notL_n (by decide) dX11_temper_201 ?_
        rotate_left -- leaf 0: at 203
        -- leaves: 0 at 203
        exact key _ hM it1 fin
      have loop : ∀ e k, N + 1 ≤ k + e → k ≤ N → (∀ j, j < k → inB (It r (I + 2 * j)) (C 4) = true ∧ inB (It r (I + (2 * j + 1))) (2 * C 0) = true) → B e_X11_temper Φ 131 [some (vr 11 110), some (vi (nI F)), some (vi (nI P)), some (vi (nI r)), some (vi (nI I)), some (vi (nI N)), some (vi w), some (vi (nI (40 * r + I))), some (vi (nI k)), none, none, none, none, none, none, none, none, none] [] (mset m 110 0 (nI 0)) (0, 0) := by
        intro e
        induction e with
        | zero => intro k z1 z2; omega
        | succ e ih =>
          intro k z1 z2 z3
          refine b_iloadG (pc := 131) 8 dX11_temper_131 rfl ?_
          refine b_iloadG (pc := 133) 5 dX11_temper_133 rfl ?_
          refine b_icmp_ge (pc := 135) 189 dX11_temper_135 (by decide) (fun c135 => ?_) (fun c135 => ?_)
          rotate_left -- leaf 0: at 189
          refine b_aloadN (pc := 138) 0 dX11_temper_138 rfl rfl ?_
          refine b_aloadN (pc := 139) 0 dX11_temper_139 rfl rfl ?_
          refine gf11_4 (pc := 140) 113 rfl k1046 dX11_temper_140 ?_
          refine b_iloadG (pc := 143) 7 dX11_temper_143 rfl ?_
          refine b_iconst (pc := 145) (nI 2) dX11_temper_145 (by decide) ?_
          refine b_iloadG (pc := 146) 8 dX11_temper_146 rfl ?_
          refine b_imul (pc := 148) dX11_temper_148 ?_
          refine b_iadd (pc := 149) dX11_temper_149 ?_
          refine b_iald (pc := 150) (by decide) ?_ dX11_temper_150 ?_
          rotate_left -- leaf 1: index at 150
          refine call_X11_isPerson (pc := 151) k1229 (by decide) ⟨Nat.le_of_ble_eq_true rfl, Nat.le_of_ble_eq_true rfl⟩ (Nat.le_of_ble_eq_true rfl) dX11_temper_151 ?_
          refine ⟨_, rfl, _, hC.1 4 (by omega), ?_, ?_⟩
          rotate_left -- leaf 2: small of X11_isPerson at 151
          refine b_if_eq (pc := 154) 179 dX11_temper_154 (by decide) (fun c154 => ?_) (fun c154 => ?_)
          refine b_ldc2 (pc := 179) k1382 dX11_temper_179 ?_
          refine b_lret (pc := 182) rfl dX11_temper_182 ⟨Nat.le_of_ble_eq_true rfl, Nat.le_of_ble_eq_true rfl⟩ ?_
          rotate_left -- leaf 3: return at 182
          refine b_aloadN (pc := 157) 0 dX11_temper_157 rfl rfl ?_
          refine b_aloadN (pc := 158) 0 dX11_temper_158 rfl rfl ?_
          refine gf11_4 (pc := 159) 113 rfl k1046 dX11_temper_159 ?_
          refine b_iloadG (pc := 162) 7 dX11_temper_162 rfl ?_
          refine b_iconst (pc := 164) (nI 2) dX11_temper_164 (by decide) ?_
          refine b_iloadG (pc := 165) 8 dX11_temper_165 rfl ?_
          refine b_imul (pc := 167) dX11_temper_167 ?_
          refine b_iadd (pc := 168) dX11_temper_168 ?_
          refine b_iconst (pc := 169) (nI 1) dX11_temper_169 (by decide) ?_
          refine b_iadd (pc := 170) dX11_temper_170 ?_
          refine b_iald (pc := 171) (by decide) ?_ dX11_temper_171 ?_
          rotate_left -- leaf 4: index at 171
          refine b_i2l (pc := 172) dX11_temper_172 ?_
          refine call_X11_isSaying (pc := 173) k1233 (by decide) ⟨Nat.le_of_ble_eq_true rfl, Nat.le_of_ble_eq_true rfl⟩ (Nat.le_of_ble_eq_true rfl) dX11_temper_173 ?_
          refine ⟨_, rfl, _, hC.1 0 (by omega), ?_, ?_⟩
          rotate_left -- leaf 5: six of X11_isSaying at 173
          refine b_if_ne (pc := 176) 183 dX11_temper_176 (by decide) (fun c176 => ?_) (fun c176 => ?_)
          refine inc8 (pc := 183) notL_i (by decide) dX11_temper_183 ?_
          refine b_goto (pc := 186) 131 dX11_temper_186 (by decide) ?_
          rotate_left -- leaf 6: at 131
          refine b_ldc2 (pc := 179) k1382 dX11_temper_179 ?_
          refine b_lret (pc := 182) rfl dX11_temper_182 ⟨Nat.le_of_ble_eq_true rfl, Nat.le_of_ble_eq_true rfl⟩ ?_
          rotate_left -- leaf 7: return at 182
          -- leaves: 0 at 189; 1 index at 150; 2 small of X11_isPerson at 151; 3 return at 182; 4 index at 171; 5 six of X11_isSaying at 173; 6 at 131; 7 return at 182
          · rw [n_le (by omega) (by omega)] at c135
            exact main (fun j hj => z3 j (by omega)) _
          · rw [n_le (by omega) (by omega)] at c135
            rw [n_mul, n_add]; exact n_in (by omega) (by omega)
          · omega
          · rw [n_le (by omega) (by omega)] at c135
            rw [n_mul, n_add, n_cl (by omega), it _ rfl (2 * k) (by omega)] at c154
            exact h4.1 (fun ok => by
              have z := (ok k (by omega)).1
              rw [show inB ((fun j => It r (I + j)) (2 * k)) (C 4) = false from bF c154] at z
              cases z) _ f0
          · rw [n_le (by omega) (by omega)] at c135
            rw [n_mul, n_add, n_add]; exact n_in (by omega) (by omega)
          · omega
          · rw [n_le (by omega) (by omega)] at c135
            rw [n_mul, n_add, n_cl (by omega), it _ rfl (2 * k) (by omega)] at c154
            rw [n_mul, n_add, n_add, n_cl (by omega), show 40 * r + I + 2 * k + 1 = 40 * r + I + (2 * k + 1) by omega, it _ rfl (2 * k + 1) (by omega)] at c176
            rw [n_inc]
            exact ih (k + 1) (by omega) (by omega) (fun j hj => by
              rcases Nat.lt_or_ge j k with z | z
              · exact z3 j z
              · rw [show j = k by omega]; exact ⟨bT c154, bT c176⟩)
          · rw [n_le (by omega) (by omega)] at c135
            rw [n_mul, n_add, n_add, n_cl (by omega), show 40 * r + I + 2 * k + 1 = 40 * r + I + (2 * k + 1) by omega, it _ rfl (2 * k + 1) (by omega)] at c176
            exact h4.1 (fun ok => by
              have z := (ok k (by omega)).2
              rw [show inB ((fun j => It r (I + j)) (2 * k + 1)) (2 * C 0) = false from bF c176] at z
              cases z) _ f0
      refine b_aloadN (pc := 0) 0 dX11_temper_0 rfl rfl ?_
      refine b_iconst (pc := 1) (nI 0) dX11_temper_1 (by decide) ?_
      refine pf11_0 (pc := 2) k1042 dX11_temper_2 ?_
      refine b_aloadN (pc := 5) 0 dX11_temper_5 rfl rfl ?_
      refine call_X11_isThere (pc := 6) k1292 (by decide) ⟨Nat.le_of_ble_eq_true rfl, Nat.le_of_ble_eq_true rfl⟩ (Nat.le_of_ble_eq_true rfl) dX11_temper_6 ?_
      refine ⟨rfl, _, hC.1 0 (by omega), ?_, ?_⟩
      rotate_left -- leaf 0: six of X11_isThere at 6
      refine b_if_ne (pc := 9) 16 dX11_temper_9 (by decide) (fun c9 => ?_) (fun c9 => ?_)
      refine b_aloadN (pc := 16) 0 dX11_temper_16 rfl rfl ?_
      refine b_iloadN (pc := 17) 1 dX11_temper_17 rfl rfl ?_
      refine call_X11_areFacts (pc := 18) k1317 (by decide) ⟨Nat.le_of_ble_eq_true rfl, Nat.le_of_ble_eq_true rfl⟩ (Nat.le_of_ble_eq_true rfl) dX11_temper_18 ?_
      refine ⟨_, rfl, _, hC.1 0 (by omega), ?_, ?_⟩
      rotate_left -- leaf 1: six2 of X11_areFacts at 18
      refine b_if_eq (pc := 21) 67 dX11_temper_21 (by decide) (fun c21 => ?_) (fun c21 => ?_)
      rotate_left -- leaf 2: at 67
      refine b_iloadN (pc := 24) 2 dX11_temper_24 rfl rfl ?_
      refine b_i2l (pc := 25) dX11_temper_25 ?_
      refine b_lconst (pc := 26) 0 dX11_temper_26 (by decide) ?_
      refine b_ldc2 (pc := 27) k1380 dX11_temper_27 ?_
      refine call_X11_in (pc := 30) k1136 (by decide) ⟨Nat.le_of_ble_eq_true rfl, Nat.le_of_ble_eq_true rfl⟩ (Nat.le_of_ble_eq_true rfl) dX11_temper_30 ?_
      refine ⟨_, _, _, rfl, ?_⟩
      refine b_if_eq (pc := 33) 67 dX11_temper_33 (by decide) (fun c33 => ?_) (fun c33 => ?_)
      rotate_left -- leaf 3: at 67
      refine b_iloadN (pc := 36) 3 dX11_temper_36 rfl rfl ?_
      refine call_X11_isRow (pc := 37) k1132 (by decide) ⟨Nat.le_of_ble_eq_true rfl, Nat.le_of_ble_eq_true rfl⟩ (Nat.le_of_ble_eq_true rfl) dX11_temper_37 ?_
      refine ⟨_, rfl, ?_⟩
      refine b_if_eq (pc := 40) 67 dX11_temper_40 (by decide) (fun c40 => ?_) (fun c40 => ?_)
      rotate_left -- leaf 4: at 67
      refine b_iloadG (pc := 43) 5 dX11_temper_43 rfl ?_
      refine b_i2l (pc := 45) dX11_temper_45 ?_
      refine b_lconst (pc := 46) 1 dX11_temper_46 (by decide) ?_
      refine b_ldc2 (pc := 47) k1381 dX11_temper_47 ?_
      refine call_X11_in (pc := 50) k1136 (by decide) ⟨Nat.le_of_ble_eq_true rfl, Nat.le_of_ble_eq_true rfl⟩ (Nat.le_of_ble_eq_true rfl) dX11_temper_50 ?_
      refine ⟨_, _, _, rfl, ?_⟩
      refine b_if_eq (pc := 53) 67 dX11_temper_53 (by decide) (fun c53 => ?_) (fun c53 => ?_)
      rotate_left -- leaf 5: at 67
      refine b_iloadG (pc := 56) 6 dX11_temper_56 rfl ?_
      refine b_i2l (pc := 58) dX11_temper_58 ?_
      refine b_lconst (pc := 59) 0 dX11_temper_59 (by decide) ?_
      refine b_lconst (pc := 60) 1 dX11_temper_60 (by decide) ?_
      refine call_X11_in (pc := 61) k1136 (by decide) ⟨Nat.le_of_ble_eq_true rfl, Nat.le_of_ble_eq_true rfl⟩ (Nat.le_of_ble_eq_true rfl) dX11_temper_61 ?_
      refine ⟨_, _, _, rfl, ?_⟩
      refine b_if_ne (pc := 64) 71 dX11_temper_64 (by decide) (fun c64 => ?_) (fun c64 => ?_)
      refine b_aloadN (pc := 71) 0 dX11_temper_71 rfl rfl ?_
      refine gf11_2 (pc := 72) 111 rfl k1044 dX11_temper_72 ?_
      refine b_iloadN (pc := 75) 3 dX11_temper_75 rfl rfl ?_
      refine b_iald (pc := 76) (by decide) ?_ dX11_temper_76 ?_
      rotate_left -- leaf 6: index at 76
      refine b_if_ge (pc := 77) 87 dX11_temper_77 (by decide) (fun c77 => ?_) (fun c77 => ?_)
      refine b_iloadG (pc := 87) 4 dX11_temper_87 rfl ?_
      refine b_if_lt (pc := 89) 112 dX11_temper_89 (by decide) (fun c89 => ?_) (fun c89 => ?_)
      rotate_left -- leaf 7: at 112
      refine b_iloadG (pc := 92) 4 dX11_temper_92 rfl ?_
      refine b_i2l (pc := 94) dX11_temper_94 ?_
      refine b_iconst (pc := 95) (nI 2) dX11_temper_95 (by decide) ?_
      refine b_iloadG (pc := 96) 5 dX11_temper_96 rfl ?_
      refine b_imul (pc := 98) dX11_temper_98 ?_
      refine b_i2l (pc := 99) dX11_temper_99 ?_
      refine b_ladd (pc := 100) dX11_temper_100 ?_
      refine b_aloadN (pc := 101) 0 dX11_temper_101 rfl rfl ?_
      refine gf11_3 (pc := 102) 112 rfl k1045 dX11_temper_102 ?_
      refine b_iloadN (pc := 105) 3 dX11_temper_105 rfl rfl ?_
      refine b_iald (pc := 106) (by decide) ?_ dX11_temper_106 ?_
      rotate_left -- leaf 8: index at 106
      refine b_i2l (pc := 107) dX11_temper_107 ?_
      refine b_lcmp (pc := 108) dX11_temper_108 ?_
      refine b_if_le (pc := 109) 119 dX11_temper_109 (by decide) (fun c109 => ?_) (fun c109 => ?_)
      refine b_bipush (pc := 119) (nI 40) dX11_temper_119 (by decide) ?_
      refine b_iloadN (pc := 121) 3 dX11_temper_121 rfl rfl ?_
      refine b_imul (pc := 122) dX11_temper_122 ?_
      refine b_iloadG (pc := 123) 4 dX11_temper_123 rfl ?_
      refine b_iadd (pc := 125) dX11_temper_125 ?_
      refine siG7 (pc := 126) notL_i (by decide) dX11_temper_126 ?_
      refine b_iconst (pc := 128) (nI 0) dX11_temper_128 (by decide) ?_
      refine siG8 (pc := 129) notL_i (by decide) dX11_temper_129 ?_
      rotate_left -- leaf 9: at 131
      rotate_left -- leaf 10: at 112
      rotate_left -- leaf 11: at 80
      rotate_left -- leaf 12: at 67
      rotate_left -- leaf 13: at 12
      -- leaves: 0 six of X11_isThere at 6; 1 six2 of X11_areFacts at 18; 2 at 67; 3 at 67; 4 at 67; 5 at 67; 6 index at 76; 7 at 112; 8 index at 106; 9 at 131; 10 at 112; 11 at 80; 12 at 67; 13 at 12
      · omega
      · omega
      · exact (no21 c21).elim
      · exact (no33 c33).elim
      · exact (no40 c40).elim
      · exact (no53 c53).elim
      · exact n_in (by omega) (by omega)
      · rw [n_lt0 (by omega)] at c89; exact c89.elim
      · exact n_in (by omega) (by omega)
      · rw [n_mul, n_add]
        exact loop (N + 1) 0 (by omega) (by omega) (fun j hj => absurd hj (Nat.not_lt_zero j))
      · have c109 := Int32.not_le.mp c109
        rw [cmp_gt, e2n, il_sum, Int32.toInt_toInt64, n_cl (by omega), ww.2.2.1, nI_toInt (by omega), nI_toInt (by omega), nI_toInt (by omega)] at c109
        omega
      · rw [n_cl (by omega)] at c77
        exact absurd (qr.mpr hl) c77
      · exact (no64 c64).elim
      · exact (no9 c9).elim
    · have bad := h2 (by omega) hc _ rfl hz
      refine b_aloadN (pc := 0) 0 dX11_temper_0 rfl rfl ?_
      refine b_iconst (pc := 1) (nI 0) dX11_temper_1 (by decide) ?_
      refine pf11_0 (pc := 2) k1042 dX11_temper_2 ?_
      refine b_aloadN (pc := 5) 0 dX11_temper_5 rfl rfl ?_
      refine call_X11_isThere (pc := 6) k1292 (by decide) ⟨Nat.le_of_ble_eq_true rfl, Nat.le_of_ble_eq_true rfl⟩ (Nat.le_of_ble_eq_true rfl) dX11_temper_6 ?_
      refine ⟨rfl, _, hC.1 0 (by omega), ?_, ?_⟩
      rotate_left -- leaf 0: six of X11_isThere at 6
      refine b_if_ne (pc := 9) 16 dX11_temper_9 (by decide) (fun c9 => ?_) (fun c9 => ?_)
      refine b_aloadN (pc := 16) 0 dX11_temper_16 rfl rfl ?_
      refine b_iloadN (pc := 17) 1 dX11_temper_17 rfl rfl ?_
      refine call_X11_areFacts (pc := 18) k1317 (by decide) ⟨Nat.le_of_ble_eq_true rfl, Nat.le_of_ble_eq_true rfl⟩ (Nat.le_of_ble_eq_true rfl) dX11_temper_18 ?_
      refine ⟨_, rfl, _, hC.1 0 (by omega), ?_, ?_⟩
      rotate_left -- leaf 1: six2 of X11_areFacts at 18
      refine b_if_eq (pc := 21) 67 dX11_temper_21 (by decide) (fun c21 => ?_) (fun c21 => ?_)
      rotate_left -- leaf 2: at 67
      refine b_iloadN (pc := 24) 2 dX11_temper_24 rfl rfl ?_
      refine b_i2l (pc := 25) dX11_temper_25 ?_
      refine b_lconst (pc := 26) 0 dX11_temper_26 (by decide) ?_
      refine b_ldc2 (pc := 27) k1380 dX11_temper_27 ?_
      refine call_X11_in (pc := 30) k1136 (by decide) ⟨Nat.le_of_ble_eq_true rfl, Nat.le_of_ble_eq_true rfl⟩ (Nat.le_of_ble_eq_true rfl) dX11_temper_30 ?_
      refine ⟨_, _, _, rfl, ?_⟩
      refine b_if_eq (pc := 33) 67 dX11_temper_33 (by decide) (fun c33 => ?_) (fun c33 => ?_)
      rotate_left -- leaf 3: at 67
      refine b_iloadN (pc := 36) 3 dX11_temper_36 rfl rfl ?_
      refine call_X11_isRow (pc := 37) k1132 (by decide) ⟨Nat.le_of_ble_eq_true rfl, Nat.le_of_ble_eq_true rfl⟩ (Nat.le_of_ble_eq_true rfl) dX11_temper_37 ?_
      refine ⟨_, rfl, ?_⟩
      refine b_if_eq (pc := 40) 67 dX11_temper_40 (by decide) (fun c40 => ?_) (fun c40 => ?_)
      rotate_left -- leaf 4: at 67
      refine b_iloadG (pc := 43) 5 dX11_temper_43 rfl ?_
      refine b_i2l (pc := 45) dX11_temper_45 ?_
      refine b_lconst (pc := 46) 1 dX11_temper_46 (by decide) ?_
      refine b_ldc2 (pc := 47) k1381 dX11_temper_47 ?_
      refine call_X11_in (pc := 50) k1136 (by decide) ⟨Nat.le_of_ble_eq_true rfl, Nat.le_of_ble_eq_true rfl⟩ (Nat.le_of_ble_eq_true rfl) dX11_temper_50 ?_
      refine ⟨_, _, _, rfl, ?_⟩
      refine b_if_eq (pc := 53) 67 dX11_temper_53 (by decide) (fun c53 => ?_) (fun c53 => ?_)
      rotate_left -- leaf 5: at 67
      refine b_iloadG (pc := 56) 6 dX11_temper_56 rfl ?_
      refine b_i2l (pc := 58) dX11_temper_58 ?_
      refine b_lconst (pc := 59) 0 dX11_temper_59 (by decide) ?_
      refine b_lconst (pc := 60) 1 dX11_temper_60 (by decide) ?_
      refine call_X11_in (pc := 61) k1136 (by decide) ⟨Nat.le_of_ble_eq_true rfl, Nat.le_of_ble_eq_true rfl⟩ (Nat.le_of_ble_eq_true rfl) dX11_temper_61 ?_
      refine ⟨_, _, _, rfl, ?_⟩
      refine b_if_ne (pc := 64) 71 dX11_temper_64 (by decide) (fun c64 => ?_) (fun c64 => ?_)
      refine b_aloadN (pc := 71) 0 dX11_temper_71 rfl rfl ?_
      refine gf11_2 (pc := 72) 111 rfl k1044 dX11_temper_72 ?_
      refine b_iloadN (pc := 75) 3 dX11_temper_75 rfl rfl ?_
      refine b_iald (pc := 76) (by decide) ?_ dX11_temper_76 ?_
      rotate_left -- leaf 6: index at 76
      refine b_if_ge (pc := 77) 87 dX11_temper_77 (by decide) (fun c77 => ?_) (fun c77 => ?_)
      refine b_iloadG (pc := 87) 4 dX11_temper_87 rfl ?_
      refine b_if_lt (pc := 89) 112 dX11_temper_89 (by decide) (fun c89 => ?_) (fun c89 => ?_)
      refine b_aloadN (pc := 112) 0 dX11_temper_112 rfl rfl ?_
      refine b_iconst (pc := 113) (nI 2) dX11_temper_113 (by decide) ?_
      refine call_X11_finding (pc := 114) k1141 (by decide) ⟨Nat.le_of_ble_eq_true rfl, Nat.le_of_ble_eq_true rfl⟩ (Nat.le_of_ble_eq_true rfl) dX11_temper_114 ?_
      refine ⟨_, rfl, ?_⟩
      refine b_i2l (pc := 117) dX11_temper_117 ?_
      refine b_lret (pc := 118) rfl dX11_temper_118 ⟨Nat.le_of_ble_eq_true rfl, Nat.le_of_ble_eq_true rfl⟩ ?_
      rotate_left -- leaf 7: return at 118
      refine b_iloadG (pc := 92) 4 dX11_temper_92 rfl ?_
      refine b_i2l (pc := 94) dX11_temper_94 ?_
      refine b_iconst (pc := 95) (nI 2) dX11_temper_95 (by decide) ?_
      refine b_iloadG (pc := 96) 5 dX11_temper_96 rfl ?_
      refine b_imul (pc := 98) dX11_temper_98 ?_
      refine b_i2l (pc := 99) dX11_temper_99 ?_
      refine b_ladd (pc := 100) dX11_temper_100 ?_
      refine b_aloadN (pc := 101) 0 dX11_temper_101 rfl rfl ?_
      refine gf11_3 (pc := 102) 112 rfl k1045 dX11_temper_102 ?_
      refine b_iloadN (pc := 105) 3 dX11_temper_105 rfl rfl ?_
      refine b_iald (pc := 106) (by decide) ?_ dX11_temper_106 ?_
      rotate_left -- leaf 8: index at 106
      refine b_i2l (pc := 107) dX11_temper_107 ?_
      refine b_lcmp (pc := 108) dX11_temper_108 ?_
      refine b_if_le (pc := 109) 119 dX11_temper_109 (by decide) (fun c109 => ?_) (fun c109 => ?_)
      rotate_left -- leaf 9: at 119
      refine b_aloadN (pc := 112) 0 dX11_temper_112 rfl rfl ?_
      refine b_iconst (pc := 113) (nI 2) dX11_temper_113 (by decide) ?_
      refine call_X11_finding (pc := 114) k1141 (by decide) ⟨Nat.le_of_ble_eq_true rfl, Nat.le_of_ble_eq_true rfl⟩ (Nat.le_of_ble_eq_true rfl) dX11_temper_114 ?_
      refine ⟨_, rfl, ?_⟩
      refine b_i2l (pc := 117) dX11_temper_117 ?_
      refine b_lret (pc := 118) rfl dX11_temper_118 ⟨Nat.le_of_ble_eq_true rfl, Nat.le_of_ble_eq_true rfl⟩ ?_
      rotate_left -- leaf 10: return at 118
      refine b_aloadN (pc := 80) 0 dX11_temper_80 rfl rfl ?_
      refine b_iconst (pc := 81) (nI 1) dX11_temper_81 (by decide) ?_
      refine call_X11_finding (pc := 82) k1141 (by decide) ⟨Nat.le_of_ble_eq_true rfl, Nat.le_of_ble_eq_true rfl⟩ (Nat.le_of_ble_eq_true rfl) dX11_temper_82 ?_
      refine ⟨_, rfl, ?_⟩
      refine b_i2l (pc := 85) dX11_temper_85 ?_
      refine b_lret (pc := 86) rfl dX11_temper_86 ⟨Nat.le_of_ble_eq_true rfl, Nat.le_of_ble_eq_true rfl⟩ ?_
      rotate_left -- leaf 11: return at 86
      rotate_left -- leaf 12: at 67
      rotate_left -- leaf 13: at 12
      -- leaves: 0 six of X11_isThere at 6; 1 six2 of X11_areFacts at 18; 2 at 67; 3 at 67; 4 at 67; 5 at 67; 6 index at 76; 7 return at 118; 8 index at 106; 9 at 119; 10 return at 118; 11 return at 86; 12 at 67; 13 at 12
      · omega
      · omega
      · exact (no21 c21).elim
      · exact (no33 c33).elim
      · exact (no40 c40).elim
      · exact (no53 c53).elim
      · exact n_in (by omega) (by omega)
      · rw [n_cl (by omega)] at c77
        have l1 := qr.mp c77
        rw [i_lt, i_0] at c89
        have e2 : lackN La Ma r i (nI (2 * N)) = 2 := by
          unfold lackN fitB
          rw [if_neg (by omega), decide_eq_false (by omega)]; rfl
        rw [e2] at bad
        exact bad _ (fd _).1 (fd _).2
      · exact n_in (by omega) (by omega)
      · rw [n_cl (by omega)] at c77
        have l1 := qr.mp c77
        have w := (hR r hr).2 l1
        rw [i_lt, i_0] at c89
        have c109 := Int32.not_lt.mpr c109
        rw [cmp_gt, e2n, il_sum, Int32.toInt_toInt64, n_cl (by omega), w.2.2.1, nI_toInt (by omega), nI_toInt (by omega)] at c109
        have e2 : lackN La Ma r i (nI (2 * N)) = 0 := by
          refine lackN_0.mpr ⟨l1, ?_⟩
          unfold fitB
          rw [nI_toInt (by omega), decide_eq_true (by omega), decide_eq_true (by omega), decide_eq_true (by omega)]; rfl
        exact absurd e2 hz
      · rw [n_cl (by omega)] at c77
        have l1 := qr.mp c77
        have w := (hR r hr).2 l1
        have c109 := Int32.not_le.mp c109
        rw [cmp_gt, e2n, il_sum, Int32.toInt_toInt64, n_cl (by omega), w.2.2.1, nI_toInt (by omega), nI_toInt (by omega)] at c109
        have e2 : lackN La Ma r i (nI (2 * N)) = 2 := by
          unfold lackN fitB
          rw [if_neg (by omega), nI_toInt (by omega), decide_eq_false (show ¬ i.toInt + ((2 * N : Nat) : Int) ≤ (Ma r : Int) by omega), Bool.and_false, Bool.and_false]; rfl
        rw [e2] at bad
        exact bad _ (fd _).1 (fd _).2
      · rw [n_cl (by omega), qr] at c77
        have e1 : lackN La Ma r i (nI (2 * N)) = 1 := by
          unfold lackN
          rw [if_pos (by omega)]
        rw [e1] at bad
        exact bad _ (fd _).1 (fd _).2
      · exact (no64 c64).elim
      · exact (no9 c9).elim
  · have e : temC C f p r n w = false := by
      cases q : temC C f p r n w
      · rfl
      · exact absurd q hc
    have bad := h1 (by omega) e _ f0
    refine b_aloadN (pc := 0) 0 dX11_temper_0 rfl rfl ?_
    refine b_iconst (pc := 1) (nI 0) dX11_temper_1 (by decide) ?_
    refine pf11_0 (pc := 2) k1042 dX11_temper_2 ?_
    refine b_aloadN (pc := 5) 0 dX11_temper_5 rfl rfl ?_
    refine call_X11_isThere (pc := 6) k1292 (by decide) ⟨Nat.le_of_ble_eq_true rfl, Nat.le_of_ble_eq_true rfl⟩ (Nat.le_of_ble_eq_true rfl) dX11_temper_6 ?_
    refine ⟨rfl, _, hC.1 0 (by omega), ?_, ?_⟩
    rotate_left -- leaf 0: six of X11_isThere at 6
    refine b_if_ne (pc := 9) 16 dX11_temper_9 (by decide) (fun c9 => ?_) (fun c9 => ?_)
    refine b_aloadN (pc := 16) 0 dX11_temper_16 rfl rfl ?_
    refine b_iloadN (pc := 17) 1 dX11_temper_17 rfl rfl ?_
    refine call_X11_areFacts (pc := 18) k1317 (by decide) ⟨Nat.le_of_ble_eq_true rfl, Nat.le_of_ble_eq_true rfl⟩ (Nat.le_of_ble_eq_true rfl) dX11_temper_18 ?_
    refine ⟨_, rfl, _, hC.1 0 (by omega), ?_, ?_⟩
    rotate_left -- leaf 1: six2 of X11_areFacts at 18
    refine b_if_eq (pc := 21) 67 dX11_temper_21 (by decide) (fun c21 => ?_) (fun c21 => ?_)
    refine b_ldc2 (pc := 67) k1382 dX11_temper_67 ?_
    refine b_lret (pc := 70) rfl dX11_temper_70 ⟨Nat.le_of_ble_eq_true rfl, Nat.le_of_ble_eq_true rfl⟩ ?_
    rotate_left -- leaf 2: return at 70
    refine b_iloadN (pc := 24) 2 dX11_temper_24 rfl rfl ?_
    refine b_i2l (pc := 25) dX11_temper_25 ?_
    refine b_lconst (pc := 26) 0 dX11_temper_26 (by decide) ?_
    refine b_ldc2 (pc := 27) k1380 dX11_temper_27 ?_
    refine call_X11_in (pc := 30) k1136 (by decide) ⟨Nat.le_of_ble_eq_true rfl, Nat.le_of_ble_eq_true rfl⟩ (Nat.le_of_ble_eq_true rfl) dX11_temper_30 ?_
    refine ⟨_, _, _, rfl, ?_⟩
    refine b_if_eq (pc := 33) 67 dX11_temper_33 (by decide) (fun c33 => ?_) (fun c33 => ?_)
    refine b_ldc2 (pc := 67) k1382 dX11_temper_67 ?_
    refine b_lret (pc := 70) rfl dX11_temper_70 ⟨Nat.le_of_ble_eq_true rfl, Nat.le_of_ble_eq_true rfl⟩ ?_
    rotate_left -- leaf 3: return at 70
    refine b_iloadN (pc := 36) 3 dX11_temper_36 rfl rfl ?_
    refine call_X11_isRow (pc := 37) k1132 (by decide) ⟨Nat.le_of_ble_eq_true rfl, Nat.le_of_ble_eq_true rfl⟩ (Nat.le_of_ble_eq_true rfl) dX11_temper_37 ?_
    refine ⟨_, rfl, ?_⟩
    refine b_if_eq (pc := 40) 67 dX11_temper_40 (by decide) (fun c40 => ?_) (fun c40 => ?_)
    refine b_ldc2 (pc := 67) k1382 dX11_temper_67 ?_
    refine b_lret (pc := 70) rfl dX11_temper_70 ⟨Nat.le_of_ble_eq_true rfl, Nat.le_of_ble_eq_true rfl⟩ ?_
    rotate_left -- leaf 4: return at 70
    refine b_iloadG (pc := 43) 5 dX11_temper_43 rfl ?_
    refine b_i2l (pc := 45) dX11_temper_45 ?_
    refine b_lconst (pc := 46) 1 dX11_temper_46 (by decide) ?_
    refine b_ldc2 (pc := 47) k1381 dX11_temper_47 ?_
    refine call_X11_in (pc := 50) k1136 (by decide) ⟨Nat.le_of_ble_eq_true rfl, Nat.le_of_ble_eq_true rfl⟩ (Nat.le_of_ble_eq_true rfl) dX11_temper_50 ?_
    refine ⟨_, _, _, rfl, ?_⟩
    refine b_if_eq (pc := 53) 67 dX11_temper_53 (by decide) (fun c53 => ?_) (fun c53 => ?_)
    refine b_ldc2 (pc := 67) k1382 dX11_temper_67 ?_
    refine b_lret (pc := 70) rfl dX11_temper_70 ⟨Nat.le_of_ble_eq_true rfl, Nat.le_of_ble_eq_true rfl⟩ ?_
    rotate_left -- leaf 5: return at 70
    refine b_iloadG (pc := 56) 6 dX11_temper_56 rfl ?_
    refine b_i2l (pc := 58) dX11_temper_58 ?_
    refine b_lconst (pc := 59) 0 dX11_temper_59 (by decide) ?_
    refine b_lconst (pc := 60) 1 dX11_temper_60 (by decide) ?_
    refine call_X11_in (pc := 61) k1136 (by decide) ⟨Nat.le_of_ble_eq_true rfl, Nat.le_of_ble_eq_true rfl⟩ (Nat.le_of_ble_eq_true rfl) dX11_temper_61 ?_
    refine ⟨_, _, _, rfl, ?_⟩
    refine b_if_ne (pc := 64) 71 dX11_temper_64 (by decide) (fun c64 => ?_) (fun c64 => ?_)
    rotate_left -- leaf 6: at 71
    refine b_ldc2 (pc := 67) k1382 dX11_temper_67 ?_
    refine b_lret (pc := 70) rfl dX11_temper_70 ⟨Nat.le_of_ble_eq_true rfl, Nat.le_of_ble_eq_true rfl⟩ ?_
    rotate_left -- leaf 7: return at 70
    rotate_left -- leaf 8: at 12
    -- leaves: 0 six of X11_isThere at 6; 1 six2 of X11_areFacts at 18; 2 return at 70; 3 return at 70; 4 return at 70; 5 return at 70; 6 at 71; 7 return at 70; 8 at 12
    · omega
    · omega
    · exact bad
    · exact bad
    · exact bad
    · exact bad
    · rw [inLc 11 rfl (by omega)] at c33
      rw [inNK 6 rfl (by omega)] at c53
      rw [inLc 2 rfl (by omega)] at c64
      exact absurd (by unfold temC; rw [bT c21, bT c33, bT c40, bT c53, bT c64]; rfl) hc
    · exact bad
    · exact absurd (zT c9) hcz
theorem call_X11_temper {E : ME} {Φ : Option AV → AM → Prop} {pc : Nat} {L : List (Option AV)} {st : List AV} {m : AM} {a : Nat × Nat} {idx : Nat} {x0 x1 x2 x3 x4 x5 : AV} {i : Nat} (hl : Cond.methodLink E.2.1 idx yX11_temper ∈ TB) (hdep : 8 + 1 ≤ E.2.2.2.2.2.2) (hroom : a.1 + 0 ≤ E.2.2.2.2.1 ∧ a.2 + 0 ≤ E.2.2.2.2.2.1) (hsr : st.length ≤ 4) (hd : decode E.1 pc = .ok (.invokevirtual idx, 3)) (hsp : Sp_X11_temper [vr 11 i, x0, x1, x2, x3, x4, x5] m (fun r m2 => B E Φ (pc + 3) L (r.toList ++ st) m2 a)) : B E Φ pc L (x5 :: x4 :: x3 :: x2 :: x1 :: x0 :: vr 11 i :: st) m a := b_callV S_X11_temper [x0, x1, x2, x3, x4, x5] (RX11, TX11, 28) rfl rfl (by decide) (Or.inl hl) k1376 k1377 k80 k1378 (show _ ∧ _ ∧ Option.map (fun d => d.parameters.length) (parseMethodDescriptor yX11_temper.desc) = some 6 from by decide +kernel) ⟨hdep, by decide⟩ hroom hsr hd hsp
