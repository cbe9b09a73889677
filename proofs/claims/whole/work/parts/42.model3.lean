/-! the reference: afterBy, after -/
abbrev e_X11_afterBy : ME := (cX11_afterBy, (RX11, (8, ((some .int), (0, (0, 2))))))
theorem dX11_afterBy_0 : decode cX11_afterBy 0 = .ok (.iload 4, 2) := by decide +kernel
theorem dX11_afterBy_2 : decode cX11_afterBy 2 = .ok (.iconst 2, 1) := by decide +kernel
theorem dX11_afterBy_3 : decode cX11_afterBy 3 = .ok (.idiv, 1) := by decide +kernel
theorem dX11_afterBy_4 : decode cX11_afterBy 4 = .ok (.istore 5, 2) := by decide +kernel
theorem dX11_afterBy_6 : decode cX11_afterBy 6 = .ok (.iload 4, 2) := by decide +kernel
theorem dX11_afterBy_8 : decode cX11_afterBy 8 = .ok (.iconst 2, 1) := by decide +kernel
theorem dX11_afterBy_9 : decode cX11_afterBy 9 = .ok (.irem, 1) := by decide +kernel
theorem dX11_afterBy_10 : decode cX11_afterBy 10 = .ok (.istore 6, 2) := by decide +kernel
theorem dX11_afterBy_12 : decode cX11_afterBy 12 = .ok (.iload_n 2, 1) := by decide +kernel
theorem dX11_afterBy_13 : decode cX11_afterBy 13 = .ok (.istore 7, 2) := by decide +kernel
theorem dX11_afterBy_15 : decode cX11_afterBy 15 = .ok (.iload_n 1, 1) := by decide +kernel
theorem dX11_afterBy_16 : decode cX11_afterBy 16 = .ok (.tableswitch 119 1 5 #[36, 49, 78, 119, 93], 36) := by decide +kernel
theorem dX11_afterBy_52 : decode cX11_afterBy 52 = .ok (.iload_n 2, 1) := by decide +kernel
theorem dX11_afterBy_53 : decode cX11_afterBy 53 = .ok (.iload 5, 2) := by decide +kernel
theorem dX11_afterBy_55 : decode cX11_afterBy 55 = .ok (.iload 6, 2) := by decide +kernel
theorem dX11_afterBy_57 : decode cX11_afterBy 57 = .ok (.invokestatic 159, 3) := by decide +kernel
theorem dX11_afterBy_60 : decode cX11_afterBy 60 = .ok (.istore 7, 2) := by decide +kernel
theorem dX11_afterBy_62 : decode cX11_afterBy 62 = .ok (.goto 73, 3) := by decide +kernel
theorem dX11_afterBy_65 : decode cX11_afterBy 65 = .ok (.iload_n 2, 1) := by decide +kernel
theorem dX11_afterBy_66 : decode cX11_afterBy 66 = .ok (.iload 5, 2) := by decide +kernel
theorem dX11_afterBy_68 : decode cX11_afterBy 68 = .ok (.iload 6, 2) := by decide +kernel
theorem dX11_afterBy_70 : decode cX11_afterBy 70 = .ok (.invokestatic 159, 3) := by decide +kernel
theorem dX11_afterBy_73 : decode cX11_afterBy 73 = .ok (.iload 5, 2) := by decide +kernel
theorem dX11_afterBy_75 : decode cX11_afterBy 75 = .ok (.iconst 1, 1) := by decide +kernel
theorem dX11_afterBy_76 : decode cX11_afterBy 76 = .ok (.iadd, 1) := by decide +kernel
theorem dX11_afterBy_77 : decode cX11_afterBy 77 = .ok (.aload_n 0, 1) := by decide +kernel
theorem dX11_afterBy_78 : decode cX11_afterBy 78 = .ok (.getfield 19, 3) := by decide +kernel
theorem dX11_afterBy_81 : decode cX11_afterBy 81 = .ok (.iconst 0, 1) := by decide +kernel
theorem dX11_afterBy_82 : decode cX11_afterBy 82 = .ok (.iaload, 1) := by decide +kernel
theorem dX11_afterBy_83 : decode cX11_afterBy 83 = .ok (.irem, 1) := by decide +kernel
theorem dX11_afterBy_84 : decode cX11_afterBy 84 = .ok (.iload 6, 2) := by decide +kernel
theorem dX11_afterBy_86 : decode cX11_afterBy 86 = .ok (.invokestatic 159, 3) := by decide +kernel
theorem dX11_afterBy_89 : decode cX11_afterBy 89 = .ok (.istore 7, 2) := by decide +kernel
theorem dX11_afterBy_91 : decode cX11_afterBy 91 = .ok (.goto 44, 3) := by decide +kernel
theorem dX11_afterBy_94 : decode cX11_afterBy 94 = .ok (.iload_n 2, 1) := by decide +kernel
theorem dX11_afterBy_95 : decode cX11_afterBy 95 = .ok (.iload 5, 2) := by decide +kernel
theorem dX11_afterBy_97 : decode cX11_afterBy 97 = .ok (.iconst 1, 1) := by decide +kernel
theorem dX11_afterBy_98 : decode cX11_afterBy 98 = .ok (.iload 6, 2) := by decide +kernel
theorem dX11_afterBy_100 : decode cX11_afterBy 100 = .ok (.isub, 1) := by decide +kernel
theorem dX11_afterBy_101 : decode cX11_afterBy 101 = .ok (.invokestatic 159, 3) := by decide +kernel
theorem dX11_afterBy_104 : decode cX11_afterBy 104 = .ok (.istore 7, 2) := by decide +kernel
theorem dX11_afterBy_106 : decode cX11_afterBy 106 = .ok (.goto 29, 3) := by decide +kernel
theorem dX11_afterBy_109 : decode cX11_afterBy 109 = .ok (.iload_n 3, 1) := by decide +kernel
theorem dX11_afterBy_110 : decode cX11_afterBy 110 = .ok (.iload 5, 2) := by decide +kernel
theorem dX11_afterBy_112 : decode cX11_afterBy 112 = .ok (.ishr, 1) := by decide +kernel
theorem dX11_afterBy_113 : decode cX11_afterBy 113 = .ok (.iconst 1, 1) := by decide +kernel
theorem dX11_afterBy_114 : decode cX11_afterBy 114 = .ok (.iand, 1) := by decide +kernel
theorem dX11_afterBy_115 : decode cX11_afterBy 115 = .ok (.ifCond .ne 14, 3) := by decide +kernel
theorem dX11_afterBy_118 : decode cX11_afterBy 118 = .ok (.iload_n 2, 1) := by decide +kernel
theorem dX11_afterBy_119 : decode cX11_afterBy 119 = .ok (.iload 5, 2) := by decide +kernel
theorem dX11_afterBy_121 : decode cX11_afterBy 121 = .ok (.iload 6, 2) := by decide +kernel
theorem dX11_afterBy_123 : decode cX11_afterBy 123 = .ok (.invokestatic 159, 3) := by decide +kernel
theorem dX11_afterBy_126 : decode cX11_afterBy 126 = .ok (.goto 4, 3) := by decide +kernel
theorem dX11_afterBy_129 : decode cX11_afterBy 129 = .ok (.iload_n 2, 1) := by decide +kernel
theorem dX11_afterBy_130 : decode cX11_afterBy 130 = .ok (.istore 7, 2) := by decide +kernel
theorem dX11_afterBy_132 : decode cX11_afterBy 132 = .ok (.goto 3, 3) := by decide +kernel
theorem dX11_afterBy_135 : decode cX11_afterBy 135 = .ok (.aload_n 0, 1) := by decide +kernel
theorem dX11_afterBy_136 : decode cX11_afterBy 136 = .ok (.iload 7, 2) := by decide +kernel
theorem dX11_afterBy_138 : decode cX11_afterBy 138 = .ok (.invokevirtual 163, 3) := by decide +kernel
theorem dX11_afterBy_141 : decode cX11_afterBy 141 = .ok (.istore 7, 2) := by decide +kernel
theorem dX11_afterBy_143 : decode cX11_afterBy 143 = .ok (.aload_n 0, 1) := by decide +kernel
theorem dX11_afterBy_144 : decode cX11_afterBy 144 = .ok (.iload 7, 2) := by decide +kernel
theorem dX11_afterBy_146 : decode cX11_afterBy 146 = .ok (.invokevirtual 166, 3) := by decide +kernel
theorem dX11_afterBy_149 : decode cX11_afterBy 149 = .ok (.ifCond .eq 8, 3) := by decide +kernel
theorem dX11_afterBy_152 : decode cX11_afterBy 152 = .ok (.iload 7, 2) := by decide +kernel
theorem dX11_afterBy_154 : decode cX11_afterBy 154 = .ok (.goto 5, 3) := by decide +kernel
theorem dX11_afterBy_157 : decode cX11_afterBy 157 = .ok (.ldc 96, 2) := by decide +kernel
theorem dX11_afterBy_159 : decode cX11_afterBy 159 = .ok (.ireturn, 1) := by decide +kernel
def Sp_X11_afterBy (av : List AV) (m : AM) (Φ : Option AV → AM → Prop) : Prop := ∃ x y z w, av = [vr 11 110, vi x, vi y, vi z, vi w] ∧ ∃ C q s d k, VC C ∧ MC m C ∧ x = nI q ∧ y = nI s ∧ z = nI d ∧ w = nI k ∧ (1 ≤ q ∧ q ≤ 5) ∧ s < 64 ∧ d < 64 ∧ k < 2 * C 0 ∧ Φ (some (vi (oI (outN C q s d k)))) m
set_option maxRecDepth 20000 in
set_option maxHeartbeats 4000000 in
theorem S_X11_afterBy : Snd yX11_afterBy e_X11_afterBy Sp_X11_afterBy := by
  refine Snd.of (by decide +kernel) rfl ?_ ?_
  · rintro av m Φ ⟨x, y, z, w, rfl, _⟩; exact Nat.le_of_ble_eq_true rfl
  rintro av m Φ ⟨x, y, z, w, rfl, C, q, s, d, k, hv, hM, rfl, rfl, rfl, rfl, hq, hs, hd, hk, h⟩ hav hty
  show B e_X11_afterBy Φ 0 [some (vr 11 110), some (vi (nI q)), some (vi (nI s)), some (vi (nI d)), some (vi (nI k)), none, none, none] [] m (0, 0)
  have h06 := hv.1
  have hf : k / 2 < 6 := by omega
  have hb : k % 2 ≤ 1 := by omega
  have hbl := belN_lt hv q d hs hk
  have tl : ∀ x, x = belN C q s d k → B e_X11_afterBy Φ 135 [some (vr 11 110), some (vi (nI q)), some (vi (nI s)), some (vi (nI d)), some (vi (nI k)), some (vi (nI (k / 2))), some (vi (nI (k % 2))), some (vi (nI x))] [] m (0, 0) := by
    intro x hx
    subst hx
    have hc := closedN_lt hv.hv hbl
    refine b_aloadN (pc := 135) 0 dX11_afterBy_135 rfl rfl ?_
    refine b_iloadG (pc := 136) 7 dX11_afterBy_136 rfl ?_
    refine call_X11_closed (pc := 138) k1256 (by decide) ⟨Nat.le_of_ble_eq_true rfl, Nat.le_of_ble_eq_true rfl⟩ (Nat.le_of_ble_eq_true rfl) dX11_afterBy_138 ?_
    refine ⟨_, rfl, C, _, hv, hM, rfl, ?_, ?_⟩
    rotate_left -- leaf 0: bound of X11_closed at 138
    refine siG7 (pc := 141) notL_i (by decide) dX11_afterBy_141 ?_
    refine b_aloadN (pc := 143) 0 dX11_afterBy_143 rfl rfl ?_
    refine b_iloadG (pc := 144) 7 dX11_afterBy_144 rfl ?_
    refine call_X11_canBe (pc := 146) k1260 (by decide) ⟨Nat.le_of_ble_eq_true rfl, Nat.le_of_ble_eq_true rfl⟩ (Nat.le_of_ble_eq_true rfl) dX11_afterBy_146 ?_
    refine ⟨_, rfl, C, _, hv, hM, rfl, ?_, ?_⟩
    rotate_left -- leaf 1: bound of X11_canBe at 146
    refine b_if_eq (pc := 149) 157 dX11_afterBy_149 (by decide) (fun c149 => ?_) (fun c149 => ?_)
    refine b_ldc (pc := 157) k1180 dX11_afterBy_157 ?_
    refine b_iret (pc := 159) rfl dX11_afterBy_159 ⟨Nat.le_of_ble_eq_true rfl, Nat.le_of_ble_eq_true rfl⟩ ?_
    rotate_left -- leaf 2: return at 159
    refine b_iloadG (pc := 152) 7 dX11_afterBy_152 rfl ?_
    refine b_goto (pc := 154) 159 dX11_afterBy_154 (by decide) ?_
    refine b_iret (pc := 159) rfl dX11_afterBy_159 ⟨Nat.le_of_ble_eq_true rfl, Nat.le_of_ble_eq_true rfl⟩ ?_
    rotate_left -- leaf 3: return at 159
    -- leaves: 0 bound of X11_closed at 138; 1 bound of X11_canBe at 146; 2 return at 159; 3 return at 159
    · exact hbl
    · exact hc
    · have e : outN C q s d k = none := by
        unfold outN setN
        rw [bF c149]; rfl
      rw [e] at h
      exact h
    · have e : outN C q s d k = some (closedN C (belN C q s d k)) := by
        unfold outN setN
        rw [bT c149]; rfl
      rw [e] at h
      exact h
  have sw : B e_X11_afterBy Φ 16 [some (vr 11 110), some (vi (nI q)), some (vi (nI s)), some (vi (nI d)), some (vi (nI k)), some (vi (nI (k / 2))), some (vi (nI (k % 2))), some (vi (nI s))] [vi (nI q)] m (0, 0) := by
    rcases (by omega : q = 1 ∨ q = 2 ∨ q = 3 ∨ q = 4 ∨ q = 5) with rfl | rfl | rfl | rfl | rfl
    · refine b_tableIn (pc := 16) (off := 36) 52 dX11_afterBy_16 (by decide) (by decide) (by decide) (by decide) ?_
      refine b_iloadN (pc := 52) 2 dX11_afterBy_52 rfl rfl ?_
      refine b_iloadG (pc := 53) 5 dX11_afterBy_53 rfl ?_
      refine b_iloadG (pc := 55) 6 dX11_afterBy_55 rfl ?_
      refine call_X11_with (pc := 57) k1253 (by decide) ⟨Nat.le_of_ble_eq_true rfl, Nat.le_of_ble_eq_true rfl⟩ (Nat.le_of_ble_eq_true rfl) dX11_afterBy_57 ?_
      refine ⟨_, _, _, rfl, _, _, _, rfl, rfl, rfl, ?_, ?_, ?_, ?_⟩
      rotate_left -- leaf 0: s of X11_with at 57
      rotate_left -- leaf 1: f of X11_with at 57
      rotate_left -- leaf 2: b of X11_with at 57
      refine siG7 (pc := 60) notL_i (by decide) dX11_afterBy_60 ?_
      refine b_goto (pc := 62) 135 dX11_afterBy_62 (by decide) ?_
      rotate_left -- leaf 3: at 135
      -- leaves: 0 s of X11_with at 57; 1 f of X11_with at 57; 2 b of X11_with at 57; 3 at 135
      · exact hs
      · exact hf
      · exact hb
      · exact tl _ rfl
    · refine b_tableIn (pc := 16) (off := 49) 65 dX11_afterBy_16 (by decide) (by decide) (by decide) (by decide) ?_
      have hf2 : (k / 2 + 1) % C 0 < 6 := Nat.lt_of_lt_of_le (Nat.mod_lt _ (by omega)) h06.2
      have FE70 : nI (k / 2) = nI (k / 2) := rfl
      have FE86 : nI (k / 2) + nI 1 - (nI (k / 2) + nI 1) / m.1 114 (nI 0).toNatClampNeg * m.1 114 (nI 0).toNatClampNeg = nI ((k / 2 + 1) % C 0) := by
        rw [n_cl (by omega), hM 0 (by omega), n_add, n_rem (by omega) (by omega) (by omega)]
      refine b_iloadN (pc := 65) 2 dX11_afterBy_65 rfl rfl ?_
      refine b_iloadG (pc := 66) 5 dX11_afterBy_66 rfl ?_
      refine b_iloadG (pc := 68) 6 dX11_afterBy_68 rfl ?_
      refine call_X11_with (pc := 70) k1253 (by decide) ⟨Nat.le_of_ble_eq_true rfl, Nat.le_of_ble_eq_true rfl⟩ (Nat.le_of_ble_eq_true rfl) dX11_afterBy_70 ?_
      refine ⟨_, _, _, rfl, _, _, _, rfl, FE70, rfl, ?_, ?_, ?_, ?_⟩
      rotate_left -- leaf 0: s of X11_with at 70
      rotate_left -- leaf 1: f of X11_with at 70
      rotate_left -- leaf 2: b of X11_with at 70
      refine b_iloadG (pc := 73) 5 dX11_afterBy_73 rfl ?_
      refine b_iconst (pc := 75) (nI 1) dX11_afterBy_75 (by decide) ?_
      refine b_iadd (pc := 76) dX11_afterBy_76 ?_
      refine b_aloadN (pc := 77) 0 dX11_afterBy_77 rfl rfl ?_
      refine gf11_5 (pc := 78) 114 rfl k1047 dX11_afterBy_78 ?_
      refine b_iconst (pc := 81) (nI 0) dX11_afterBy_81 (by decide) ?_
      refine b_iald (pc := 82) (by decide) ?_ dX11_afterBy_82 ?_
      rotate_left -- leaf 3: index at 82
      refine b_irem (pc := 83) dX11_afterBy_83 ?_ ?_
      rotate_left -- leaf 4: divisor at 83
      refine b_iloadG (pc := 84) 6 dX11_afterBy_84 rfl ?_
      refine call_X11_with (pc := 86) k1253 (by decide) ⟨Nat.le_of_ble_eq_true rfl, Nat.le_of_ble_eq_true rfl⟩ (Nat.le_of_ble_eq_true rfl) dX11_afterBy_86 ?_
      refine ⟨_, _, _, rfl, _, _, _, rfl, FE86, rfl, ?_, ?_, ?_, ?_⟩
      rotate_left -- leaf 5: s of X11_with at 86
      rotate_left -- leaf 6: f of X11_with at 86
      rotate_left -- leaf 7: b of X11_with at 86
      refine siG7 (pc := 89) notL_i (by decide) dX11_afterBy_89 ?_
      refine b_goto (pc := 91) 135 dX11_afterBy_91 (by decide) ?_
      rotate_left -- leaf 8: at 135
      -- leaves: 0 s of X11_with at 70; 1 f of X11_with at 70; 2 b of X11_with at 70; 3 index at 82; 4 divisor at 83; 5 s of X11_with at 86; 6 f of X11_with at 86; 7 b of X11_with at 86; 8 at 135
      · exact hs
      · exact hf
      · exact hb
      · exact n_in (by omega) (by omega)
      · rw [n_cl (by omega), hM 0 (by omega), n_eq0 (by omega)]; omega
      · exact withN_lt hs hf
      · exact hf2
      · exact hb
      · exact tl _ rfl
    · refine b_tableIn (pc := 16) (off := 78) 94 dX11_afterBy_16 (by decide) (by decide) (by decide) (by decide) ?_
      refine b_iloadN (pc := 94) 2 dX11_afterBy_94 rfl rfl ?_
      refine b_iloadG (pc := 95) 5 dX11_afterBy_95 rfl ?_
      refine b_iconst (pc := 97) (nI 1) dX11_afterBy_97 (by decide) ?_
      refine b_iloadG (pc := 98) 6 dX11_afterBy_98 rfl ?_
      refine b_isub (pc := 100) dX11_afterBy_100 ?_
      refine call_X11_with (pc := 101) k1253 (by decide) ⟨Nat.le_of_ble_eq_true rfl, Nat.le_of_ble_eq_true rfl⟩ (Nat.le_of_ble_eq_true rfl) dX11_afterBy_101 ?_
      refine ⟨_, _, _, rfl, _, _, 1 - k % 2, rfl, rfl, ?_, ?_, ?_, ?_, ?_⟩
      rotate_left -- leaf 0: be of X11_with at 101
      rotate_left -- leaf 1: s of X11_with at 101
      rotate_left -- leaf 2: f of X11_with at 101
      rotate_left -- leaf 3: b of X11_with at 101
      refine siG7 (pc := 104) notL_i (by decide) dX11_afterBy_104 ?_
      refine b_goto (pc := 106) 135 dX11_afterBy_106 (by decide) ?_
      rotate_left -- leaf 4: at 135
      -- leaves: 0 be of X11_with at 101; 1 s of X11_with at 101; 2 f of X11_with at 101; 3 b of X11_with at 101; 4 at 135
      · exact n_sub (by omega)
      · exact hs
      · exact hf
      · omega
      · exact tl _ rfl
    · refine b_tableIn (pc := 16) (off := 119) 135 dX11_afterBy_16 (by decide) (by decide) (by decide) (by decide) ?_
      exact tl _ rfl
    · refine b_tableIn (pc := 16) (off := 93) 109 dX11_afterBy_16 (by decide) (by decide) (by decide) (by decide) ?_
      have h5 : belN C 5 s d k = if d.testBit (k / 2) = true then s else withN s (k / 2) (k % 2) := rfl
      refine b_iloadN (pc := 109) 3 dX11_afterBy_109 rfl rfl ?_
      refine b_iloadG (pc := 110) 5 dX11_afterBy_110 rfl ?_
      refine b_ishr (pc := 112) dX11_afterBy_112 ?_
      refine b_iconst (pc := 113) (nI 1) dX11_afterBy_113 (by decide) ?_
      refine b_iand (pc := 114) dX11_afterBy_114 ?_
      refine b_if_ne (pc := 115) 129 dX11_afterBy_115 (by decide) (fun c115 => ?_) (fun c115 => ?_)
      refine b_iloadN (pc := 129) 2 dX11_afterBy_129 rfl rfl ?_
      refine siG7 (pc := 130) notL_i (by decide) dX11_afterBy_130 ?_
      refine b_goto (pc := 132) 135 dX11_afterBy_132 (by decide) ?_
      rotate_left -- leaf 0: at 135
      refine b_iloadN (pc := 118) 2 dX11_afterBy_118 rfl rfl ?_
      refine b_iloadG (pc := 119) 5 dX11_afterBy_119 rfl ?_
      refine b_iloadG (pc := 121) 6 dX11_afterBy_121 rfl ?_
      refine call_X11_with (pc := 123) k1253 (by decide) ⟨Nat.le_of_ble_eq_true rfl, Nat.le_of_ble_eq_true rfl⟩ (Nat.le_of_ble_eq_true rfl) dX11_afterBy_123 ?_
      refine ⟨_, _, _, rfl, _, _, _, rfl, rfl, rfl, ?_, ?_, ?_, ?_⟩
      rotate_left -- leaf 1: s of X11_with at 123
      rotate_left -- leaf 2: f of X11_with at 123
      rotate_left -- leaf 3: b of X11_with at 123
      refine b_goto (pc := 126) 130 dX11_afterBy_126 (by decide) ?_
      refine siG7 (pc := 130) notL_i (by decide) dX11_afterBy_130 ?_
      refine b_goto (pc := 132) 135 dX11_afterBy_132 (by decide) ?_
      rotate_left -- leaf 4: at 135
      -- leaves: 0 at 135; 1 s of X11_with at 123; 2 f of X11_with at 123; 3 b of X11_with at 123; 4 at 135
      · rw [tbit_and1 _ _ (by omega) (by omega)] at c115
        refine tl _ ?_
        rw [h5, if_pos (bT c115)]
      · exact hs
      · exact hf
      · exact hb
      · rw [tbit_and1 _ _ (by omega) (by omega)] at c115
        refine tl _ ?_
        rw [h5, bF c115]; rfl
  refine b_iloadG (pc := 0) 4 dX11_afterBy_0 rfl ?_
  refine b_iconst (pc := 2) (nI 2) dX11_afterBy_2 (by decide) ?_
  refine b_idiv (pc := 3) dX11_afterBy_3 ?_ ?_
  rotate_left -- leaf 0: divisor at 3
  refine siG5 (pc := 4) notL_i (by decide) dX11_afterBy_4 ?_
  refine b_iloadG (pc := 6) 4 dX11_afterBy_6 rfl ?_
  refine b_iconst (pc := 8) (nI 2) dX11_afterBy_8 (by decide) ?_
  refine b_irem (pc := 9) dX11_afterBy_9 ?_ ?_
  rotate_left -- leaf 1: divisor at 9
  refine siG6 (pc := 10) notL_i (by decide) dX11_afterBy_10 ?_
  refine b_iloadN (pc := 12) 2 dX11_afterBy_12 rfl rfl ?_
  refine siG7 (pc := 13) notL_i (by decide) dX11_afterBy_13 ?_
  refine b_iloadN (pc := 15) 1 dX11_afterBy_15 rfl rfl ?_
  rotate_left -- leaf 2: at 16
  -- leaves: 0 divisor at 3; 1 divisor at 9; 2 at 16
  · decide
  · decide
  · rw [n_rem (by omega) (by omega) (by omega), pk_div (by omega) (by omega) (by omega)]
    exact sw
theorem call_X11_afterBy {E : ME} {Φ : Option AV → AM → Prop} {pc : Nat} {L : List (Option AV)} {st : List AV} {m : AM} {a : Nat × Nat} {idx : Nat} {x0 x1 x2 x3 : AV} {i : Nat} (hl : Cond.methodLink E.2.1 idx yX11_afterBy ∈ TB) (hdep : 2 + 1 ≤ E.2.2.2.2.2.2) (hroom : a.1 + 0 ≤ E.2.2.2.2.1 ∧ a.2 + 0 ≤ E.2.2.2.2.2.1) (hsr : st.length ≤ 4) (hd : decode E.1 pc = .ok (.invokevirtual idx, 3)) (hsp : Sp_X11_afterBy [vr 11 i, x0, x1, x2, x3] m (fun r m2 => B E Φ (pc + 3) L (r.toList ++ st) m2 a)) : B E Φ pc L (x3 :: x2 :: x1 :: x0 :: vr 11 i :: st) m a := b_callV S_X11_afterBy [x0, x1, x2, x3] (RX11, TX11, 28) rfl rfl (by decide) (Or.inl hl) k1251 k47 k80 k1252 (show _ ∧ _ ∧ Option.map (fun d => d.parameters.length) (parseMethodDescriptor yX11_afterBy.desc) = some 4 from by decide +kernel) ⟨hdep, by decide⟩ hroom hsr hd hsp
abbrev e_X11_after : ME := (cX11_after, (RX11, (5, ((some .int), (0, (0, 3))))))
theorem dX11_after_0 : decode cX11_after 0 = .ok (.aload_n 0, 1) := by decide +kernel
theorem dX11_after_1 : decode cX11_after 1 = .ok (.aload_n 0, 1) := by decide +kernel
theorem dX11_after_2 : decode cX11_after 2 = .ok (.iload_n 1, 1) := by decide +kernel
theorem dX11_after_3 : decode cX11_after 3 = .ok (.invokevirtual 169, 3) := by decide +kernel
theorem dX11_after_6 : decode cX11_after 6 = .ok (.iload_n 2, 1) := by decide +kernel
theorem dX11_after_7 : decode cX11_after 7 = .ok (.iload_n 3, 1) := by decide +kernel
theorem dX11_after_8 : decode cX11_after 8 = .ok (.iload 4, 2) := by decide +kernel
theorem dX11_after_10 : decode cX11_after 10 = .ok (.invokevirtual 172, 3) := by decide +kernel
theorem dX11_after_13 : decode cX11_after 13 = .ok (.ireturn, 1) := by decide +kernel
def Sp_X11_after (av : List AV) (m : AM) (Φ : Option AV → AM → Prop) : Prop := ∃ x y z w, av = [vr 11 110, vi x, vi y, vi z, vi w] ∧ ∃ C p s d k, VC C ∧ MC m C ∧ x = nI p ∧ y = nI s ∧ z = nI d ∧ w = nI k ∧ p < C 4 ∧ s < 64 ∧ d < 64 ∧ k < 2 * C 0 ∧ Φ (some (vi (oI (outN C (C (40 + 2 * p)) s d k)))) m
set_option maxRecDepth 20000 in
set_option maxHeartbeats 4000000 in
theorem S_X11_after : Snd yX11_after e_X11_after Sp_X11_after := by
  refine Snd.of (by decide +kernel) rfl ?_ ?_
  · rintro av m Φ ⟨x, y, z, w, rfl, _⟩; exact Nat.le_of_ble_eq_true rfl
  rintro av m Φ ⟨x, y, z, w, rfl, C, p, s, d, k, hv, hM, rfl, rfl, rfl, rfl, hp, hs, hd, hk, h⟩ hav hty
  show B e_X11_after Φ 0 [some (vr 11 110), some (vi (nI p)), some (vi (nI s)), some (vi (nI d)), some (vi (nI k))] [] m (0, 0)
  have h45 := hv.2.2.2.2.1
  refine b_aloadN (pc := 0) 0 dX11_after_0 rfl rfl ?_
  refine b_aloadN (pc := 1) 0 dX11_after_1 rfl rfl ?_
  refine b_iloadN (pc := 2) 1 dX11_after_2 rfl rfl ?_
  refine call_X11_kindOf (pc := 3) k1245 (by decide) ⟨Nat.le_of_ble_eq_true rfl, Nat.le_of_ble_eq_true rfl⟩ (Nat.le_of_ble_eq_true rfl) dX11_after_3 ?_
  refine ⟨_, rfl, C, _, hM, rfl, ?_, ?_⟩
  rotate_left -- leaf 0: person of X11_kindOf at 3
  refine b_iloadN (pc := 6) 2 dX11_after_6 rfl rfl ?_
  refine b_iloadN (pc := 7) 3 dX11_after_7 rfl rfl ?_
  refine b_iloadG (pc := 8) 4 dX11_after_8 rfl ?_
  refine call_X11_afterBy (pc := 10) k1249 (by decide) ⟨Nat.le_of_ble_eq_true rfl, Nat.le_of_ble_eq_true rfl⟩ (Nat.le_of_ble_eq_true rfl) dX11_after_10 ?_
  refine ⟨_, _, _, _, rfl, C, _, _, _, _, hv, hM, rfl, rfl, rfl, rfl, ?_, ?_, ?_, ?_, ?_⟩
  rotate_left -- leaf 1: kind of X11_afterBy at 10
  rotate_left -- leaf 2: so of X11_afterBy at 10
  rotate_left -- leaf 3: said of X11_afterBy at 10
  rotate_left -- leaf 4: saying of X11_afterBy at 10
  refine b_iret (pc := 13) rfl dX11_after_13 ⟨Nat.le_of_ble_eq_true rfl, Nat.le_of_ble_eq_true rfl⟩ ?_
  rotate_left -- leaf 5: return at 13
  -- leaves: 0 person of X11_kindOf at 3; 1 kind of X11_afterBy at 10; 2 so of X11_afterBy at 10; 3 said of X11_afterBy at 10; 4 saying of X11_afterBy at 10; 5 return at 13
  · omega
  · exact (hv.2.2.2.2.2.2.2.2.2 p hp).1
  · exact hs
  · exact hd
  · exact hk
  · exact h
theorem call_X11_after {E : ME} {Φ : Option AV → AM → Prop} {pc : Nat} {L : List (Option AV)} {st : List AV} {m : AM} {a : Nat × Nat} {idx : Nat} {x0 x1 x2 x3 : AV} {i : Nat} (hl : Cond.methodLink E.2.1 idx yX11_after ∈ TB) (hdep : 3 + 1 ≤ E.2.2.2.2.2.2) (hroom : a.1 + 0 ≤ E.2.2.2.2.1 ∧ a.2 + 0 ≤ E.2.2.2.2.2.1) (hsr : st.length ≤ 4) (hd : decode E.1 pc = .ok (.invokevirtual idx, 3)) (hsp : Sp_X11_after [vr 11 i, x0, x1, x2, x3] m (fun r m2 => B E Φ (pc + 3) L (r.toList ++ st) m2 a)) : B E Φ pc L (x3 :: x2 :: x1 :: x0 :: vr 11 i :: st) m a := b_callV S_X11_after [x0, x1, x2, x3] (RX11, TX11, 28) rfl rfl (by decide) (Or.inl hl) k1243 k45 k80 k1244 (show _ ∧ _ ∧ Option.map (fun d => d.parameters.length) (parseMethodDescriptor yX11_after.desc) = some 4 from by decide +kernel) ⟨hdep, by decide⟩ hroom hsr hd hsp
