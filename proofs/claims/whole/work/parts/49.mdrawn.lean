/-! the reference: drawn -/
theorem inS {p : Int32} : (if (1 : Int64).toInt ≤ p.toInt64.toInt ∧ p.toInt64.toInt ≤ (999999 : Int64).toInt then 1 else 0) = (if (inB p 1000000 && decide (¬ p = nI 0)) = true then 1 else 0) := by
  rw [Int32.toInt_toInt64, show (1 : Int64).toInt = 1 from rfl, show (999999 : Int64).toInt = 999999 from rfl]
  by_cases q : (inB p 1000000 && decide (¬ p = nI 0)) = true
  · rw [if_pos q]
    rw [Bool.and_eq_true] at q
    obtain ⟨j, hj, rfl⟩ := (inB_iff (by omega)).mp q.1
    have q2 := of_decide_eq_true q.2
    rw [n_eq (by omega) (by omega)] at q2
    rw [nI_toInt (by omega), if_pos ⟨by omega, by omega⟩]
  · rw [if_neg q, if_neg]
    rintro ⟨h1, h2⟩
    apply q
    have e : inB p 1000000 = true := by
      unfold inB
      rw [decide_eq_true (show ¬ p < 0 by rw [i_lt, i_0]; omega), decide_eq_true (show p < nI 1000000 by rw [i_lt, nI_toInt (by omega)]; omega)]
      rfl
    have e2 : ¬ p = nI 0 := fun z => by rw [z, nI_toInt (by omega)] at h1; omega
    rw [e, decide_eq_true e2]
    rfl
abbrev e_X11_drawn : ME := (cX11_drawn, (RX11, (12, ((some .int), (0, (0, 8))))))
theorem dX11_drawn_0 : decode cX11_drawn 0 = .ok (.aload_n 0, 1) := by decide +kernel
theorem dX11_drawn_1 : decode cX11_drawn 1 = .ok (.iconst 0, 1) := by decide +kernel
theorem dX11_drawn_2 : decode cX11_drawn 2 = .ok (.putfield 53, 3) := by decide +kernel
theorem dX11_drawn_5 : decode cX11_drawn 5 = .ok (.aload_n 0, 1) := by decide +kernel
theorem dX11_drawn_6 : decode cX11_drawn 6 = .ok (.invokevirtual 199, 3) := by decide +kernel
theorem dX11_drawn_9 : decode cX11_drawn 9 = .ok (.ifCond .ne 6, 3) := by decide +kernel
theorem dX11_drawn_12 : decode cX11_drawn 12 = .ok (.ldc 195, 2) := by decide +kernel
theorem dX11_drawn_14 : decode cX11_drawn 14 = .ok (.ireturn, 1) := by decide +kernel
theorem dX11_drawn_15 : decode cX11_drawn 15 = .ok (.iload_n 1, 1) := by decide +kernel
theorem dX11_drawn_16 : decode cX11_drawn 16 = .ok (.i2l, 1) := by decide +kernel
theorem dX11_drawn_17 : decode cX11_drawn 17 = .ok (.lconst 0, 1) := by decide +kernel
theorem dX11_drawn_18 : decode cX11_drawn 18 = .ok (.ldc2_w 251, 3) := by decide +kernel
theorem dX11_drawn_21 : decode cX11_drawn 21 = .ok (.invokestatic 63, 3) := by decide +kernel
theorem dX11_drawn_24 : decode cX11_drawn 24 = .ok (.ifCond .eq 25, 3) := by decide +kernel
theorem dX11_drawn_27 : decode cX11_drawn 27 = .ok (.iload_n 2, 1) := by decide +kernel
theorem dX11_drawn_28 : decode cX11_drawn 28 = .ok (.i2l, 1) := by decide +kernel
theorem dX11_drawn_29 : decode cX11_drawn 29 = .ok (.lconst 1, 1) := by decide +kernel
theorem dX11_drawn_30 : decode cX11_drawn 30 = .ok (.ldc2_w 253, 3) := by decide +kernel
theorem dX11_drawn_33 : decode cX11_drawn 33 = .ok (.invokestatic 63, 3) := by decide +kernel
theorem dX11_drawn_36 : decode cX11_drawn 36 = .ok (.ifCond .eq 13, 3) := by decide +kernel
theorem dX11_drawn_39 : decode cX11_drawn 39 = .ok (.iload_n 3, 1) := by decide +kernel
theorem dX11_drawn_40 : decode cX11_drawn 40 = .ok (.i2l, 1) := by decide +kernel
theorem dX11_drawn_41 : decode cX11_drawn 41 = .ok (.lconst 0, 1) := by decide +kernel
theorem dX11_drawn_42 : decode cX11_drawn 42 = .ok (.lconst 1, 1) := by decide +kernel
theorem dX11_drawn_43 : decode cX11_drawn 43 = .ok (.invokestatic 63, 3) := by decide +kernel
theorem dX11_drawn_46 : decode cX11_drawn 46 = .ok (.ifCond .ne 6, 3) := by decide +kernel
theorem dX11_drawn_49 : decode cX11_drawn 49 = .ok (.ldc 73, 2) := by decide +kernel
theorem dX11_drawn_51 : decode cX11_drawn 51 = .ok (.ireturn, 1) := by decide +kernel
theorem dX11_drawn_52 : decode cX11_drawn 52 = .ok (.iload_n 2, 1) := by decide +kernel
theorem dX11_drawn_53 : decode cX11_drawn 53 = .ok (.i2l, 1) := by decide +kernel
theorem dX11_drawn_54 : decode cX11_drawn 54 = .ok (.lstore 4, 2) := by decide +kernel
theorem dX11_drawn_56 : decode cX11_drawn 56 = .ok (.aload_n 0, 1) := by decide +kernel
theorem dX11_drawn_57 : decode cX11_drawn 57 = .ok (.getfield 19, 3) := by decide +kernel
theorem dX11_drawn_60 : decode cX11_drawn 60 = .ok (.iconst 1, 1) := by decide +kernel
theorem dX11_drawn_61 : decode cX11_drawn 61 = .ok (.iaload, 1) := by decide +kernel
theorem dX11_drawn_62 : decode cX11_drawn 62 = .ok (.istore 6, 2) := by decide +kernel
theorem dX11_drawn_64 : decode cX11_drawn 64 = .ok (.aload_n 0, 1) := by decide +kernel
theorem dX11_drawn_65 : decode cX11_drawn 65 = .ok (.getfield 19, 3) := by decide +kernel
theorem dX11_drawn_68 : decode cX11_drawn 68 = .ok (.iconst 5, 1) := by decide +kernel
theorem dX11_drawn_69 : decode cX11_drawn 69 = .ok (.iaload, 1) := by decide +kernel
theorem dX11_drawn_70 : decode cX11_drawn 70 = .ok (.istore 7, 2) := by decide +kernel
theorem dX11_drawn_72 : decode cX11_drawn 72 = .ok (.iconst 0, 1) := by decide +kernel
theorem dX11_drawn_73 : decode cX11_drawn 73 = .ok (.istore 8, 2) := by decide +kernel
theorem dX11_drawn_75 : decode cX11_drawn 75 = .ok (.iconst 0, 1) := by decide +kernel
theorem dX11_drawn_76 : decode cX11_drawn 76 = .ok (.istore 9, 2) := by decide +kernel
theorem dX11_drawn_78 : decode cX11_drawn 78 = .ok (.iload 9, 2) := by decide +kernel
theorem dX11_drawn_80 : decode cX11_drawn 80 = .ok (.iload_n 1, 1) := by decide +kernel
theorem dX11_drawn_81 : decode cX11_drawn 81 = .ok (.if_icmp .ge 117, 3) := by decide +kernel
theorem dX11_drawn_84 : decode cX11_drawn 84 = .ok (.lload 4, 2) := by decide +kernel
theorem dX11_drawn_86 : decode cX11_drawn 86 = .ok (.ldc2_w 255, 3) := by decide +kernel
theorem dX11_drawn_89 : decode cX11_drawn 89 = .ok (.lmul, 1) := by decide +kernel
theorem dX11_drawn_90 : decode cX11_drawn 90 = .ok (.ldc2_w 257, 3) := by decide +kernel
theorem dX11_drawn_93 : decode cX11_drawn 93 = .ok (.lrem, 1) := by decide +kernel
theorem dX11_drawn_94 : decode cX11_drawn 94 = .ok (.lstore 4, 2) := by decide +kernel
theorem dX11_drawn_96 : decode cX11_drawn 96 = .ok (.lload 4, 2) := by decide +kernel
theorem dX11_drawn_98 : decode cX11_drawn 98 = .ok (.iconst 2, 1) := by decide +kernel
theorem dX11_drawn_99 : decode cX11_drawn 99 = .ok (.aload_n 0, 1) := by decide +kernel
theorem dX11_drawn_100 : decode cX11_drawn 100 = .ok (.getfield 19, 3) := by decide +kernel
theorem dX11_drawn_103 : decode cX11_drawn 103 = .ok (.iconst 0, 1) := by decide +kernel
theorem dX11_drawn_104 : decode cX11_drawn 104 = .ok (.iaload, 1) := by decide +kernel
theorem dX11_drawn_105 : decode cX11_drawn 105 = .ok (.imul, 1) := by decide +kernel
theorem dX11_drawn_106 : decode cX11_drawn 106 = .ok (.i2l, 1) := by decide +kernel
theorem dX11_drawn_107 : decode cX11_drawn 107 = .ok (.lrem, 1) := by decide +kernel
theorem dX11_drawn_108 : decode cX11_drawn 108 = .ok (.l2i, 1) := by decide +kernel
theorem dX11_drawn_109 : decode cX11_drawn 109 = .ok (.istore 10, 2) := by decide +kernel
theorem dX11_drawn_111 : decode cX11_drawn 111 = .ok (.aload_n 0, 1) := by decide +kernel
theorem dX11_drawn_112 : decode cX11_drawn 112 = .ok (.lload 4, 2) := by decide +kernel
theorem dX11_drawn_114 : decode cX11_drawn 114 = .ok (.aload_n 0, 1) := by decide +kernel
theorem dX11_drawn_115 : decode cX11_drawn 115 = .ok (.getfield 19, 3) := by decide +kernel
theorem dX11_drawn_118 : decode cX11_drawn 118 = .ok (.iconst 4, 1) := by decide +kernel
theorem dX11_drawn_119 : decode cX11_drawn 119 = .ok (.iaload, 1) := by decide +kernel
theorem dX11_drawn_120 : decode cX11_drawn 120 = .ok (.i2l, 1) := by decide +kernel
theorem dX11_drawn_121 : decode cX11_drawn 121 = .ok (.lrem, 1) := by decide +kernel
theorem dX11_drawn_122 : decode cX11_drawn 122 = .ok (.l2i, 1) := by decide +kernel
theorem dX11_drawn_123 : decode cX11_drawn 123 = .ok (.iload 6, 2) := by decide +kernel
theorem dX11_drawn_125 : decode cX11_drawn 125 = .ok (.iload 7, 2) := by decide +kernel
theorem dX11_drawn_127 : decode cX11_drawn 127 = .ok (.iload 10, 2) := by decide +kernel
theorem dX11_drawn_129 : decode cX11_drawn 129 = .ok (.invokevirtual 186, 3) := by decide +kernel
theorem dX11_drawn_132 : decode cX11_drawn 132 = .ok (.istore 11, 2) := by decide +kernel
theorem dX11_drawn_134 : decode cX11_drawn 134 = .ok (.iload 8, 2) := by decide +kernel
theorem dX11_drawn_136 : decode cX11_drawn 136 = .ok (.iload 11, 2) := by decide +kernel
theorem dX11_drawn_138 : decode cX11_drawn 138 = .ok (.ldc 96, 2) := by decide +kernel
theorem dX11_drawn_140 : decode cX11_drawn 140 = .ok (.if_icmp .ne 7, 3) := by decide +kernel
theorem dX11_drawn_143 : decode cX11_drawn 143 = .ok (.iconst 0, 1) := by decide +kernel
theorem dX11_drawn_144 : decode cX11_drawn 144 = .ok (.goto 18, 3) := by decide +kernel
theorem dX11_drawn_147 : decode cX11_drawn 147 = .ok (.aload_n 0, 1) := by decide +kernel
theorem dX11_drawn_148 : decode cX11_drawn 148 = .ok (.getfield 19, 3) := by decide +kernel
theorem dX11_drawn_151 : decode cX11_drawn 151 = .ok (.iconst 2, 1) := by decide +kernel
theorem dX11_drawn_152 : decode cX11_drawn 152 = .ok (.iaload, 1) := by decide +kernel
theorem dX11_drawn_153 : decode cX11_drawn 153 = .ok (.iload 11, 2) := by decide +kernel
theorem dX11_drawn_155 : decode cX11_drawn 155 = .ok (.iload 6, 2) := by decide +kernel
theorem dX11_drawn_157 : decode cX11_drawn 157 = .ok (.ixor, 1) := by decide +kernel
theorem dX11_drawn_158 : decode cX11_drawn 158 = .ok (.invokestatic 189, 3) := by decide +kernel
theorem dX11_drawn_161 : decode cX11_drawn 161 = .ok (.imul, 1) := by decide +kernel
theorem dX11_drawn_162 : decode cX11_drawn 162 = .ok (.iadd, 1) := by decide +kernel
theorem dX11_drawn_163 : decode cX11_drawn 163 = .ok (.istore 8, 2) := by decide +kernel
theorem dX11_drawn_165 : decode cX11_drawn 165 = .ok (.iload 11, 2) := by decide +kernel
theorem dX11_drawn_167 : decode cX11_drawn 167 = .ok (.ldc 96, 2) := by decide +kernel
theorem dX11_drawn_169 : decode cX11_drawn 169 = .ok (.if_icmp .ne 8, 3) := by decide +kernel
theorem dX11_drawn_172 : decode cX11_drawn 172 = .ok (.iload 6, 2) := by decide +kernel
theorem dX11_drawn_174 : decode cX11_drawn 174 = .ok (.goto 5, 3) := by decide +kernel
theorem dX11_drawn_177 : decode cX11_drawn 177 = .ok (.iload 11, 2) := by decide +kernel
theorem dX11_drawn_179 : decode cX11_drawn 179 = .ok (.istore 6, 2) := by decide +kernel
theorem dX11_drawn_181 : decode cX11_drawn 181 = .ok (.iload 7, 2) := by decide +kernel
theorem dX11_drawn_183 : decode cX11_drawn 183 = .ok (.iconst 1, 1) := by decide +kernel
theorem dX11_drawn_184 : decode cX11_drawn 184 = .ok (.iload 10, 2) := by decide +kernel
theorem dX11_drawn_186 : decode cX11_drawn 186 = .ok (.iconst 2, 1) := by decide +kernel
theorem dX11_drawn_187 : decode cX11_drawn 187 = .ok (.idiv, 1) := by decide +kernel
theorem dX11_drawn_188 : decode cX11_drawn 188 = .ok (.ishl, 1) := by decide +kernel
theorem dX11_drawn_189 : decode cX11_drawn 189 = .ok (.ior, 1) := by decide +kernel
theorem dX11_drawn_190 : decode cX11_drawn 190 = .ok (.istore 7, 2) := by decide +kernel
theorem dX11_drawn_192 : decode cX11_drawn 192 = .ok (.iinc 9 1, 3) := by decide +kernel
theorem dX11_drawn_195 : decode cX11_drawn 195 = .ok (.goto (-117), 3) := by decide +kernel
theorem dX11_drawn_198 : decode cX11_drawn 198 = .ok (.iload_n 3, 1) := by decide +kernel
theorem dX11_drawn_199 : decode cX11_drawn 199 = .ok (.ifCond .ne 8, 3) := by decide +kernel
theorem dX11_drawn_202 : decode cX11_drawn 202 = .ok (.iload 6, 2) := by decide +kernel
theorem dX11_drawn_204 : decode cX11_drawn 204 = .ok (.goto 5, 3) := by decide +kernel
theorem dX11_drawn_207 : decode cX11_drawn 207 = .ok (.iload 8, 2) := by decide +kernel
theorem dX11_drawn_209 : decode cX11_drawn 209 = .ok (.ireturn, 1) := by decide +kernel
def Sp_X11_drawn (av : List AV) (m : AM) (Φ : Option AV → AM → Prop) : Prop := ∃ n s w, av = [vr 11 110, vi n, vi s, vi w] ∧ ∃ C, MCo m C ∧ Φ (some (vi (drawnV C n s w))) (mset m 110 0 (nI 0))
set_option maxRecDepth 20000 in
set_option maxHeartbeats 4000000 in
theorem S_X11_drawn : Snd yX11_drawn e_X11_drawn Sp_X11_drawn := by
  refine Snd.of (by decide +kernel) rfl ?_ ?_
  · rintro av m Φ ⟨n, s, w, rfl, _⟩; exact Nat.le_of_ble_eq_true rfl
  rintro av m Φ ⟨n, s, w, rfl, C, hC0, h⟩ hav hty
  show B e_X11_drawn Φ 0 [some (vr 11 110), some (vi n), some (vi s), some (vi w), none, none, none, none, none, none, none, none] [] m (0, 0)
  have hC : MCo (mset m 110 0 (nI 0)) C := hC0.ms (by decide)
  have hle := hC.le
  unfold drawnV at h
  by_cases hcz : C 0 = 0
  · rw [if_pos hcz] at h
    refine b_aloadN (pc := 0) 0 dX11_drawn_0 rfl rfl ?_
    refine b_iconst (pc := 1) (nI 0) dX11_drawn_1 (by decide) ?_
    refine pf11_0 (pc := 2) k1042 dX11_drawn_2 ?_
    refine b_aloadN (pc := 5) 0 dX11_drawn_5 rfl rfl ?_
    refine call_X11_isThere (pc := 6) k1292 (by decide) ⟨Nat.le_of_ble_eq_true rfl, Nat.le_of_ble_eq_true rfl⟩ (Nat.le_of_ble_eq_true rfl) dX11_drawn_6 ?_
    refine ⟨rfl, _, hC.1 0 (by omega), ?_, ?_⟩
    rotate_left -- leaf 0: six of X11_isThere at 6
    refine b_if_ne (pc := 9) 15 dX11_drawn_9 (by decide) (fun c9 => ?_) (fun c9 => ?_)
    rotate_left -- leaf 1: at 15
    refine b_ldc (pc := 12) k1275 dX11_drawn_12 ?_
    refine b_iret (pc := 14) rfl dX11_drawn_14 ⟨Nat.le_of_ble_eq_true rfl, Nat.le_of_ble_eq_true rfl⟩ ?_
    rotate_left -- leaf 2: return at 14
    -- leaves: 0 six of X11_isThere at 6; 1 at 15; 2 return at 14
    · omega
    · have := zF c9; omega
    · exact h
  · rw [if_neg hcz] at h
    have hv := hC.op (Or.inl (by omega))
    by_cases hok : (inB n 61 && (inB s 1000000 && (decide (¬ s = nI 0) && inB w 2))) = true
    · rw [if_pos hok] at h
      rw [Bool.and_eq_true, Bool.and_eq_true, Bool.and_eq_true] at hok
      have hs3 : (inB s 1000000 && decide (¬ s = nI 0)) = true := by rw [hok.2.1, hok.2.2.1]; rfl
      obtain ⟨N, hN, rfl⟩ := (inB_iff (by omega)).mp hok.1
      obtain ⟨S, hS, rfl⟩ := (inB_iff (by omega)).mp hok.2.1
      rw [n_cl (by omega), n_cl (by omega)] at h
      have h06 := hv.1
      have h45 := hv.2.2.2.2.1
      have e0 : (mset m 110 0 (nI 0)).1 114 (nI 0).toNatClampNeg = nI (C 0) := by rw [n_cl (by omega)]; exact hC.1 0 (by omega)
      have e1 : (mset m 110 0 (nI 0)).1 114 (nI 1).toNatClampNeg = nI (C 1) := by rw [n_cl (by omega)]; exact hC.1 1 (by omega)
      have e2 : (mset m 110 0 (nI 0)).1 114 (nI 2).toNatClampNeg = nI (C 2) := by rw [n_cl (by omega)]; exact hC.1 2 (by omega)
      have e4 : (mset m 110 0 (nI 0)).1 114 (nI 4).toNatClampNeg = nI (C 4) := by rw [n_cl (by omega)]; exact hC.1 4 (by omega)
      have e5 : (mset m 110 0 (nI 0)).1 114 (nI 5).toNatClampNeg = nI (C 5) := by rw [n_cl (by omega)]; exact hC.1 5 (by omega)
      have loop : ∀ j k o10 o11, N + 1 ≤ k + j → k ≤ N → B e_X11_drawn Φ 78 [some (vr 11 110), some (vi (nI N)), some (vi (nI S)), some (vi w), some (vl (lN (tkS C S k).1)), none, some (vi (nI (tkS C S k).2.1)), some (vi (nI (tkS C S k).2.2.1)), some (vi (nI (tkS C S k).2.2.2)), some (vi (nI k)), o10, o11] [] (mset m 110 0 (nI 0)) (0, 0) := by
        intro j
        induction j with
        | zero => intro k o10 o11 h1 h2; omega
        | succ j ih =>
          intro k o10 o11 h1 h2
          have ok := tkS_ok hv (seed := S) (by omega) k
          have ok2 := tkS_ok hv (seed := S) (by omega) (k + 1)
          have hx := tkX_lt (tkS C S k).1
          have hp : tkX (tkS C S k).1 % C 4 < C 4 := Nat.mod_lt _ (by omega)
          have hy : tkX (tkS C S k).1 % (2 * C 0) < 2 * C 0 := Nat.mod_lt _ (by omega)
          have mid : k < N → B e_X11_drawn Φ 134 [some (vr 11 110), some (vi (nI N)), some (vi (nI S)), some (vi w), some (vl (lN (tkX (tkS C S k).1))), none, some (vi (nI (tkS C S k).2.1)), some (vi (nI (tkS C S k).2.2.1)), some (vi (nI (tkS C S k).2.2.2)), some (vi (nI k)), some (vi (nI (tkX (tkS C S k).1 % (2 * C 0)))), some (vi (oI (outN C (C (40 + 2 * (tkX (tkS C S k).1 % C 4))) (tkS C S k).2.1 (tkS C S k).2.2.1 (tkX (tkS C S k).1 % (2 * C 0)))))] [] (mset m 110 0 (nI 0)) (0, 0) := by
            intro hk
            have e2y : nI (tkX (tkS C S k).1 % (2 * C 0)) / nI 2 = nI (tkX (tkS C S k).1 % (2 * C 0) / 2) := pk_div (by omega) (by omega) (by omega)
            have u1 : (tkS C S (k + 1)).1 = tkX (tkS C S k).1 := rfl
            have u3 : (tkS C S (k + 1)).2.2.1 = (tkS C S k).2.2.1 ||| 2 ^ (tkX (tkS C S k).1 % (2 * C 0) / 2) := rfl
            have u2 : (tkS C S (k + 1)).2.1 = behN C (C (40 + 2 * (tkX (tkS C S k).1 % C 4))) (tkS C S k).2.1 (tkS C S k).2.2.1 (tkX (tkS C S k).1 % (2 * C 0)) := rfl
            have u4 : (tkS C S (k + 1)).2.2.2 = (tkS C S k).2.2.2 + C 2 * pc6 ((tkS C S k).2.1 ^^^ behN C (C (40 + 2 * (tkX (tkS C S k).1 % C 4))) (tkS C S k).2.1 (tkS C S k).2.2.1 (tkX (tkS C S k).1 % (2 * C 0))) := rfl
            have nx := ih (k + 1)
            rw [u1, u2, u3, u4] at nx
            unfold behN at nx
            cases eo : outN C (C (40 + 2 * (tkX (tkS C S k).1 % C 4))) (tkS C S k).2.1 (tkS C S k).2.2.1 (tkX (tkS C S k).1 % (2 * C 0)) with
            | none =>
              rw [eo] at nx
              have nx2 := nx (some (vi (nI (tkX (tkS C S k).1 % (2 * C 0))))) (some (vi (oI none))) (by omega) (by omega)
              rw [Option.getD_none, Nat.xor_self, show pc6 0 = 0 from by decide, Nat.mul_zero, Nat.add_zero] at nx2
              refine b_iloadG (pc := 134) 8 dX11_drawn_134 rfl ?_
              refine b_iloadG (pc := 136) 11 dX11_drawn_136 rfl ?_
              refine b_ldc (pc := 138) k1180 dX11_drawn_138 ?_
              refine b_icmp_ne (pc := 140) 147 dX11_drawn_140 (by decide) (fun c140 => ?_) (fun c140 => ?_)
              rotate_left -- leaf 0: at 147
              refine b_iconst (pc := 143) (nI 0) dX11_drawn_143 (by decide) ?_
              refine b_goto (pc := 144) 162 dX11_drawn_144 (by decide) ?_
              refine b_iadd (pc := 162) dX11_drawn_162 ?_
              refine siG8 (pc := 163) notL_i (by decide) dX11_drawn_163 ?_
              refine b_iloadG (pc := 165) 11 dX11_drawn_165 rfl ?_
              refine b_ldc (pc := 167) k1180 dX11_drawn_167 ?_
              refine b_icmp_ne (pc := 169) 177 dX11_drawn_169 (by decide) (fun c169 => ?_) (fun c169 => ?_)
              rotate_left -- leaf 1: at 177
              refine b_iloadG (pc := 172) 6 dX11_drawn_172 rfl ?_
              refine b_goto (pc := 174) 179 dX11_drawn_174 (by decide) ?_
              refine siG6 (pc := 179) notL_n (by decide) dX11_drawn_179 ?_
              refine b_iloadG (pc := 181) 7 dX11_drawn_181 rfl ?_
              refine b_iconst (pc := 183) (nI 1) dX11_drawn_183 (by decide) ?_
              refine b_iloadG (pc := 184) 10 dX11_drawn_184 rfl ?_
              refine b_iconst (pc := 186) (nI 2) dX11_drawn_186 (by decide) ?_
              refine b_idiv (pc := 187) dX11_drawn_187 ?_ ?_
              rotate_left -- leaf 2: divisor at 187
              refine b_ishl (pc := 188) dX11_drawn_188 ?_
              refine b_ior (pc := 189) dX11_drawn_189 ?_
              refine siG7 (pc := 190) notL_i (by decide) dX11_drawn_190 ?_
              refine inc9 (pc := 192) notL_i (by decide) dX11_drawn_192 ?_
              refine b_goto (pc := 195) 78 dX11_drawn_195 (by decide) ?_
              rotate_left -- leaf 3: at 78
              -- leaves: 0 at 147; 1 at 177; 2 divisor at 187; 3 at 78
              · exact absurd rfl c140
              · exact absurd rfl c169
              · decide
              · rw [n_add, Nat.add_zero, e2y, n_pow (by omega), n_or, n_inc]
                exact nx2
            | some v =>
              rw [eo] at nx
              have nx2 := nx (some (vi (nI (tkX (tkS C S k).1 % (2 * C 0))))) (some (vi (oI (some v)))) (by omega) (by omega)
              rw [Option.getD_some, Nat.xor_comm] at nx2
              have hv64 := outN_lt hv ok.2.1 hy eo
              have eI : oI (some v) = nI v := rfl
              rw [eI] at nx2 ⊢
              refine b_iloadG (pc := 134) 8 dX11_drawn_134 rfl ?_
              refine b_iloadG (pc := 136) 11 dX11_drawn_136 rfl ?_
              refine b_ldc (pc := 138) k1180 dX11_drawn_138 ?_
              refine b_icmp_ne (pc := 140) 147 dX11_drawn_140 (by decide) (fun c140 => ?_) (fun c140 => ?_)
              refine b_aloadN (pc := 147) 0 dX11_drawn_147 rfl rfl ?_
              refine gf11_5 (pc := 148) 114 rfl k1047 dX11_drawn_148 ?_
              refine b_iconst (pc := 151) (nI 2) dX11_drawn_151 (by decide) ?_
              refine b_iald (pc := 152) (by decide) ?_ dX11_drawn_152 ?_
              rotate_left -- leaf 0: index at 152
              refine b_iloadG (pc := 153) 11 dX11_drawn_153 rfl ?_
              refine b_iloadG (pc := 155) 6 dX11_drawn_155 rfl ?_
              refine b_ixor (pc := 157) dX11_drawn_157 ?_
              refine call_X11_bits (pc := 158) k1264 (by decide) ⟨Nat.le_of_ble_eq_true rfl, Nat.le_of_ble_eq_true rfl⟩ (Nat.le_of_ble_eq_true rfl) dX11_drawn_158 ?_
              refine ⟨_, rfl, v ^^^ (tkS C S k).2.1, ?_, ?_, ?_⟩
              rotate_left -- leaf 1: num of X11_bits at 158
              rotate_left -- leaf 2: bound of X11_bits at 158
              refine b_imul (pc := 161) dX11_drawn_161 ?_
              refine b_iadd (pc := 162) dX11_drawn_162 ?_
              refine siG8 (pc := 163) notL_i (by decide) dX11_drawn_163 ?_
              refine b_iloadG (pc := 165) 11 dX11_drawn_165 rfl ?_
              refine b_ldc (pc := 167) k1180 dX11_drawn_167 ?_
              refine b_icmp_ne (pc := 169) 177 dX11_drawn_169 (by decide) (fun c169 => ?_) (fun c169 => ?_)
              refine b_iloadG (pc := 177) 11 dX11_drawn_177 rfl ?_
              refine siG6 (pc := 179) notL_n (by decide) dX11_drawn_179 ?_
              refine b_iloadG (pc := 181) 7 dX11_drawn_181 rfl ?_
              refine b_iconst (pc := 183) (nI 1) dX11_drawn_183 (by decide) ?_
              refine b_iloadG (pc := 184) 10 dX11_drawn_184 rfl ?_
              refine b_iconst (pc := 186) (nI 2) dX11_drawn_186 (by decide) ?_
              refine b_idiv (pc := 187) dX11_drawn_187 ?_ ?_
              rotate_left -- leaf 3: divisor at 187
              refine b_ishl (pc := 188) dX11_drawn_188 ?_
              refine b_ior (pc := 189) dX11_drawn_189 ?_
              refine siG7 (pc := 190) notL_i (by decide) dX11_drawn_190 ?_
              refine inc9 (pc := 192) notL_i (by decide) dX11_drawn_192 ?_
              refine b_goto (pc := 195) 78 dX11_drawn_195 (by decide) ?_
              rotate_left -- leaf 4: at 78
              rotate_left -- leaf 5: at 172
              rotate_left -- leaf 6: at 143
              -- leaves: 0 index at 152; 1 num of X11_bits at 158; 2 bound of X11_bits at 158; 3 divisor at 187; 4 at 78; 5 at 172; 6 at 143
              · exact n_in (by omega) (by omega)
              · exact n_xor _ _
              · exact Nat.xor_lt_two_pow (n := 6) hv64 ok.2.1
              · decide
              · rw [e2, n_mul, n_add, e2y, n_pow (by omega), n_or, n_inc]
                exact nx2
              · exact absurd c169 (n_ne_none (show v < 2147483648 by omega))
              · exact absurd c140 (n_ne_none (show v < 2147483648 by omega))
          refine b_iloadG (pc := 78) 9 dX11_drawn_78 rfl ?_
          refine b_iloadN (pc := 80) 1 dX11_drawn_80 rfl rfl ?_
          refine b_icmp_ge (pc := 81) 198 dX11_drawn_81 (by decide) (fun c81 => ?_) (fun c81 => ?_)
          refine b_iloadN (pc := 198) 3 dX11_drawn_198 rfl rfl ?_
          refine b_if_ne (pc := 199) 207 dX11_drawn_199 (by decide) (fun c199 => ?_) (fun c199 => ?_)
          refine b_iloadG (pc := 207) 8 dX11_drawn_207 rfl ?_
          refine b_iret (pc := 209) rfl dX11_drawn_209 ⟨Nat.le_of_ble_eq_true rfl, Nat.le_of_ble_eq_true rfl⟩ ?_
          rotate_left -- leaf 0: return at 209
          refine b_iloadG (pc := 202) 6 dX11_drawn_202 rfl ?_
          refine b_goto (pc := 204) 209 dX11_drawn_204 (by decide) ?_
          refine b_iret (pc := 209) rfl dX11_drawn_209 ⟨Nat.le_of_ble_eq_true rfl, Nat.le_of_ble_eq_true rfl⟩ ?_
          rotate_left -- leaf 1: return at 209
          refine b_lloadG (pc := 84) 4 dX11_drawn_84 rfl ?_
          refine b_ldc2 (pc := 86) k1393 dX11_drawn_86 ?_
          refine b_lmul (pc := 89) dX11_drawn_89 ?_
          refine b_ldc2 (pc := 90) k1394 dX11_drawn_90 ?_
          refine b_lrem (pc := 93) dX11_drawn_93 ?_ ?_
          rotate_left -- leaf 2: divisor at 93
          refine slG4 (pc := 94) notL_i (by decide) dX11_drawn_94 ?_
          refine b_lloadG (pc := 96) 4 dX11_drawn_96 rfl ?_
          refine b_iconst (pc := 98) (nI 2) dX11_drawn_98 (by decide) ?_
          refine b_aloadN (pc := 99) 0 dX11_drawn_99 rfl rfl ?_
          refine gf11_5 (pc := 100) 114 rfl k1047 dX11_drawn_100 ?_
          refine b_iconst (pc := 103) (nI 0) dX11_drawn_103 (by decide) ?_
          refine b_iald (pc := 104) (by decide) ?_ dX11_drawn_104 ?_
          rotate_left -- leaf 3: index at 104
          refine b_imul (pc := 105) dX11_drawn_105 ?_
          refine b_i2l (pc := 106) dX11_drawn_106 ?_
          refine b_lrem (pc := 107) dX11_drawn_107 ?_ ?_
          rotate_left -- leaf 4: divisor at 107
          refine b_l2i (pc := 108) dX11_drawn_108 ?_
          refine siG10 (pc := 109) notL_i (by decide) dX11_drawn_109 ?_
          refine b_aloadN (pc := 111) 0 dX11_drawn_111 rfl rfl ?_
          refine b_lloadG (pc := 112) 4 dX11_drawn_112 rfl ?_
          refine b_aloadN (pc := 114) 0 dX11_drawn_114 rfl rfl ?_
          refine gf11_5 (pc := 115) 114 rfl k1047 dX11_drawn_115 ?_
          refine b_iconst (pc := 118) (nI 4) dX11_drawn_118 (by decide) ?_
          refine b_iald (pc := 119) (by decide) ?_ dX11_drawn_119 ?_
          rotate_left -- leaf 5: index at 119
          refine b_i2l (pc := 120) dX11_drawn_120 ?_
          refine b_lrem (pc := 121) dX11_drawn_121 ?_ ?_
          rotate_left -- leaf 6: divisor at 121
          refine b_l2i (pc := 122) dX11_drawn_122 ?_
          refine b_iloadG (pc := 123) 6 dX11_drawn_123 rfl ?_
          refine b_iloadG (pc := 125) 7 dX11_drawn_125 rfl ?_
          refine b_iloadG (pc := 127) 10 dX11_drawn_127 rfl ?_
          refine call_X11_after (pc := 129) k1241 (by decide) ⟨Nat.le_of_ble_eq_true rfl, Nat.le_of_ble_eq_true rfl⟩ (Nat.le_of_ble_eq_true rfl) dX11_drawn_129 ?_
          refine ⟨_, _, _, _, rfl, C, tkX (tkS C S k).1 % C 4, _, _, tkX (tkS C S k).1 % (2 * C 0), hv, hC.1, ?_, rfl, rfl, ?_, ?_, ?_, ?_, ?_, ?_⟩
          rotate_left -- leaf 7: p of X11_after at 129
          rotate_left -- leaf 8: s of X11_after at 129
          rotate_left -- leaf 9: person of X11_after at 129
          rotate_left -- leaf 10: so of X11_after at 129
          rotate_left -- leaf 11: said of X11_after at 129
          rotate_left -- leaf 12: saying of X11_after at 129
          refine siG11 (pc := 132) notL_i (by decide) dX11_drawn_132 ?_
          rotate_left -- leaf 13: at 134
          -- leaves: 0 return at 209; 1 return at 209; 2 divisor at 93; 3 index at 104; 4 divisor at 107; 5 index at 119; 6 divisor at 121; 7 p of X11_after at 129; 8 s of X11_after at 129; 9 person of X11_after at 129; 10 so of X11_after at 129; 11 said of X11_after at 129; 12 saying of X11_after at 129; 13 at 134
          · rw [n_le (by omega) (by omega)] at c81
            rw [if_neg (show ¬ w = nI 0 from c199)] at h
            rw [show k = N by omega]
            exact h
          · rw [n_le (by omega) (by omega)] at c81
            rw [if_pos (show w = nI 0 from c199)] at h
            rw [show k = N by omega]
            exact h
          · decide
          · exact n_in (by omega) (by omega)
          · rw [e0, n_mul]; exact tk3 (by omega) (by omega)
          · exact n_in (by omega) (by omega)
          · rw [e4]; exact tk3 (by omega) (by omega)
          · rw [e4, tk1 (by omega), tk2 (by omega) (by omega) (by omega)]
          · rw [e0, n_mul, tk1 (by omega), tk2 (by omega) (by omega) (by omega)]
          · exact hp
          · exact ok.2.1
          · exact ok.2.2.1
          · exact hy
          · rw [n_le (by omega) (by omega)] at c81
            rw [e0, n_mul, tk1 (by omega), tk2 (by omega) (by omega) (by omega)]
            exact mid (by omega)
      refine b_aloadN (pc := 0) 0 dX11_drawn_0 rfl rfl ?_
      refine b_iconst (pc := 1) (nI 0) dX11_drawn_1 (by decide) ?_
      refine pf11_0 (pc := 2) k1042 dX11_drawn_2 ?_
      refine b_aloadN (pc := 5) 0 dX11_drawn_5 rfl rfl ?_
      refine call_X11_isThere (pc := 6) k1292 (by decide) ⟨Nat.le_of_ble_eq_true rfl, Nat.le_of_ble_eq_true rfl⟩ (Nat.le_of_ble_eq_true rfl) dX11_drawn_6 ?_
      refine ⟨rfl, _, hC.1 0 (by omega), ?_, ?_⟩
      rotate_left -- leaf 0: six of X11_isThere at 6
      refine b_if_ne (pc := 9) 15 dX11_drawn_9 (by decide) (fun c9 => ?_) (fun c9 => ?_)
      refine b_iloadN (pc := 15) 1 dX11_drawn_15 rfl rfl ?_
      refine b_i2l (pc := 16) dX11_drawn_16 ?_
      refine b_lconst (pc := 17) 0 dX11_drawn_17 (by decide) ?_
      refine b_ldc2 (pc := 18) k1391 dX11_drawn_18 ?_
      refine call_X11_in (pc := 21) k1136 (by decide) ⟨Nat.le_of_ble_eq_true rfl, Nat.le_of_ble_eq_true rfl⟩ (Nat.le_of_ble_eq_true rfl) dX11_drawn_21 ?_
      refine ⟨_, _, _, rfl, ?_⟩
      refine b_if_eq (pc := 24) 49 dX11_drawn_24 (by decide) (fun c24 => ?_) (fun c24 => ?_)
      refine b_ldc (pc := 49) k1140 dX11_drawn_49 ?_
      refine b_iret (pc := 51) rfl dX11_drawn_51 ⟨Nat.le_of_ble_eq_true rfl, Nat.le_of_ble_eq_true rfl⟩ ?_
      rotate_left -- leaf 1: return at 51
      refine b_iloadN (pc := 27) 2 dX11_drawn_27 rfl rfl ?_
      refine b_i2l (pc := 28) dX11_drawn_28 ?_
      refine b_lconst (pc := 29) 1 dX11_drawn_29 (by decide) ?_
      refine b_ldc2 (pc := 30) k1392 dX11_drawn_30 ?_
      refine call_X11_in (pc := 33) k1136 (by decide) ⟨Nat.le_of_ble_eq_true rfl, Nat.le_of_ble_eq_true rfl⟩ (Nat.le_of_ble_eq_true rfl) dX11_drawn_33 ?_
      refine ⟨_, _, _, rfl, ?_⟩
      refine b_if_eq (pc := 36) 49 dX11_drawn_36 (by decide) (fun c36 => ?_) (fun c36 => ?_)
      refine b_ldc (pc := 49) k1140 dX11_drawn_49 ?_
      refine b_iret (pc := 51) rfl dX11_drawn_51 ⟨Nat.le_of_ble_eq_true rfl, Nat.le_of_ble_eq_true rfl⟩ ?_
      rotate_left -- leaf 2: return at 51
      refine b_iloadN (pc := 39) 3 dX11_drawn_39 rfl rfl ?_
      refine b_i2l (pc := 40) dX11_drawn_40 ?_
      refine b_lconst (pc := 41) 0 dX11_drawn_41 (by decide) ?_
      refine b_lconst (pc := 42) 1 dX11_drawn_42 (by decide) ?_
      refine call_X11_in (pc := 43) k1136 (by decide) ⟨Nat.le_of_ble_eq_true rfl, Nat.le_of_ble_eq_true rfl⟩ (Nat.le_of_ble_eq_true rfl) dX11_drawn_43 ?_
      refine ⟨_, _, _, rfl, ?_⟩
      refine b_if_ne (pc := 46) 52 dX11_drawn_46 (by decide) (fun c46 => ?_) (fun c46 => ?_)
      refine b_iloadN (pc := 52) 2 dX11_drawn_52 rfl rfl ?_
      refine b_i2l (pc := 53) dX11_drawn_53 ?_
      refine slG4 (pc := 54) notL_i (by decide) dX11_drawn_54 ?_
      refine b_aloadN (pc := 56) 0 dX11_drawn_56 rfl rfl ?_
      refine gf11_5 (pc := 57) 114 rfl k1047 dX11_drawn_57 ?_
      refine b_iconst (pc := 60) (nI 1) dX11_drawn_60 (by decide) ?_
      refine b_iald (pc := 61) (by decide) ?_ dX11_drawn_61 ?_
      rotate_left -- leaf 3: index at 61
      refine siG6 (pc := 62) notL_n (by decide) dX11_drawn_62 ?_
      refine b_aloadN (pc := 64) 0 dX11_drawn_64 rfl rfl ?_
      refine gf11_5 (pc := 65) 114 rfl k1047 dX11_drawn_65 ?_
      refine b_iconst (pc := 68) (nI 5) dX11_drawn_68 (by decide) ?_
      refine b_iald (pc := 69) (by decide) ?_ dX11_drawn_69 ?_
      rotate_left -- leaf 4: index at 69
      refine siG7 (pc := 70) notL_i (by decide) dX11_drawn_70 ?_
      refine b_iconst (pc := 72) (nI 0) dX11_drawn_72 (by decide) ?_
      refine siG8 (pc := 73) notL_i (by decide) dX11_drawn_73 ?_
      refine b_iconst (pc := 75) (nI 0) dX11_drawn_75 (by decide) ?_
      refine siG9 (pc := 76) notL_i (by decide) dX11_drawn_76 ?_
      rotate_left -- leaf 5: at 78
      refine b_ldc (pc := 49) k1140 dX11_drawn_49 ?_
      refine b_iret (pc := 51) rfl dX11_drawn_51 ⟨Nat.le_of_ble_eq_true rfl, Nat.le_of_ble_eq_true rfl⟩ ?_
      rotate_left -- leaf 6: return at 51
      refine b_ldc (pc := 12) k1275 dX11_drawn_12 ?_
      refine b_iret (pc := 14) rfl dX11_drawn_14 ⟨Nat.le_of_ble_eq_true rfl, Nat.le_of_ble_eq_true rfl⟩ ?_
      rotate_left -- leaf 7: return at 14
      -- leaves: 0 six of X11_isThere at 6; 1 return at 51; 2 return at 51; 3 index at 61; 4 index at 69; 5 at 78; 6 return at 51; 7 return at 14
      · omega
      · rw [inLc 61 rfl (by omega), hok.1] at c24; exact absurd c24 (by decide)
      · rw [inS, if_pos hs3] at c36; exact absurd c36 (by decide)
      · exact n_in (by omega) (by omega)
      · exact n_in (by omega) (by omega)
      · rw [e1, e5, nI_l (by omega)]
        exact loop (N + 1) 0 none none (by omega) (by omega)
      · rw [inLc 2 rfl (by omega), hok.2.2.2] at c46; exact absurd c46 (by decide)
      · have := zT c9; omega
    · rw [if_neg hok] at h
      refine b_aloadN (pc := 0) 0 dX11_drawn_0 rfl rfl ?_
      refine b_iconst (pc := 1) (nI 0) dX11_drawn_1 (by decide) ?_
      refine pf11_0 (pc := 2) k1042 dX11_drawn_2 ?_
      refine b_aloadN (pc := 5) 0 dX11_drawn_5 rfl rfl ?_
      refine call_X11_isThere (pc := 6) k1292 (by decide) ⟨Nat.le_of_ble_eq_true rfl, Nat.le_of_ble_eq_true rfl⟩ (Nat.le_of_ble_eq_true rfl) dX11_drawn_6 ?_
      refine ⟨rfl, _, hC.1 0 (by omega), ?_, ?_⟩
      rotate_left -- leaf 0: six of X11_isThere at 6
      refine b_if_ne (pc := 9) 15 dX11_drawn_9 (by decide) (fun c9 => ?_) (fun c9 => ?_)
      refine b_iloadN (pc := 15) 1 dX11_drawn_15 rfl rfl ?_
      refine b_i2l (pc := 16) dX11_drawn_16 ?_
      refine b_lconst (pc := 17) 0 dX11_drawn_17 (by decide) ?_
      refine b_ldc2 (pc := 18) k1391 dX11_drawn_18 ?_
      refine call_X11_in (pc := 21) k1136 (by decide) ⟨Nat.le_of_ble_eq_true rfl, Nat.le_of_ble_eq_true rfl⟩ (Nat.le_of_ble_eq_true rfl) dX11_drawn_21 ?_
      refine ⟨_, _, _, rfl, ?_⟩
      refine b_if_eq (pc := 24) 49 dX11_drawn_24 (by decide) (fun c24 => ?_) (fun c24 => ?_)
      refine b_ldc (pc := 49) k1140 dX11_drawn_49 ?_
      refine b_iret (pc := 51) rfl dX11_drawn_51 ⟨Nat.le_of_ble_eq_true rfl, Nat.le_of_ble_eq_true rfl⟩ ?_
      rotate_left -- leaf 1: return at 51
      refine b_iloadN (pc := 27) 2 dX11_drawn_27 rfl rfl ?_
      refine b_i2l (pc := 28) dX11_drawn_28 ?_
      refine b_lconst (pc := 29) 1 dX11_drawn_29 (by decide) ?_
      refine b_ldc2 (pc := 30) k1392 dX11_drawn_30 ?_
      refine call_X11_in (pc := 33) k1136 (by decide) ⟨Nat.le_of_ble_eq_true rfl, Nat.le_of_ble_eq_true rfl⟩ (Nat.le_of_ble_eq_true rfl) dX11_drawn_33 ?_
      refine ⟨_, _, _, rfl, ?_⟩
      refine b_if_eq (pc := 36) 49 dX11_drawn_36 (by decide) (fun c36 => ?_) (fun c36 => ?_)
      refine b_ldc (pc := 49) k1140 dX11_drawn_49 ?_
      refine b_iret (pc := 51) rfl dX11_drawn_51 ⟨Nat.le_of_ble_eq_true rfl, Nat.le_of_ble_eq_true rfl⟩ ?_
      rotate_left -- leaf 2: return at 51
      refine b_iloadN (pc := 39) 3 dX11_drawn_39 rfl rfl ?_
      refine b_i2l (pc := 40) dX11_drawn_40 ?_
      refine b_lconst (pc := 41) 0 dX11_drawn_41 (by decide) ?_
      refine b_lconst (pc := 42) 1 dX11_drawn_42 (by decide) ?_
      refine call_X11_in (pc := 43) k1136 (by decide) ⟨Nat.le_of_ble_eq_true rfl, Nat.le_of_ble_eq_true rfl⟩ (Nat.le_of_ble_eq_true rfl) dX11_drawn_43 ?_
      refine ⟨_, _, _, rfl, ?_⟩
      refine b_if_ne (pc := 46) 52 dX11_drawn_46 (by decide) (fun c46 => ?_) (fun c46 => ?_)
      rotate_left -- leaf 3: at 52
      refine b_ldc (pc := 49) k1140 dX11_drawn_49 ?_
      refine b_iret (pc := 51) rfl dX11_drawn_51 ⟨Nat.le_of_ble_eq_true rfl, Nat.le_of_ble_eq_true rfl⟩ ?_
      rotate_left -- leaf 4: return at 51
      refine b_ldc (pc := 12) k1275 dX11_drawn_12 ?_
      refine b_iret (pc := 14) rfl dX11_drawn_14 ⟨Nat.le_of_ble_eq_true rfl, Nat.le_of_ble_eq_true rfl⟩ ?_
      rotate_left -- leaf 5: return at 14
      -- leaves: 0 six of X11_isThere at 6; 1 return at 51; 2 return at 51; 3 at 52; 4 return at 51; 5 return at 14
      · omega
      · exact h
      · exact h
      · rw [inLc 61 rfl (by omega)] at c24
        rw [inS] at c36
        rw [inLc 2 rfl (by omega)] at c46
        have a := bT c24
        have b := bT c36
        have c := bT c46
        rw [Bool.and_eq_true] at b
        exact absurd (by rw [a, b.1, b.2, c]; rfl) hok
      · exact h
      · have := zT c9; omega
theorem call_X11_drawn {E : ME} {Φ : Option AV → AM → Prop} {pc : Nat} {L : List (Option AV)} {st : List AV} {m : AM} {a : Nat × Nat} {idx : Nat} {x0 x1 x2 : AV} {i : Nat} (hl : Cond.methodLink E.2.1 idx yX11_drawn ∈ TB) (hdep : 8 + 1 ≤ E.2.2.2.2.2.2) (hroom : a.1 + 0 ≤ E.2.2.2.2.1 ∧ a.2 + 0 ≤ E.2.2.2.2.2.1) (hsr : st.length ≤ 4) (hd : decode E.1 pc = .ok (.invokevirtual idx, 3)) (hsp : Sp_X11_drawn [vr 11 i, x0, x1, x2] m (fun r m2 => B E Φ (pc + 3) L (r.toList ++ st) m2 a)) : B E Φ pc L (x2 :: x1 :: x0 :: vr 11 i :: st) m a := b_callV S_X11_drawn [x0, x1, x2] (RX11, TX11, 28) rfl rfl (by decide) (Or.inl hl) k1388 k1389 k80 k1390 (show _ ∧ _ ∧ Option.map (fun d => d.parameters.length) (parseMethodDescriptor yX11_drawn.desc) = some 3 from by decide +kernel) ⟨hdep, by decide⟩ hroom hsr hd hsp
