/-! temper, of the class: the call -/
def temC (C : Nat → Nat) (f p r n w : Int32) : Bool := inB f (2 ^ C 0) && (inB p 11 && (inB r 8 && ((inB n 7 && decide (¬ n = nI 0)) && inB w 2)))
theorem nN {n : Int32} {K : Nat} (hK : K < 1000) : (¬ n < nI 1 ∧ n ≤ nI K) ↔ (inB n (K + 1) && decide (¬ n = nI 0)) = true := by
  constructor
  · rintro ⟨a, b⟩
    rw [i_lt, nI_toInt (by omega)] at a
    rw [i_le, nI_toInt (by omega)] at b
    obtain ⟨j, hj, rfl⟩ := nI_of (show ¬ n < 0 by rw [i_lt, i_0]; omega)
    rw [nI_toInt (by omega)] at a b
    have e2 : ¬ nI j = nI 0 := fun z => by rw [n_eq (by omega) (by omega)] at z; omega
    rw [(inB_iff (by omega)).mpr ⟨j, by omega, rfl⟩, decide_eq_true e2]; rfl
  · intro h
    rw [Bool.and_eq_true] at h
    obtain ⟨j, hj, rfl⟩ := (inB_iff (by omega)).mp h.1
    have q2 := of_decide_eq_true h.2
    rw [n_eq (by omega) (by omega)] at q2
    rw [n_lt (by omega) (by omega), n_le (by omega) (by omega)]
    omega
theorem nB {n : Int32} {K : Nat} (hK : K < 1000) : (¬ n < 0 ∧ n ≤ nI K) ↔ inB n (K + 1) = true := by
  rw [inB_iff (by omega)]
  constructor
  · rintro ⟨a, b⟩
    obtain ⟨j, hj, rfl⟩ := nI_of a
    rw [n_le (by omega) (by omega)] at b
    exact ⟨j, by omega, rfl⟩
  · rintro ⟨j, hj, rfl⟩
    rw [n_lt0 (by omega), n_le (by omega) (by omega)]
    exact ⟨id, by omega⟩
abbrev e_X10_temper : ME := (cX10_temper, (RX10, (10, ((some .long), (1, (40, 8))))))
theorem dX10_temper_0 : decode cX10_temper 0 = .ok (.aload_n 0, 1) := by decide +kernel
theorem dX10_temper_1 : decode cX10_temper 1 = .ok (.getfield 26, 3) := by decide +kernel
theorem dX10_temper_4 : decode cX10_temper 4 = .ok (.invokevirtual 189, 3) := by decide +kernel
theorem dX10_temper_7 : decode cX10_temper 7 = .ok (.ifCond .ne 7, 3) := by decide +kernel
theorem dX10_temper_10 : decode cX10_temper 10 = .ok (.ldc2_w 268, 3) := by decide +kernel
theorem dX10_temper_13 : decode cX10_temper 13 = .ok (.lreturn, 1) := by decide +kernel
theorem dX10_temper_14 : decode cX10_temper 14 = .ok (.aload_n 0, 1) := by decide +kernel
theorem dX10_temper_15 : decode cX10_temper 15 = .ok (.getfield 26, 3) := by decide +kernel
theorem dX10_temper_18 : decode cX10_temper 18 = .ok (.getfield 127, 3) := by decide +kernel
theorem dX10_temper_21 : decode cX10_temper 21 = .ok (.iload_n 1, 1) := by decide +kernel
theorem dX10_temper_22 : decode cX10_temper 22 = .ok (.invokevirtual 232, 3) := by decide +kernel
theorem dX10_temper_25 : decode cX10_temper 25 = .ok (.ifCond .eq 41, 3) := by decide +kernel
theorem dX10_temper_28 : decode cX10_temper 28 = .ok (.iload_n 2, 1) := by decide +kernel
theorem dX10_temper_29 : decode cX10_temper 29 = .ok (.ifCond .lt 37, 3) := by decide +kernel
theorem dX10_temper_32 : decode cX10_temper 32 = .ok (.iload_n 2, 1) := by decide +kernel
theorem dX10_temper_33 : decode cX10_temper 33 = .ok (.bipush 10, 2) := by decide +kernel
theorem dX10_temper_35 : decode cX10_temper 35 = .ok (.if_icmp .gt 31, 3) := by decide +kernel
theorem dX10_temper_38 : decode cX10_temper 38 = .ok (.iload_n 3, 1) := by decide +kernel
theorem dX10_temper_39 : decode cX10_temper 39 = .ok (.invokestatic 65, 3) := by decide +kernel
theorem dX10_temper_42 : decode cX10_temper 42 = .ok (.ifCond .eq 24, 3) := by decide +kernel
theorem dX10_temper_45 : decode cX10_temper 45 = .ok (.iload 5, 2) := by decide +kernel
theorem dX10_temper_47 : decode cX10_temper 47 = .ok (.iconst 1, 1) := by decide +kernel
theorem dX10_temper_48 : decode cX10_temper 48 = .ok (.if_icmp .lt 18, 3) := by decide +kernel
theorem dX10_temper_51 : decode cX10_temper 51 = .ok (.iload 5, 2) := by decide +kernel
theorem dX10_temper_53 : decode cX10_temper 53 = .ok (.bipush 6, 2) := by decide +kernel
theorem dX10_temper_55 : decode cX10_temper 55 = .ok (.if_icmp .gt 11, 3) := by decide +kernel
theorem dX10_temper_58 : decode cX10_temper 58 = .ok (.iload 6, 2) := by decide +kernel
theorem dX10_temper_60 : decode cX10_temper 60 = .ok (.invokestatic 180, 3) := by decide +kernel
theorem dX10_temper_63 : decode cX10_temper 63 = .ok (.ifCond .eq 7, 3) := by decide +kernel
theorem dX10_temper_66 : decode cX10_temper 66 = .ok (.ldc2_w 270, 3) := by decide +kernel
theorem dX10_temper_69 : decode cX10_temper 69 = .ok (.lreturn, 1) := by decide +kernel
theorem dX10_temper_70 : decode cX10_temper 70 = .ok (.aload_n 0, 1) := by decide +kernel
theorem dX10_temper_71 : decode cX10_temper 71 = .ok (.getfield 10, 3) := by decide +kernel
theorem dX10_temper_74 : decode cX10_temper 74 = .ok (.iload_n 3, 1) := by decide +kernel
theorem dX10_temper_75 : decode cX10_temper 75 = .ok (.iload 4, 2) := by decide +kernel
theorem dX10_temper_77 : decode cX10_temper 77 = .ok (.iconst 2, 1) := by decide +kernel
theorem dX10_temper_78 : decode cX10_temper 78 = .ok (.iload 5, 2) := by decide +kernel
theorem dX10_temper_80 : decode cX10_temper 80 = .ok (.imul, 1) := by decide +kernel
theorem dX10_temper_81 : decode cX10_temper 81 = .ok (.invokevirtual 81, 3) := by decide +kernel
theorem dX10_temper_84 : decode cX10_temper 84 = .ok (.istore 7, 2) := by decide +kernel
theorem dX10_temper_86 : decode cX10_temper 86 = .ok (.iload 7, 2) := by decide +kernel
theorem dX10_temper_88 : decode cX10_temper 88 = .ok (.ifCond .eq 11, 3) := by decide +kernel
theorem dX10_temper_91 : decode cX10_temper 91 = .ok (.aload_n 0, 1) := by decide +kernel
theorem dX10_temper_92 : decode cX10_temper 92 = .ok (.iload 7, 2) := by decide +kernel
theorem dX10_temper_94 : decode cX10_temper 94 = .ok (.invokevirtual 70, 3) := by decide +kernel
theorem dX10_temper_97 : decode cX10_temper 97 = .ok (.i2l, 1) := by decide +kernel
theorem dX10_temper_98 : decode cX10_temper 98 = .ok (.lreturn, 1) := by decide +kernel
theorem dX10_temper_99 : decode cX10_temper 99 = .ok (.aload_n 0, 1) := by decide +kernel
theorem dX10_temper_100 : decode cX10_temper 100 = .ok (.getfield 10, 3) := by decide +kernel
theorem dX10_temper_103 : decode cX10_temper 103 = .ok (.iload_n 3, 1) := by decide +kernel
theorem dX10_temper_104 : decode cX10_temper 104 = .ok (.iload 4, 2) := by decide +kernel
theorem dX10_temper_106 : decode cX10_temper 106 = .ok (.iconst 2, 1) := by decide +kernel
theorem dX10_temper_107 : decode cX10_temper 107 = .ok (.iload 5, 2) := by decide +kernel
theorem dX10_temper_109 : decode cX10_temper 109 = .ok (.imul, 1) := by decide +kernel
theorem dX10_temper_110 : decode cX10_temper 110 = .ok (.invokevirtual 250, 3) := by decide +kernel
theorem dX10_temper_113 : decode cX10_temper 113 = .ok (.astore 8, 2) := by decide +kernel
theorem dX10_temper_115 : decode cX10_temper 115 = .ok (.iconst 0, 1) := by decide +kernel
theorem dX10_temper_116 : decode cX10_temper 116 = .ok (.istore 9, 2) := by decide +kernel
theorem dX10_temper_118 : decode cX10_temper 118 = .ok (.iload 9, 2) := by decide +kernel
theorem dX10_temper_120 : decode cX10_temper 120 = .ok (.iconst 1, 1) := by decide +kernel
theorem dX10_temper_121 : decode cX10_temper 121 = .ok (.iadd, 1) := by decide +kernel
theorem dX10_temper_122 : decode cX10_temper 122 = .ok (.aload 8, 2) := by decide +kernel
theorem dX10_temper_124 : decode cX10_temper 124 = .ok (.arraylength, 1) := by decide +kernel
theorem dX10_temper_125 : decode cX10_temper 125 = .ok (.if_icmp .ge 51, 3) := by decide +kernel
theorem dX10_temper_128 : decode cX10_temper 128 = .ok (.aload_n 0, 1) := by decide +kernel
theorem dX10_temper_129 : decode cX10_temper 129 = .ok (.getfield 26, 3) := by decide +kernel
theorem dX10_temper_132 : decode cX10_temper 132 = .ok (.getfield 127, 3) := by decide +kernel
theorem dX10_temper_135 : decode cX10_temper 135 = .ok (.aload 8, 2) := by decide +kernel
theorem dX10_temper_137 : decode cX10_temper 137 = .ok (.iload 9, 2) := by decide +kernel
theorem dX10_temper_139 : decode cX10_temper 139 = .ok (.iaload, 1) := by decide +kernel
theorem dX10_temper_140 : decode cX10_temper 140 = .ok (.invokevirtual 147, 3) := by decide +kernel
theorem dX10_temper_143 : decode cX10_temper 143 = .ok (.ifCond .eq 23, 3) := by decide +kernel
theorem dX10_temper_146 : decode cX10_temper 146 = .ok (.aload_n 0, 1) := by decide +kernel
theorem dX10_temper_147 : decode cX10_temper 147 = .ok (.getfield 26, 3) := by decide +kernel
theorem dX10_temper_150 : decode cX10_temper 150 = .ok (.getfield 127, 3) := by decide +kernel
theorem dX10_temper_153 : decode cX10_temper 153 = .ok (.aload 8, 2) := by decide +kernel
theorem dX10_temper_155 : decode cX10_temper 155 = .ok (.iload 9, 2) := by decide +kernel
theorem dX10_temper_157 : decode cX10_temper 157 = .ok (.iconst 1, 1) := by decide +kernel
theorem dX10_temper_158 : decode cX10_temper 158 = .ok (.iadd, 1) := by decide +kernel
theorem dX10_temper_159 : decode cX10_temper 159 = .ok (.iaload, 1) := by decide +kernel
theorem dX10_temper_160 : decode cX10_temper 160 = .ok (.invokevirtual 150, 3) := by decide +kernel
theorem dX10_temper_163 : decode cX10_temper 163 = .ok (.ifCond .ne 7, 3) := by decide +kernel
theorem dX10_temper_166 : decode cX10_temper 166 = .ok (.ldc2_w 270, 3) := by decide +kernel
theorem dX10_temper_169 : decode cX10_temper 169 = .ok (.lreturn, 1) := by decide +kernel
theorem dX10_temper_170 : decode cX10_temper 170 = .ok (.iinc 9 2, 3) := by decide +kernel
theorem dX10_temper_173 : decode cX10_temper 173 = .ok (.goto (-55), 3) := by decide +kernel
theorem dX10_temper_176 : decode cX10_temper 176 = .ok (.aload_n 0, 1) := by decide +kernel
theorem dX10_temper_177 : decode cX10_temper 177 = .ok (.iconst 0, 1) := by decide +kernel
theorem dX10_temper_178 : decode cX10_temper 178 = .ok (.putfield 272, 3) := by decide +kernel
theorem dX10_temper_181 : decode cX10_temper 181 = .ok (.aload_n 0, 1) := by decide +kernel
theorem dX10_temper_182 : decode cX10_temper 182 = .ok (.getfield 53, 3) := by decide +kernel
theorem dX10_temper_185 : decode cX10_temper 185 = .ok (.aload_n 0, 1) := by decide +kernel
theorem dX10_temper_186 : decode cX10_temper 186 = .ok (.getfield 26, 3) := by decide +kernel
theorem dX10_temper_189 : decode cX10_temper 189 = .ok (.iload_n 1, 1) := by decide +kernel
theorem dX10_temper_190 : decode cX10_temper 190 = .ok (.iload_n 2, 1) := by decide +kernel
theorem dX10_temper_191 : decode cX10_temper 191 = .ok (.aload 8, 2) := by decide +kernel
theorem dX10_temper_193 : decode cX10_temper 193 = .ok (.iload 6, 2) := by decide +kernel
theorem dX10_temper_195 : decode cX10_temper 195 = .ok (.invokevirtual 275, 3) := by decide +kernel
theorem dX10_temper_198 : decode cX10_temper 198 = .ok (.lreturn, 1) := by decide +kernel
def Sp_X10_temper (av : List AV) (m : AM) (Φ : Option AV → AM → Prop) : Prop := ∃ f p r i n w, av = [vr 10 0, vi f, vi p, vi r, vi i, vi n, vi w] ∧ ∃ C La Ma It, CR m C ∧ RowR m La Ma It ∧ (C 0 = 0 → Φ (some (vl (-1000002))) m) ∧ (0 < C 0 → temC C f p r n w = false → Φ (some (vl (-1000001))) m) ∧ (0 < C 0 → temC C f p r n w = true → ∀ k, k = lackN La Ma r.toNatClampNeg i (nI (2 * n.toNatClampNeg)) → ¬ k = 0 → Φ (some (vl (-1000010 - nI k).toInt64)) (mset m 0 8 (nI k))) ∧ (0 < C 0 → temC C f p r n w = true → lackN La Ma r.toNatClampNeg i (nI (2 * n.toNatClampNeg)) = 0 → ∀ D, D = (fun j => It r.toNatClampNeg (i.toNatClampNeg + j)) → (¬ planOk C D n.toNatClampNeg → ∀ m2, Xt [] m m2 → Φ (some (vl (-1000001))) m2) ∧ (planOk C D n.toNatClampNeg → ∀ m2, Xt [0, 30] m m2 → BR m2 C → m2.1 0 8 = nI 0 → Φ (some (vl (tempV C D f.toNatClampNeg p.toNatClampNeg n.toNatClampNeg w.toNatClampNeg))) m2))
set_option maxRecDepth 20000 in
set_option maxHeartbeats 4000000 in
theorem S_X10_temper : Snd yX10_temper e_X10_temper Sp_X10_temper := by
  refine Snd.of (by decide +kernel) rfl ?_ ?_
  · rintro av m Φ ⟨f, p, r, i, n, w, rfl, _⟩; exact Nat.le_of_ble_eq_true rfl
  rintro av m Φ ⟨f, p, r, i, n, w, rfl, C, La, Ma, It, hC, hR, h0, h1, h2, h3⟩ hav hty
  show B e_X10_temper Φ 0 [some (vr 10 0), some (vi f), some (vi p), some (vi r), some (vi i), some (vi n), some (vi w), none, none, none] [] m (0, 0)
  have hle := hC.le
  have hpw := hC.pow
  by_cases hcz : C 0 = 0
  · have t := h0 hcz
    refine b_aloadN (pc := 0) 0 dX10_temper_0 rfl rfl ?_
    refine gf10_2 (pc := 1) 20 rfl k417 dX10_temper_1 ?_
    refine call_X2_isOpen (pc := 4) k720 (by decide) ⟨Nat.le_of_ble_eq_true rfl, Nat.le_of_ble_eq_true rfl⟩ (Nat.le_of_ble_eq_true rfl) dX10_temper_4 ?_
    refine ⟨rfl, _, hC.num.1, hC.le.1, ?_⟩
    refine b_if_ne (pc := 7) 14 dX10_temper_7 (by decide) (fun c7 => ?_) (fun c7 => ?_)
    rotate_left -- leaf 0: at 14
    refine b_ldc2 (pc := 10) k925 dX10_temper_10 ?_
    refine b_lret (pc := 13) rfl dX10_temper_13 ⟨Nat.le_of_ble_eq_true rfl, Nat.le_of_ble_eq_true rfl⟩ ?_
    rotate_left -- leaf 1: return at 13
    -- leaves: 0 at 14; 1 return at 13
    · have := zF c7; omega
    · exact t
  by_cases hc : temC C f p r n w = true
  · have hc2 := hc
    unfold temC at hc2
    rw [Bool.and_eq_true, Bool.and_eq_true, Bool.and_eq_true, Bool.and_eq_true] at hc2
    have hn6 := (nN (K := 6) (by omega)).mpr hc2.2.2.2.1
    have hp10 := (nB (K := 10) (by omega)).mpr hc2.2.1
    have hc3 := hc2.2.2.2.1
    rw [Bool.and_eq_true] at hc3
    obtain ⟨F, hF, rfl⟩ := (inB_iff (by omega)).mp hc2.1
    obtain ⟨P, hP, rfl⟩ := (inB_iff (by omega)).mp hc2.2.1
    obtain ⟨r, hr, rfl⟩ := (inB_iff (by omega)).mp hc2.2.2.1
    obtain ⟨N, hN, rfl⟩ := (inB_iff (by omega)).mp hc3.1
    obtain ⟨W, hW, hw⟩ := (inB_iff (by omega)).mp hc2.2.2.2.2
    rw [n_cl (show r < 2147483648 by omega), n_cl (show N < 2147483648 by omega)] at h2 h3
    rw [n_cl (show F < 2147483648 by omega), n_cl (show P < 2147483648 by omega)] at h3
    have hB := hC.op (Or.inl (by omega))
    have hv := hB.1
    have h06 := hv.1
    have h45 := hv.2.2.2.2.1
    have hlk := lackN_lt La Ma r i (nI (2 * N))
    have e2n : nI 2 * nI N = nI (2 * N) := n_mul 2 N
    have no7 : ∀ (z : nI (if C 0 = 0 then 0 else 1) = 0), False := fun z => hcz (zT z)
    have no25 : ∀ (z : nI (if inB (nI F) (2 ^ C 0) = true then 1 else 0) = 0), False := fun z => by rw [hc2.1] at z; exact absurd z (by decide)
    have no42 : ∀ (z : nI (if inB (nI r) 8 = true then 1 else 0) = 0), False := fun z => by rw [hc2.2.2.1] at z; exact absurd z (by decide)
    have no63 : ¬ nI (if inB w 2 = true then 0 else 1) = 0 → False := fun z => by rw [hc2.2.2.2.2] at z; exact z rfl
    by_cases hz : lackN La Ma r i (nI (2 * N)) = 0
    · obtain ⟨hl, hfit⟩ := lackN_0.mp hz
      have ww := (hR r hr).2 hl
      obtain ⟨I, b, hi, hb, hle2⟩ := fit_to ww.2.2.2.1 hfit
      have w40 := ww.2.2.2.1
      rw [n_eq (by omega) (by omega)] at hb
      have h4 := h3 (by omega) hc hz (fun j => It r (I + j)) (by rw [hi, n_cl (by omega)])
      rw [hw, n_cl (by omega)] at h4
      have loop : ∀ m74, NewA m m74 (2 * N) (fun j => It r (I + j)) → ∀ e k o7, N + 1 ≤ k + e → k ≤ N → (∀ j, j < k → inB (It r (I + 2 * j)) (C 4) = true ∧ inB (It r (I + (2 * j + 1))) (2 * C 0) = true) → B e_X10_temper Φ 118 [some (vr 10 0), some (vi (nI F)), some (vi (nI P)), some (vi (nI r)), some (vi i), some (vi (nI N)), some (vi w), o7, some (vr 12 m.2.2.2), some (vi (nI (2 * k)))] [] m74 (0 + 1, 0 + 40) := by
        intro m74 nw e
        have hB2 : BR m74 C := hB.fr (fun a h1 h2 => nw.old hty a (by omega))
        have hlen : m74.2.2.1 m.2.2.2 = 2 * N := nw.2.2.2.1
        have h125 := hty.1
        unfold nS at h125
        induction e with
        | zero => intro k o7 z1 z2; omega
        | succ e ih =>
          intro k o7 z1 z2 z3
          by_cases hk : k < N
          · have er : m74.1 m.2.2.2 (nI (2 * k)).toNatClampNeg = It r (I + 2 * k) := by rw [n_cl (by omega)]; exact nw.2.2.2.2 (2 * k) (by omega)
            have er2 : m74.1 m.2.2.2 (nI (2 * k) + nI 1).toNatClampNeg = It r (I + (2 * k + 1)) := by rw [n_add, n_cl (by omega)]; exact nw.2.2.2.2 (2 * k + 1) (by omega)
            refine b_iloadG (pc := 118) 9 dX10_temper_118 rfl ?_
            refine b_iconst (pc := 120) (nI 1) dX10_temper_120 (by decide) ?_
            refine b_iadd (pc := 121) dX10_temper_121 ?_
            refine b_aloadG (pc := 122) 8 dX10_temper_122 rfl ?_
            refine b_alenD (pc := 124) dX10_temper_124 ?_
            refine b_icmp_ge (pc := 125) 176 dX10_temper_125 (by decide) (fun c125 => ?_) (fun c125 => ?_)
            rotate_left -- leaf 0: at 176
            refine b_aloadN (pc := 128) 0 dX10_temper_128 rfl rfl ?_
            refine gf10_2 (pc := 129) 20 rfl k417 dX10_temper_129 ?_
            refine gf2_0 (pc := 132) 21 rfl k269 dX10_temper_132 ?_
            refine b_aloadG (pc := 135) 8 dX10_temper_135 rfl ?_
            refine b_iloadG (pc := 137) 9 dX10_temper_137 rfl ?_
            refine b_ialdD (pc := 139) ?_ dX10_temper_139 ?_
            rotate_left -- leaf 1: index at 139
            refine call_X5_isPerson (pc := 140) k642 (by decide) ⟨Nat.le_of_ble_eq_true rfl, Nat.le_of_ble_eq_true rfl⟩ (Nat.le_of_ble_eq_true rfl) dX10_temper_140 ?_
            refine ⟨_, rfl, _, hB2.2.1.2.2.2.1, ?_⟩
            refine b_if_eq (pc := 143) 166 dX10_temper_143 (by decide) (fun c143 => ?_) (fun c143 => ?_)
            refine b_ldc2 (pc := 166) k926 dX10_temper_166 ?_
            refine b_lret (pc := 169) rfl dX10_temper_169 ⟨Nat.le_of_ble_eq_true rfl, Nat.le_of_ble_eq_true rfl⟩ ?_
            rotate_left -- leaf 2: return at 169
            refine b_aloadN (pc := 146) 0 dX10_temper_146 rfl rfl ?_
            refine gf10_2 (pc := 147) 20 rfl k417 dX10_temper_147 ?_
            refine gf2_0 (pc := 150) 21 rfl k269 dX10_temper_150 ?_
            refine b_aloadG (pc := 153) 8 dX10_temper_153 rfl ?_
            refine b_iloadG (pc := 155) 9 dX10_temper_155 rfl ?_
            refine b_iconst (pc := 157) (nI 1) dX10_temper_157 (by decide) ?_
            refine b_iadd (pc := 158) dX10_temper_158 ?_
            refine b_ialdD (pc := 159) ?_ dX10_temper_159 ?_
            rotate_left -- leaf 3: index at 159
            refine call_X5_isSaying (pc := 160) k646 (by decide) ⟨Nat.le_of_ble_eq_true rfl, Nat.le_of_ble_eq_true rfl⟩ (Nat.le_of_ble_eq_true rfl) dX10_temper_160 ?_
            refine ⟨_, rfl, _, hB2.2.1.1, ?_⟩
            refine b_if_ne (pc := 163) 170 dX10_temper_163 (by decide) (fun c163 => ?_) (fun c163 => ?_)
            refine inc9 (pc := 170) notL_r (by decide) dX10_temper_170 ?_
            refine b_goto (pc := 173) 118 dX10_temper_173 (by decide) ?_
            rotate_left -- leaf 4: at 118
            refine b_ldc2 (pc := 166) k926 dX10_temper_166 ?_
            refine b_lret (pc := 169) rfl dX10_temper_169 ⟨Nat.le_of_ble_eq_true rfl, Nat.le_of_ble_eq_true rfl⟩ ?_
            rotate_left -- leaf 5: return at 169
            -- leaves: 0 at 176; 1 index at 139; 2 return at 169; 3 index at 159; 4 at 118; 5 return at 169
            · have c125 : nI (m74.2.2.1 m.2.2.2) ≤ nI (2 * k) + nI 1 := c125
              rw [hlen, n_add, n_le (by omega) (by omega)] at c125
              omega
            · rw [hlen]; exact n_in (by omega) (by omega)
            · rw [er] at c143
              exact h4.1 (fun ok => by
                have z := (ok k hk).1
                rw [show inB ((fun j => It r (I + j)) (2 * k)) (C 4) = false from bF c143] at z
                cases z) m74 (Xt.nw nw)
            · rw [hlen, n_add]; exact n_in (by omega) (by omega)
            · rw [er] at c143
              rw [er2] at c163
              rw [n_inc2]
              exact ih (k + 1) _ (by omega) (by omega) (fun j hj => by
                rcases Nat.lt_or_ge j k with z | z
                · exact z3 j z
                · rw [show j = k by omega]; exact ⟨bT c143, bT c163⟩)
            · rw [er2] at c163
              exact h4.1 (fun ok => by
                have z := (ok k hk).2
                rw [show inB ((fun j => It r (I + j)) (2 * k + 1)) (2 * C 0) = false from bF c163] at z
                cases z) m74 (Xt.nw nw)
          · have e : k = N := by omega
            subst e
            have hok : planOk C (fun j => It r (I + j)) k := fun j hj => z3 j hj
            refine b_iloadG (pc := 118) 9 dX10_temper_118 rfl ?_
            refine b_iconst (pc := 120) (nI 1) dX10_temper_120 (by decide) ?_
            refine b_iadd (pc := 121) dX10_temper_121 ?_
            refine b_aloadG (pc := 122) 8 dX10_temper_122 rfl ?_
            refine b_alenD (pc := 124) dX10_temper_124 ?_
            refine b_icmp_ge (pc := 125) 176 dX10_temper_125 (by decide) (fun c125 => ?_) (fun c125 => ?_)
            refine b_aloadN (pc := 176) 0 dX10_temper_176 rfl rfl ?_
            refine b_iconst (pc := 177) (nI 0) dX10_temper_177 (by decide) ?_
            refine pf10_8 (pc := 178) k423 dX10_temper_178 ?_
            refine b_aloadN (pc := 181) 0 dX10_temper_181 rfl rfl ?_
            refine gf10_6 (pc := 182) 103 rfl k421 dX10_temper_182 ?_
            refine b_aloadN (pc := 185) 0 dX10_temper_185 rfl rfl ?_
            refine gf10_2 (pc := 186) 20 rfl k417 dX10_temper_186 ?_
            refine b_iloadN (pc := 189) 1 dX10_temper_189 rfl rfl ?_
            refine b_iloadN (pc := 190) 2 dX10_temper_190 rfl rfl ?_
            refine b_aloadG (pc := 191) 8 dX10_temper_191 rfl ?_
            refine b_iloadG (pc := 193) 6 dX10_temper_193 rfl ?_
            refine call_X3_likelihood (pc := 195) k927 (by decide) ⟨Nat.le_of_ble_eq_true rfl, Nat.le_of_ble_eq_true rfl⟩ (Nat.le_of_ble_eq_true rfl) dX10_temper_195 ?_
            refine ⟨_, _, _, _, rfl, C, (fun j => It r (I + j)), F, P, k, W, hB2.fr (fun a h1 h2 => mset_ne _ _ _ (by omega)), rfl, ?_, rfl, ?_, hw, ?_, ?_, ?_, ?_, ?_, hok, fun m195 h195 => ?_⟩
            rotate_left -- leaf 0: F64 of X3_likelihood at 195
            rotate_left -- leaf 1: p10 of X3_likelihood at 195
            rotate_left -- leaf 2: w1 of X3_likelihood at 195
            rotate_left -- leaf 3: len of X3_likelihood at 195
            rotate_left -- leaf 4: n6 of X3_likelihood at 195
            rotate_left -- leaf 5: j125 of X3_likelihood at 195
            rotate_left -- leaf 6: dat of X3_likelihood at 195
            refine b_lret (pc := 198) rfl dX10_temper_198 ⟨Nat.le_of_ble_eq_true rfl, Nat.le_of_ble_eq_true rfl⟩ ?_
            rotate_left -- leaf 7: return at 198
            rotate_left -- leaf 8: at 128
            -- leaves: 0 F64 of X3_likelihood at 195; 1 p10 of X3_likelihood at 195; 2 w1 of X3_likelihood at 195; 3 len of X3_likelihood at 195; 4 n6 of X3_likelihood at 195; 5 j125 of X3_likelihood at 195; 6 dat of X3_likelihood at 195; 7 return at 198; 8 at 128
            · omega
            · omega
            · omega
            · exact hlen
            · omega
            · omega
            · intro j hj
              rw [mset_ne _ _ _ (by omega)]
              exact nw.2.2.2.2 j hj
            · exact h4.2 hok _ (((Xt.nw nw).tr (Xt.fr ((Fr.rf _ _).ms (by simp)))).tr (Xt.fr (h195.fr.mono (by simp)))) ((hB2.fr (fun a h1 h2 => mset_ne _ _ _ (by omega))).cu h195) (by rw [h195.ne (by decide), mset_at, if_pos rfl])
            · have c125 : ¬ nI (m74.2.2.1 m.2.2.2) ≤ nI (2 * k) + nI 1 := c125
              rw [hlen, n_add, n_le (by omega) (by omega)] at c125
              omega
      refine b_aloadN (pc := 0) 0 dX10_temper_0 rfl rfl ?_
      refine gf10_2 (pc := 1) 20 rfl k417 dX10_temper_1 ?_
      refine call_X2_isOpen (pc := 4) k720 (by decide) ⟨Nat.le_of_ble_eq_true rfl, Nat.le_of_ble_eq_true rfl⟩ (Nat.le_of_ble_eq_true rfl) dX10_temper_4 ?_
      refine ⟨rfl, _, hC.num.1, hC.le.1, ?_⟩
      refine b_if_ne (pc := 7) 14 dX10_temper_7 (by decide) (fun c7 => ?_) (fun c7 => ?_)
      refine b_aloadN (pc := 14) 0 dX10_temper_14 rfl rfl ?_
      refine gf10_2 (pc := 15) 20 rfl k417 dX10_temper_15 ?_
      refine gf2_0 (pc := 18) 21 rfl k269 dX10_temper_18 ?_
      refine b_iloadN (pc := 21) 1 dX10_temper_21 rfl rfl ?_
      refine call_X5_areFacts (pc := 22) k745 (by decide) ⟨Nat.le_of_ble_eq_true rfl, Nat.le_of_ble_eq_true rfl⟩ (Nat.le_of_ble_eq_true rfl) dX10_temper_22 ?_
      refine ⟨_, rfl, _, hC.num.1, hC.le.1, ?_⟩
      refine b_if_eq (pc := 25) 66 dX10_temper_25 (by decide) (fun c25 => ?_) (fun c25 => ?_)
      rotate_left -- leaf 0: at 66
      refine b_iloadN (pc := 28) 2 dX10_temper_28 rfl rfl ?_
      refine b_if_lt (pc := 29) 66 dX10_temper_29 (by decide) (fun c29 => ?_) (fun c29 => ?_)
      rotate_left -- leaf 1: at 66
      refine b_iloadN (pc := 32) 2 dX10_temper_32 rfl rfl ?_
      refine b_bipush (pc := 33) (nI 10) dX10_temper_33 (by decide) ?_
      refine b_icmp_gt (pc := 35) 66 dX10_temper_35 (by decide) (fun c35 => ?_) (fun c35 => ?_)
      rotate_left -- leaf 2: at 66
      refine b_iloadN (pc := 38) 3 dX10_temper_38 rfl rfl ?_
      refine call_X10_isRow (pc := 39) k447 (by decide) ⟨Nat.le_of_ble_eq_true rfl, Nat.le_of_ble_eq_true rfl⟩ (Nat.le_of_ble_eq_true rfl) dX10_temper_39 ?_
      refine ⟨_, rfl, ?_⟩
      refine b_if_eq (pc := 42) 66 dX10_temper_42 (by decide) (fun c42 => ?_) (fun c42 => ?_)
      rotate_left -- leaf 3: at 66
      refine b_iloadG (pc := 45) 5 dX10_temper_45 rfl ?_
      refine b_iconst (pc := 47) (nI 1) dX10_temper_47 (by decide) ?_
      refine b_icmp_lt (pc := 48) 66 dX10_temper_48 (by decide) (fun c48 => ?_) (fun c48 => ?_)
      rotate_left -- leaf 4: at 66
      refine b_iloadG (pc := 51) 5 dX10_temper_51 rfl ?_
      refine b_bipush (pc := 53) (nI 6) dX10_temper_53 (by decide) ?_
      refine b_icmp_gt (pc := 55) 66 dX10_temper_55 (by decide) (fun c55 => ?_) (fun c55 => ?_)
      rotate_left -- leaf 5: at 66
      refine b_iloadG (pc := 58) 6 dX10_temper_58 rfl ?_
      refine call_X10_isNoBit (pc := 60) k709 (by decide) ⟨Nat.le_of_ble_eq_true rfl, Nat.le_of_ble_eq_true rfl⟩ (Nat.le_of_ble_eq_true rfl) dX10_temper_60 ?_
      refine ⟨_, rfl, ?_⟩
      refine b_if_eq (pc := 63) 70 dX10_temper_63 (by decide) (fun c63 => ?_) (fun c63 => ?_)
      refine b_aloadN (pc := 70) 0 dX10_temper_70 rfl rfl ?_
      refine gf10_0 (pc := 71) 1 rfl k415 dX10_temper_71 ?_
      refine b_iloadN (pc := 74) 3 dX10_temper_74 rfl rfl ?_
      refine b_iloadG (pc := 75) 4 dX10_temper_75 rfl ?_
      refine b_iconst (pc := 77) (nI 2) dX10_temper_77 (by decide) ?_
      refine b_iloadG (pc := 78) 5 dX10_temper_78 rfl ?_
      refine b_imul (pc := 80) dX10_temper_80 ?_
      refine call_X6_lack (pc := 81) k468 (by decide) ⟨Nat.le_of_ble_eq_true rfl, Nat.le_of_ble_eq_true rfl⟩ (Nat.le_of_ble_eq_true rfl) dX10_temper_81 ?_
      refine ⟨_, _, _, rfl, La, Ma, It, r, hR, rfl, hr, ?_⟩
      refine siG7 (pc := 84) notL_i (by decide) dX10_temper_84 ?_
      refine b_iloadG (pc := 86) 7 dX10_temper_86 rfl ?_
      refine b_if_eq (pc := 88) 99 dX10_temper_88 (by decide) (fun c88 => ?_) (fun c88 => ?_)
      refine b_aloadN (pc := 99) 0 dX10_temper_99 rfl rfl ?_
      refine gf10_0 (pc := 100) 1 rfl k415 dX10_temper_100 ?_
      refine b_iloadN (pc := 103) 3 dX10_temper_103 rfl rfl ?_
      refine b_iloadG (pc := 104) 4 dX10_temper_104 rfl ?_
      refine b_iconst (pc := 106) (nI 2) dX10_temper_106 (by decide) ?_
      refine b_iloadG (pc := 107) 5 dX10_temper_107 rfl ?_
      refine b_imul (pc := 109) dX10_temper_109 ?_
      refine call_X6_itemsFrom (pc := 110) k862 (by decide) ⟨Nat.le_of_ble_eq_true rfl, Nat.le_of_ble_eq_true rfl⟩ (Nat.le_of_ble_eq_true rfl) dX10_temper_110 ?_
      refine ⟨_, _, _, rfl, La, Ma, It, r, I, 2 * N, hR, rfl, hi, n_mul 2 N, hr, hl, ?_, ?_, fun m110 nw110 => ?_⟩
      rotate_left -- leaf 6: in of X6_itemsFrom at 110
      rotate_left -- leaf 7: many of X6_itemsFrom at 110
      refine saG8 (pc := 113) notL_i (by decide) dX10_temper_113 ?_
      refine b_iconst (pc := 115) (nI 0) dX10_temper_115 (by decide) ?_
      refine siG9 (pc := 116) notL_r (by decide) dX10_temper_116 ?_
      rotate_left -- leaf 8: at 118
      rotate_left -- leaf 9: at 91
      rotate_left -- leaf 10: at 66
      rotate_left -- leaf 11: at 10
      -- leaves: 0 at 66; 1 at 66; 2 at 66; 3 at 66; 4 at 66; 5 at 66; 6 in of X6_itemsFrom at 110; 7 many of X6_itemsFrom at 110; 8 at 118; 9 at 91; 10 at 66; 11 at 10
      · exact (no25 c25).elim
      · exact absurd c29 hp10.1
      · exact absurd hp10.2 (Int32.not_le.mpr c35)
      · exact (no42 c42).elim
      · exact absurd c48 hn6.1
      · exact absurd hn6.2 (Int32.not_le.mpr c55)
      · omega
      · omega
      · exact loop m110 nw110 (N + 1) 0 _ (by omega) (by omega) (fun j hj => absurd hj (Nat.not_lt_zero j))
      · rw [e2n, n_eq0 (by omega)] at c88
        exact absurd hz c88
      · exact (no63 c63).elim
      · exact (no7 c7).elim
    · have bad := h2 (by omega) hc _ rfl hz
      refine b_aloadN (pc := 0) 0 dX10_temper_0 rfl rfl ?_
      refine gf10_2 (pc := 1) 20 rfl k417 dX10_temper_1 ?_
      refine call_X2_isOpen (pc := 4) k720 (by decide) ⟨Nat.le_of_ble_eq_true rfl, Nat.le_of_ble_eq_true rfl⟩ (Nat.le_of_ble_eq_true rfl) dX10_temper_4 ?_
      refine ⟨rfl, _, hC.num.1, hC.le.1, ?_⟩
      refine b_if_ne (pc := 7) 14 dX10_temper_7 (by decide) (fun c7 => ?_) (fun c7 => ?_)
      refine b_aloadN (pc := 14) 0 dX10_temper_14 rfl rfl ?_
      refine gf10_2 (pc := 15) 20 rfl k417 dX10_temper_15 ?_
      refine gf2_0 (pc := 18) 21 rfl k269 dX10_temper_18 ?_
      refine b_iloadN (pc := 21) 1 dX10_temper_21 rfl rfl ?_
      refine call_X5_areFacts (pc := 22) k745 (by decide) ⟨Nat.le_of_ble_eq_true rfl, Nat.le_of_ble_eq_true rfl⟩ (Nat.le_of_ble_eq_true rfl) dX10_temper_22 ?_
      refine ⟨_, rfl, _, hC.num.1, hC.le.1, ?_⟩
      refine b_if_eq (pc := 25) 66 dX10_temper_25 (by decide) (fun c25 => ?_) (fun c25 => ?_)
      rotate_left -- leaf 0: at 66
      refine b_iloadN (pc := 28) 2 dX10_temper_28 rfl rfl ?_
      refine b_if_lt (pc := 29) 66 dX10_temper_29 (by decide) (fun c29 => ?_) (fun c29 => ?_)
      rotate_left -- leaf 1: at 66
      refine b_iloadN (pc := 32) 2 dX10_temper_32 rfl rfl ?_
      refine b_bipush (pc := 33) (nI 10) dX10_temper_33 (by decide) ?_
      refine b_icmp_gt (pc := 35) 66 dX10_temper_35 (by decide) (fun c35 => ?_) (fun c35 => ?_)
      rotate_left -- leaf 2: at 66
      refine b_iloadN (pc := 38) 3 dX10_temper_38 rfl rfl ?_
      refine call_X10_isRow (pc := 39) k447 (by decide) ⟨Nat.le_of_ble_eq_true rfl, Nat.le_of_ble_eq_true rfl⟩ (Nat.le_of_ble_eq_true rfl) dX10_temper_39 ?_
      refine ⟨_, rfl, ?_⟩
      refine b_if_eq (pc := 42) 66 dX10_temper_42 (by decide) (fun c42 => ?_) (fun c42 => ?_)
      rotate_left -- leaf 3: at 66
      refine b_iloadG (pc := 45) 5 dX10_temper_45 rfl ?_
      refine b_iconst (pc := 47) (nI 1) dX10_temper_47 (by decide) ?_
      refine b_icmp_lt (pc := 48) 66 dX10_temper_48 (by decide) (fun c48 => ?_) (fun c48 => ?_)
      rotate_left -- leaf 4: at 66
      refine b_iloadG (pc := 51) 5 dX10_temper_51 rfl ?_
      refine b_bipush (pc := 53) (nI 6) dX10_temper_53 (by decide) ?_
      refine b_icmp_gt (pc := 55) 66 dX10_temper_55 (by decide) (fun c55 => ?_) (fun c55 => ?_)
      rotate_left -- leaf 5: at 66
      refine b_iloadG (pc := 58) 6 dX10_temper_58 rfl ?_
      refine call_X10_isNoBit (pc := 60) k709 (by decide) ⟨Nat.le_of_ble_eq_true rfl, Nat.le_of_ble_eq_true rfl⟩ (Nat.le_of_ble_eq_true rfl) dX10_temper_60 ?_
      refine ⟨_, rfl, ?_⟩
      refine b_if_eq (pc := 63) 70 dX10_temper_63 (by decide) (fun c63 => ?_) (fun c63 => ?_)
      refine b_aloadN (pc := 70) 0 dX10_temper_70 rfl rfl ?_
      refine gf10_0 (pc := 71) 1 rfl k415 dX10_temper_71 ?_
      refine b_iloadN (pc := 74) 3 dX10_temper_74 rfl rfl ?_
      refine b_iloadG (pc := 75) 4 dX10_temper_75 rfl ?_
      refine b_iconst (pc := 77) (nI 2) dX10_temper_77 (by decide) ?_
      refine b_iloadG (pc := 78) 5 dX10_temper_78 rfl ?_
      refine b_imul (pc := 80) dX10_temper_80 ?_
      refine call_X6_lack (pc := 81) k468 (by decide) ⟨Nat.le_of_ble_eq_true rfl, Nat.le_of_ble_eq_true rfl⟩ (Nat.le_of_ble_eq_true rfl) dX10_temper_81 ?_
      refine ⟨_, _, _, rfl, La, Ma, It, r, hR, rfl, hr, ?_⟩
      refine siG7 (pc := 84) notL_i (by decide) dX10_temper_84 ?_
      refine b_iloadG (pc := 86) 7 dX10_temper_86 rfl ?_
      refine b_if_eq (pc := 88) 99 dX10_temper_88 (by decide) (fun c88 => ?_) (fun c88 => ?_)
      rotate_left -- leaf 6: at 99
      refine b_aloadN (pc := 91) 0 dX10_temper_91 rfl rfl ?_
      refine b_iloadG (pc := 92) 7 dX10_temper_92 rfl ?_
      refine call_X10_found (pc := 94) k451 (by decide) ⟨Nat.le_of_ble_eq_true rfl, Nat.le_of_ble_eq_true rfl⟩ (Nat.le_of_ble_eq_true rfl) dX10_temper_94 ?_
      refine ⟨_, rfl, ?_⟩
      refine b_i2l (pc := 97) dX10_temper_97 ?_
      refine b_lret (pc := 98) rfl dX10_temper_98 ⟨Nat.le_of_ble_eq_true rfl, Nat.le_of_ble_eq_true rfl⟩ ?_
      rotate_left -- leaf 7: return at 98
      rotate_left -- leaf 8: at 66
      rotate_left -- leaf 9: at 10
      -- leaves: 0 at 66; 1 at 66; 2 at 66; 3 at 66; 4 at 66; 5 at 66; 6 at 99; 7 return at 98; 8 at 66; 9 at 10
      · exact (no25 c25).elim
      · exact absurd c29 hp10.1
      · exact absurd hp10.2 (Int32.not_le.mpr c35)
      · exact (no42 c42).elim
      · exact absurd c48 hn6.1
      · exact absurd hn6.2 (Int32.not_le.mpr c55)
      · rw [e2n, n_eq0 (by omega)] at c88
        exact absurd c88 hz
      · rw [e2n]; exact bad
      · exact (no63 c63).elim
      · exact (no7 c7).elim
  · have e : temC C f p r n w = false := by
      cases q : temC C f p r n w
      · rfl
      · exact absurd q hc
    have bad := h1 (by omega) e
    refine b_aloadN (pc := 0) 0 dX10_temper_0 rfl rfl ?_
    refine gf10_2 (pc := 1) 20 rfl k417 dX10_temper_1 ?_
    refine call_X2_isOpen (pc := 4) k720 (by decide) ⟨Nat.le_of_ble_eq_true rfl, Nat.le_of_ble_eq_true rfl⟩ (Nat.le_of_ble_eq_true rfl) dX10_temper_4 ?_
    refine ⟨rfl, _, hC.num.1, hC.le.1, ?_⟩
    refine b_if_ne (pc := 7) 14 dX10_temper_7 (by decide) (fun c7 => ?_) (fun c7 => ?_)
    refine b_aloadN (pc := 14) 0 dX10_temper_14 rfl rfl ?_
    refine gf10_2 (pc := 15) 20 rfl k417 dX10_temper_15 ?_
    refine gf2_0 (pc := 18) 21 rfl k269 dX10_temper_18 ?_
    refine b_iloadN (pc := 21) 1 dX10_temper_21 rfl rfl ?_
    refine call_X5_areFacts (pc := 22) k745 (by decide) ⟨Nat.le_of_ble_eq_true rfl, Nat.le_of_ble_eq_true rfl⟩ (Nat.le_of_ble_eq_true rfl) dX10_temper_22 ?_
    refine ⟨_, rfl, _, hC.num.1, hC.le.1, ?_⟩
    refine b_if_eq (pc := 25) 66 dX10_temper_25 (by decide) (fun c25 => ?_) (fun c25 => ?_)
    refine b_ldc2 (pc := 66) k926 dX10_temper_66 ?_
    refine b_lret (pc := 69) rfl dX10_temper_69 ⟨Nat.le_of_ble_eq_true rfl, Nat.le_of_ble_eq_true rfl⟩ ?_
    rotate_left -- leaf 0: return at 69
    refine b_iloadN (pc := 28) 2 dX10_temper_28 rfl rfl ?_
    refine b_if_lt (pc := 29) 66 dX10_temper_29 (by decide) (fun c29 => ?_) (fun c29 => ?_)
    refine b_ldc2 (pc := 66) k926 dX10_temper_66 ?_
    refine b_lret (pc := 69) rfl dX10_temper_69 ⟨Nat.le_of_ble_eq_true rfl, Nat.le_of_ble_eq_true rfl⟩ ?_
    rotate_left -- leaf 1: return at 69
    refine b_iloadN (pc := 32) 2 dX10_temper_32 rfl rfl ?_
    refine b_bipush (pc := 33) (nI 10) dX10_temper_33 (by decide) ?_
    refine b_icmp_gt (pc := 35) 66 dX10_temper_35 (by decide) (fun c35 => ?_) (fun c35 => ?_)
    refine b_ldc2 (pc := 66) k926 dX10_temper_66 ?_
    refine b_lret (pc := 69) rfl dX10_temper_69 ⟨Nat.le_of_ble_eq_true rfl, Nat.le_of_ble_eq_true rfl⟩ ?_
    rotate_left -- leaf 2: return at 69
    refine b_iloadN (pc := 38) 3 dX10_temper_38 rfl rfl ?_
    refine call_X10_isRow (pc := 39) k447 (by decide) ⟨Nat.le_of_ble_eq_true rfl, Nat.le_of_ble_eq_true rfl⟩ (Nat.le_of_ble_eq_true rfl) dX10_temper_39 ?_
    refine ⟨_, rfl, ?_⟩
    refine b_if_eq (pc := 42) 66 dX10_temper_42 (by decide) (fun c42 => ?_) (fun c42 => ?_)
    refine b_ldc2 (pc := 66) k926 dX10_temper_66 ?_
    refine b_lret (pc := 69) rfl dX10_temper_69 ⟨Nat.le_of_ble_eq_true rfl, Nat.le_of_ble_eq_true rfl⟩ ?_
    rotate_left -- leaf 3: return at 69
    refine b_iloadG (pc := 45) 5 dX10_temper_45 rfl ?_
    refine b_iconst (pc := 47) (nI 1) dX10_temper_47 (by decide) ?_
    refine b_icmp_lt (pc := 48) 66 dX10_temper_48 (by decide) (fun c48 => ?_) (fun c48 => ?_)
    refine b_ldc2 (pc := 66) k926 dX10_temper_66 ?_
    refine b_lret (pc := 69) rfl dX10_temper_69 ⟨Nat.le_of_ble_eq_true rfl, Nat.le_of_ble_eq_true rfl⟩ ?_
    rotate_left -- leaf 4: return at 69
    refine b_iloadG (pc := 51) 5 dX10_temper_51 rfl ?_
    refine b_bipush (pc := 53) (nI 6) dX10_temper_53 (by decide) ?_
    refine b_icmp_gt (pc := 55) 66 dX10_temper_55 (by decide) (fun c55 => ?_) (fun c55 => ?_)
    refine b_ldc2 (pc := 66) k926 dX10_temper_66 ?_
    refine b_lret (pc := 69) rfl dX10_temper_69 ⟨Nat.le_of_ble_eq_true rfl, Nat.le_of_ble_eq_true rfl⟩ ?_
    rotate_left -- leaf 5: return at 69
    refine b_iloadG (pc := 58) 6 dX10_temper_58 rfl ?_
    refine call_X10_isNoBit (pc := 60) k709 (by decide) ⟨Nat.le_of_ble_eq_true rfl, Nat.le_of_ble_eq_true rfl⟩ (Nat.le_of_ble_eq_true rfl) dX10_temper_60 ?_
    refine ⟨_, rfl, ?_⟩
    refine b_if_eq (pc := 63) 70 dX10_temper_63 (by decide) (fun c63 => ?_) (fun c63 => ?_)
    rotate_left -- leaf 6: at 70
    refine b_ldc2 (pc := 66) k926 dX10_temper_66 ?_
    refine b_lret (pc := 69) rfl dX10_temper_69 ⟨Nat.le_of_ble_eq_true rfl, Nat.le_of_ble_eq_true rfl⟩ ?_
    rotate_left -- leaf 7: return at 69
    rotate_left -- leaf 8: at 10
    -- leaves: 0 return at 69; 1 return at 69; 2 return at 69; 3 return at 69; 4 return at 69; 5 return at 69; 6 at 70; 7 return at 69; 8 at 10
    · exact bad
    · exact bad
    · exact bad
    · exact bad
    · exact bad
    · exact bad
    · exact absurd (by unfold temC; rw [bT c25, (nB (K := 10) (by omega)).mp ⟨c29, Int32.not_lt.mp c35⟩, bT c42, (nN (K := 6) (by omega)).mp ⟨c48, Int32.not_lt.mp c55⟩, dT c63]; rfl) hc
    · exact bad
    · exact absurd (zT c7) hcz
theorem call_X10_temper {E : ME} {Φ : Option AV → AM → Prop} {pc : Nat} {L : List (Option AV)} {st : List AV} {m : AM} {a : Nat × Nat} {idx : Nat} {x0 x1 x2 x3 x4 x5 : AV} {i : Nat} (hl : Cond.methodLink E.2.1 idx yX10_temper ∈ TB) (hdep : 8 + 1 ≤ E.2.2.2.2.2.2) (hroom : a.1 + 1 ≤ E.2.2.2.2.1 ∧ a.2 + 40 ≤ E.2.2.2.2.2.1) (hsr : st.length ≤ 4) (hd : decode E.1 pc = .ok (.invokevirtual idx, 3)) (hsp : Sp_X10_temper [vr 10 i, x0, x1, x2, x3, x4, x5] m (fun r m2 => B E Φ (pc + 3) L (r.toList ++ st) m2 (a.1 + 1, a.2 + 40))) : B E Φ pc L (x5 :: x4 :: x3 :: x2 :: x1 :: x0 :: vr 10 i :: st) m a := b_callV S_X10_temper [x0, x1, x2, x3, x4, x5] (RX10, TX10, 9) rfl rfl (by decide) (Or.inl hl) k922 k923 k68 k924 (show _ ∧ _ ∧ Option.map (fun d => d.parameters.length) (parseMethodDescriptor yX10_temper.desc) = some 6 from by decide +kernel) ⟨hdep, by decide⟩ hroom hsr hd hsp
