/-! ever of the reference -/
def anyS (lab : Nat → Option (Nat × Nat)) (so : Nat) : Nat → Bool
  | 0 => false
  | k + 1 => anyS lab so k || (lab (64 * k + so)).isSome
theorem anyS_iff (lab : Nat → Option (Nat × Nat)) (so : Nat) : ∀ n, anyS lab so n = true ↔ ∃ d, d < n ∧ (lab (64 * d + so)).isSome = true
  | 0 => by
    constructor
    · intro h; cases h
    · rintro ⟨d, h, -⟩; omega
  | n + 1 => by
    have ih := anyS_iff lab so n
    unfold anyS
    rw [Bool.or_eq_true, ih]
    constructor
    · rintro (⟨d, a, b⟩ | h)
      · exact ⟨d, by omega, b⟩
      · exact ⟨n, by omega, h⟩
    · rintro ⟨d, a, b⟩
      by_cases q : d = n
      · subst q; exact Or.inr b
      · exact Or.inl ⟨d, by omega, b⟩
def rsL (lab : Nat → Option (Nat × Nat)) (c1 so : Nat) : Bool := decide (so = c1) || anyS lab so 64
theorem rsL_iff {C : Nat → Nat} (hv : VC C) {m : AM} {lab : Nat → Option (Nat × Nat)} (hR : FarR m C 0 lab) (so : Nat) (hso : so < 64) : rsL lab (C 1) so = true ↔ RchP C so := by
  unfold rsL RchP
  rw [Bool.or_eq_true, decide_eq_true_eq, anyS_iff]
  constructor
  · rintro (h | ⟨d, a, b⟩)
    · exact Or.inl h
    · cases e : lab (64 * d + so) with
      | none => rw [e] at b; cases b
      | some x =>
        obtain ⟨k, hk⟩ := hR.2.2.1 _ x e
        rw [show (64 * d + so) % 64 = so by omega] at hk
        exact Or.inr ⟨k, _, _, _, hk⟩
  · rintro (h | ⟨n, d, c, f, h⟩)
    · exact Or.inl h
    · have ok := (Wk_ok hv _ _ _ _ _ h).2.1
      obtain ⟨y, hy, -⟩ := hR.2.2.2 n so d c f h
      exact Or.inr ⟨d, ok, by rw [hy]; rfl⟩
abbrev e_X11_ever : ME := (cX11_ever, (RX11, (7, ((some .int), (0, (0, 8))))))
theorem dX11_ever_0 : decode cX11_ever 0 = .ok (.aload_n 0, 1) := by decide +kernel
theorem dX11_ever_1 : decode cX11_ever 1 = .ok (.iconst 0, 1) := by decide +kernel
theorem dX11_ever_2 : decode cX11_ever 2 = .ok (.putfield 53, 3) := by decide +kernel
theorem dX11_ever_5 : decode cX11_ever 5 = .ok (.aload_n 0, 1) := by decide +kernel
theorem dX11_ever_6 : decode cX11_ever 6 = .ok (.invokevirtual 199, 3) := by decide +kernel
theorem dX11_ever_9 : decode cX11_ever 9 = .ok (.ifCond .ne 6, 3) := by decide +kernel
theorem dX11_ever_12 : decode cX11_ever 12 = .ok (.ldc 195, 2) := by decide +kernel
theorem dX11_ever_14 : decode cX11_ever 14 = .ok (.ireturn, 1) := by decide +kernel
theorem dX11_ever_15 : decode cX11_ever 15 = .ok (.iload_n 1, 1) := by decide +kernel
theorem dX11_ever_16 : decode cX11_ever 16 = .ok (.i2l, 1) := by decide +kernel
theorem dX11_ever_17 : decode cX11_ever 17 = .ok (.lconst 0, 1) := by decide +kernel
theorem dX11_ever_18 : decode cX11_ever 18 = .ok (.lconst 1, 1) := by decide +kernel
theorem dX11_ever_19 : decode cX11_ever 19 = .ok (.invokestatic 63, 3) := by decide +kernel
theorem dX11_ever_22 : decode cX11_ever 22 = .ok (.ifCond .ne 6, 3) := by decide +kernel
theorem dX11_ever_25 : decode cX11_ever 25 = .ok (.ldc 73, 2) := by decide +kernel
theorem dX11_ever_27 : decode cX11_ever 27 = .ok (.ireturn, 1) := by decide +kernel
theorem dX11_ever_28 : decode cX11_ever 28 = .ok (.aload_n 0, 1) := by decide +kernel
theorem dX11_ever_29 : decode cX11_ever 29 = .ok (.iconst 0, 1) := by decide +kernel
theorem dX11_ever_30 : decode cX11_ever 30 = .ok (.invokevirtual 227, 3) := by decide +kernel
theorem dX11_ever_33 : decode cX11_ever 33 = .ok (.iconst 0, 1) := by decide +kernel
theorem dX11_ever_34 : decode cX11_ever 34 = .ok (.istore_n 2, 1) := by decide +kernel
theorem dX11_ever_35 : decode cX11_ever 35 = .ok (.iconst 0, 1) := by decide +kernel
theorem dX11_ever_36 : decode cX11_ever 36 = .ok (.istore_n 3, 1) := by decide +kernel
theorem dX11_ever_37 : decode cX11_ever 37 = .ok (.iconst 0, 1) := by decide +kernel
theorem dX11_ever_38 : decode cX11_ever 38 = .ok (.istore 4, 2) := by decide +kernel
theorem dX11_ever_40 : decode cX11_ever 40 = .ok (.iload 4, 2) := by decide +kernel
theorem dX11_ever_42 : decode cX11_ever 42 = .ok (.bipush 64, 2) := by decide +kernel
theorem dX11_ever_44 : decode cX11_ever 44 = .ok (.if_icmp .ge 100, 3) := by decide +kernel
theorem dX11_ever_47 : decode cX11_ever 47 = .ok (.iload 4, 2) := by decide +kernel
theorem dX11_ever_49 : decode cX11_ever 49 = .ok (.aload_n 0, 1) := by decide +kernel
theorem dX11_ever_50 : decode cX11_ever 50 = .ok (.getfield 19, 3) := by decide +kernel
theorem dX11_ever_53 : decode cX11_ever 53 = .ok (.iconst 1, 1) := by decide +kernel
theorem dX11_ever_54 : decode cX11_ever 54 = .ok (.iaload, 1) := by decide +kernel
theorem dX11_ever_55 : decode cX11_ever 55 = .ok (.if_icmp .ne 7, 3) := by decide +kernel
theorem dX11_ever_58 : decode cX11_ever 58 = .ok (.iconst 1, 1) := by decide +kernel
theorem dX11_ever_59 : decode cX11_ever 59 = .ok (.goto 4, 3) := by decide +kernel
theorem dX11_ever_62 : decode cX11_ever 62 = .ok (.iconst 0, 1) := by decide +kernel
theorem dX11_ever_63 : decode cX11_ever 63 = .ok (.istore 5, 2) := by decide +kernel
theorem dX11_ever_65 : decode cX11_ever 65 = .ok (.iconst 0, 1) := by decide +kernel
theorem dX11_ever_66 : decode cX11_ever 66 = .ok (.istore 6, 2) := by decide +kernel
theorem dX11_ever_68 : decode cX11_ever 68 = .ok (.iload 6, 2) := by decide +kernel
theorem dX11_ever_70 : decode cX11_ever 70 = .ok (.bipush 64, 2) := by decide +kernel
theorem dX11_ever_72 : decode cX11_ever 72 = .ok (.if_icmp .ge 39, 3) := by decide +kernel
theorem dX11_ever_75 : decode cX11_ever 75 = .ok (.iload 5, 2) := by decide +kernel
theorem dX11_ever_77 : decode cX11_ever 77 = .ok (.ifCond .ne 21, 3) := by decide +kernel
theorem dX11_ever_80 : decode cX11_ever 80 = .ok (.aload_n 0, 1) := by decide +kernel
theorem dX11_ever_81 : decode cX11_ever 81 = .ok (.getfield 31, 3) := by decide +kernel
theorem dX11_ever_84 : decode cX11_ever 84 = .ok (.bipush 64, 2) := by decide +kernel
theorem dX11_ever_86 : decode cX11_ever 86 = .ok (.iload 6, 2) := by decide +kernel
theorem dX11_ever_88 : decode cX11_ever 88 = .ok (.imul, 1) := by decide +kernel
theorem dX11_ever_89 : decode cX11_ever 89 = .ok (.iload 4, 2) := by decide +kernel
theorem dX11_ever_91 : decode cX11_ever 91 = .ok (.iadd, 1) := by decide +kernel
theorem dX11_ever_92 : decode cX11_ever 92 = .ok (.iaload, 1) := by decide +kernel
theorem dX11_ever_93 : decode cX11_ever 93 = .ok (.ldc 96, 2) := by decide +kernel
theorem dX11_ever_95 : decode cX11_ever 95 = .ok (.if_icmp .eq 7, 3) := by decide +kernel
theorem dX11_ever_98 : decode cX11_ever 98 = .ok (.iconst 1, 1) := by decide +kernel
theorem dX11_ever_99 : decode cX11_ever 99 = .ok (.goto 4, 3) := by decide +kernel
theorem dX11_ever_102 : decode cX11_ever 102 = .ok (.iconst 0, 1) := by decide +kernel
theorem dX11_ever_103 : decode cX11_ever 103 = .ok (.istore 5, 2) := by decide +kernel
theorem dX11_ever_105 : decode cX11_ever 105 = .ok (.iinc 6 1, 3) := by decide +kernel
theorem dX11_ever_108 : decode cX11_ever 108 = .ok (.goto (-40), 3) := by decide +kernel
theorem dX11_ever_111 : decode cX11_ever 111 = .ok (.iload_n 2, 1) := by decide +kernel
theorem dX11_ever_112 : decode cX11_ever 112 = .ok (.iload 5, 2) := by decide +kernel
theorem dX11_ever_114 : decode cX11_ever 114 = .ok (.ifCond .eq 8, 3) := by decide +kernel
theorem dX11_ever_117 : decode cX11_ever 117 = .ok (.iload 4, 2) := by decide +kernel
theorem dX11_ever_119 : decode cX11_ever 119 = .ok (.goto 4, 3) := by decide +kernel
theorem dX11_ever_122 : decode cX11_ever 122 = .ok (.iconst 0, 1) := by decide +kernel
theorem dX11_ever_123 : decode cX11_ever 123 = .ok (.ior, 1) := by decide +kernel
theorem dX11_ever_124 : decode cX11_ever 124 = .ok (.istore_n 2, 1) := by decide +kernel
theorem dX11_ever_125 : decode cX11_ever 125 = .ok (.iload_n 3, 1) := by decide +kernel
theorem dX11_ever_126 : decode cX11_ever 126 = .ok (.iload 5, 2) := by decide +kernel
theorem dX11_ever_128 : decode cX11_ever 128 = .ok (.ifCond .eq 7, 3) := by decide +kernel
theorem dX11_ever_131 : decode cX11_ever 131 = .ok (.iconst 1, 1) := by decide +kernel
theorem dX11_ever_132 : decode cX11_ever 132 = .ok (.goto 4, 3) := by decide +kernel
theorem dX11_ever_135 : decode cX11_ever 135 = .ok (.iconst 0, 1) := by decide +kernel
theorem dX11_ever_136 : decode cX11_ever 136 = .ok (.iadd, 1) := by decide +kernel
theorem dX11_ever_137 : decode cX11_ever 137 = .ok (.istore_n 3, 1) := by decide +kernel
theorem dX11_ever_138 : decode cX11_ever 138 = .ok (.iinc 4 1, 3) := by decide +kernel
theorem dX11_ever_141 : decode cX11_ever 141 = .ok (.goto (-101), 3) := by decide +kernel
theorem dX11_ever_144 : decode cX11_ever 144 = .ok (.iload_n 1, 1) := by decide +kernel
theorem dX11_ever_145 : decode cX11_ever 145 = .ok (.ifCond .ne 7, 3) := by decide +kernel
theorem dX11_ever_148 : decode cX11_ever 148 = .ok (.iload_n 2, 1) := by decide +kernel
theorem dX11_ever_149 : decode cX11_ever 149 = .ok (.goto 4, 3) := by decide +kernel
theorem dX11_ever_152 : decode cX11_ever 152 = .ok (.iload_n 3, 1) := by decide +kernel
theorem dX11_ever_153 : decode cX11_ever 153 = .ok (.ireturn, 1) := by decide +kernel
def Sp_X11_ever (av : List AV) (m : AM) (Φ : Option AV → AM → Prop) : Prop := ∃ x, av = [vr 11 110, vi x] ∧ ∃ C, MCo m C ∧ (C 0 = 0 → ∀ m2, Fm [] [0] m m2 → Φ (some (vi (-1000002))) m2) ∧ (0 < C 0 → inB x 2 = false → ∀ m2, Fm [] [0] m m2 → Φ (some (vi (-1000001))) m2) ∧ (∀ w, x = nI w → w < 2 → 0 < C 0 → ∀ m2 rs, Fm [118, 119, 120, 121] [0, 22, 23] m m2 → (∀ so, so < 64 → (rs so = true ↔ RchP C so)) → Φ (some (vi (if w = 0 then nI (orS rs 64) else nI (cntS rs 64)))) m2)
set_option maxRecDepth 20000 in
set_option maxHeartbeats 4000000 in
theorem S_X11_ever : Snd yX11_ever e_X11_ever Sp_X11_ever := by
  refine Snd.of (by decide +kernel) rfl ?_ ?_
  · rintro av m Φ ⟨x, rfl, _⟩; exact Nat.le_of_ble_eq_true rfl
  rintro av m Φ ⟨x, rfl, C, hC, h1, h2, h3⟩ hav hty
  show B e_X11_ever Φ 0 [some (vr 11 110), some (vi x), none, none, none, none, none] [] m (0, 0)
  have hle := hC.le
  have hC2 : MCo (mset m 110 0 (nI 0)) C := ⟨MC.ms hC.1 (by decide), hC.2⟩
  have f0 : Fm [] [0] m (mset m 110 0 (nI 0)) := (Fm.rf _ _ m).m0 (by simp)
  by_cases h0 : C 0 = 0
  · have t := h1 h0 _ f0
    refine b_aloadN (pc := 0) 0 dX11_ever_0 rfl rfl ?_
    refine b_iconst (pc := 1) (nI 0) dX11_ever_1 (by decide) ?_
    refine pf11_0 (pc := 2) k1042 dX11_ever_2 ?_
    refine b_aloadN (pc := 5) 0 dX11_ever_5 rfl rfl ?_
    refine call_X11_isThere (pc := 6) k1292 (by decide) ⟨Nat.le_of_ble_eq_true rfl, Nat.le_of_ble_eq_true rfl⟩ (Nat.le_of_ble_eq_true rfl) dX11_ever_6 ?_
    refine ⟨rfl, _, hC.1 0 (by omega), ?_, ?_⟩
    rotate_left -- leaf 0: six of X11_isThere at 6
    refine b_if_ne (pc := 9) 15 dX11_ever_9 (by decide) (fun c9 => ?_) (fun c9 => ?_)
    rotate_left -- leaf 1: at 15
    refine b_ldc (pc := 12) k1275 dX11_ever_12 ?_
    refine b_iret (pc := 14) rfl dX11_ever_14 ⟨Nat.le_of_ble_eq_true rfl, Nat.le_of_ble_eq_true rfl⟩ ?_
    rotate_left -- leaf 2: return at 14
    -- leaves: 0 six of X11_isThere at 6; 1 at 15; 2 return at 14
    · exact hle.1
    · have := zF c9; omega
    · exact t
  by_cases hx : inB x 2 = true
  · obtain ⟨w, hw, rfl⟩ := (inB_iff (by omega)).mp hx
    have hv := hC.op (Or.inl (by omega))
    have c1 := hv.c1
    have h4 := h3 w rfl hw (by omega)
    have main : ∀ M lab, FarR M C 0 lab → MC M C → (∀ rs, (∀ so, so < 64 → (rs so = true ↔ RchP C so)) → Φ (some (vi (if w = 0 then nI (orS rs 64) else nI (cntS rs 64)))) M) → ∀ e so o5 o6, 65 ≤ so + e → so ≤ 64 → B e_X11_ever Φ 40 [some (vr 11 110), some (vi (nI w)), some (vi (nI (orS (rsL lab (C 1)) so))), some (vi (nI (cntS (rsL lab (C 1)) so))), some (vi (nI so)), o5, o6] [] M (0, 0) := by
      intro M lab hR hM h e
      have k1 := hM 1 (by omega)
      induction e with
      | zero => intro so o5 o6 z1 z2; omega
      | succ e ih =>
        intro so o5 o6 z1 z2
        by_cases hs : so < 64
        · have m111 : ∀ o6, B e_X11_ever Φ 111 [some (vr 11 110), some (vi (nI w)), some (vi (nI (orS (rsL lab (C 1)) so))), some (vi (nI (cntS (rsL lab (C 1)) so))), some (vi (nI so)), some (vi (nI (if rsL lab (C 1) so = true then 1 else 0))), o6] [] M (0, 0) := by
            intro o6
            have nx := ih (so + 1)
            have e1 : orS (rsL lab (C 1)) (so + 1) = if rsL lab (C 1) so = true then orS (rsL lab (C 1)) so ||| so else orS (rsL lab (C 1)) so := rfl
            have e2 : cntS (rsL lab (C 1)) (so + 1) = cntS (rsL lab (C 1)) so + if rsL lab (C 1) so = true then 1 else 0 := rfl
            rw [e1, e2] at nx
            cases er : rsL lab (C 1) so with
            | false =>
              rw [er, if_neg (by decide), if_neg (by decide)] at nx
              refine b_iloadN (pc := 111) 2 dX11_ever_111 rfl rfl ?_
              refine b_iloadG (pc := 112) 5 dX11_ever_112 rfl ?_
              refine b_if_eq (pc := 114) 122 dX11_ever_114 (by decide) (fun c114 => ?_) (fun c114 => ?_)
              refine b_iconst (pc := 122) (nI 0) dX11_ever_122 (by decide) ?_
              refine b_ior (pc := 123) dX11_ever_123 ?_
              refine siN2 (pc := 124) rfl notL_i (by decide) dX11_ever_124 ?_
              refine b_iloadN (pc := 125) 3 dX11_ever_125 rfl rfl ?_
              refine b_iloadG (pc := 126) 5 dX11_ever_126 rfl ?_
              refine b_if_eq (pc := 128) 135 dX11_ever_128 (by decide) (fun c128 => ?_) (fun c128 => ?_)
              refine b_iconst (pc := 135) (nI 0) dX11_ever_135 (by decide) ?_
              refine b_iadd (pc := 136) dX11_ever_136 ?_
              refine siN3 (pc := 137) rfl notL_i (by decide) dX11_ever_137 ?_
              refine inc4 (pc := 138) notL_i (by decide) dX11_ever_138 ?_
              refine b_goto (pc := 141) 40 dX11_ever_141 (by decide) ?_
              rotate_left -- leaf 0: at 40
              refine b_iconst (pc := 131) (nI 1) dX11_ever_131 (by decide) ?_
              refine b_goto (pc := 132) 136 dX11_ever_132 (by decide) ?_
              refine b_iadd (pc := 136) dX11_ever_136 ?_
              refine siN3 (pc := 137) rfl notL_i (by decide) dX11_ever_137 ?_
              refine inc4 (pc := 138) notL_i (by decide) dX11_ever_138 ?_
              refine b_goto (pc := 141) 40 dX11_ever_141 (by decide) ?_
              rotate_left -- leaf 1: at 40
              refine b_iloadG (pc := 117) 4 dX11_ever_117 rfl ?_
              refine b_goto (pc := 119) 123 dX11_ever_119 (by decide) ?_
              refine b_ior (pc := 123) dX11_ever_123 ?_
              refine siN2 (pc := 124) rfl notL_i (by decide) dX11_ever_124 ?_
              refine b_iloadN (pc := 125) 3 dX11_ever_125 rfl rfl ?_
              refine b_iloadG (pc := 126) 5 dX11_ever_126 rfl ?_
              refine b_if_eq (pc := 128) 135 dX11_ever_128 (by decide) (fun c128 => ?_) (fun c128 => ?_)
              refine b_iconst (pc := 135) (nI 0) dX11_ever_135 (by decide) ?_
              refine b_iadd (pc := 136) dX11_ever_136 ?_
              refine siN3 (pc := 137) rfl notL_i (by decide) dX11_ever_137 ?_
              refine inc4 (pc := 138) notL_i (by decide) dX11_ever_138 ?_
              refine b_goto (pc := 141) 40 dX11_ever_141 (by decide) ?_
              rotate_left -- leaf 2: at 40
              refine b_iconst (pc := 131) (nI 1) dX11_ever_131 (by decide) ?_
              refine b_goto (pc := 132) 136 dX11_ever_132 (by decide) ?_
              refine b_iadd (pc := 136) dX11_ever_136 ?_
              refine siN3 (pc := 137) rfl notL_i (by decide) dX11_ever_137 ?_
              refine inc4 (pc := 138) notL_i (by decide) dX11_ever_138 ?_
              refine b_goto (pc := 141) 40 dX11_ever_141 (by decide) ?_
              rotate_left -- leaf 3: at 40
              -- leaves: 0 at 40; 1 at 40; 2 at 40; 3 at 40
              · rw [n_or, Nat.or_zero, n_add, n_inc]
                exact nx _ _ (by omega) (by omega)
              · exact absurd rfl c128
              · exact absurd rfl c114
              · exact absurd rfl c114
            | true =>
              rw [er, if_pos rfl, if_pos rfl] at nx
              refine b_iloadN (pc := 111) 2 dX11_ever_111 rfl rfl ?_
              refine b_iloadG (pc := 112) 5 dX11_ever_112 rfl ?_
              refine b_if_eq (pc := 114) 122 dX11_ever_114 (by decide) (fun c114 => ?_) (fun c114 => ?_)
              refine b_iconst (pc := 122) (nI 0) dX11_ever_122 (by decide) ?_
              refine b_ior (pc := 123) dX11_ever_123 ?_
              refine siN2 (pc := 124) rfl notL_i (by decide) dX11_ever_124 ?_
              refine b_iloadN (pc := 125) 3 dX11_ever_125 rfl rfl ?_
              refine b_iloadG (pc := 126) 5 dX11_ever_126 rfl ?_
              refine b_if_eq (pc := 128) 135 dX11_ever_128 (by decide) (fun c128 => ?_) (fun c128 => ?_)
              refine b_iconst (pc := 135) (nI 0) dX11_ever_135 (by decide) ?_
              refine b_iadd (pc := 136) dX11_ever_136 ?_
              refine siN3 (pc := 137) rfl notL_i (by decide) dX11_ever_137 ?_
              refine inc4 (pc := 138) notL_i (by decide) dX11_ever_138 ?_
              refine b_goto (pc := 141) 40 dX11_ever_141 (by decide) ?_
              rotate_left -- leaf 0: at 40
              refine b_iconst (pc := 131) (nI 1) dX11_ever_131 (by decide) ?_
              refine b_goto (pc := 132) 136 dX11_ever_132 (by decide) ?_
              refine b_iadd (pc := 136) dX11_ever_136 ?_
              refine siN3 (pc := 137) rfl notL_i (by decide) dX11_ever_137 ?_
              refine inc4 (pc := 138) notL_i (by decide) dX11_ever_138 ?_
              refine b_goto (pc := 141) 40 dX11_ever_141 (by decide) ?_
              rotate_left -- leaf 1: at 40
              refine b_iloadG (pc := 117) 4 dX11_ever_117 rfl ?_
              refine b_goto (pc := 119) 123 dX11_ever_119 (by decide) ?_
              refine b_ior (pc := 123) dX11_ever_123 ?_
              refine siN2 (pc := 124) rfl notL_i (by decide) dX11_ever_124 ?_
              refine b_iloadN (pc := 125) 3 dX11_ever_125 rfl rfl ?_
              refine b_iloadG (pc := 126) 5 dX11_ever_126 rfl ?_
              refine b_if_eq (pc := 128) 135 dX11_ever_128 (by decide) (fun c128 => ?_) (fun c128 => ?_)
              refine b_iconst (pc := 135) (nI 0) dX11_ever_135 (by decide) ?_
              refine b_iadd (pc := 136) dX11_ever_136 ?_
              refine siN3 (pc := 137) rfl notL_i (by decide) dX11_ever_137 ?_
              refine inc4 (pc := 138) notL_i (by decide) dX11_ever_138 ?_
              refine b_goto (pc := 141) 40 dX11_ever_141 (by decide) ?_
              rotate_left -- leaf 2: at 40
              refine b_iconst (pc := 131) (nI 1) dX11_ever_131 (by decide) ?_
              refine b_goto (pc := 132) 136 dX11_ever_132 (by decide) ?_
              refine b_iadd (pc := 136) dX11_ever_136 ?_
              refine siN3 (pc := 137) rfl notL_i (by decide) dX11_ever_137 ?_
              refine inc4 (pc := 138) notL_i (by decide) dX11_ever_138 ?_
              refine b_goto (pc := 141) 40 dX11_ever_141 (by decide) ?_
              rotate_left -- leaf 3: at 40
              -- leaves: 0 at 40; 1 at 40; 2 at 40; 3 at 40
              · exact absurd c114 (by decide)
              · exact absurd c114 (by decide)
              · exact absurd c128 (by decide)
              · rw [n_or, n_add, n_inc]
                exact nx _ _ (by omega) (by omega)
          have inner : ∀ e k b, 65 ≤ k + e → k ≤ 64 → b = (decide (so = C 1) || anyS lab so k) → B e_X11_ever Φ 68 [some (vr 11 110), some (vi (nI w)), some (vi (nI (orS (rsL lab (C 1)) so))), some (vi (nI (cntS (rsL lab (C 1)) so))), some (vi (nI so)), some (vi (nI (if b = true then 1 else 0))), some (vi (nI k))] [] M (0, 0) := by
            intro e
            induction e with
            | zero => intro k b z1 z2; omega
            | succ e ihk =>
              intro k b z3 z4 hb
              by_cases hk : k < 64
              · have nx := fun b' => ihk (k + 1) b' (by omega) (by omega)
                have e1 : anyS lab so (k + 1) = (anyS lab so k || (lab (64 * k + so)).isSome) := rfl
                rw [e1, ← Bool.or_assoc, ← hb] at nx
                have cj := hR.1 (64 * k + so) (by omega)
                have ei : nI 64 * nI k + nI so = nI (64 * k + so) := by rw [n_mul, n_add]
                cases b with
                | true =>
                  have nx := nx true rfl
                  refine b_iloadG (pc := 68) 6 dX11_ever_68 rfl ?_
                  refine b_bipush (pc := 70) (nI 64) dX11_ever_70 (by decide) ?_
                  refine b_icmp_ge (pc := 72) 111 dX11_ever_72 (by decide) (fun c72 => ?_) (fun c72 => ?_)
                  rotate_left -- leaf 0: at 111
                  refine b_iloadG (pc := 75) 5 dX11_ever_75 rfl ?_
                  refine b_if_ne (pc := 77) 98 dX11_ever_77 (by decide) (fun c77 => ?_) (fun c77 => ?_)
                  refine b_iconst (pc := 98) (nI 1) dX11_ever_98 (by decide) ?_
                  refine b_goto (pc := 99) 103 dX11_ever_99 (by decide) ?_
                  refine siG5 (pc := 103) notL_i (by decide) dX11_ever_103 ?_
                  refine inc6 (pc := 105) notL_i (by decide) dX11_ever_105 ?_
                  refine b_goto (pc := 108) 68 dX11_ever_108 (by decide) ?_
                  rotate_left -- leaf 1: at 68
                  rotate_left -- leaf 2: at 80
                  -- leaves: 0 at 111; 1 at 68; 2 at 80
                  · rw [n_le (by omega) (by omega)] at c72; omega
                  · rw [n_inc]
                    exact nx
                  · exact absurd c77 (by decide)
                | false =>
                  cases el : lab (64 * k + so) with
                  | none =>
                    have nx := nx false (by rw [el]; rfl)
                    refine b_iloadG (pc := 68) 6 dX11_ever_68 rfl ?_
                    refine b_bipush (pc := 70) (nI 64) dX11_ever_70 (by decide) ?_
                    refine b_icmp_ge (pc := 72) 111 dX11_ever_72 (by decide) (fun c72 => ?_) (fun c72 => ?_)
                    rotate_left -- leaf 0: at 111
                    refine b_iloadG (pc := 75) 5 dX11_ever_75 rfl ?_
                    refine b_if_ne (pc := 77) 98 dX11_ever_77 (by decide) (fun c77 => ?_) (fun c77 => ?_)
                    refine b_iconst (pc := 98) (nI 1) dX11_ever_98 (by decide) ?_
                    refine b_goto (pc := 99) 103 dX11_ever_99 (by decide) ?_
                    refine siG5 (pc := 103) notL_i (by decide) dX11_ever_103 ?_
                    refine inc6 (pc := 105) notL_i (by decide) dX11_ever_105 ?_
                    refine b_goto (pc := 108) 68 dX11_ever_108 (by decide) ?_
                    rotate_left -- leaf 1: at 68
                    refine b_aloadN (pc := 80) 0 dX11_ever_80 rfl rfl ?_
                    refine gf11_18 (pc := 81) 118 rfl k1060 dX11_ever_81 ?_
                    refine b_bipush (pc := 84) (nI 64) dX11_ever_84 (by decide) ?_
                    refine b_iloadG (pc := 86) 6 dX11_ever_86 rfl ?_
                    refine b_imul (pc := 88) dX11_ever_88 ?_
                    refine b_iloadG (pc := 89) 4 dX11_ever_89 rfl ?_
                    refine b_iadd (pc := 91) dX11_ever_91 ?_
                    refine b_iald (pc := 92) (by decide) ?_ dX11_ever_92 ?_
                    rotate_left -- leaf 2: index at 92
                    refine b_ldc (pc := 93) k1180 dX11_ever_93 ?_
                    refine b_icmp_eq (pc := 95) 102 dX11_ever_95 (by decide) (fun c95 => ?_) (fun c95 => ?_)
                    refine b_iconst (pc := 102) (nI 0) dX11_ever_102 (by decide) ?_
                    refine siG5 (pc := 103) notL_i (by decide) dX11_ever_103 ?_
                    refine inc6 (pc := 105) notL_i (by decide) dX11_ever_105 ?_
                    refine b_goto (pc := 108) 68 dX11_ever_108 (by decide) ?_
                    rotate_left -- leaf 3: at 68
                    refine b_iconst (pc := 98) (nI 1) dX11_ever_98 (by decide) ?_
                    refine b_goto (pc := 99) 103 dX11_ever_99 (by decide) ?_
                    refine siG5 (pc := 103) notL_i (by decide) dX11_ever_103 ?_
                    refine inc6 (pc := 105) notL_i (by decide) dX11_ever_105 ?_
                    refine b_goto (pc := 108) 68 dX11_ever_108 (by decide) ?_
                    rotate_left -- leaf 4: at 68
                    -- leaves: 0 at 111; 1 at 68; 2 index at 92; 3 at 68; 4 at 68
                    · rw [n_le (by omega) (by omega)] at c72; omega
                    · exact absurd rfl c77
                    · rw [ei]; exact n_in (by omega) (by omega)
                    · rw [n_inc]
                      exact nx
                    · rw [ei, n_cl (by omega), cj.1 el] at c95
                      exact absurd rfl c95
                  | some y =>
                    have nx := nx true (by rw [el]; rfl)
                    have cy := (cj.2 y el).1
                    have bY := hR.2.1 _ y el
                    refine b_iloadG (pc := 68) 6 dX11_ever_68 rfl ?_
                    refine b_bipush (pc := 70) (nI 64) dX11_ever_70 (by decide) ?_
                    refine b_icmp_ge (pc := 72) 111 dX11_ever_72 (by decide) (fun c72 => ?_) (fun c72 => ?_)
                    rotate_left -- leaf 0: at 111
                    refine b_iloadG (pc := 75) 5 dX11_ever_75 rfl ?_
                    refine b_if_ne (pc := 77) 98 dX11_ever_77 (by decide) (fun c77 => ?_) (fun c77 => ?_)
                    refine b_iconst (pc := 98) (nI 1) dX11_ever_98 (by decide) ?_
                    refine b_goto (pc := 99) 103 dX11_ever_99 (by decide) ?_
                    refine siG5 (pc := 103) notL_i (by decide) dX11_ever_103 ?_
                    refine inc6 (pc := 105) notL_i (by decide) dX11_ever_105 ?_
                    refine b_goto (pc := 108) 68 dX11_ever_108 (by decide) ?_
                    rotate_left -- leaf 1: at 68
                    refine b_aloadN (pc := 80) 0 dX11_ever_80 rfl rfl ?_
                    refine gf11_18 (pc := 81) 118 rfl k1060 dX11_ever_81 ?_
                    refine b_bipush (pc := 84) (nI 64) dX11_ever_84 (by decide) ?_
                    refine b_iloadG (pc := 86) 6 dX11_ever_86 rfl ?_
                    refine b_imul (pc := 88) dX11_ever_88 ?_
                    refine b_iloadG (pc := 89) 4 dX11_ever_89 rfl ?_
                    refine b_iadd (pc := 91) dX11_ever_91 ?_
                    refine b_iald (pc := 92) (by decide) ?_ dX11_ever_92 ?_
                    rotate_left -- leaf 2: index at 92
                    refine b_ldc (pc := 93) k1180 dX11_ever_93 ?_
                    refine b_icmp_eq (pc := 95) 102 dX11_ever_95 (by decide) (fun c95 => ?_) (fun c95 => ?_)
                    refine b_iconst (pc := 102) (nI 0) dX11_ever_102 (by decide) ?_
                    refine siG5 (pc := 103) notL_i (by decide) dX11_ever_103 ?_
                    refine inc6 (pc := 105) notL_i (by decide) dX11_ever_105 ?_
                    refine b_goto (pc := 108) 68 dX11_ever_108 (by decide) ?_
                    rotate_left -- leaf 3: at 68
                    refine b_iconst (pc := 98) (nI 1) dX11_ever_98 (by decide) ?_
                    refine b_goto (pc := 99) 103 dX11_ever_99 (by decide) ?_
                    refine siG5 (pc := 103) notL_i (by decide) dX11_ever_103 ?_
                    refine inc6 (pc := 105) notL_i (by decide) dX11_ever_105 ?_
                    refine b_goto (pc := 108) 68 dX11_ever_108 (by decide) ?_
                    rotate_left -- leaf 4: at 68
                    -- leaves: 0 at 111; 1 at 68; 2 index at 92; 3 at 68; 4 at 68
                    · rw [n_le (by omega) (by omega)] at c72; omega
                    · exact absurd rfl c77
                    · rw [ei]; exact n_in (by omega) (by omega)
                    · rw [ei, n_cl (by omega), cy, show wtP C 0 = 1 from rfl, Nat.one_mul] at c95
                      exact absurd c95 (n_ne_none (by omega))
                    · rw [n_inc]
                      exact nx
              · have ek : k = 64 := by omega
                subst ek
                have hb2 : b = rsL lab (C 1) so := hb
                rw [hb2]
                refine b_iloadG (pc := 68) 6 dX11_ever_68 rfl ?_
                refine b_bipush (pc := 70) (nI 64) dX11_ever_70 (by decide) ?_
                refine b_icmp_ge (pc := 72) 111 dX11_ever_72 (by decide) (fun c72 => ?_) (fun c72 => ?_)
                rotate_left -- leaf 0: at 111
                rotate_left -- leaf 1: at 75
                -- leaves: 0 at 111; 1 at 75
                · exact m111 _
                · rw [n_le (by omega) (by omega)] at c72; omega
          refine b_iloadG (pc := 40) 4 dX11_ever_40 rfl ?_
          refine b_bipush (pc := 42) (nI 64) dX11_ever_42 (by decide) ?_
          refine b_icmp_ge (pc := 44) 144 dX11_ever_44 (by decide) (fun c44 => ?_) (fun c44 => ?_)
          rotate_left -- leaf 0: at 144
          refine b_iloadG (pc := 47) 4 dX11_ever_47 rfl ?_
          refine b_aloadN (pc := 49) 0 dX11_ever_49 rfl rfl ?_
          refine gf11_5 (pc := 50) 114 rfl k1047 dX11_ever_50 ?_
          refine b_iconst (pc := 53) (nI 1) dX11_ever_53 (by decide) ?_
          refine b_iald (pc := 54) (by decide) ?_ dX11_ever_54 ?_
          rotate_left -- leaf 1: index at 54
          refine b_icmp_ne (pc := 55) 62 dX11_ever_55 (by decide) (fun c55 => ?_) (fun c55 => ?_)
          refine b_iconst (pc := 62) (nI 0) dX11_ever_62 (by decide) ?_
          refine siG5 (pc := 63) notL_i (by decide) dX11_ever_63 ?_
          refine b_iconst (pc := 65) (nI 0) dX11_ever_65 (by decide) ?_
          refine siG6 (pc := 66) notL_i (by decide) dX11_ever_66 ?_
          rotate_left -- leaf 2: at 68
          refine b_iconst (pc := 58) (nI 1) dX11_ever_58 (by decide) ?_
          refine b_goto (pc := 59) 63 dX11_ever_59 (by decide) ?_
          refine siG5 (pc := 63) notL_i (by decide) dX11_ever_63 ?_
          refine b_iconst (pc := 65) (nI 0) dX11_ever_65 (by decide) ?_
          refine siG6 (pc := 66) notL_i (by decide) dX11_ever_66 ?_
          rotate_left -- leaf 3: at 68
          -- leaves: 0 at 144; 1 index at 54; 2 at 68; 3 at 68
          · rw [n_le (by omega) (by omega)] at c44; omega
          · exact n_in (by omega) (by omega)
          · rw [n_cl (by omega), k1, n_eq (by omega) (by omega)] at c55
            exact inner 65 0 false (by omega) (by omega) (by rw [decide_eq_false c55]; rfl)
          · rw [n_cl (by omega), k1, n_eq (by omega) (by omega)] at c55
            exact inner 65 0 true (by omega) (by omega) (by rw [decide_eq_true c55]; rfl)
        · have ek : so = 64 := by omega
          subst ek
          have hh := h (rsL lab (C 1)) (rsL_iff hv hR)
          refine b_iloadG (pc := 40) 4 dX11_ever_40 rfl ?_
          refine b_bipush (pc := 42) (nI 64) dX11_ever_42 (by decide) ?_
          refine b_icmp_ge (pc := 44) 144 dX11_ever_44 (by decide) (fun c44 => ?_) (fun c44 => ?_)
          refine b_iloadN (pc := 144) 1 dX11_ever_144 rfl rfl ?_
          refine b_if_ne (pc := 145) 152 dX11_ever_145 (by decide) (fun c145 => ?_) (fun c145 => ?_)
          refine b_iloadN (pc := 152) 3 dX11_ever_152 rfl rfl ?_
          refine b_iret (pc := 153) rfl dX11_ever_153 ⟨Nat.le_of_ble_eq_true rfl, Nat.le_of_ble_eq_true rfl⟩ ?_
          rotate_left -- leaf 0: return at 153
          refine b_iloadN (pc := 148) 2 dX11_ever_148 rfl rfl ?_
          refine b_goto (pc := 149) 153 dX11_ever_149 (by decide) ?_
          refine b_iret (pc := 153) rfl dX11_ever_153 ⟨Nat.le_of_ble_eq_true rfl, Nat.le_of_ble_eq_true rfl⟩ ?_
          rotate_left -- leaf 1: return at 153
          rotate_left -- leaf 2: at 47
          -- leaves: 0 return at 153; 1 return at 153; 2 at 47
          · rw [if_neg (fun z => c145 (by rw [z]; rfl))] at hh
            exact hh
          · rw [n_eq0 (by omega)] at c145
            rw [if_pos c145] at hh
            exact hh
          · rw [n_le (by omega) (by omega)] at c44; omega
    refine b_aloadN (pc := 0) 0 dX11_ever_0 rfl rfl ?_
    refine b_iconst (pc := 1) (nI 0) dX11_ever_1 (by decide) ?_
    refine pf11_0 (pc := 2) k1042 dX11_ever_2 ?_
    refine b_aloadN (pc := 5) 0 dX11_ever_5 rfl rfl ?_
    refine call_X11_isThere (pc := 6) k1292 (by decide) ⟨Nat.le_of_ble_eq_true rfl, Nat.le_of_ble_eq_true rfl⟩ (Nat.le_of_ble_eq_true rfl) dX11_ever_6 ?_
    refine ⟨rfl, _, hC.1 0 (by omega), ?_, ?_⟩
    rotate_left -- leaf 0: six of X11_isThere at 6
    refine b_if_ne (pc := 9) 15 dX11_ever_9 (by decide) (fun c9 => ?_) (fun c9 => ?_)
    refine b_iloadN (pc := 15) 1 dX11_ever_15 rfl rfl ?_
    refine b_i2l (pc := 16) dX11_ever_16 ?_
    refine b_lconst (pc := 17) 0 dX11_ever_17 (by decide) ?_
    refine b_lconst (pc := 18) 1 dX11_ever_18 (by decide) ?_
    refine call_X11_in (pc := 19) k1136 (by decide) ⟨Nat.le_of_ble_eq_true rfl, Nat.le_of_ble_eq_true rfl⟩ (Nat.le_of_ble_eq_true rfl) dX11_ever_19 ?_
    refine ⟨_, _, _, rfl, ?_⟩
    refine b_if_ne (pc := 22) 28 dX11_ever_22 (by decide) (fun c22 => ?_) (fun c22 => ?_)
    refine b_aloadN (pc := 28) 0 dX11_ever_28 rfl rfl ?_
    refine b_iconst (pc := 29) (nI 0) dX11_ever_29 (by decide) ?_
    refine call_X11_spread (pc := 30) k1325 (by decide) ⟨Nat.le_of_ble_eq_true rfl, Nat.le_of_ble_eq_true rfl⟩ (Nat.le_of_ble_eq_true rfl) dX11_ever_30 ?_
    refine ⟨_, rfl, C, 0, hv, hC2.1, by omega, rfl, fun m30 lab fm30 far30 => ?_⟩
    refine b_iconst (pc := 33) (nI 0) dX11_ever_33 (by decide) ?_
    refine siN2 (pc := 34) rfl notL_i (by decide) dX11_ever_34 ?_
    refine b_iconst (pc := 35) (nI 0) dX11_ever_35 (by decide) ?_
    refine siN3 (pc := 36) rfl notL_i (by decide) dX11_ever_36 ?_
    refine b_iconst (pc := 37) (nI 0) dX11_ever_37 (by decide) ?_
    refine siG4 (pc := 38) notL_i (by decide) dX11_ever_38 ?_
    rotate_left -- leaf 1: at 40
    refine b_ldc (pc := 25) k1140 dX11_ever_25 ?_
    refine b_iret (pc := 27) rfl dX11_ever_27 ⟨Nat.le_of_ble_eq_true rfl, Nat.le_of_ble_eq_true rfl⟩ ?_
    rotate_left -- leaf 2: return at 27
    refine b_ldc (pc := 12) k1275 dX11_ever_12 ?_
    refine b_iret (pc := 14) rfl dX11_ever_14 ⟨Nat.le_of_ble_eq_true rfl, Nat.le_of_ble_eq_true rfl⟩ ?_
    rotate_left -- leaf 3: return at 14
    -- leaves: 0 six of X11_isThere at 6; 1 at 40; 2 return at 27; 3 return at 14
    · exact hle.1
    · exact main m30 lab far30 (MC.fm fm30 hC2.1 (by simp)) (fun rs hrs => h4 m30 rs (((Fm.rf _ _ m).m0 (by simp)).tr (fm30.mono2 (fun a z => z) (fun a z => by simp at z; simp [z]))) hrs) 65 0 _ _ (by omega) (by omega)
    · rw [inLc 2 rfl (by omega), hx] at c22
      exact absurd c22 (by decide)
    · have := zT c9; omega
  · have hx : inB x 2 = false := by
      cases z : inB x 2
      · rfl
      · exact absurd z hx
    have t := h2 (by omega) hx _ f0
    refine b_aloadN (pc := 0) 0 dX11_ever_0 rfl rfl ?_
    refine b_iconst (pc := 1) (nI 0) dX11_ever_1 (by decide) ?_
    refine pf11_0 (pc := 2) k1042 dX11_ever_2 ?_
    refine b_aloadN (pc := 5) 0 dX11_ever_5 rfl rfl ?_
    refine call_X11_isThere (pc := 6) k1292 (by decide) ⟨Nat.le_of_ble_eq_true rfl, Nat.le_of_ble_eq_true rfl⟩ (Nat.le_of_ble_eq_true rfl) dX11_ever_6 ?_
    refine ⟨rfl, _, hC.1 0 (by omega), ?_, ?_⟩
    rotate_left -- leaf 0: six of X11_isThere at 6
    refine b_if_ne (pc := 9) 15 dX11_ever_9 (by decide) (fun c9 => ?_) (fun c9 => ?_)
    refine b_iloadN (pc := 15) 1 dX11_ever_15 rfl rfl ?_
    refine b_i2l (pc := 16) dX11_ever_16 ?_
    refine b_lconst (pc := 17) 0 dX11_ever_17 (by decide) ?_
    refine b_lconst (pc := 18) 1 dX11_ever_18 (by decide) ?_
    refine call_X11_in (pc := 19) k1136 (by decide) ⟨Nat.le_of_ble_eq_true rfl, Nat.le_of_ble_eq_true rfl⟩ (Nat.le_of_ble_eq_true rfl) dX11_ever_19 ?_
    refine ⟨_, _, _, rfl, ?_⟩
    refine b_if_ne (pc := 22) 28 dX11_ever_22 (by decide) (fun c22 => ?_) (fun c22 => ?_)
    rotate_left -- leaf 1: at 28
    refine b_ldc (pc := 25) k1140 dX11_ever_25 ?_
    refine b_iret (pc := 27) rfl dX11_ever_27 ⟨Nat.le_of_ble_eq_true rfl, Nat.le_of_ble_eq_true rfl⟩ ?_
    rotate_left -- leaf 2: return at 27
    refine b_ldc (pc := 12) k1275 dX11_ever_12 ?_
    refine b_iret (pc := 14) rfl dX11_ever_14 ⟨Nat.le_of_ble_eq_true rfl, Nat.le_of_ble_eq_true rfl⟩ ?_
    rotate_left -- leaf 3: return at 14
    -- leaves: 0 six of X11_isThere at 6; 1 at 28; 2 return at 27; 3 return at 14
    · exact hle.1
    · rw [inLc 2 rfl (by omega), hx] at c22
      exact absurd rfl c22
    · exact t
    · have := zT c9; omega
theorem call_X11_ever {E : ME} {Φ : Option AV → AM → Prop} {pc : Nat} {L : List (Option AV)} {st : List AV} {m : AM} {a : Nat × Nat} {idx : Nat} {x0 : AV} {i : Nat} (hl : Cond.methodLink E.2.1 idx yX11_ever ∈ TB) (hdep : 8 + 1 ≤ E.2.2.2.2.2.2) (hroom : a.1 + 0 ≤ E.2.2.2.2.1 ∧ a.2 + 0 ≤ E.2.2.2.2.2.1) (hsr : st.length ≤ 4) (hd : decode E.1 pc = .ok (.invokevirtual idx, 3)) (hsp : Sp_X11_ever [vr 11 i, x0] m (fun r m2 => B E Φ (pc + 3) L (r.toList ++ st) m2 a)) : B E Φ pc L (x0 :: vr 11 i :: st) m a := b_callV S_X11_ever [x0] (RX11, TX11, 28) rfl rfl (by decide) (Or.inl hl) k1362 k1363 k80 k1364 (show _ ∧ _ ∧ Option.map (fun d => d.parameters.length) (parseMethodDescriptor yX11_ever.desc) = some 1 from by decide +kernel) ⟨hdep, by decide⟩ hroom hsr hd hsp
