/-! the class's search: sayFirst, lead -/
abbrev orN (a b : Nat) : Nat := a ||| b
theorem out_lt2 {C : Nat → Nat} (hv : VC C) {q so d s v : Nat} (hso : so < 2 ^ C 0) (hs : s < 2 * C 0) (h : outN C q so d s = some v) : v < 2 ^ C 0 := set_lt hv (bel_lt hv q d hso hs) h
theorem sdN_lt2 {C : Nat → Nat} {d s : Nat} (hd : d < 2 ^ C 0) (hs : s < 2 * C 0) : sdN C d s < 2 ^ C 0 := by
  unfold sdN
  split
  · exact or_lt_pow hd (by omega)
  · exact Nat.pow_pos (by omega)
theorem sdN_0 {C : Nat → Nat} (hm : ¬ mindP C = true) (d s : Nat) : sdN C d s = 0 := if_neg hm
theorem CWk_lt {C : Nat → Nat} (hv : VC C) {bc : Nat} : ∀ n so sd c f, CWk C bc n so sd c f → so < 2 ^ C 0 ∧ sd < 2 ^ C 0 ∧ (¬ mindP C = true → sd = 0)
  | 0, so, sd, c, f, h => by
    obtain ⟨p, s, hp, hs, ho, e1, e2, e3⟩ := h
    rw [e1]
    exact ⟨out_lt2 hv hv.2.1 hs ho, sdN_lt2 hv.2.2.2.2.2.1 hs, fun hm => sdN_0 hm _ _⟩
  | n + 1, so, sd, c, f, h => by
    obtain ⟨so0, sd0, c0, q, s, h0, hq, hs, ho, hne, e1, e2⟩ := h
    have ih := CWk_lt hv n _ _ _ _ h0
    rw [e1]
    exact ⟨out_lt2 hv ih.1 hs ho, sdN_lt2 ih.2.1 hs, fun hm => sdN_0 hm _ _⟩
theorem nodeN_sd (C : Nat → Nat) (v d s : Nat) : nodeN C v (d ||| 2 ^ (s / 2)) = nodeN C v (sdN C d s) := by
  unfold nodeN sdN
  by_cases q : mindP C = true
  · rw [if_pos q, if_pos q, if_pos q]
  · rw [if_neg q, if_neg q]
theorem node_div {C : Nat → Nat} {n : Nat} (h : n < ndN C) : n / 2 ^ C 0 < 2 ^ C 0 ∧ n % 2 ^ C 0 < 2 ^ C 0 ∧ nodeN C (n % 2 ^ C 0) (n / 2 ^ C 0) = n ∧ (¬ mindP C = true → n / 2 ^ C 0 = 0) := by
  have h0 : 0 < 2 ^ C 0 := Nat.pow_pos (by omega)
  unfold ndN at h
  unfold nodeN
  by_cases q : mindP C = true
  · rw [if_pos q, show 2 * C 0 = C 0 + C 0 by omega, Nat.pow_add] at h
    rw [if_pos q]
    exact ⟨(Nat.div_lt_iff_lt_mul h0).mpr h, Nat.mod_lt _ h0, Nat.div_add_mod n _, fun z => absurd q z⟩
  · rw [if_neg q] at h
    rw [if_neg q, Nat.div_eq_of_lt h, Nat.mod_eq_of_lt h]
    exact ⟨h0, h, rfl, fun _ => rfl⟩
def SdC (C : Nat → Nat) (bc : Nat) (lab : Nat → Option (Nat × Nat)) : Prop := ∀ n x, lab n = some x → n < ndN C ∧ ∃ k, CWk C bc k (n % 2 ^ C 0) (n / 2 ^ C 0) x.1 x.2
theorem SdC.ent {C : Nat → Nat} (hv : VC C) {bc : Nat} {lab : Nat → Option (Nat × Nat)} (h : SdC C bc lab) {k so sd c f : Nat} (hw : CWk C bc k so sd c f) : SdC C bc (entL lab (nodeN C so sd) (c, f)) := by
  intro n x hx
  rcases entL_from hx with hx | ⟨e, hx⟩
  · exact h n x hx
  · have l := CWk_lt hv k _ _ _ _ hw
    rw [e, hx]
    refine ⟨node_lt l.1 l.2.1, k, ?_⟩
    rw [node_so l.1, node_sd l.1]
    have e2 : (if mindP C = true then sd else 0) = sd := by
      by_cases q : mindP C = true
      · exact if_pos q
      · rw [if_neg q]; exact (l.2.2 q).symm
    rw [e2]; exact hw
theorem wt_le {bc a b : Nat} (ha : a < 64) (hb : b < 64) : wtN bc a b ≤ 6 := by
  unfold wtN
  split
  · omega
  · exact pc6_le _ (Nat.xor_lt_two_pow (n := 6) ha hb)
theorem wt_pos {bc a b : Nat} (ha : a < 64) (hb : b < 64) (h : a ≠ b) : 1 ≤ wtN bc a b := by
  unfold wtN
  split
  · omega
  · have hx := Nat.xor_lt_two_pow (n := 6) ha hb
    rcases Nat.eq_zero_or_pos (pc6 (a ^^^ b)) with z | z
    · have e := pc6_0 hx z
      have e2 : a ^^^ b ^^^ b = 0 ^^^ b := by rw [e]
      rw [Nat.xor_assoc, Nat.xor_self, Nat.xor_zero, Nat.zero_xor] at e2
      exact absurd e2 h
    · exact z
theorem CacR.e30 {C : Nat → Nat} {m m2 : AM} (h : CacR m C) (e : m2.1 30 = m.1 30) : CacR m2 C := fun s hs => by
  rw [e]; exact h s hs
theorem VC.p6 {C : Nat → Nat} (hv : VC C) : 2 ^ C 0 ≤ 64 := by
  have : 2 ^ C 0 ≤ 2 ^ 6 := Nat.pow_le_pow_right (by omega) hv.1.2
  omega
abbrev e_X7_sayFirst : ME := (cX7_sayFirst, (RX7, (7, (none, (0, (0, 5))))))
theorem dX7_sayFirst_0 : decode cX7_sayFirst 0 = .ok (.aload_n 1, 1) := by decide +kernel
theorem dX7_sayFirst_1 : decode cX7_sayFirst 1 = .ok (.getfield 34, 3) := by decide +kernel
theorem dX7_sayFirst_4 : decode cX7_sayFirst 4 = .ok (.getfield 38, 3) := by decide +kernel
theorem dX7_sayFirst_7 : decode cX7_sayFirst 7 = .ok (.istore_n 2, 1) := by decide +kernel
theorem dX7_sayFirst_8 : decode cX7_sayFirst 8 = .ok (.aload_n 1, 1) := by decide +kernel
theorem dX7_sayFirst_9 : decode cX7_sayFirst 9 = .ok (.getfield 34, 3) := by decide +kernel
theorem dX7_sayFirst_12 : decode cX7_sayFirst 12 = .ok (.getfield 115, 3) := by decide +kernel
theorem dX7_sayFirst_15 : decode cX7_sayFirst 15 = .ok (.istore_n 3, 1) := by decide +kernel
theorem dX7_sayFirst_16 : decode cX7_sayFirst 16 = .ok (.iconst 0, 1) := by decide +kernel
theorem dX7_sayFirst_17 : decode cX7_sayFirst 17 = .ok (.istore 4, 2) := by decide +kernel
theorem dX7_sayFirst_19 : decode cX7_sayFirst 19 = .ok (.iload 4, 2) := by decide +kernel
theorem dX7_sayFirst_21 : decode cX7_sayFirst 21 = .ok (.aload_n 1, 1) := by decide +kernel
theorem dX7_sayFirst_22 : decode cX7_sayFirst 22 = .ok (.getfield 24, 3) := by decide +kernel
theorem dX7_sayFirst_25 : decode cX7_sayFirst 25 = .ok (.getfield 118, 3) := by decide +kernel
theorem dX7_sayFirst_28 : decode cX7_sayFirst 28 = .ok (.if_icmp .ge 84, 3) := by decide +kernel
theorem dX7_sayFirst_31 : decode cX7_sayFirst 31 = .ok (.iconst 0, 1) := by decide +kernel
theorem dX7_sayFirst_32 : decode cX7_sayFirst 32 = .ok (.istore 5, 2) := by decide +kernel
theorem dX7_sayFirst_34 : decode cX7_sayFirst 34 = .ok (.iload 5, 2) := by decide +kernel
theorem dX7_sayFirst_36 : decode cX7_sayFirst 36 = .ok (.iconst 2, 1) := by decide +kernel
theorem dX7_sayFirst_37 : decode cX7_sayFirst 37 = .ok (.aload_n 0, 1) := by decide +kernel
theorem dX7_sayFirst_38 : decode cX7_sayFirst 38 = .ok (.getfield 80, 3) := by decide +kernel
theorem dX7_sayFirst_41 : decode cX7_sayFirst 41 = .ok (.imul, 1) := by decide +kernel
theorem dX7_sayFirst_42 : decode cX7_sayFirst 42 = .ok (.if_icmp .ge 64, 3) := by decide +kernel
theorem dX7_sayFirst_45 : decode cX7_sayFirst 45 = .ok (.aload_n 1, 1) := by decide +kernel
theorem dX7_sayFirst_46 : decode cX7_sayFirst 46 = .ok (.aload_n 1, 1) := by decide +kernel
theorem dX7_sayFirst_47 : decode cX7_sayFirst 47 = .ok (.getfield 24, 3) := by decide +kernel
theorem dX7_sayFirst_50 : decode cX7_sayFirst 50 = .ok (.getfield 121, 3) := by decide +kernel
theorem dX7_sayFirst_53 : decode cX7_sayFirst 53 = .ok (.iload 4, 2) := by decide +kernel
theorem dX7_sayFirst_55 : decode cX7_sayFirst 55 = .ok (.iaload, 1) := by decide +kernel
theorem dX7_sayFirst_56 : decode cX7_sayFirst 56 = .ok (.iload 5, 2) := by decide +kernel
theorem dX7_sayFirst_58 : decode cX7_sayFirst 58 = .ok (.iload_n 2, 1) := by decide +kernel
theorem dX7_sayFirst_59 : decode cX7_sayFirst 59 = .ok (.iload_n 3, 1) := by decide +kernel
theorem dX7_sayFirst_60 : decode cX7_sayFirst 60 = .ok (.invokevirtual 124, 3) := by decide +kernel
theorem dX7_sayFirst_63 : decode cX7_sayFirst 63 = .ok (.istore 6, 2) := by decide +kernel
theorem dX7_sayFirst_65 : decode cX7_sayFirst 65 = .ok (.iload 6, 2) := by decide +kernel
theorem dX7_sayFirst_67 : decode cX7_sayFirst 67 = .ok (.ldc 48, 2) := by decide +kernel
theorem dX7_sayFirst_69 : decode cX7_sayFirst 69 = .ok (.if_icmp .eq 31, 3) := by decide +kernel
theorem dX7_sayFirst_72 : decode cX7_sayFirst 72 = .ok (.aload_n 0, 1) := by decide +kernel
theorem dX7_sayFirst_73 : decode cX7_sayFirst 73 = .ok (.iload 6, 2) := by decide +kernel
theorem dX7_sayFirst_75 : decode cX7_sayFirst 75 = .ok (.iload_n 3, 1) := by decide +kernel
theorem dX7_sayFirst_76 : decode cX7_sayFirst 76 = .ok (.iload 5, 2) := by decide +kernel
theorem dX7_sayFirst_78 : decode cX7_sayFirst 78 = .ok (.invokestatic 128, 3) := by decide +kernel
theorem dX7_sayFirst_81 : decode cX7_sayFirst 81 = .ok (.ior, 1) := by decide +kernel
theorem dX7_sayFirst_82 : decode cX7_sayFirst 82 = .ok (.aload_n 0, 1) := by decide +kernel
theorem dX7_sayFirst_83 : decode cX7_sayFirst 83 = .ok (.iload_n 2, 1) := by decide +kernel
theorem dX7_sayFirst_84 : decode cX7_sayFirst 84 = .ok (.iload 6, 2) := by decide +kernel
theorem dX7_sayFirst_86 : decode cX7_sayFirst 86 = .ok (.invokevirtual 131, 3) := by decide +kernel
theorem dX7_sayFirst_89 : decode cX7_sayFirst 89 = .ok (.bipush 20, 2) := by decide +kernel
theorem dX7_sayFirst_91 : decode cX7_sayFirst 91 = .ok (.iload 4, 2) := by decide +kernel
theorem dX7_sayFirst_93 : decode cX7_sayFirst 93 = .ok (.imul, 1) := by decide +kernel
theorem dX7_sayFirst_94 : decode cX7_sayFirst 94 = .ok (.iload 5, 2) := by decide +kernel
theorem dX7_sayFirst_96 : decode cX7_sayFirst 96 = .ok (.iadd, 1) := by decide +kernel
theorem dX7_sayFirst_97 : decode cX7_sayFirst 97 = .ok (.invokevirtual 135, 3) := by decide +kernel
theorem dX7_sayFirst_100 : decode cX7_sayFirst 100 = .ok (.iinc 5 1, 3) := by decide +kernel
theorem dX7_sayFirst_103 : decode cX7_sayFirst 103 = .ok (.goto (-69), 3) := by decide +kernel
theorem dX7_sayFirst_106 : decode cX7_sayFirst 106 = .ok (.iinc 4 1, 3) := by decide +kernel
theorem dX7_sayFirst_109 : decode cX7_sayFirst 109 = .ok (.goto (-90), 3) := by decide +kernel
theorem dX7_sayFirst_112 : decode cX7_sayFirst 112 = .ok (.return_, 1) := by decide +kernel
def Sp_X7_sayFirst (av : List AV) (m : AM) (Φ : Option AV → AM → Prop) : Prop := av = [vr 7 98, vr 2 20] ∧ ∃ C bc wk A Bn, BR m C ∧ wk < 1000000 ∧ bc ≤ 1 ∧ SrS C bc wk A Bn (fun _ => none) 0 m ∧ ∀ m2 lab far, Xs m m2 → BR m2 C → m2.1 98 13 = m.1 98 13 → SrS C bc wk A Bn lab far m2 → SdC C bc lab → (∀ p s v, p < C 4 → s < 2 * C 0 → outN C (C (40 + 2 * p)) (C 1) (C 5) s = some v → hasL lab (nodeN C v (sdN C (C 5) s)) (wtN bc (C 1) v, 20 * p + s)) → Φ none m2
set_option maxRecDepth 20000 in
set_option maxHeartbeats 4000000 in
theorem S_X7_sayFirst : Snd yX7_sayFirst e_X7_sayFirst Sp_X7_sayFirst := by
  refine Snd.of (by decide +kernel) rfl ?_ ?_
  · rintro av m Φ ⟨rfl, _⟩; exact Nat.le_of_ble_eq_true rfl
  rintro av m Φ ⟨rfl, C, bc, wk, A, Bn, hB, hwk, hbc1, hS, h⟩ hav hty
  show B e_X7_sayFirst Φ 0 [some (vr 7 98), some (vr 2 20), none, none, none, none, none] [] m (0, 0)
  have hv := hB.1
  have h06 := hv.1
  have h45 := hv.2.2.2.2.1
  have hp6 := hv.p6
  have outer : ∀ e p m2 lab far o5 o6, C 4 + 1 ≤ p + e → p ≤ C 4 → Xs m m2 → BR m2 C → m2.1 98 13 = m.1 98 13 → SrS C bc wk A Bn lab far m2 → SdC C bc lab → (∀ p' s' v, p' < p → s' < 2 * C 0 → outN C (C (40 + 2 * p')) (C 1) (C 5) s' = some v → hasL lab (nodeN C v (sdN C (C 5) s')) (wtN bc (C 1) v, 20 * p' + s')) → B e_X7_sayFirst Φ 19 [some (vr 7 98), some (vr 2 20), some (vi (nI (C 1))), some (vi (nI (C 5))), some (vi (nI p)), o5, o6] [] m2 (0, 0) := by
    intro e
    induction e with
    | zero => intro p m2 lab far o5 o6 z1 z2; omega
    | succ e ih =>
      intro p m2 lab far o5 o6 z1 z2 hX hB2 h13 hS2 hSd hH
      by_cases hp : p < C 4
      · have inner : ∀ e s m2 lab far o6, 2 * C 0 + 1 ≤ s + e → s ≤ 2 * C 0 → Xs m m2 → BR m2 C → m2.1 98 13 = m.1 98 13 → SrS C bc wk A Bn lab far m2 → SdC C bc lab → (∀ p' s' v, (p' < p ∧ s' < 2 * C 0) ∨ (p' = p ∧ s' < s) → outN C (C (40 + 2 * p')) (C 1) (C 5) s' = some v → hasL lab (nodeN C v (sdN C (C 5) s')) (wtN bc (C 1) v, 20 * p' + s')) → B e_X7_sayFirst Φ 34 [some (vr 7 98), some (vr 2 20), some (vi (nI (C 1))), some (vi (nI (C 5))), some (vi (nI p)), some (vi (nI s)), o6] [] m2 (0, 0) := by
          intro e
          induction e with
          | zero => intro s m2 lab far o6 z1 z2; omega
          | succ e ih2 =>
            intro s m2 lab far o6 z3 z4 hX hB2 h13 hS2 hSd hH
            have hf2 := hS2.2.1.1
            by_cases hs : s < 2 * C 0
            · skip
              refine b_iloadG (pc := 34) 5 dX7_sayFirst_34 rfl ?_
              refine b_iconst (pc := 36) (nI 2) dX7_sayFirst_36 (by decide) ?_
              refine b_aloadN (pc := 37) 0 dX7_sayFirst_37 rfl rfl ?_
              refine gf7_5 (pc := 38) k323 dX7_sayFirst_38 ?_
              refine b_imul (pc := 41) dX7_sayFirst_41 ?_
              refine b_icmp_ge (pc := 42) 106 dX7_sayFirst_42 (by decide) (fun c42 => ?_) (fun c42 => ?_)
              rotate_left -- leaf 0: at 106
              refine b_aloadN (pc := 45) 1 dX7_sayFirst_45 rfl rfl ?_
              refine b_aloadN (pc := 46) 1 dX7_sayFirst_46 rfl rfl ?_
              refine gf2_0 (pc := 47) 21 rfl k265 dX7_sayFirst_47 ?_
              refine gf5_3 (pc := 50) 25 rfl k139 dX7_sayFirst_50 ?_
              refine b_iloadG (pc := 53) 4 dX7_sayFirst_53 rfl ?_
              refine b_iald (pc := 55) (by decide) ?_ dX7_sayFirst_55 ?_
              rotate_left -- leaf 1: index at 55
              refine b_iloadG (pc := 56) 5 dX7_sayFirst_56 rfl ?_
              refine b_iloadN (pc := 58) 2 dX7_sayFirst_58 rfl rfl ?_
              refine b_iloadN (pc := 59) 3 dX7_sayFirst_59 rfl rfl ?_
              refine call_X2_outcome (pc := 60) k778 (by decide) ⟨Nat.le_of_ble_eq_true rfl, Nat.le_of_ble_eq_true rfl⟩ (Nat.le_of_ble_eq_true rfl) dX7_sayFirst_60 ?_
              refine ⟨_, _, _, _, rfl, C, C (40 + 2 * p), s, C 1, C 5, hB2, ?_, rfl, rfl, rfl, ?_, ?_, hv.c1, hv.c5, fun m60 h60 => ?_⟩
              rotate_left -- leaf 2: kd of X2_outcome at 60
              rotate_left -- leaf 3: kind of X2_outcome at 60
              rotate_left -- leaf 4: saying of X2_outcome at 60
              refine siG6 (pc := 63) notL_i (by decide) dX7_sayFirst_63 ?_
              rotate_left -- leaf 5: at 65
              -- leaves: 0 at 106; 1 index at 55; 2 kd of X2_outcome at 60; 3 kind of X2_outcome at 60; 4 saying of X2_outcome at 60; 5 at 65
              · rw [hf2, n_mul, n_le (by omega) (by omega)] at c42; omega
              · exact n_in (by omega) (by omega)
              · rw [n_cl (by omega)]; exact hB2.2.1.2.2.2.2.2 p hp
              · exact (hv.2.2.2.2.2.2.2.2.2 p hp).1
              · exact hs
              · have hB3 := hB2.cu h60
                have hS3 := hS2.cu h60
                have nx : ∀ M lab2 far2 o6, Xs m M → BR M C → M.1 98 13 = m.1 98 13 → SrS C bc wk A Bn lab2 far2 M → SdC C bc lab2 → (∀ n x, hasL lab n x → hasL lab2 n x) → (∀ v, outN C (C (40 + 2 * p)) (C 1) (C 5) s = some v → hasL lab2 (nodeN C v (sdN C (C 5) s)) (wtN bc (C 1) v, 20 * p + s)) → B e_X7_sayFirst Φ 34 [some (vr 7 98), some (vr 2 20), some (vi (nI (C 1))), some (vi (nI (C 5))), some (vi (nI p)), some (vi (nI (s + 1))), o6] [] M (0, 0) := by
                  intro M lab2 far2 o6 a1 a2 a3 a4 a5 a6 a7
                  refine ih2 (s + 1) M lab2 far2 o6 (by omega) (by omega) a1 a2 a3 a4 a5 (fun p' s' v hc ho => ?_)
                  by_cases z : p' = p ∧ s' = s
                  · rw [z.1, z.2] at ho ⊢
                    exact a7 v ho
                  · exact a6 _ _ (hH p' s' v (by omega) ho)
                cases e : outN C (C (40 + 2 * p)) (C 1) (C 5) s with
                | none =>
                  refine b_iloadG (pc := 65) 6 dX7_sayFirst_65 rfl ?_
                  refine b_ldc (pc := 67) k765 dX7_sayFirst_67 ?_
                  refine b_icmp_eq (pc := 69) 100 dX7_sayFirst_69 (by decide) (fun c69 => ?_) (fun c69 => ?_)
                  refine inc5 (pc := 100) notL_i (by decide) dX7_sayFirst_100 ?_
                  refine b_goto (pc := 103) 34 dX7_sayFirst_103 (by decide) ?_
                  rotate_left -- leaf 0: at 34
                  rotate_left -- leaf 1: at 72
                  -- leaves: 0 at 34; 1 at 72
                  · rw [n_inc]
                    exact nx m60 lab far _ (hX.tr (Xs.cu h60)) hB3 ((congrFun (h60.ne (by decide)) 13).trans h13) hS3 hSd (fun n x hx => hx) (fun v hv' => by rw [e] at hv'; cases hv')
                  · exact absurd rfl c69
                | some v =>
                  have hv2 := out_lt2 hv hv.2.1 hs e
                  have hv64 : v < 64 := by omega
                  have hw := wt_le (bc := bc) hv.c1 hv64
                  refine b_iloadG (pc := 65) 6 dX7_sayFirst_65 rfl ?_
                  refine b_ldc (pc := 67) k765 dX7_sayFirst_67 ?_
                  refine b_icmp_eq (pc := 69) 100 dX7_sayFirst_69 (by decide) (fun c69 => ?_) (fun c69 => ?_)
                  refine inc5 (pc := 100) notL_i (by decide) dX7_sayFirst_100 ?_
                  refine b_goto (pc := 103) 34 dX7_sayFirst_103 (by decide) ?_
                  rotate_left -- leaf 0: at 34
                  refine b_aloadN (pc := 72) 0 dX7_sayFirst_72 rfl rfl ?_
                  refine b_iloadG (pc := 73) 6 dX7_sayFirst_73 rfl ?_
                  refine b_iloadN (pc := 75) 3 dX7_sayFirst_75 rfl rfl ?_
                  refine b_iloadG (pc := 76) 5 dX7_sayFirst_76 rfl ?_
                  refine call_X2_factOf (pc := 78) k779 (by decide) ⟨Nat.le_of_ble_eq_true rfl, Nat.le_of_ble_eq_true rfl⟩ (Nat.le_of_ble_eq_true rfl) dX7_sayFirst_78 ?_
                  refine ⟨_, rfl, s, rfl, ?_, ?_⟩
                  rotate_left -- leaf 1: bound of X2_factOf at 78
                  refine b_ior (pc := 81) dX7_sayFirst_81 ?_
                  refine b_aloadN (pc := 82) 0 dX7_sayFirst_82 rfl rfl ?_
                  refine b_iloadN (pc := 83) 2 dX7_sayFirst_83 rfl rfl ?_
                  refine b_iloadG (pc := 84) 6 dX7_sayFirst_84 rfl ?_
                  refine call_X7_stepOf (pc := 86) k780 (by decide) ⟨Nat.le_of_ble_eq_true rfl, Nat.le_of_ble_eq_true rfl⟩ (Nat.le_of_ble_eq_true rfl) dX7_sayFirst_86 ?_
                  refine ⟨_, _, rfl, C 1, v, bc, rfl, rfl, hv.c1, ?_, ?_, hbc1, ?_⟩
                  rotate_left -- leaf 2: b64 of X7_stepOf at 86
                  rotate_left -- leaf 3: bc of X7_stepOf at 86
                  refine b_bipush (pc := 89) (nI 20) dX7_sayFirst_89 (by decide) ?_
                  refine b_iloadG (pc := 91) 4 dX7_sayFirst_91 rfl ?_
                  refine b_imul (pc := 93) dX7_sayFirst_93 ?_
                  refine b_iloadG (pc := 94) 5 dX7_sayFirst_94 rfl ?_
                  refine b_iadd (pc := 96) dX7_sayFirst_96 ?_
                  refine call_X7_enter (pc := 97) k785 (by decide) ⟨Nat.le_of_ble_eq_true rfl, Nat.le_of_ble_eq_true rfl⟩ (Nat.le_of_ble_eq_true rfl) dX7_sayFirst_97 ?_
                  refine ⟨_, _, _, _, rfl, C, bc, wk, A, Bn, lab, far, v, orN (C 5) (2 ^ (s / 2)), wtN bc (C 1) v, 20 * p + s, hv, hwk, hS3, rfl, ?_, rfl, ?_, ?_, ?_, ?_, ?_, fun m97 far2 xs97 eu97 et97 sr97 fl97 => ?_⟩
                  rotate_left -- leaf 4: sd of X7_enter at 97
                  rotate_left -- leaf 5: code of X7_enter at 97
                  rotate_left -- leaf 6: vlt of X7_enter at 97
                  rotate_left -- leaf 7: sdlt of X7_enter at 97
                  rotate_left -- leaf 8: f100 of X7_enter at 97
                  rotate_left -- leaf 9: cost of X7_enter at 97
                  refine inc5 (pc := 100) notL_i (by decide) dX7_sayFirst_100 ?_
                  refine b_goto (pc := 103) 34 dX7_sayFirst_103 (by decide) ?_
                  rotate_left -- leaf 10: at 34
                  -- leaves: 0 at 34; 1 bound of X2_factOf at 78; 2 b64 of X7_stepOf at 86; 3 bc of X7_stepOf at 86; 4 sd of X7_enter at 97; 5 code of X7_enter at 97; 6 vlt of X7_enter at 97; 7 sdlt of X7_enter at 97; 8 f100 of X7_enter at 97; 9 cost of X7_enter at 97; 10 at 34
                  · exact absurd c69 (n_ne_none (by omega))
                  · omega
                  · exact hv64
                  · exact hS3.2.1.2.2.2.1
                  · exact n_or _ _
                  · rw [n_mul, n_add]
                  · exact hv2
                  · exact or_lt_pow hv.2.2.2.2.2.1 (by omega)
                  · omega
                  · omega
                  · rw [n_inc]
                    rw [nodeN_sd] at sr97
                    exact nx m97 _ far2 _ ((hX.tr (Xs.cu h60)).tr xs97) (hB3.xs xs97 hS3.1 (hB3.2.2.2.2.e30 eu97)) (((et97 13 (by decide)).trans (congrFun (h60.ne (by decide)) 13)).trans h13) sr97 (hSd.ent hv (k := 0) ⟨p, s, hp, hs, e, rfl, rfl, rfl⟩) (fun n x hx => entL_mono _ _ hx) (fun v' hv' => by rw [e] at hv'; cases hv'; exact entL_has _ _ _)
            · skip
              refine b_iloadG (pc := 34) 5 dX7_sayFirst_34 rfl ?_
              refine b_iconst (pc := 36) (nI 2) dX7_sayFirst_36 (by decide) ?_
              refine b_aloadN (pc := 37) 0 dX7_sayFirst_37 rfl rfl ?_
              refine gf7_5 (pc := 38) k323 dX7_sayFirst_38 ?_
              refine b_imul (pc := 41) dX7_sayFirst_41 ?_
              refine b_icmp_ge (pc := 42) 106 dX7_sayFirst_42 (by decide) (fun c42 => ?_) (fun c42 => ?_)
              refine inc4 (pc := 106) notL_i (by decide) dX7_sayFirst_106 ?_
              refine b_goto (pc := 109) 19 dX7_sayFirst_109 (by decide) ?_
              rotate_left -- leaf 0: at 19
              rotate_left -- leaf 1: at 45
              -- leaves: 0 at 19; 1 at 45
              · rw [n_inc]
                exact ih (p + 1) m2 lab far _ _ (by omega) (by omega) hX hB2 h13 hS2 hSd (fun p' s' v a b ho => hH p' s' v (by omega) ho)
              · rw [hf2, n_mul, n_le (by omega) (by omega)] at c42; omega
        refine b_iloadG (pc := 19) 4 dX7_sayFirst_19 rfl ?_
        refine b_aloadN (pc := 21) 1 dX7_sayFirst_21 rfl rfl ?_
        refine gf2_0 (pc := 22) 21 rfl k265 dX7_sayFirst_22 ?_
        refine gf5_8 (pc := 25) k162 dX7_sayFirst_25 ?_
        refine b_icmp_ge (pc := 28) 112 dX7_sayFirst_28 (by decide) (fun c28 => ?_) (fun c28 => ?_)
        rotate_left -- leaf 0: at 112
        refine b_iconst (pc := 31) (nI 0) dX7_sayFirst_31 (by decide) ?_
        refine siG5 (pc := 32) notL_i (by decide) dX7_sayFirst_32 ?_
        rotate_left -- leaf 1: at 34
        -- leaves: 0 at 112; 1 at 34
        · rw [hB2.2.1.2.2.2.1, n_le (by omega) (by omega)] at c28; omega
        · exact inner (2 * C 0 + 1) 0 m2 lab far _ (by omega) (by omega) hX hB2 h13 hS2 hSd (fun p' s' v hc ho => hH p' s' v (by omega) (by omega) ho)
      · have ep : p = C 4 := by omega
        subst ep
        refine b_iloadG (pc := 19) 4 dX7_sayFirst_19 rfl ?_
        refine b_aloadN (pc := 21) 1 dX7_sayFirst_21 rfl rfl ?_
        refine gf2_0 (pc := 22) 21 rfl k265 dX7_sayFirst_22 ?_
        refine gf5_8 (pc := 25) k162 dX7_sayFirst_25 ?_
        refine b_icmp_ge (pc := 28) 112 dX7_sayFirst_28 (by decide) (fun c28 => ?_) (fun c28 => ?_)
        refine b_vret (pc := 112) rfl dX7_sayFirst_112 ⟨Nat.le_of_ble_eq_true rfl, Nat.le_of_ble_eq_true rfl⟩ ?_
        rotate_left -- leaf 0: return at 112
        rotate_left -- leaf 1: at 31
        -- leaves: 0 return at 112; 1 at 31
        · exact h m2 lab far hX hB2 h13 hS2 hSd hH
        · rw [hB2.2.1.2.2.2.1, n_le (by omega) (by omega)] at c28; omega
  refine b_aloadN (pc := 0) 1 dX7_sayFirst_0 rfl rfl ?_
  refine gf2_1 (pc := 1) 26 rfl k271 dX7_sayFirst_1 ?_
  refine gf8_1 (pc := 4) k232 dX7_sayFirst_4 ?_
  refine siN2 (pc := 7) rfl notL_r (by decide) dX7_sayFirst_7 ?_
  refine b_aloadN (pc := 8) 1 dX7_sayFirst_8 rfl rfl ?_
  refine gf2_1 (pc := 9) 26 rfl k271 dX7_sayFirst_9 ?_
  refine gf8_2 (pc := 12) k240 dX7_sayFirst_12 ?_
  refine siN3 (pc := 15) rfl notL_i (by decide) dX7_sayFirst_15 ?_
  refine b_iconst (pc := 16) (nI 0) dX7_sayFirst_16 (by decide) ?_
  refine siG4 (pc := 17) notL_i (by decide) dX7_sayFirst_17 ?_
  rotate_left -- leaf 0: at 19
  -- leaves: 0 at 19
  rw [hB.2.2.1.1, hB.2.2.1.2.1]
  exact outer (C 4 + 1) 0 m _ 0 none none (by omega) (by omega) (Xs.rf m) hB rfl hS (fun n x hx => by cases hx) (fun p' s' v z => absurd z (Nat.not_lt_zero p'))
theorem call_X7_sayFirst {E : ME} {Φ : Option AV → AM → Prop} {pc : Nat} {L : List (Option AV)} {st : List AV} {m : AM} {a : Nat × Nat} {idx : Nat} {x0 : AV} {i : Nat} (hl : Cond.methodLink E.2.1 idx yX7_sayFirst ∈ TB) (hdep : 5 + 1 ≤ E.2.2.2.2.2.2) (hroom : a.1 + 0 ≤ E.2.2.2.2.1 ∧ a.2 + 0 ≤ E.2.2.2.2.2.1) (hsr : st.length ≤ 4) (hd : decode E.1 pc = .ok (.invokevirtual idx, 3)) (hsp : Sp_X7_sayFirst [vr 7 i, x0] m (fun r m2 => B E Φ (pc + 3) L (r.toList ++ st) m2 a)) : B E Φ pc L (x0 :: vr 7 i :: st) m a := b_callV S_X7_sayFirst [x0] (RX7, TX7, 14) rfl rfl (by decide) (Or.inl hl) k776 k20 k76 k777 (show _ ∧ _ ∧ Option.map (fun d => d.parameters.length) (parseMethodDescriptor yX7_sayFirst.desc) = some 1 from by decide +kernel) ⟨hdep, by decide⟩ hroom hsr hd hsp
abbrev e_X7_lead : ME := (cX7_lead, (RX7, (8, (none, (0, (0, 5))))))
theorem dX7_lead_0 : decode cX7_lead 0 = .ok (.aload_n 0, 1) := by decide +kernel
theorem dX7_lead_1 : decode cX7_lead 1 = .ok (.iload_n 2, 1) := by decide +kernel
theorem dX7_lead_2 : decode cX7_lead 2 = .ok (.invokevirtual 67, 3) := by decide +kernel
theorem dX7_lead_5 : decode cX7_lead 5 = .ok (.istore_n 3, 1) := by decide +kernel
theorem dX7_lead_6 : decode cX7_lead 6 = .ok (.iload_n 2, 1) := by decide +kernel
theorem dX7_lead_7 : decode cX7_lead 7 = .ok (.aload_n 0, 1) := by decide +kernel
theorem dX7_lead_8 : decode cX7_lead 8 = .ok (.getfield 80, 3) := by decide +kernel
theorem dX7_lead_11 : decode cX7_lead 11 = .ok (.ishr, 1) := by decide +kernel
theorem dX7_lead_12 : decode cX7_lead 12 = .ok (.istore 4, 2) := by decide +kernel
theorem dX7_lead_14 : decode cX7_lead 14 = .ok (.iconst 0, 1) := by decide +kernel
theorem dX7_lead_15 : decode cX7_lead 15 = .ok (.istore 5, 2) := by decide +kernel
theorem dX7_lead_17 : decode cX7_lead 17 = .ok (.iload 5, 2) := by decide +kernel
theorem dX7_lead_19 : decode cX7_lead 19 = .ok (.aload_n 0, 1) := by decide +kernel
theorem dX7_lead_20 : decode cX7_lead 20 = .ok (.getfield 104, 3) := by decide +kernel
theorem dX7_lead_23 : decode cX7_lead 23 = .ok (.if_icmp .ge 94, 3) := by decide +kernel
theorem dX7_lead_26 : decode cX7_lead 26 = .ok (.iconst 0, 1) := by decide +kernel
theorem dX7_lead_27 : decode cX7_lead 27 = .ok (.istore 6, 2) := by decide +kernel
theorem dX7_lead_29 : decode cX7_lead 29 = .ok (.iload 6, 2) := by decide +kernel
theorem dX7_lead_31 : decode cX7_lead 31 = .ok (.iconst 2, 1) := by decide +kernel
theorem dX7_lead_32 : decode cX7_lead 32 = .ok (.aload_n 0, 1) := by decide +kernel
theorem dX7_lead_33 : decode cX7_lead 33 = .ok (.getfield 80, 3) := by decide +kernel
theorem dX7_lead_36 : decode cX7_lead 36 = .ok (.imul, 1) := by decide +kernel
theorem dX7_lead_37 : decode cX7_lead 37 = .ok (.if_icmp .ge 74, 3) := by decide +kernel
theorem dX7_lead_40 : decode cX7_lead 40 = .ok (.aload_n 1, 1) := by decide +kernel
theorem dX7_lead_41 : decode cX7_lead 41 = .ok (.aload_n 0, 1) := by decide +kernel
theorem dX7_lead_42 : decode cX7_lead 42 = .ok (.getfield 9, 3) := by decide +kernel
theorem dX7_lead_45 : decode cX7_lead 45 = .ok (.iload 5, 2) := by decide +kernel
theorem dX7_lead_47 : decode cX7_lead 47 = .ok (.iaload, 1) := by decide +kernel
theorem dX7_lead_48 : decode cX7_lead 48 = .ok (.iload 6, 2) := by decide +kernel
theorem dX7_lead_50 : decode cX7_lead 50 = .ok (.iload_n 3, 1) := by decide +kernel
theorem dX7_lead_51 : decode cX7_lead 51 = .ok (.iload 4, 2) := by decide +kernel
theorem dX7_lead_53 : decode cX7_lead 53 = .ok (.invokevirtual 124, 3) := by decide +kernel
theorem dX7_lead_56 : decode cX7_lead 56 = .ok (.istore 7, 2) := by decide +kernel
theorem dX7_lead_58 : decode cX7_lead 58 = .ok (.iload 7, 2) := by decide +kernel
theorem dX7_lead_60 : decode cX7_lead 60 = .ok (.ldc 48, 2) := by decide +kernel
theorem dX7_lead_62 : decode cX7_lead 62 = .ok (.if_icmp .eq 43, 3) := by decide +kernel
theorem dX7_lead_65 : decode cX7_lead 65 = .ok (.iload 7, 2) := by decide +kernel
theorem dX7_lead_67 : decode cX7_lead 67 = .ok (.iload_n 3, 1) := by decide +kernel
theorem dX7_lead_68 : decode cX7_lead 68 = .ok (.if_icmp .eq 37, 3) := by decide +kernel
theorem dX7_lead_71 : decode cX7_lead 71 = .ok (.aload_n 0, 1) := by decide +kernel
theorem dX7_lead_72 : decode cX7_lead 72 = .ok (.iload 7, 2) := by decide +kernel
theorem dX7_lead_74 : decode cX7_lead 74 = .ok (.iload 4, 2) := by decide +kernel
theorem dX7_lead_76 : decode cX7_lead 76 = .ok (.iload 6, 2) := by decide +kernel
theorem dX7_lead_78 : decode cX7_lead 78 = .ok (.invokestatic 128, 3) := by decide +kernel
theorem dX7_lead_81 : decode cX7_lead 81 = .ok (.ior, 1) := by decide +kernel
theorem dX7_lead_82 : decode cX7_lead 82 = .ok (.aload_n 0, 1) := by decide +kernel
theorem dX7_lead_83 : decode cX7_lead 83 = .ok (.getfield 18, 3) := by decide +kernel
theorem dX7_lead_86 : decode cX7_lead 86 = .ok (.iload_n 2, 1) := by decide +kernel
theorem dX7_lead_87 : decode cX7_lead 87 = .ok (.iaload, 1) := by decide +kernel
theorem dX7_lead_88 : decode cX7_lead 88 = .ok (.aload_n 0, 1) := by decide +kernel
theorem dX7_lead_89 : decode cX7_lead 89 = .ok (.iload_n 3, 1) := by decide +kernel
theorem dX7_lead_90 : decode cX7_lead 90 = .ok (.iload 7, 2) := by decide +kernel
theorem dX7_lead_92 : decode cX7_lead 92 = .ok (.invokevirtual 131, 3) := by decide +kernel
theorem dX7_lead_95 : decode cX7_lead 95 = .ok (.iadd, 1) := by decide +kernel
theorem dX7_lead_96 : decode cX7_lead 96 = .ok (.aload_n 0, 1) := by decide +kernel
theorem dX7_lead_97 : decode cX7_lead 97 = .ok (.getfield 21, 3) := by decide +kernel
theorem dX7_lead_100 : decode cX7_lead 100 = .ok (.iload_n 2, 1) := by decide +kernel
theorem dX7_lead_101 : decode cX7_lead 101 = .ok (.iaload, 1) := by decide +kernel
theorem dX7_lead_102 : decode cX7_lead 102 = .ok (.invokevirtual 135, 3) := by decide +kernel
theorem dX7_lead_105 : decode cX7_lead 105 = .ok (.iinc 6 1, 3) := by decide +kernel
theorem dX7_lead_108 : decode cX7_lead 108 = .ok (.goto (-79), 3) := by decide +kernel
theorem dX7_lead_111 : decode cX7_lead 111 = .ok (.iinc 5 1, 3) := by decide +kernel
theorem dX7_lead_114 : decode cX7_lead 114 = .ok (.goto (-97), 3) := by decide +kernel
theorem dX7_lead_117 : decode cX7_lead 117 = .ok (.return_, 1) := by decide +kernel
def Sp_X7_lead (av : List AV) (m : AM) (Φ : Option AV → AM → Prop) : Prop := ∃ x, av = [vr 7 98, vr 2 20, vi x] ∧ ∃ C bc wk A Bn lab far node c f, BR m C ∧ wk < 1000000 ∧ bc ≤ 1 ∧ SrS C bc wk A Bn lab far m ∧ x = nI node ∧ node < ndN C ∧ lab node = some (c, f) ∧ SdC C bc lab ∧ ∀ m2 lab2 far2, Xs m m2 → BR m2 C → m2.1 98 13 = m.1 98 13 → SrS C bc wk A Bn lab2 far2 m2 → SdC C bc lab2 → far ≤ far2 → (∀ n x, x.1 ≤ c → (lab2 n = some x ↔ lab n = some x)) → (∀ n x, hasL lab n x → hasL lab2 n x) → (∀ q s v, MvK C q → s < 2 * C 0 → outN C q (node % 2 ^ C 0) (node / 2 ^ C 0) s = some v → v ≠ node % 2 ^ C 0 → hasL lab2 (nodeN C v (sdN C (node / 2 ^ C 0) s)) (c + wtN bc (node % 2 ^ C 0) v, f)) → Φ none m2
set_option maxRecDepth 20000 in
set_option maxHeartbeats 4000000 in
theorem S_X7_lead : Snd yX7_lead e_X7_lead Sp_X7_lead := by
  refine Snd.of (by decide +kernel) rfl ?_ ?_
  · rintro av m Φ ⟨x, rfl, _⟩; exact Nat.le_of_ble_eq_true rfl
  rintro av m Φ ⟨x, rfl, C, bc, wk, A, Bn, lab, far, node, c, f, hB, hwk, hbc1, hS, rfl, hnd, hlab, hSd, h⟩ hav hty
  show B e_X7_lead Φ 0 [some (vr 7 98), some (vr 2 20), some (vi (nI node)), none, none, none, none, none] [] m (0, 0)
  have hv := hB.1
  have h06 := hv.1
  have hp6 := hv.p6
  have hN := nd_le hv
  obtain ⟨nd1, nd2, nd3, nd4⟩ := node_div hnd
  have hso64 : node % 2 ^ C 0 < 64 := by omega
  have hsd64 : node / 2 ^ C 0 < 64 := by omega
  obtain ⟨mv, mv1, mv2, mv3, mv4⟩ := hS.2.2.1
  obtain ⟨-, kw, hcw⟩ := hSd node (c, f) hlab
  have hcw : CWk C bc kw (node % 2 ^ C 0) (node / 2 ^ C 0) c f := hcw
  have hlf := hS.2.2.2.2.1 node (c, f) hlab
  have hff : f < 100 := hlf.2
  have outer : ∀ e k m2 lab1 far1 o6 o7, mv + 1 ≤ k + e → k ≤ mv → Xs m m2 → BR m2 C → m2.1 98 13 = m.1 98 13 → m2.1 99 = m.1 99 → m2.1 98 4 = m.1 98 4 → SrS C bc wk A Bn lab1 far1 m2 → SdC C bc lab1 → far ≤ far1 → (∀ n x, x.1 ≤ c → (lab1 n = some x ↔ lab n = some x)) → (∀ n x, hasL lab n x → hasL lab1 n x) → (∀ k' q s v, k' < k → m.1 99 k' = nI q → q ≤ 5 → s < 2 * C 0 → outN C q (node % 2 ^ C 0) (node / 2 ^ C 0) s = some v → v ≠ node % 2 ^ C 0 → hasL lab1 (nodeN C v (sdN C (node / 2 ^ C 0) s)) (c + wtN bc (node % 2 ^ C 0) v, f)) → B e_X7_lead Φ 17 [some (vr 7 98), some (vr 2 20), some (vi (nI node)), some (vi (nI (node % 2 ^ C 0))), some (vi (nI (node / 2 ^ C 0))), some (vi (nI k)), o6, o7] [] m2 (0, 0) := by
    intro e
    induction e with
    | zero => intro k m2 lab1 far1 o6 o7 z1 z2; omega
    | succ e ih =>
      intro k m2 lab1 far1 o6 o7 z1 z2 hX hB2 h13 h99 h4 hS2 hSd2 hfr hLow hMon hH
      by_cases hk : k < mv
      · obtain ⟨q, hqm, hqk⟩ := mv3 k hk
        have hqr := hqk.rng
        have inner : ∀ e s m2 lab1 far1 o7, 2 * C 0 + 1 ≤ s + e → s ≤ 2 * C 0 → Xs m m2 → BR m2 C → m2.1 98 13 = m.1 98 13 → m2.1 99 = m.1 99 → m2.1 98 4 = m.1 98 4 → SrS C bc wk A Bn lab1 far1 m2 → SdC C bc lab1 → far ≤ far1 → (∀ n x, x.1 ≤ c → (lab1 n = some x ↔ lab n = some x)) → (∀ n x, hasL lab n x → hasL lab1 n x) → (∀ k' q' s' v, (k' < k ∧ s' < 2 * C 0) ∨ (k' = k ∧ s' < s) → m.1 99 k' = nI q' → q' ≤ 5 → outN C q' (node % 2 ^ C 0) (node / 2 ^ C 0) s' = some v → v ≠ node % 2 ^ C 0 → hasL lab1 (nodeN C v (sdN C (node / 2 ^ C 0) s')) (c + wtN bc (node % 2 ^ C 0) v, f)) → B e_X7_lead Φ 29 [some (vr 7 98), some (vr 2 20), some (vi (nI node)), some (vi (nI (node % 2 ^ C 0))), some (vi (nI (node / 2 ^ C 0))), some (vi (nI k)), some (vi (nI s)), o7] [] m2 (0, 0) := by
          intro e
          induction e with
          | zero => intro s m2 lab1 far1 o7 z1 z2; omega
          | succ e ih2 =>
            intro s m2 lab1 far1 o7 z3 z4 hX hB2 h13 h99 h4 hS2 hSd2 hfr hLow hMon hH
            have hf2 := hS2.2.1.1
            by_cases hs : s < 2 * C 0
            · have hq : m2.1 99 (nI k).toNatClampNeg = nI q := by rw [n_cl (by omega), h99]; exact hqm
              refine b_iloadG (pc := 29) 6 dX7_lead_29 rfl ?_
              refine b_iconst (pc := 31) (nI 2) dX7_lead_31 (by decide) ?_
              refine b_aloadN (pc := 32) 0 dX7_lead_32 rfl rfl ?_
              refine gf7_5 (pc := 33) k323 dX7_lead_33 ?_
              refine b_imul (pc := 36) dX7_lead_36 ?_
              refine b_icmp_ge (pc := 37) 111 dX7_lead_37 (by decide) (fun c37 => ?_) (fun c37 => ?_)
              rotate_left -- leaf 0: at 111
              refine b_aloadN (pc := 40) 1 dX7_lead_40 rfl rfl ?_
              refine b_aloadN (pc := 41) 0 dX7_lead_41 rfl rfl ?_
              refine gf7_0 (pc := 42) 99 rfl k318 dX7_lead_42 ?_
              refine b_iloadG (pc := 45) 5 dX7_lead_45 rfl ?_
              refine b_iald (pc := 47) (by decide) ?_ dX7_lead_47 ?_
              rotate_left -- leaf 1: index at 47
              refine b_iloadG (pc := 48) 6 dX7_lead_48 rfl ?_
              refine b_iloadN (pc := 50) 3 dX7_lead_50 rfl rfl ?_
              refine b_iloadG (pc := 51) 4 dX7_lead_51 rfl ?_
              refine call_X2_outcome (pc := 53) k778 (by decide) ⟨Nat.le_of_ble_eq_true rfl, Nat.le_of_ble_eq_true rfl⟩ (Nat.le_of_ble_eq_true rfl) dX7_lead_53 ?_
              refine ⟨_, _, _, _, rfl, C, q, s, node % 2 ^ C 0, node / 2 ^ C 0, hB2, hq, rfl, rfl, rfl, hqr, hs, hso64, hsd64, fun m53 h53 => ?_⟩
              refine siG7 (pc := 56) notL_i (by decide) dX7_lead_56 ?_
              rotate_left -- leaf 2: at 58
              -- leaves: 0 at 111; 1 index at 47; 2 at 58
              · rw [hf2, n_mul, n_le (by omega) (by omega)] at c37; omega
              · exact n_in (by omega) (by omega)
              · have hB3 := hB2.cu h53
                have hS3 := hS2.cu h53
                have h993 : m53.1 99 = m.1 99 := (h53.ne (by decide)).trans h99
                have h43 : m53.1 98 4 = m.1 98 4 := (congrFun (h53.ne (by decide)) 4).trans h4
                have h133 : m53.1 98 13 = m.1 98 13 := (congrFun (h53.ne (by decide)) 13).trans h13
                have hX3 := hX.tr (Xs.cu h53)
                have nx : ∀ M lab2 far2 o7, Xs m53 M → BR M C → M.1 98 13 = m53.1 98 13 → M.1 99 = m53.1 99 → M.1 98 4 = m53.1 98 4 → SrS C bc wk A Bn lab2 far2 M → SdC C bc lab2 → far1 ≤ far2 → (∀ n x, x.1 ≤ c → (lab2 n = some x ↔ lab1 n = some x)) → (∀ n x, hasL lab1 n x → hasL lab2 n x) → (∀ v, outN C q (node % 2 ^ C 0) (node / 2 ^ C 0) s = some v → v ≠ node % 2 ^ C 0 → hasL lab2 (nodeN C v (sdN C (node / 2 ^ C 0) s)) (c + wtN bc (node % 2 ^ C 0) v, f)) → B e_X7_lead Φ 29 [some (vr 7 98), some (vr 2 20), some (vi (nI node)), some (vi (nI (node % 2 ^ C 0))), some (vi (nI (node / 2 ^ C 0))), some (vi (nI k)), some (vi (nI (s + 1))), o7] [] M (0, 0) := by
                  intro M lab2 far2 o7 a1 a2 a3 a4 a5 a6 a7 a8 a9 a10 a11
                  refine ih2 (s + 1) M lab2 far2 o7 (by omega) (by omega) (hX3.tr a1) a2 (a3.trans h133) (a4.trans h993) (a5.trans h43) a6 a7 (by omega) (fun n x hx => (a9 n x hx).trans (hLow n x hx)) (fun n x hx => a10 n x (hMon n x hx)) (fun k' q' s' v hc hq' hq5 ho hne => ?_)
                  by_cases z : k' = k ∧ s' = s
                  · rw [z.1, hqm, n_eq (by omega) (by omega)] at hq'
                    rw [z.2] at ho ⊢
                    rw [← hq'] at ho
                    exact a11 v ho hne
                  · exact a10 _ _ (hH k' q' s' v (by omega) hq' hq5 ho hne)
                cases e : outN C q (node % 2 ^ C 0) (node / 2 ^ C 0) s with
                | none =>
                  refine b_iloadG (pc := 58) 7 dX7_lead_58 rfl ?_
                  refine b_ldc (pc := 60) k765 dX7_lead_60 ?_
                  refine b_icmp_eq (pc := 62) 105 dX7_lead_62 (by decide) (fun c62 => ?_) (fun c62 => ?_)
                  refine inc6 (pc := 105) notL_i (by decide) dX7_lead_105 ?_
                  refine b_goto (pc := 108) 29 dX7_lead_108 (by decide) ?_
                  rotate_left -- leaf 0: at 29
                  rotate_left -- leaf 1: at 65
                  -- leaves: 0 at 29; 1 at 65
                  · rw [n_inc]
                    exact nx m53 lab1 far1 _ (Xs.rf _) hB3 rfl rfl rfl hS3 hSd2 (Nat.le_refl _) (fun n x _ => Iff.rfl) (fun n x hx => hx) (fun v hv' => by rw [e] at hv'; cases hv')
                  · exact absurd rfl c62
                | some v =>
                  have hv2 := out_lt2 hv nd2 hs e
                  have hv64 : v < 64 := by omega
                  by_cases hne : v = node % 2 ^ C 0
                  · skip
                    refine b_iloadG (pc := 58) 7 dX7_lead_58 rfl ?_
                    refine b_ldc (pc := 60) k765 dX7_lead_60 ?_
                    refine b_icmp_eq (pc := 62) 105 dX7_lead_62 (by decide) (fun c62 => ?_) (fun c62 => ?_)
                    refine inc6 (pc := 105) notL_i (by decide) dX7_lead_105 ?_
                    refine b_goto (pc := 108) 29 dX7_lead_108 (by decide) ?_
                    rotate_left -- leaf 0: at 29
                    refine b_iloadG (pc := 65) 7 dX7_lead_65 rfl ?_
                    refine b_iloadN (pc := 67) 3 dX7_lead_67 rfl rfl ?_
                    refine b_icmp_eq (pc := 68) 105 dX7_lead_68 (by decide) (fun c68 => ?_) (fun c68 => ?_)
                    refine inc6 (pc := 105) notL_i (by decide) dX7_lead_105 ?_
                    refine b_goto (pc := 108) 29 dX7_lead_108 (by decide) ?_
                    rotate_left -- leaf 1: at 29
                    rotate_left -- leaf 2: at 71
                    -- leaves: 0 at 29; 1 at 29; 2 at 71
                    · exact absurd c62 (n_ne_none (by omega))
                    · rw [n_inc]
                      exact nx m53 lab1 far1 _ (Xs.rf _) hB3 rfl rfl rfl hS3 hSd2 (Nat.le_refl _) (fun n x _ => Iff.rfl) (fun n x hx => hx) (fun v' hv' hn => by rw [e] at hv'; cases hv'; exact absurd hne hn)
                    · exact absurd (congrArg nI hne) c68
                  · have hw := wt_le (bc := bc) hso64 hv64
                    have hw1 := wt_pos (bc := bc) hso64 hv64 (fun z => hne z.symm)
                    have hlab1 : lab1 node = some (c, f) := (hLow node (c, f) (Nat.le_refl _)).mpr hlab
                    have s5 := hS3.2.2.2.2.1 node (c, f) hlab1
                    have s6 := hS3.2.2.2.2.2.1
                    have sv := (hS3.2.2.2.1 node hnd).2 (c, f) hlab1
                    have r1 := hS3.1.1 1 (by omega) (by omega)
                    have r2 := hS3.1.1 2 (by omega) (by omega)
                    have r3 := hS3.1.1 3 (by omega) (by omega)
                    refine b_iloadG (pc := 58) 7 dX7_lead_58 rfl ?_
                    refine b_ldc (pc := 60) k765 dX7_lead_60 ?_
                    refine b_icmp_eq (pc := 62) 105 dX7_lead_62 (by decide) (fun c62 => ?_) (fun c62 => ?_)
                    refine inc6 (pc := 105) notL_i (by decide) dX7_lead_105 ?_
                    refine b_goto (pc := 108) 29 dX7_lead_108 (by decide) ?_
                    rotate_left -- leaf 0: at 29
                    refine b_iloadG (pc := 65) 7 dX7_lead_65 rfl ?_
                    refine b_iloadN (pc := 67) 3 dX7_lead_67 rfl rfl ?_
                    refine b_icmp_eq (pc := 68) 105 dX7_lead_68 (by decide) (fun c68 => ?_) (fun c68 => ?_)
                    refine inc6 (pc := 105) notL_i (by decide) dX7_lead_105 ?_
                    refine b_goto (pc := 108) 29 dX7_lead_108 (by decide) ?_
                    rotate_left -- leaf 1: at 29
                    refine b_aloadN (pc := 71) 0 dX7_lead_71 rfl rfl ?_
                    refine b_iloadG (pc := 72) 7 dX7_lead_72 rfl ?_
                    refine b_iloadG (pc := 74) 4 dX7_lead_74 rfl ?_
                    refine b_iloadG (pc := 76) 6 dX7_lead_76 rfl ?_
                    refine call_X2_factOf (pc := 78) k779 (by decide) ⟨Nat.le_of_ble_eq_true rfl, Nat.le_of_ble_eq_true rfl⟩ (Nat.le_of_ble_eq_true rfl) dX7_lead_78 ?_
                    refine ⟨_, rfl, s, rfl, ?_, ?_⟩
                    rotate_left -- leaf 2: bound of X2_factOf at 78
                    refine b_ior (pc := 81) dX7_lead_81 ?_
                    refine b_aloadN (pc := 82) 0 dX7_lead_82 rfl rfl ?_
                    refine gf7_2 (pc := 83) k320 dX7_lead_83 ?_
                    refine b_iloadN (pc := 86) 2 dX7_lead_86 rfl rfl ?_
                    refine b_ialdD (pc := 87) ?_ dX7_lead_87 ?_
                    rotate_left -- leaf 3: index at 87
                    refine b_aloadN (pc := 88) 0 dX7_lead_88 rfl rfl ?_
                    refine b_iloadN (pc := 89) 3 dX7_lead_89 rfl rfl ?_
                    refine b_iloadG (pc := 90) 7 dX7_lead_90 rfl ?_
                    refine call_X7_stepOf (pc := 92) k780 (by decide) ⟨Nat.le_of_ble_eq_true rfl, Nat.le_of_ble_eq_true rfl⟩ (Nat.le_of_ble_eq_true rfl) dX7_lead_92 ?_
                    refine ⟨_, _, rfl, node % 2 ^ C 0, v, bc, rfl, rfl, hso64, ?_, ?_, hbc1, ?_⟩
                    rotate_left -- leaf 4: b64 of X7_stepOf at 92
                    rotate_left -- leaf 5: bc of X7_stepOf at 92
                    refine b_iadd (pc := 95) dX7_lead_95 ?_
                    refine b_aloadN (pc := 96) 0 dX7_lead_96 rfl rfl ?_
                    refine gf7_3 (pc := 97) k321 dX7_lead_97 ?_
                    refine b_iloadN (pc := 100) 2 dX7_lead_100 rfl rfl ?_
                    refine b_ialdD (pc := 101) ?_ dX7_lead_101 ?_
                    rotate_left -- leaf 6: index at 101
                    refine call_X7_enter (pc := 102) k785 (by decide) ⟨Nat.le_of_ble_eq_true rfl, Nat.le_of_ble_eq_true rfl⟩ (Nat.le_of_ble_eq_true rfl) dX7_lead_102 ?_
                    refine ⟨_, _, _, _, rfl, C, bc, wk, A, Bn, lab1, far1, v, orN (node / 2 ^ C 0) (2 ^ (s / 2)), c + wtN bc (node % 2 ^ C 0) v, f, hv, hwk, hS3, rfl, ?_, ?_, ?_, ?_, ?_, ?_, ?_, fun m102 far2 xs102 eu102 et102 sr102 fl102 => ?_⟩
                    rotate_left -- leaf 7: sd of X7_enter at 102
                    rotate_left -- leaf 8: cst of X7_enter at 102
                    rotate_left -- leaf 9: code of X7_enter at 102
                    rotate_left -- leaf 10: vlt of X7_enter at 102
                    rotate_left -- leaf 11: sdlt of X7_enter at 102
                    rotate_left -- leaf 12: f100 of X7_enter at 102
                    rotate_left -- leaf 13: cost of X7_enter at 102
                    refine inc6 (pc := 105) notL_i (by decide) dX7_lead_105 ?_
                    refine b_goto (pc := 108) 29 dX7_lead_108 (by decide) ?_
                    rotate_left -- leaf 14: at 29
                    -- leaves: 0 at 29; 1 at 29; 2 bound of X2_factOf at 78; 3 index at 87; 4 b64 of X7_stepOf at 92; 5 bc of X7_stepOf at 92; 6 index at 101; 7 sd of X7_enter at 102; 8 cst of X7_enter at 102; 9 code of X7_enter at 102; 10 vlt of X7_enter at 102; 11 sdlt of X7_enter at 102; 12 f100 of X7_enter at 102; 13 cost of X7_enter at 102; 14 at 29
                    · exact absurd c62 (n_ne_none (by omega))
                    · rw [show (oI (some v) : Int32) = nI v from rfl, n_eq (by omega) (by omega)] at c68
                      exact absurd c68 hne
                    · omega
                    · exact n_in (by omega) (by omega)
                    · exact hv64
                    · exact hS3.2.1.2.2.2.1
                    · exact n_in (by omega) (by omega)
                    · exact n_or _ _
                    · rw [n_cl (by omega), sv.2.1, n_add]
                    · rw [n_cl (by omega), sv.2.2]
                    · exact hv2
                    · exact or_lt_pow nd1 (by omega)
                    · exact hff
                    · have s5 : c ≤ far1 := s5.1
                      omega
                    · rw [n_inc]
                      rw [nodeN_sd] at sr102
                      have f98 : ∀ k, 1 ≤ k → k ≤ 3 → 99 ≠ m53.2.1 98 k := fun k a b z => by
                        have := (hS3.1.1 k a b).1.1
                        omega
                      exact nx m102 _ far2 _ xs102 (hB3.xs xs102 hS3.1 (hB3.2.2.2.2.e30 eu102)) (et102 13 (by decide)) (xs102.2 99 (by decide) (by decide) (f98 1 (by omega) (by omega)) (f98 2 (by omega) (by omega)) (f98 3 (by omega) (by omega))) (et102 4 (by decide)) sr102 (hSd2.ent hv (k := kw + 1) ⟨node % 2 ^ C 0, node / 2 ^ C 0, c, q, s, hcw, hqk, hs, e, hne, rfl, rfl⟩) fl102 (fun n x hx => entL_low (L := c) (by show c < c + wtN bc (node % 2 ^ C 0) v; omega) hx) (fun n x hx => entL_mono _ _ hx) (fun v' hv' _ => by rw [e] at hv'; cases hv'; exact entL_has _ _ _)
            · skip
              refine b_iloadG (pc := 29) 6 dX7_lead_29 rfl ?_
              refine b_iconst (pc := 31) (nI 2) dX7_lead_31 (by decide) ?_
              refine b_aloadN (pc := 32) 0 dX7_lead_32 rfl rfl ?_
              refine gf7_5 (pc := 33) k323 dX7_lead_33 ?_
              refine b_imul (pc := 36) dX7_lead_36 ?_
              refine b_icmp_ge (pc := 37) 111 dX7_lead_37 (by decide) (fun c37 => ?_) (fun c37 => ?_)
              refine inc5 (pc := 111) notL_i (by decide) dX7_lead_111 ?_
              refine b_goto (pc := 114) 17 dX7_lead_114 (by decide) ?_
              rotate_left -- leaf 0: at 17
              rotate_left -- leaf 1: at 40
              -- leaves: 0 at 17; 1 at 40
              · rw [n_inc]
                exact ih (k + 1) m2 lab1 far1 _ _ (by omega) (by omega) hX hB2 h13 h99 h4 hS2 hSd2 hfr hLow hMon (fun k' q' s' v a1 a2 a3 a4 a5 a6 => hH k' q' s' v (by omega) a2 a3 a5 a6)
              · rw [hf2, n_mul, n_le (by omega) (by omega)] at c37; omega
        refine b_iloadG (pc := 17) 5 dX7_lead_17 rfl ?_
        refine b_aloadN (pc := 19) 0 dX7_lead_19 rfl rfl ?_
        refine gf7_4 (pc := 20) k322 dX7_lead_20 ?_
        refine b_icmp_ge (pc := 23) 117 dX7_lead_23 (by decide) (fun c23 => ?_) (fun c23 => ?_)
        rotate_left -- leaf 0: at 117
        refine b_iconst (pc := 26) (nI 0) dX7_lead_26 (by decide) ?_
        refine siG6 (pc := 27) notL_i (by decide) dX7_lead_27 ?_
        rotate_left -- leaf 1: at 29
        -- leaves: 0 at 117; 1 at 29
        · rw [h4, mv1, n_le (by omega) (by omega)] at c23; omega
        · exact inner (2 * C 0 + 1) 0 m2 lab1 far1 _ (by omega) (by omega) hX hB2 h13 h99 h4 hS2 hSd2 hfr hLow hMon (fun k' q' s' v a1 a2 a3 a5 a6 => hH k' q' s' v (by omega) a2 a3 (by omega) a5 a6)
      · have ek : k = mv := by omega
        subst ek
        refine b_iloadG (pc := 17) 5 dX7_lead_17 rfl ?_
        refine b_aloadN (pc := 19) 0 dX7_lead_19 rfl rfl ?_
        refine gf7_4 (pc := 20) k322 dX7_lead_20 ?_
        refine b_icmp_ge (pc := 23) 117 dX7_lead_23 (by decide) (fun c23 => ?_) (fun c23 => ?_)
        refine b_vret (pc := 117) rfl dX7_lead_117 ⟨Nat.le_of_ble_eq_true rfl, Nat.le_of_ble_eq_true rfl⟩ ?_
        rotate_left -- leaf 0: return at 117
        rotate_left -- leaf 1: at 26
        -- leaves: 0 return at 117; 1 at 26
        · refine h m2 lab1 far1 hX hB2 h13 hS2 hSd2 hfr hLow hMon (fun q s v hq hs ho hne => ?_)
          obtain ⟨k', a, b⟩ := mv4 q hq
          exact hH k' q s v a b (by have := hq.rng; omega) hs ho hne
        · rw [h4, mv1, n_le (by omega) (by omega)] at c23; omega
  refine b_aloadN (pc := 0) 0 dX7_lead_0 rfl rfl ?_
  refine b_iloadN (pc := 1) 2 dX7_lead_1 rfl rfl ?_
  refine call_X7_soOf (pc := 2) k792 (by decide) ⟨Nat.le_of_ble_eq_true rfl, Nat.le_of_ble_eq_true rfl⟩ (Nat.le_of_ble_eq_true rfl) dX7_lead_2 ?_
  refine ⟨_, rfl, node, C 0, rfl, hS.2.1.1, h06.2, ?_⟩
  refine siN3 (pc := 5) rfl notL_i (by decide) dX7_lead_5 ?_
  refine b_iloadN (pc := 6) 2 dX7_lead_6 rfl rfl ?_
  refine b_aloadN (pc := 7) 0 dX7_lead_7 rfl rfl ?_
  refine gf7_5 (pc := 8) k323 dX7_lead_8 ?_
  refine b_ishr (pc := 11) dX7_lead_11 ?_
  refine siG4 (pc := 12) notL_i (by decide) dX7_lead_12 ?_
  refine b_iconst (pc := 14) (nI 0) dX7_lead_14 (by decide) ?_
  refine siG5 (pc := 15) notL_i (by decide) dX7_lead_15 ?_
  rotate_left -- leaf 0: at 17
  -- leaves: 0 at 17
  rw [hS.2.1.1, n_shr (by omega) (by omega), Nat.shiftRight_eq_div_pow]
  exact outer (mv + 1) 0 m lab far none none (by omega) (by omega) (Xs.rf m) hB rfl rfl rfl hS hSd (Nat.le_refl _) (fun n x _ => Iff.rfl) (fun n x hx => hx) (fun k' q s v z => absurd z (Nat.not_lt_zero k'))
theorem call_X7_lead {E : ME} {Φ : Option AV → AM → Prop} {pc : Nat} {L : List (Option AV)} {st : List AV} {m : AM} {a : Nat × Nat} {idx : Nat} {x0 x1 : AV} {i : Nat} (hl : Cond.methodLink E.2.1 idx yX7_lead ∈ TB) (hdep : 5 + 1 ≤ E.2.2.2.2.2.2) (hroom : a.1 + 0 ≤ E.2.2.2.2.1 ∧ a.2 + 0 ≤ E.2.2.2.2.2.1) (hsr : st.length ≤ 4) (hd : decode E.1 pc = .ok (.invokevirtual idx, 3)) (hsp : Sp_X7_lead [vr 7 i, x0, x1] m (fun r m2 => B E Φ (pc + 3) L (r.toList ++ st) m2 a)) : B E Φ pc L (x1 :: x0 :: vr 7 i :: st) m a := b_callV S_X7_lead [x0, x1] (RX7, TX7, 14) rfl rfl (by decide) (Or.inl hl) k798 k24 k76 k799 (show _ ∧ _ ∧ Option.map (fun d => d.parameters.length) (parseMethodDescriptor yX7_lead.desc) = some 2 from by decide +kernel) ⟨hdep, by decide⟩ hroom hsr hd hsp
