/-! the reference's search: spread -/
def StW (C : Nat → Nat) (bc : Nat) (lab : Nat → Option (Nat × Nat)) : Prop := ∀ p s v, p < C 4 → s < 2 * C 0 → outN C (C (40 + 2 * p)) (C 1) (C 5) s = some v → hasL lab (64 * (C 5 ||| 2 ^ (s / 2)) + v) (wtN bc (C 1) v, 20 * p + s)
def CloW (C : Nat → Nat) (bc : Nat) (lab : Nat → Option (Nat × Nat)) (n : Nat) (x : Nat × Nat) : Prop := ∀ p s v, p < C 4 → s < 2 * C 0 → outN C (C (40 + 2 * p)) (n % 64) (n / 64) s = some v → hasL lab (64 * (n / 64 ||| 2 ^ (s / 2)) + v) (x.1 + wtN bc (n % 64) v, x.2)
theorem CloW.mono {C : Nat → Nat} {bc : Nat} {lab lab2 : Nat → Option (Nat × Nat)} {n : Nat} {x : Nat × Nat} (h : CloW C bc lab n x) (hm : ∀ n x, hasL lab n x → hasL lab2 n x) : CloW C bc lab2 n x := fun p s v a b c => hm _ _ (h p s v a b c)
theorem walkW {C : Nat → Nat} (hv : VC C) {bc : Nat} {lab : Nat → Option (Nat × Nat)} (hs : StW C bc lab) (hc : ∀ n x, lab n = some x → CloW C bc lab n x) : ∀ k so d c f, Wk C bc k so d c f → hasL lab (64 * d + so) (c, f)
  | 0, so, d, c, f, h => by
    obtain ⟨p, s, hp, hs2, ho, e1, e2, e3⟩ := h
    rw [e1, e2, e3]
    exact hs p s so hp hs2 ho
  | k + 1, so, d, c, f, h => by
    obtain ⟨so0, d0, c0, p, s, h0, hp, hs2, ho, e1, e2⟩ := h
    have ok := Wk_ok hv k _ _ _ _ h0
    have ok1 := ok.1.1
    obtain ⟨y, hy, hle⟩ := walkW hv hs hc k _ _ _ _ h0
    have m1 : (64 * d0 + so0) % 64 = so0 := by omega
    have m2 : (64 * d0 + so0) / 64 = d0 := by omega
    have kk := hc _ y hy p s so hp hs2
    rw [m1, m2] at kk
    obtain ⟨z, hz, hzl⟩ := kk ho
    rw [e1, e2]
    refine ⟨z, hz, hzl.tr ?_⟩
    have hle : y.1 < c0 ∨ (y.1 = c0 ∧ y.2 ≤ f) := hle
    show y.1 + wtN bc so0 so < c0 + wtN bc so0 so ∨ (y.1 + wtN bc so0 so = c0 + wtN bc so0 so ∧ y.2 ≤ f)
    omega
theorem cntS_false : ∀ n, cntS (fun _ => false) n = 0
  | 0 => rfl
  | n + 1 => by
    have ih := cntS_false n
    have e : cntS (fun _ => false) (n + 1) = cntS (fun _ => false) n + 0 := rfl
    rw [e, ih]
theorem MuL_len (lab : Nat → Option (Nat × Nat)) (len : Nat) : len ≤ MuL lab len ∧ MuL lab (len + 1) = MuL lab len + 1 := by
  unfold MuL
  constructor <;> omega
/-- what the search has come to -/
def FarR (m : AM) (C : Nat → Nat) (bc : Nat) (lab : Nat → Option (Nat × Nat)) : Prop := (∀ n, n < 4096 → (lab n = none → m.1 118 n = -1000000) ∧ ∀ x, lab n = some x → m.1 118 n = nI (wtP C bc * x.1) ∧ m.1 119 n = nI x.2) ∧ (∀ n x, lab n = some x → n < 4096 ∧ x.1 ≤ 24576 ∧ x.2 < 100) ∧ SdW C bc lab ∧ ∀ k so d c f, Wk C bc k so d c f → hasL lab (64 * d + so) (c, f)
theorem QuR.cg {m M : AM} {w : Nat → Bool} {a len : Nat} {Q : Nat → Nat} (h : QuR m w a len Q) (e1 : M.1 121 = m.1 121) (e2 : M.1 110 22 = m.1 110 22) (e3 : M.1 110 23 = m.1 110 23) : QuR M w a len Q := by
  unfold QuR
  rw [e1, e2, e3]
  exact h
theorem Fm.mono2 {li ls li2 ls2 : List Nat} {m m2 : AM} (h : Fm li ls m m2) (h1 : ∀ a, a ∈ li → a ∈ li2) (h2 : ∀ a, a ∈ ls → a ∈ ls2) : Fm li2 ls2 m m2 := ⟨h.1, fun a x y => h.2.1 a x (fun z => y (h1 a z)), fun k y => h.2.2 k (fun z => y (h2 k z))⟩
abbrev e_X11_spread : ME := (cX11_spread, (RX11, (3, (none, (0, (0, 5))))))
theorem dX11_spread_0 : decode cX11_spread 0 = .ok (.aload_n 0, 1) := by decide +kernel
theorem dX11_spread_1 : decode cX11_spread 1 = .ok (.invokevirtual 207, 3) := by decide +kernel
theorem dX11_spread_4 : decode cX11_spread 4 = .ok (.aload_n 0, 1) := by decide +kernel
theorem dX11_spread_5 : decode cX11_spread 5 = .ok (.iconst 0, 1) := by decide +kernel
theorem dX11_spread_6 : decode cX11_spread 6 = .ok (.putfield 210, 3) := by decide +kernel
theorem dX11_spread_9 : decode cX11_spread 9 = .ok (.aload_n 0, 1) := by decide +kernel
theorem dX11_spread_10 : decode cX11_spread 10 = .ok (.iconst 0, 1) := by decide +kernel
theorem dX11_spread_11 : decode cX11_spread 11 = .ok (.putfield 204, 3) := by decide +kernel
theorem dX11_spread_14 : decode cX11_spread 14 = .ok (.aload_n 0, 1) := by decide +kernel
theorem dX11_spread_15 : decode cX11_spread 15 = .ok (.bipush 64, 2) := by decide +kernel
theorem dX11_spread_17 : decode cX11_spread 17 = .ok (.aload_n 0, 1) := by decide +kernel
theorem dX11_spread_18 : decode cX11_spread 18 = .ok (.getfield 19, 3) := by decide +kernel
theorem dX11_spread_21 : decode cX11_spread 21 = .ok (.iconst 5, 1) := by decide +kernel
theorem dX11_spread_22 : decode cX11_spread 22 = .ok (.iaload, 1) := by decide +kernel
theorem dX11_spread_23 : decode cX11_spread 23 = .ok (.imul, 1) := by decide +kernel
theorem dX11_spread_24 : decode cX11_spread 24 = .ok (.aload_n 0, 1) := by decide +kernel
theorem dX11_spread_25 : decode cX11_spread 25 = .ok (.getfield 19, 3) := by decide +kernel
theorem dX11_spread_28 : decode cX11_spread 28 = .ok (.iconst 1, 1) := by decide +kernel
theorem dX11_spread_29 : decode cX11_spread 29 = .ok (.iaload, 1) := by decide +kernel
theorem dX11_spread_30 : decode cX11_spread 30 = .ok (.iadd, 1) := by decide +kernel
theorem dX11_spread_31 : decode cX11_spread 31 = .ok (.iconst 0, 1) := by decide +kernel
theorem dX11_spread_32 : decode cX11_spread 32 = .ok (.ldc 96, 2) := by decide +kernel
theorem dX11_spread_34 : decode cX11_spread 34 = .ok (.iload_n 1, 1) := by decide +kernel
theorem dX11_spread_35 : decode cX11_spread 35 = .ok (.invokevirtual 213, 3) := by decide +kernel
theorem dX11_spread_38 : decode cX11_spread 38 = .ok (.aload_n 0, 1) := by decide +kernel
theorem dX11_spread_39 : decode cX11_spread 39 = .ok (.getfield 210, 3) := by decide +kernel
theorem dX11_spread_42 : decode cX11_spread 42 = .ok (.aload_n 0, 1) := by decide +kernel
theorem dX11_spread_43 : decode cX11_spread 43 = .ok (.getfield 204, 3) := by decide +kernel
theorem dX11_spread_46 : decode cX11_spread 46 = .ok (.if_icmp .eq 65, 3) := by decide +kernel
theorem dX11_spread_49 : decode cX11_spread 49 = .ok (.aload_n 0, 1) := by decide +kernel
theorem dX11_spread_50 : decode cX11_spread 50 = .ok (.getfield 41, 3) := by decide +kernel
theorem dX11_spread_53 : decode cX11_spread 53 = .ok (.aload_n 0, 1) := by decide +kernel
theorem dX11_spread_54 : decode cX11_spread 54 = .ok (.getfield 210, 3) := by decide +kernel
theorem dX11_spread_57 : decode cX11_spread 57 = .ok (.iaload, 1) := by decide +kernel
theorem dX11_spread_58 : decode cX11_spread 58 = .ok (.istore_n 2, 1) := by decide +kernel
theorem dX11_spread_59 : decode cX11_spread 59 = .ok (.aload_n 0, 1) := by decide +kernel
theorem dX11_spread_60 : decode cX11_spread 60 = .ok (.aload_n 0, 1) := by decide +kernel
theorem dX11_spread_61 : decode cX11_spread 61 = .ok (.getfield 210, 3) := by decide +kernel
theorem dX11_spread_64 : decode cX11_spread 64 = .ok (.sipush 4096, 3) := by decide +kernel
theorem dX11_spread_67 : decode cX11_spread 67 = .ok (.if_icmp .ne 7, 3) := by decide +kernel
theorem dX11_spread_70 : decode cX11_spread 70 = .ok (.iconst 0, 1) := by decide +kernel
theorem dX11_spread_71 : decode cX11_spread 71 = .ok (.goto 9, 3) := by decide +kernel
theorem dX11_spread_74 : decode cX11_spread 74 = .ok (.aload_n 0, 1) := by decide +kernel
theorem dX11_spread_75 : decode cX11_spread 75 = .ok (.getfield 210, 3) := by decide +kernel
theorem dX11_spread_78 : decode cX11_spread 78 = .ok (.iconst 1, 1) := by decide +kernel
theorem dX11_spread_79 : decode cX11_spread 79 = .ok (.iadd, 1) := by decide +kernel
theorem dX11_spread_80 : decode cX11_spread 80 = .ok (.putfield 210, 3) := by decide +kernel
theorem dX11_spread_83 : decode cX11_spread 83 = .ok (.aload_n 0, 1) := by decide +kernel
theorem dX11_spread_84 : decode cX11_spread 84 = .ok (.getfield 37, 3) := by decide +kernel
theorem dX11_spread_87 : decode cX11_spread 87 = .ok (.iload_n 2, 1) := by decide +kernel
theorem dX11_spread_88 : decode cX11_spread 88 = .ok (.iconst 0, 1) := by decide +kernel
theorem dX11_spread_89 : decode cX11_spread 89 = .ok (.bastore, 1) := by decide +kernel
theorem dX11_spread_90 : decode cX11_spread 90 = .ok (.aload_n 0, 1) := by decide +kernel
theorem dX11_spread_91 : decode cX11_spread 91 = .ok (.iload_n 2, 1) := by decide +kernel
theorem dX11_spread_92 : decode cX11_spread 92 = .ok (.aload_n 0, 1) := by decide +kernel
theorem dX11_spread_93 : decode cX11_spread 93 = .ok (.getfield 31, 3) := by decide +kernel
theorem dX11_spread_96 : decode cX11_spread 96 = .ok (.iload_n 2, 1) := by decide +kernel
theorem dX11_spread_97 : decode cX11_spread 97 = .ok (.iaload, 1) := by decide +kernel
theorem dX11_spread_98 : decode cX11_spread 98 = .ok (.aload_n 0, 1) := by decide +kernel
theorem dX11_spread_99 : decode cX11_spread 99 = .ok (.getfield 34, 3) := by decide +kernel
theorem dX11_spread_102 : decode cX11_spread 102 = .ok (.iload_n 2, 1) := by decide +kernel
theorem dX11_spread_103 : decode cX11_spread 103 = .ok (.iaload, 1) := by decide +kernel
theorem dX11_spread_104 : decode cX11_spread 104 = .ok (.iload_n 1, 1) := by decide +kernel
theorem dX11_spread_105 : decode cX11_spread 105 = .ok (.invokevirtual 213, 3) := by decide +kernel
theorem dX11_spread_108 : decode cX11_spread 108 = .ok (.goto (-70), 3) := by decide +kernel
theorem dX11_spread_111 : decode cX11_spread 111 = .ok (.return_, 1) := by decide +kernel
def Sp_X11_spread (av : List AV) (m : AM) (Φ : Option AV → AM → Prop) : Prop := ∃ u, av = [vr 11 110, vi u] ∧ ∃ (C : Nat → Nat) (bc : Nat), VC C ∧ MC m C ∧ bc ≤ 1 ∧ u = nI bc ∧ ∀ m2 lab, Fm [118, 119, 120, 121] [22, 23] m m2 → FarR m2 C bc lab → Φ none m2
set_option maxRecDepth 20000 in
set_option maxHeartbeats 4000000 in
theorem S_X11_spread : Snd yX11_spread e_X11_spread Sp_X11_spread := by
  refine Snd.of (by decide +kernel) rfl ?_ ?_
  · rintro av m Φ ⟨u, rfl, _⟩; exact Nat.le_of_ble_eq_true rfl
  rintro av m Φ ⟨u, rfl, C, bc, hv, hM, hbc, rfl, h⟩ hav hty
  show B e_X11_spread Φ 0 [some (vr 11 110), some (vi (nI bc)), none] [] m (0, 0)
  have h06 := hv.1
  have h45 := hv.2.2.2.2.1
  have c1 := hv.c1
  have c5 := hv.c5
  have hPk := wtP_ok hv bc
  have d1 : (64 * C 5 + C 1) % 64 = C 1 := by omega
  have d2 : (64 * C 5 + C 1) / 64 = C 5 := by omega
  have loop : ∀ mu lab w a len Q M o2, MuL lab len ≤ mu → Fm [118, 119, 120, 121] [22, 23] m M → LbR M (wtP C bc) lab w → QuR M w a len Q → SdW C bc lab → StW C bc lab → (∀ n x, lab n = some x → w n = false → CloW C bc lab n x) → B e_X11_spread Φ 38 [some (vr 11 110), some (vi (nI bc)), o2] [] M (0, 0) := by
    have exit : ∀ lab w a Q M o2, Fm [118, 119, 120, 121] [22, 23] m M → LbR M (wtP C bc) lab w → QuR M w a 0 Q → SdW C bc lab → StW C bc lab → (∀ n x, lab n = some x → w n = false → CloW C bc lab n x) → B e_X11_spread Φ 38 [some (vr 11 110), some (vi (nI bc)), o2] [] M (0, 0) := by
      intro lab w a Q M o2 hF hL hQ hS hSt hCl
      have hcl := cntL_le lab 4096
      have w0 := cntS_0 hQ.2.2.2.1.symm
      have a4 := hQ.1
      refine b_aloadN (pc := 38) 0 dX11_spread_38 rfl rfl ?_
      refine gf11_22 (pc := 39) k1064 dX11_spread_39 ?_
      refine b_aloadN (pc := 42) 0 dX11_spread_42 rfl rfl ?_
      refine gf11_23 (pc := 43) k1065 dX11_spread_43 ?_
      refine b_icmp_eq (pc := 46) 111 dX11_spread_46 (by decide) (fun c46 => ?_) (fun c46 => ?_)
      refine b_vret (pc := 111) rfl dX11_spread_111 ⟨Nat.le_of_ble_eq_true rfl, Nat.le_of_ble_eq_true rfl⟩ ?_
      rotate_left -- leaf 0: return at 111
      rotate_left -- leaf 1: at 49
      -- leaves: 0 return at 111; 1 at 49
      · exact h M lab hF ⟨fun n hn => ⟨(hL.1 n hn).1, (hL.1 n hn).2.1⟩, fun n x hx => ⟨(hL.2.1 n x hx).1, by have := (hL.2.1 n x hx).2.1; omega, (hL.2.1 n x hx).2.2⟩, hS, walkW hv hSt (fun n x hx => hCl n x hx (w0 n (hL.2.1 n x hx).1))⟩
      · rw [hQ.2.1, hQ.2.2.1, n_eq (by omega) (by omega)] at c46
        omega
    intro mu
    induction mu with
    | zero =>
      intro lab w a len Q M o2 z1 hF hL hQ hS hSt hCl
      have e : len = 0 := by
        have := (MuL_len lab len).1
        omega
      rw [e] at hQ
      exact exit lab w a Q M o2 hF hL hQ hS hSt hCl
    | succ mu ih =>
      intro lab w a len Q M o2 z1 hF hL hQ hS hSt hCl
      cases len with
      | zero => exact exit lab w a Q M o2 hF hL hQ hS hSt hCl
      | succ len =>
        have q0 := hQ.2.2.2.2.1 0 (by omega)
        have a4 := hQ.1
        have l4 : len + 1 ≤ 4096 := by
          rw [hQ.2.2.2.1]
          exact cntS_le w 4096
        have hq4 := q0.2.1
        have eqa : (a + 0) % 4097 = a := by omega
        rw [eqa] at q0
        cases el : lab (Q 0) with
        | none => exact absurd el (hL.2.2 _ q0.2.2)
        | some x =>
          obtain ⟨c, f⟩ := x
          have sx := (hL.1 (Q 0) hq4).2.1 (c, f) el
          have bx := hL.2.1 (Q 0) (c, f) el
          obtain ⟨kw, hkw⟩ := hS (Q 0) (c, f) el
          have hcl := cntL_le lab 4096
          have fx : f < 100 := bx.2.2
          have cx : c ≤ 6 * cntL lab 4096 := bx.1 |> fun _ => bx.2.1
          have m83 : ∀ M1, M1 = mset M 110 22 (nI (if a = 4096 then 0 else a + 1)) → B e_X11_spread Φ 83 [some (vr 11 110), some (vi (nI bc)), some (vi (nI (Q 0)))] [] M1 (0, 0) := by
            intro M1 hM1
            have hQ1 : QuR (mset M1 120 (Q 0) (nI 0)) (setW w (Q 0) false) (if a = 4096 then 0 else a + 1) len (fun i => Q (i + 1)) := by
              refine hQ.pop ?_ ?_ ?_
              · rw [hM1, mset_ne _ _ _ (show 121 ≠ 120 by decide), mset_ne _ _ _ (show 121 ≠ 110 by decide)]
              · rw [hM1, mset_ne _ _ _ (show 110 ≠ 120 by decide), mset_at, if_pos rfl]
              · rw [hM1, mset_ne _ _ _ (show 110 ≠ 120 by decide), mset_at, if_neg (by decide)]
            have hL1 : LbR (mset M1 120 (Q 0) (nI 0)) (wtP C bc) lab (setW w (Q 0) false) := by
              refine ⟨fun n hn => ?_, hL.2.1, fun n hn => ?_⟩
              · have k := hL.1 n hn
                rw [hM1, mset_ne _ _ _ (show 118 ≠ 120 by decide), mset_ne _ _ _ (show 118 ≠ 110 by decide), mset_ne _ _ _ (show 119 ≠ 120 by decide), mset_ne _ _ _ (show 119 ≠ 110 by decide), mset_at, mset_ne _ _ _ (show 120 ≠ 110 by decide)]
                refine ⟨k.1, k.2.1, ?_⟩
                by_cases t : n = Q 0
                · rw [if_pos t, t, setW_at]; rfl
                · rw [if_neg t, setW_ne w false t]; exact k.2.2
              · by_cases t : n = Q 0
                · rw [t, setW_at] at hn
                  cases hn
                · rw [setW_ne w false t] at hn
                  exact hL.2.2 n hn
            have hF1 : Fm [118, 119, 120, 121] [22, 23] m (mset M1 120 (Q 0) (nI 0)) := by
              rw [hM1]
              exact (hF.m0 (by simp)).ms (by decide) (by simp)
            have e8 : (mset M1 120 (Q 0) (nI 0)).1 118 = M.1 118 := by
              rw [hM1, mset_ne _ _ _ (show 118 ≠ 120 by decide), mset_ne _ _ _ (show 118 ≠ 110 by decide)]
            have e9 : (mset M1 120 (Q 0) (nI 0)).1 119 = M.1 119 := by
              rw [hM1, mset_ne _ _ _ (show 119 ≠ 120 by decide), mset_ne _ _ _ (show 119 ≠ 110 by decide)]
            have hMM : MC (mset M1 120 (Q 0) (nI 0)) C := MC.fm hF1 hM (by simp)
            have eqn : (nI (Q 0)).toNatClampNeg = Q 0 := n_cl (by omega)
            refine b_aloadN (pc := 83) 0 dX11_spread_83 rfl rfl ?_
            refine gf11_20 (pc := 84) 120 rfl k1062 dX11_spread_84 ?_
            refine b_iloadN (pc := 87) 2 dX11_spread_87 rfl rfl ?_
            refine b_iconst (pc := 88) (nI 0) dX11_spread_88 (by decide) ?_
            refine b_zast (pc := 89) (by decide) ?_ ?_ dX11_spread_89 ?_
            rotate_left -- leaf 0: index at 89
            rotate_left -- leaf 1: bool at 89
            refine b_aloadN (pc := 90) 0 dX11_spread_90 rfl rfl ?_
            refine b_iloadN (pc := 91) 2 dX11_spread_91 rfl rfl ?_
            refine b_aloadN (pc := 92) 0 dX11_spread_92 rfl rfl ?_
            refine gf11_18 (pc := 93) 118 rfl k1060 dX11_spread_93 ?_
            refine b_iloadN (pc := 96) 2 dX11_spread_96 rfl rfl ?_
            refine b_iald (pc := 97) (by decide) ?_ dX11_spread_97 ?_
            rotate_left -- leaf 2: index at 97
            refine b_aloadN (pc := 98) 0 dX11_spread_98 rfl rfl ?_
            refine gf11_19 (pc := 99) 119 rfl k1061 dX11_spread_99 ?_
            refine b_iloadN (pc := 102) 2 dX11_spread_102 rfl rfl ?_
            refine b_iald (pc := 103) (by decide) ?_ dX11_spread_103 ?_
            rotate_left -- leaf 3: index at 103
            refine b_iloadN (pc := 104) 1 dX11_spread_104 rfl rfl ?_
            refine call_X11_goOn (pc := 105) k1333 (by decide) ⟨Nat.le_of_ble_eq_true rfl, Nat.le_of_ble_eq_true rfl⟩ (Nat.le_of_ble_eq_true rfl) dX11_spread_105 ?_
            refine ⟨_, _, _, _, rfl, C, wtP C bc, bc, Q 0, c, (if a = 4096 then 0 else a + 1), len, some f, lab, setW w (Q 0) false, (fun i => Q (i + 1)), hv, ?_, rfl, hbc, ?_, hq4, ?_, ?_, ?_, rfl, cx, ?_, ?_, hS, ?_, fun m105 lab2 w2 len2 Q2 gi105 clo105 => ?_⟩
            rotate_left -- leaf 4: mc of X11_goOn at 105
            rotate_left -- leaf 5: n of X11_goOn at 105
            rotate_left -- leaf 6: c of X11_goOn at 105
            rotate_left -- leaf 7: f of X11_goOn at 105
            rotate_left -- leaf 8: fo of X11_goOn at 105
            rotate_left -- leaf 9: lb of X11_goOn at 105
            rotate_left -- leaf 10: qu of X11_goOn at 105
            rotate_left -- leaf 11: wk of X11_goOn at 105
            refine b_goto (pc := 108) 38 dX11_spread_108 (by decide) ?_
            rotate_left -- leaf 12: at 38
            -- leaves: 0 index at 89; 1 bool at 89; 2 index at 97; 3 index at 103; 4 mc of X11_goOn at 105; 5 n of X11_goOn at 105; 6 c of X11_goOn at 105; 7 f of X11_goOn at 105; 8 fo of X11_goOn at 105; 9 lb of X11_goOn at 105; 10 qu of X11_goOn at 105; 11 wk of X11_goOn at 105; 12 at 38
            · exact n_in (by omega) (by omega)
            · exact Or.inl rfl
            · exact n_in (by omega) (by omega)
            · exact n_in (by omega) (by omega)
            · rw [eqn]; exact hMM
            · rfl
            · rw [eqn, e8]; exact sx.1
            · rw [eqn, e9]; exact sx.2
            · intro f' z
              cases z
              exact fx
            · rw [eqn]; exact hL1
            · rw [eqn]; exact hQ1
            · intro p s v hp hs ho
              exact ⟨kw + 1, Q 0 % 64, Q 0 / 64, c, p, s, hkw, hp, hs, ho, rfl, rfl⟩
            · rw [eqn] at gi105
              refine ih lab2 w2 _ len2 Q2 m105 _ ?_ (hF1.tr (gi105.1.mono2 (fun a z => z) (fun a z => by simp at z; simp [z]))) gi105.2.1 gi105.2.2.1 gi105.2.2.2.1 (fun p s v b1 b2 b3 => gi105.2.2.2.2.1 _ _ (hSt p s v b1 b2 b3)) (fun n x hx hw => ?_)
              · have t1 := gi105.2.2.2.2.2.2.1
                have t2 := (MuL_len lab len).2
                omega
              · have t := gi105.2.2.2.2.2.1 n hw
                by_cases q : n = Q 0
                · rw [t.2, q, el] at hx
                  cases hx
                  rw [q]
                  exact clo105
                · have t1 := t.1
                  rw [setW_ne w false q] at t1
                  rw [t.2] at hx
                  exact (hCl n x hx t1).mono gi105.2.2.2.2.1
          refine b_aloadN (pc := 38) 0 dX11_spread_38 rfl rfl ?_
          refine gf11_22 (pc := 39) k1064 dX11_spread_39 ?_
          refine b_aloadN (pc := 42) 0 dX11_spread_42 rfl rfl ?_
          refine gf11_23 (pc := 43) k1065 dX11_spread_43 ?_
          refine b_icmp_eq (pc := 46) 111 dX11_spread_46 (by decide) (fun c46 => ?_) (fun c46 => ?_)
          rotate_left -- leaf 0: at 111
          refine b_aloadN (pc := 49) 0 dX11_spread_49 rfl rfl ?_
          refine gf11_21 (pc := 50) 121 rfl k1063 dX11_spread_50 ?_
          refine b_aloadN (pc := 53) 0 dX11_spread_53 rfl rfl ?_
          refine gf11_22 (pc := 54) k1064 dX11_spread_54 ?_
          refine b_iald (pc := 57) (by decide) ?_ dX11_spread_57 ?_
          rotate_left -- leaf 1: index at 57
          refine siN2 (pc := 58) rfl notL_i (by decide) dX11_spread_58 ?_
          refine b_aloadN (pc := 59) 0 dX11_spread_59 rfl rfl ?_
          refine b_aloadN (pc := 60) 0 dX11_spread_60 rfl rfl ?_
          refine gf11_22 (pc := 61) k1064 dX11_spread_61 ?_
          refine b_sipush (pc := 64) (nI 4096) dX11_spread_64 (by decide) ?_
          refine b_icmp_ne (pc := 67) 74 dX11_spread_67 (by decide) (fun c67 => ?_) (fun c67 => ?_)
          refine b_aloadN (pc := 74) 0 dX11_spread_74 rfl rfl ?_
          refine gf11_22 (pc := 75) k1064 dX11_spread_75 ?_
          refine b_iconst (pc := 78) (nI 1) dX11_spread_78 (by decide) ?_
          refine b_iadd (pc := 79) dX11_spread_79 ?_
          refine pf11_22 (pc := 80) k1064 dX11_spread_80 ?_
          rotate_left -- leaf 2: at 83
          refine b_iconst (pc := 70) (nI 0) dX11_spread_70 (by decide) ?_
          refine b_goto (pc := 71) 80 dX11_spread_71 (by decide) ?_
          refine pf11_22 (pc := 80) k1064 dX11_spread_80 ?_
          rotate_left -- leaf 3: at 83
          -- leaves: 0 at 111; 1 index at 57; 2 at 83; 3 at 83
          · rw [hQ.2.1, hQ.2.2.1, n_eq (by omega) (by omega)] at c46
            omega
          · rw [hQ.2.1]; exact n_in (by omega) (by omega)
          · rw [hQ.2.1, n_eq (by omega) (by omega)] at c67
            rw [hQ.2.1, n_cl (by omega), q0.1, n_add]
            exact m83 _ (by rw [if_neg c67])
          · rw [hQ.2.1, n_eq (by omega) (by omega)] at c67
            rw [hQ.2.1, n_cl (by omega), q0.1]
            exact m83 _ (by rw [if_pos c67])
  refine b_aloadN (pc := 0) 0 dX11_spread_0 rfl rfl ?_
  refine call_X11_clearStates (pc := 1) k1329 (by decide) ⟨Nat.le_of_ble_eq_true rfl, Nat.le_of_ble_eq_true rfl⟩ (Nat.le_of_ble_eq_true rfl) dX11_spread_1 ?_
  refine ⟨rfl, fun m1 fm1 cl1 => ?_⟩
  refine b_aloadN (pc := 4) 0 dX11_spread_4 rfl rfl ?_
  refine b_iconst (pc := 5) (nI 0) dX11_spread_5 (by decide) ?_
  refine pf11_22 (pc := 6) k1064 dX11_spread_6 ?_
  refine b_aloadN (pc := 9) 0 dX11_spread_9 rfl rfl ?_
  refine b_iconst (pc := 10) (nI 0) dX11_spread_10 (by decide) ?_
  refine pf11_23 (pc := 11) k1065 dX11_spread_11 ?_
  refine b_aloadN (pc := 14) 0 dX11_spread_14 rfl rfl ?_
  refine b_bipush (pc := 15) (nI 64) dX11_spread_15 (by decide) ?_
  refine b_aloadN (pc := 17) 0 dX11_spread_17 rfl rfl ?_
  refine gf11_5 (pc := 18) 114 rfl k1047 dX11_spread_18 ?_
  refine b_iconst (pc := 21) (nI 5) dX11_spread_21 (by decide) ?_
  refine b_iald (pc := 22) (by decide) ?_ dX11_spread_22 ?_
  rotate_left -- leaf 0: index at 22
  refine b_imul (pc := 23) dX11_spread_23 ?_
  refine b_aloadN (pc := 24) 0 dX11_spread_24 rfl rfl ?_
  refine gf11_5 (pc := 25) 114 rfl k1047 dX11_spread_25 ?_
  refine b_iconst (pc := 28) (nI 1) dX11_spread_28 (by decide) ?_
  refine b_iald (pc := 29) (by decide) ?_ dX11_spread_29 ?_
  rotate_left -- leaf 1: index at 29
  refine b_iadd (pc := 30) dX11_spread_30 ?_
  refine b_iconst (pc := 31) (nI 0) dX11_spread_31 (by decide) ?_
  refine b_ldc (pc := 32) k1180 dX11_spread_32 ?_
  refine b_iloadN (pc := 34) 1 dX11_spread_34 rfl rfl ?_
  refine call_X11_goOn (pc := 35) k1333 (by decide) ⟨Nat.le_of_ble_eq_true rfl, Nat.le_of_ble_eq_true rfl⟩ (Nat.le_of_ble_eq_true rfl) dX11_spread_35 ?_
  refine ⟨_, _, _, _, rfl, C, wtP C bc, bc, 64 * C 5 + C 1, 0, 0, 0, none, (fun _ => none), (fun _ => false), (fun _ => 0), hv, ?_, rfl, hbc, ?_, ?_, rfl, rfl, ?_, rfl, Nat.zero_le _, ?_, ?_, ?_, ?_, fun m35 lab2 w2 len2 Q2 gi35 clo35 => ?_⟩
  rotate_left -- leaf 2: mc of X11_goOn at 35
  rotate_left -- leaf 3: n of X11_goOn at 35
  rotate_left -- leaf 4: n4096 of X11_goOn at 35
  rotate_left -- leaf 5: fo of X11_goOn at 35
  rotate_left -- leaf 6: lb of X11_goOn at 35
  rotate_left -- leaf 7: qu of X11_goOn at 35
  rotate_left -- leaf 8: sd of X11_goOn at 35
  rotate_left -- leaf 9: wk of X11_goOn at 35
  rotate_left -- leaf 10: at 38
  -- leaves: 0 index at 22; 1 index at 29; 2 mc of X11_goOn at 35; 3 n of X11_goOn at 35; 4 n4096 of X11_goOn at 35; 5 fo of X11_goOn at 35; 6 lb of X11_goOn at 35; 7 qu of X11_goOn at 35; 8 sd of X11_goOn at 35; 9 wk of X11_goOn at 35; 10 at 38
  · exact n_in (by omega) (by omega)
  · exact n_in (by omega) (by omega)
  · exact ((MC.fm fm1 hM (by simp)).ms (by decide)).ms (by decide)
  · have hMM : MC (mset (mset m1 110 22 (nI 0)) 110 23 (nI 0)) C := ((MC.fm fm1 hM (by simp)).ms (by decide)).ms (by decide)
    rw [n_cl (by omega), n_cl (by omega), hMM 5 (by omega), hMM 1 (by omega), n_mul, n_add]
  · omega
  · intro f z
    cases z
  · refine ⟨fun n hn => ⟨fun _ => ?_, (fun x z => by cases z), ?_⟩, (fun n x z => by cases z), (fun n z => by cases z)⟩
    · rw [mset_ne _ _ _ (show 118 ≠ 110 by decide), mset_ne _ _ _ (show 118 ≠ 110 by decide)]
      exact (cl1 n hn).1
    · rw [mset_ne _ _ _ (show 120 ≠ 110 by decide), mset_ne _ _ _ (show 120 ≠ 110 by decide)]
      exact (cl1 n hn).2
  · refine ⟨by omega, ?_, ?_, (cntS_false _).symm, (fun i hi => absurd hi (Nat.not_lt_zero i)), (fun i j hi => absurd hi (Nat.not_lt_zero i))⟩
    · rw [mset_at, if_neg (by decide), mset_at, if_pos rfl]
    · rw [mset_at, if_pos rfl]
  · intro n x z
    cases z
  · intro p s v hp hs ho
    rw [d1, d2] at ho
    rw [d1, d2]
    exact ⟨0, p, s, hp, hs, ho, rfl, Nat.zero_add _, rfl⟩
  · refine loop (MuL lab2 len2) lab2 w2 0 len2 Q2 m35 _ (Nat.le_refl _) (((fm1.mono2 (li2 := [118, 119, 120, 121]) (ls2 := [22, 23]) (fun a z => by simp at z; simp; omega) (fun a z => by simp at z)).m0 (by simp)).m0 (by simp) |>.tr (gi35.1.mono2 (fun a z => z) (fun a z => by simp at z; simp [z]))) gi35.2.1 gi35.2.2.1 gi35.2.2.2.1 (fun p s v b1 b2 b3 => ?_) (fun n x hx hw => ?_)
    · have t := clo35 p s v b1 b2 (by rw [d1, d2]; exact b3)
      rw [d1, d2, Nat.zero_add] at t
      exact t
    · have t := (gi35.2.2.2.2.2.1 n hw).2
      rw [hx] at t
      cases t
theorem call_X11_spread {E : ME} {Φ : Option AV → AM → Prop} {pc : Nat} {L : List (Option AV)} {st : List AV} {m : AM} {a : Nat × Nat} {idx : Nat} {x0 : AV} {i : Nat} (hl : Cond.methodLink E.2.1 idx yX11_spread ∈ TB) (hdep : 5 + 1 ≤ E.2.2.2.2.2.2) (hroom : a.1 + 0 ≤ E.2.2.2.2.1 ∧ a.2 + 0 ≤ E.2.2.2.2.2.1) (hsr : st.length ≤ 4) (hd : decode E.1 pc = .ok (.invokevirtual idx, 3)) (hsp : Sp_X11_spread [vr 11 i, x0] m (fun r m2 => B E Φ (pc + 3) L (r.toList ++ st) m2 a)) : B E Φ pc L (x0 :: vr 11 i :: st) m a := b_callV S_X11_spread [x0] (RX11, TX11, 28) rfl rfl (by decide) (Or.inl hl) k1327 k56 k80 k1328 (show _ ∧ _ ∧ Option.map (fun d => d.parameters.length) (parseMethodDescriptor yX11_spread.desc) = some 1 from by decide +kernel) ⟨hdep, by decide⟩ hroom hsr hd hsp
