/-! the class's search: explore -/
def CloN (C : Nat → Nat) (bc : Nat) (lab : Nat → Option (Nat × Nat)) (n : Nat) (x : Nat × Nat) : Prop := ∀ q s v, MvK C q → s < 2 * C 0 → outN C q (n % 2 ^ C 0) (n / 2 ^ C 0) s = some v → v ≠ n % 2 ^ C 0 → hasL lab (nodeN C v (sdN C (n / 2 ^ C 0) s)) (x.1 + wtN bc (n % 2 ^ C 0) v, x.2)
def StL (C : Nat → Nat) (bc : Nat) (lab : Nat → Option (Nat × Nat)) : Prop := ∀ p s v, p < C 4 → s < 2 * C 0 → outN C (C (40 + 2 * p)) (C 1) (C 5) s = some v → hasL lab (nodeN C v (sdN C (C 5) s)) (wtN bc (C 1) v, 20 * p + s)
def ClL (C : Nat → Nat) (bc A Bn : Nat) (lab : Nat → Option (Nat × Nat)) (L : Nat) : Prop := ∀ n x, lab n = some x → x.1 < L → ¬ metP A Bn (n % 2 ^ C 0) ∧ CloN C bc lab n x
def PrL (C : Nat → Nat) (bc A Bn : Nat) (lab : Nat → Option (Nat × Nat)) (L k : Nat) : Prop := ∀ n x, n < k → lab n = some x → x.1 = L → ¬ metP A Bn (n % 2 ^ C 0) → CloN C bc lab n x
def FiL (C : Nat → Nat) (A Bn : Nat) (lab : Nat → Option (Nat × Nat)) (L k : Nat) (fv : Int32) : Prop := (fv = -1000000 ∧ ∀ n x, n < k → lab n = some x → x.1 = L → ¬ metP A Bn (n % 2 ^ C 0)) ∨ (∃ F, fv = nI F ∧ F < 100 ∧ (∃ n, n < k ∧ lab n = some (L, F) ∧ metP A Bn (n % 2 ^ C 0)) ∧ ∀ n x, n < k → lab n = some x → x.1 = L → metP A Bn (n % 2 ^ C 0) → F ≤ x.2)
theorem CloN.mono {C : Nat → Nat} {bc : Nat} {lab lab2 : Nat → Option (Nat × Nat)} {n : Nat} {x : Nat × Nat} (h : CloN C bc lab n x) (hm : ∀ n x, hasL lab n x → hasL lab2 n x) : CloN C bc lab2 n x := fun q s v a b c d => hm _ _ (h q s v a b c d)
theorem StL.mono {C : Nat → Nat} {bc : Nat} {lab lab2 : Nat → Option (Nat × Nat)} (h : StL C bc lab) (hm : ∀ n x, hasL lab n x → hasL lab2 n x) : StL C bc lab2 := fun p s v a b c => hm _ _ (h p s v a b c)
theorem ClL.low {C : Nat → Nat} {bc A Bn L : Nat} {lab lab2 : Nat → Option (Nat × Nat)} (h : ClL C bc A Bn lab L) (hl : ∀ n x, x.1 ≤ L → (lab2 n = some x ↔ lab n = some x)) (hm : ∀ n x, hasL lab n x → hasL lab2 n x) : ClL C bc A Bn lab2 L := fun n x a b => by
  have z := h n x ((hl n x (by omega)).mp a) b
  exact ⟨z.1, z.2.mono hm⟩
theorem PrL.low {C : Nat → Nat} {bc A Bn L k : Nat} {lab lab2 : Nat → Option (Nat × Nat)} (h : PrL C bc A Bn lab L k) (hl : ∀ n x, x.1 ≤ L → (lab2 n = some x ↔ lab n = some x)) (hm : ∀ n x, hasL lab n x → hasL lab2 n x) : PrL C bc A Bn lab2 L k := fun n x a b c d => (h n x a ((hl n x (by omega)).mp b) c d).mono hm
theorem FiL.low {C : Nat → Nat} {A Bn L k : Nat} {fv : Int32} {lab lab2 : Nat → Option (Nat × Nat)} (h : FiL C A Bn lab L k fv) (hl : ∀ n x, x.1 ≤ L → (lab2 n = some x ↔ lab n = some x)) : FiL C A Bn lab2 L k fv := by
  rcases h with ⟨a, b⟩ | ⟨F, a, a2, ⟨n, b1, b2, b3⟩, c⟩
  · exact Or.inl ⟨a, fun n x u v w => b n x u ((hl n x (by omega)).mp v) w⟩
  · exact Or.inr ⟨F, a, a2, ⟨n, b1, (hl n _ (Nat.le_refl _)).mpr b2, b3⟩, fun n x u v w => c n x u ((hl n x (by omega)).mp v) w⟩
theorem PrL.skip {C : Nat → Nat} {bc A Bn L k : Nat} {lab : Nat → Option (Nat × Nat)} (h : PrL C bc A Bn lab L k) (hk : ∀ x, lab k = some x → x.1 = L → ¬ metP A Bn (k % 2 ^ C 0) → CloN C bc lab k x) : PrL C bc A Bn lab L (k + 1) := fun n x a b c d => by
  by_cases q : n = k
  · subst q; exact hk x b c d
  · exact h n x (by omega) b c d
theorem FiL.skip {C : Nat → Nat} {A Bn L k : Nat} {fv : Int32} {lab : Nat → Option (Nat × Nat)} (h : FiL C A Bn lab L k fv) (hk : ∀ x, lab k = some x → x.1 = L → ¬ metP A Bn (k % 2 ^ C 0)) : FiL C A Bn lab L (k + 1) fv := by
  rcases h with ⟨a, b⟩ | ⟨F, a, a2, ⟨n, b1, b2, b3⟩, c⟩
  · refine Or.inl ⟨a, fun n x u v w => ?_⟩
    by_cases q : n = k
    · subst q; exact hk x v w
    · exact b n x (by omega) v w
  · refine Or.inr ⟨F, a, a2, ⟨n, by omega, b2, b3⟩, fun n x u v w t => ?_⟩
    by_cases q : n = k
    · subst q; exact absurd t (hk x v w)
    · exact c n x (by omega) v w t
theorem FiL.keep {C : Nat → Nat} {A Bn L k F f : Nat} {fv : Int32} {lab : Nat → Option (Nat × Nat)} (h : FiL C A Bn lab L k fv) (hf : fv = nI F) (hF : F < 100) (hk : lab k = some (L, f)) (hle : F ≤ f) : FiL C A Bn lab L (k + 1) fv := by
  rcases h with ⟨a, b⟩ | ⟨F', a, a2, ⟨n, b1, b2, b3⟩, c⟩
  · rw [hf] at a
    exact absurd a (n_ne_none (by omega))
  · have e : F = F' := by
      rw [hf, n_eq (by omega) (by omega)] at a
      exact a
    subst e
    refine Or.inr ⟨F, a, a2, ⟨n, by omega, b2, b3⟩, fun n x u v w t => ?_⟩
    by_cases q : n = k
    · subst q
      rw [hk] at v
      cases v
      exact hle
    · exact c n x (by omega) v w t
theorem FiL.put {C : Nat → Nat} {A Bn L k f : Nat} {fv : Int32} {lab : Nat → Option (Nat × Nat)} (h : FiL C A Bn lab L k fv) (hk : lab k = some (L, f)) (hm : metP A Bn (k % 2 ^ C 0)) (hf : f < 100) (hle : fv = -1000000 ∨ ∃ F, fv = nI F ∧ F < 100 ∧ f < F) : FiL C A Bn lab L (k + 1) (nI f) := by
  refine Or.inr ⟨f, rfl, hf, ⟨k, by omega, hk, hm⟩, fun n x u v w t => ?_⟩
  by_cases q : n = k
  · subst q
    rw [hk] at v
    cases v
    exact Nat.le_refl _
  · rcases h with ⟨a, b⟩ | ⟨F', a, a2, -, c⟩
    · exact absurd t (b n x (by omega) v w)
    · rcases hle with z | ⟨F, z1, z2, z3⟩
      · rw [a] at z
        exact absurd z (n_ne_none (by omega))
      · rw [a, n_eq (by omega) (by omega)] at z1
        have := c n x (by omega) v w t
        omega
/-- every walk as cheap as the level has its label -/
theorem walk_lab {C : Nat → Nat} (hv : VC C) {bc A Bn L : Nat} {lab : Nat → Option (Nat × Nat)} (hs : StL C bc lab) (hc : ClL C bc A Bn lab L) : ∀ n so sd c f, CWk C bc n so sd c f → c ≤ L → hasL lab (nodeN C so sd) (c, f)
  | 0, so, sd, c, f, h, hL => by
    obtain ⟨p, s, hp, hs2, ho, e1, e2, e3⟩ := h
    rw [e1, e2, e3]
    exact hs p s so hp hs2 ho
  | n + 1, so, sd, c, f, h, hL => by
    obtain ⟨so0, sd0, c0, q, s, h0, hq, hs2, ho, hne, e1, e2⟩ := h
    have l := CWk_lt hv n _ _ _ _ h0
    have hp6 := hv.p6
    have l2 := out_lt2 hv l.1 hs2 ho
    have w := wt_pos (bc := bc) (show so0 < 64 by omega) (show so < 64 by omega) (fun z => hne z.symm)
    obtain ⟨y, hy, hle⟩ := walk_lab hv hs hc n _ _ _ _ h0 (by omega)
    have yl : y.1 < L := by
      unfold le2 at hle
      have hle : y.1 < c0 ∨ (y.1 = c0 ∧ y.2 ≤ f) := hle
      omega
    have k := (hc _ y hy yl).2 q s so hq hs2
    have e3 : (if mindP C = true then sd0 else 0) = sd0 := by
      by_cases z : mindP C = true
      · exact if_pos z
      · rw [if_neg z]; exact (l.2.2 z).symm
    rw [node_so l.1, node_sd l.1, e3] at k
    obtain ⟨z, hz, hzl⟩ := k ho hne
    rw [e1, e2]
    refine ⟨z, hz, hzl.tr ?_⟩
    unfold le2 at hle ⊢
    have hle : y.1 < c0 ∨ (y.1 = c0 ∧ y.2 ≤ f) := hle
    show y.1 + wtN bc so0 so < c0 + wtN bc so0 so ∨ (y.1 + wtN bc so0 so = c0 + wtN bc so0 so ∧ y.2 ≤ f)
    omega
theorem SrS.m13 {C : Nat → Nat} {bc wk A Bn : Nat} {lab : Nat → Option (Nat × Nat)} {far : Nat} {m : AM} (h : SrS C bc wk A Bn lab far m) (v : Int32) : SrS C bc wk A Bn lab far (mset m 98 13 v) := by
  obtain ⟨h1, h2, h3, h4, h5, h6, h7⟩ := h
  have r1 := (h1.1 1 (by omega) (by omega)).1
  have r2 := (h1.1 2 (by omega) (by omega)).1
  have r3 := (h1.1 3 (by omega) (by omega)).1
  have e2 : (mset m 98 13 v).2 = m.2 := rfl
  have A0 : ∀ k, k ≠ 13 → (mset m 98 13 v).1 98 k = m.1 98 k := fun k hk => by
    rw [mset_at]; exact if_neg hk
  unfold SrS MvR
  rw [e2, A0 5 (by decide), A0 6 (by decide), A0 7 (by decide), A0 8 (by decide), A0 9 (by decide), A0 10 (by decide), A0 11 (by decide), A0 12 (by decide), A0 4 (by decide), mset_ne _ _ _ (show 99 ≠ 98 by omega), mset_ne _ _ _ (show m.2.1 98 1 ≠ 98 by omega), mset_ne _ _ _ (show m.2.1 98 2 ≠ 98 by omega), mset_ne _ _ _ (show m.2.1 98 3 ≠ 98 by omega)]
  exact ⟨h1.cg e2, h2, h3, h4, h5, h6, h7⟩
theorem Xs.m13 (m : AM) (v : Int32) : Xs m (mset m 98 13 v) := ⟨rfl, fun a _ b _ _ _ => mset_ne _ _ _ b⟩
/-- what a best walk comes to: its cost, its first saying -/
def coN (r : Option (Nat × Nat)) : Int32 := match r with
  | none => -1000000
  | some x => nI x.1
def frN (r : Option (Nat × Nat)) : Int32 := match r with
  | none => -1000000
  | some x => nI x.2
def ExI (C : Nat → Nat) (bc wk A Bn L k : Nat) (lab : Nat → Option (Nat × Nat)) (far : Nat) (m m2 : AM) : Prop := Xs m m2 ∧ BR m2 C ∧ SrS C bc wk A Bn lab far m2 ∧ SdC C bc lab ∧ StL C bc lab ∧ ClL C bc A Bn lab L ∧ PrL C bc A Bn lab L k ∧ FiL C A Bn lab L k (m2.1 98 13)
abbrev e_X7_explore : ME := (cX7_explore, (RX7, (4, ((some .int), (0, (0, 6))))))
theorem dX7_explore_0 : decode cX7_explore 0 = .ok (.aload_n 0, 1) := by decide +kernel
theorem dX7_explore_1 : decode cX7_explore 1 = .ok (.aload_n 1, 1) := by decide +kernel
theorem dX7_explore_2 : decode cX7_explore 2 = .ok (.invokevirtual 107, 3) := by decide +kernel
theorem dX7_explore_5 : decode cX7_explore 5 = .ok (.iconst 0, 1) := by decide +kernel
theorem dX7_explore_6 : decode cX7_explore 6 = .ok (.istore_n 2, 1) := by decide +kernel
theorem dX7_explore_7 : decode cX7_explore 7 = .ok (.iload_n 2, 1) := by decide +kernel
theorem dX7_explore_8 : decode cX7_explore 8 = .ok (.aload_n 0, 1) := by decide +kernel
theorem dX7_explore_9 : decode cX7_explore 9 = .ok (.getfield 89, 3) := by decide +kernel
theorem dX7_explore_12 : decode cX7_explore 12 = .ok (.if_icmp .gt 122, 3) := by decide +kernel
theorem dX7_explore_15 : decode cX7_explore 15 = .ok (.iload_n 2, 1) := by decide +kernel
theorem dX7_explore_16 : decode cX7_explore 16 = .ok (.sipush 24576, 3) := by decide +kernel
theorem dX7_explore_19 : decode cX7_explore 19 = .ok (.if_icmp .gt 115, 3) := by decide +kernel
theorem dX7_explore_22 : decode cX7_explore 22 = .ok (.iconst 0, 1) := by decide +kernel
theorem dX7_explore_23 : decode cX7_explore 23 = .ok (.istore_n 3, 1) := by decide +kernel
theorem dX7_explore_24 : decode cX7_explore 24 = .ok (.iload_n 3, 1) := by decide +kernel
theorem dX7_explore_25 : decode cX7_explore 25 = .ok (.aload_n 0, 1) := by decide +kernel
theorem dX7_explore_26 : decode cX7_explore 26 = .ok (.getfield 61, 3) := by decide +kernel
theorem dX7_explore_29 : decode cX7_explore 29 = .ok (.if_icmp .ge 88, 3) := by decide +kernel
theorem dX7_explore_32 : decode cX7_explore 32 = .ok (.aload_n 0, 1) := by decide +kernel
theorem dX7_explore_33 : decode cX7_explore 33 = .ok (.getfield 15, 3) := by decide +kernel
theorem dX7_explore_36 : decode cX7_explore 36 = .ok (.iload_n 3, 1) := by decide +kernel
theorem dX7_explore_37 : decode cX7_explore 37 = .ok (.iaload, 1) := by decide +kernel
theorem dX7_explore_38 : decode cX7_explore 38 = .ok (.aload_n 0, 1) := by decide +kernel
theorem dX7_explore_39 : decode cX7_explore 39 = .ok (.getfield 64, 3) := by decide +kernel
theorem dX7_explore_42 : decode cX7_explore 42 = .ok (.if_icmp .ne 69, 3) := by decide +kernel
theorem dX7_explore_45 : decode cX7_explore 45 = .ok (.aload_n 0, 1) := by decide +kernel
theorem dX7_explore_46 : decode cX7_explore 46 = .ok (.getfield 18, 3) := by decide +kernel
theorem dX7_explore_49 : decode cX7_explore 49 = .ok (.iload_n 3, 1) := by decide +kernel
theorem dX7_explore_50 : decode cX7_explore 50 = .ok (.iaload, 1) := by decide +kernel
theorem dX7_explore_51 : decode cX7_explore 51 = .ok (.iload_n 2, 1) := by decide +kernel
theorem dX7_explore_52 : decode cX7_explore 52 = .ok (.if_icmp .eq 6, 3) := by decide +kernel
theorem dX7_explore_55 : decode cX7_explore 55 = .ok (.goto 56, 3) := by decide +kernel
theorem dX7_explore_58 : decode cX7_explore 58 = .ok (.aload_n 0, 1) := by decide +kernel
theorem dX7_explore_59 : decode cX7_explore 59 = .ok (.aload_n 0, 1) := by decide +kernel
theorem dX7_explore_60 : decode cX7_explore 60 = .ok (.iload_n 3, 1) := by decide +kernel
theorem dX7_explore_61 : decode cX7_explore 61 = .ok (.invokevirtual 67, 3) := by decide +kernel
theorem dX7_explore_64 : decode cX7_explore 64 = .ok (.invokevirtual 44, 3) := by decide +kernel
theorem dX7_explore_67 : decode cX7_explore 67 = .ok (.ifCond .ne 12, 3) := by decide +kernel
theorem dX7_explore_70 : decode cX7_explore 70 = .ok (.aload_n 0, 1) := by decide +kernel
theorem dX7_explore_71 : decode cX7_explore 71 = .ok (.aload_n 1, 1) := by decide +kernel
theorem dX7_explore_72 : decode cX7_explore 72 = .ok (.iload_n 3, 1) := by decide +kernel
theorem dX7_explore_73 : decode cX7_explore 73 = .ok (.invokevirtual 111, 3) := by decide +kernel
theorem dX7_explore_76 : decode cX7_explore 76 = .ok (.goto 35, 3) := by decide +kernel
theorem dX7_explore_79 : decode cX7_explore 79 = .ok (.aload_n 0, 1) := by decide +kernel
theorem dX7_explore_80 : decode cX7_explore 80 = .ok (.getfield 53, 3) := by decide +kernel
theorem dX7_explore_83 : decode cX7_explore 83 = .ok (.ldc 48, 2) := by decide +kernel
theorem dX7_explore_85 : decode cX7_explore 85 = .ok (.if_icmp .eq 16, 3) := by decide +kernel
theorem dX7_explore_88 : decode cX7_explore 88 = .ok (.aload_n 0, 1) := by decide +kernel
theorem dX7_explore_89 : decode cX7_explore 89 = .ok (.getfield 21, 3) := by decide +kernel
theorem dX7_explore_92 : decode cX7_explore 92 = .ok (.iload_n 3, 1) := by decide +kernel
theorem dX7_explore_93 : decode cX7_explore 93 = .ok (.iaload, 1) := by decide +kernel
theorem dX7_explore_94 : decode cX7_explore 94 = .ok (.aload_n 0, 1) := by decide +kernel
theorem dX7_explore_95 : decode cX7_explore 95 = .ok (.getfield 53, 3) := by decide +kernel
theorem dX7_explore_98 : decode cX7_explore 98 = .ok (.if_icmp .ge 13, 3) := by decide +kernel
theorem dX7_explore_101 : decode cX7_explore 101 = .ok (.aload_n 0, 1) := by decide +kernel
theorem dX7_explore_102 : decode cX7_explore 102 = .ok (.aload_n 0, 1) := by decide +kernel
theorem dX7_explore_103 : decode cX7_explore 103 = .ok (.getfield 21, 3) := by decide +kernel
theorem dX7_explore_106 : decode cX7_explore 106 = .ok (.iload_n 3, 1) := by decide +kernel
theorem dX7_explore_107 : decode cX7_explore 107 = .ok (.iaload, 1) := by decide +kernel
theorem dX7_explore_108 : decode cX7_explore 108 = .ok (.putfield 53, 3) := by decide +kernel
theorem dX7_explore_111 : decode cX7_explore 111 = .ok (.iinc 3 1, 3) := by decide +kernel
theorem dX7_explore_114 : decode cX7_explore 114 = .ok (.goto (-90), 3) := by decide +kernel
theorem dX7_explore_117 : decode cX7_explore 117 = .ok (.aload_n 0, 1) := by decide +kernel
theorem dX7_explore_118 : decode cX7_explore 118 = .ok (.getfield 53, 3) := by decide +kernel
theorem dX7_explore_121 : decode cX7_explore 121 = .ok (.ldc 48, 2) := by decide +kernel
theorem dX7_explore_123 : decode cX7_explore 123 = .ok (.if_icmp .eq 5, 3) := by decide +kernel
theorem dX7_explore_126 : decode cX7_explore 126 = .ok (.iload_n 2, 1) := by decide +kernel
theorem dX7_explore_127 : decode cX7_explore 127 = .ok (.ireturn, 1) := by decide +kernel
theorem dX7_explore_128 : decode cX7_explore 128 = .ok (.iinc 2 1, 3) := by decide +kernel
theorem dX7_explore_131 : decode cX7_explore 131 = .ok (.goto (-124), 3) := by decide +kernel
theorem dX7_explore_134 : decode cX7_explore 134 = .ok (.ldc 48, 2) := by decide +kernel
theorem dX7_explore_136 : decode cX7_explore 136 = .ok (.ireturn, 1) := by decide +kernel
def Sp_X7_explore (av : List AV) (m : AM) (Φ : Option AV → AM → Prop) : Prop := av = [vr 7 98, vr 2 20] ∧ ∃ C bc wk A Bn, BR m C ∧ wk < 1000000 ∧ bc ≤ 1 ∧ A < 1000 ∧ SrS C bc wk A Bn (fun _ => none) 0 m ∧ m.1 98 13 = -1000000 ∧ ∀ m2 lab far r, Xs m m2 → BR m2 C → SrS C bc wk A Bn lab far m2 → SdC C bc lab → bestW C bc A Bn r → m2.1 98 13 = frN r → (∀ x, r = some x → x.1 ≤ 24576 ∧ x.2 < 100) → (r = none → ∀ n so sd c f, CWk C bc n so sd c f → ∃ x, lab (nodeN C so sd) = some x) → Φ (some (vi (coN r))) m2
set_option maxRecDepth 20000 in
set_option maxHeartbeats 4000000 in
theorem S_X7_explore : Snd yX7_explore e_X7_explore Sp_X7_explore := by
  refine Snd.of (by decide +kernel) rfl ?_ ?_
  · rintro av m Φ ⟨rfl, _⟩; exact Nat.le_of_ble_eq_true rfl
  rintro av m Φ ⟨rfl, C, bc, wk, A, Bn, hB, hwk, hbc1, hA1, hS, h13, h⟩ hav hty
  show B e_X7_explore Φ 0 [some (vr 7 98), some (vr 2 20), none, none] [] m (0, 0)
  have hv := hB.1
  have hN : ∀ m2 lab far, Xs m m2 → BR m2 C → SrS C bc wk A Bn lab far m2 → SdC C bc lab → m2.1 98 13 = -1000000 → (∀ n so sd c f, CWk C bc n so sd c f → (∃ x, lab (nodeN C so sd) = some x) ∧ ¬ metP A Bn so) → Φ (some (vi (-1000000))) m2 := fun m2 lab far a1 a2 a3 a4 a5 a6 => h m2 lab far none a1 a2 a3 a4 (best_of_C hv (r := none) (fun n so sd c f hw => (a6 n so sd c f hw).2)) a5 (fun x z => by cases z) (fun _ n so sd c f hw => (a6 n so sd c f hw).1)
  have hY : ∀ m2 lab far L F, Xs m m2 → BR m2 C → SrS C bc wk A Bn lab far m2 → SdC C bc lab → m2.1 98 13 = nI F → bestW C bc A Bn (some (L, F)) → L ≤ 24576 → F < 100 → Φ (some (vi (nI L))) m2 := fun m2 lab far L F a1 a2 a3 a4 a5 a6 a7 a8 => h m2 lab far (some (L, F)) a1 a2 a3 a4 a6 a5 (fun x z => by cases z; exact ⟨a7, a8⟩) (fun z => by cases z)
  have h06 := hv.1
  have hp6 := hv.p6
  have hnd := nd_le hv
  have level : ∀ e L lab far m2 o3, 24578 ≤ L + e → L ≤ 24577 → ExI C bc wk A Bn L 0 lab far m m2 → B e_X7_explore Φ 7 [some (vr 7 98), some (vr 2 20), some (vi (nI L)), o3] [] m2 (0, 0) := by
    intro e
    induction e with
    | zero =>
      intro L lab far m2 o3 z1 z2
      omega
    | succ e ih =>
      intro L lab far m2 o3 z1 z9 hI
      have node : ∀ d k lab far m2, ndN C + 1 ≤ k + d → k ≤ ndN C → L ≤ 24576 → ExI C bc wk A Bn L k lab far m m2 → B e_X7_explore Φ 24 [some (vr 7 98), some (vr 2 20), some (vi (nI L)), some (vi (nI k))] [] m2 (0, 0) := by
        intro d
        induction d with
        | zero => intro k lab far m2 z1 z2; omega
        | succ d ihn =>
          intro k lab far m2 z1 z2 hL hI
          obtain ⟨i1, hB, hS, hSd, hSt, hCl, hPr, hFi⟩ := id hI
          have r1 := hS.1.1 1 (by omega) (by omega)
          have r2 := hS.1.1 2 (by omega) (by omega)
          have r3 := hS.1.1 3 (by omega) (by omega)
          by_cases hk : k < ndN C
          · have s4 := hS.2.2.2.1 k hk
            have hso64 : k % 2 ^ C 0 < 64 := by
              have := Nat.mod_lt k (show 0 < 2 ^ C 0 from Nat.pow_pos (by omega))
              omega
            cases hlk : lab k with
            | none =>
              refine b_iloadN (pc := 24) 3 dX7_explore_24 rfl rfl ?_
              refine b_aloadN (pc := 25) 0 dX7_explore_25 rfl rfl ?_
              refine gf7_6 (pc := 26) k324 dX7_explore_26 ?_
              refine b_icmp_ge (pc := 29) 117 dX7_explore_29 (by decide) (fun c29 => ?_) (fun c29 => ?_)
              rotate_left -- leaf 0: at 117
              refine b_aloadN (pc := 32) 0 dX7_explore_32 rfl rfl ?_
              refine gf7_1 (pc := 33) k319 dX7_explore_33 ?_
              refine b_iloadN (pc := 36) 3 dX7_explore_36 rfl rfl ?_
              refine b_ialdD (pc := 37) ?_ dX7_explore_37 ?_
              rotate_left -- leaf 1: index at 37
              refine b_aloadN (pc := 38) 0 dX7_explore_38 rfl rfl ?_
              refine gf7_9 (pc := 39) k327 dX7_explore_39 ?_
              refine b_icmp_ne (pc := 42) 111 dX7_explore_42 (by decide) (fun c42 => ?_) (fun c42 => ?_)
              refine inc3 (pc := 111) notL_i (by decide) dX7_explore_111 ?_
              refine b_goto (pc := 114) 24 dX7_explore_114 (by decide) ?_
              rotate_left -- leaf 2: at 24
              rotate_left -- leaf 3: at 45
              -- leaves: 0 at 117; 1 index at 37; 2 at 24; 3 at 45
              · rw [hS.2.1.2.1, n_le (by omega) (by omega)] at c29; omega
              · exact n_in (by omega) (by omega)
              · rw [n_inc]
                exact ihn (k + 1) lab far m2 (by omega) (by omega) hL ⟨i1, hB, hS, hSd, hSt, hCl, hPr.skip (fun x h => by rw [hlk] at h; cases h), hFi.skip (fun x h => by rw [hlk] at h; cases h)⟩
              · rw [n_cl (by omega), hS.2.1.2.2.2.2.1] at c42
                exact absurd c42 (s4.1 hlk)
            | some x =>
              have sv := s4.2 x hlk
              have s5 := hS.2.2.2.2.1 k x hlk
              have s6 := hS.2.2.2.2.2.1
              have hcn := cntL_le lab (ndN C)
              by_cases hxL : x.1 = L
              · obtain ⟨x1, f⟩ := x
                have hxL : x1 = L := hxL
                subst x1
                have hf : f < 100 := s5.2
                have put : (m2.1 98 13 = -1000000 ∨ ∃ F, m2.1 98 13 = nI F ∧ F < 100 ∧ f < F) → metP A Bn (k % 2 ^ C 0) → B e_X7_explore Φ 24 [some (vr 7 98), some (vr 2 20), some (vi (nI L)), some (vi (nI (k + 1)))] [] (mset m2 98 13 (nI f)) (0, 0) := by
                  intro hle hm
                  refine ihn (k + 1) lab far _ (by omega) (by omega) hL ⟨i1.tr (Xs.m13 _ _), hB.xs (Xs.m13 _ _) hS.1 (hB.2.2.2.2.e30 (mset_ne _ _ _ (show 30 ≠ 98 by omega))), hS.m13 _, hSd, hSt, hCl, hPr.skip (fun x a b c => absurd hm c), ?_⟩
                  rw [mset_at, if_pos rfl]
                  exact hFi.put hlk hm hf hle
                by_cases hm : metP A Bn (k % 2 ^ C 0)
                · have hmb : metB A Bn (k % 2 ^ C 0) = true := (metB_iff A Bn _).mpr hm
                  refine b_iloadN (pc := 24) 3 dX7_explore_24 rfl rfl ?_
                  refine b_aloadN (pc := 25) 0 dX7_explore_25 rfl rfl ?_
                  refine gf7_6 (pc := 26) k324 dX7_explore_26 ?_
                  refine b_icmp_ge (pc := 29) 117 dX7_explore_29 (by decide) (fun c29 => ?_) (fun c29 => ?_)
                  rotate_left -- leaf 0: at 117
                  refine b_aloadN (pc := 32) 0 dX7_explore_32 rfl rfl ?_
                  refine gf7_1 (pc := 33) k319 dX7_explore_33 ?_
                  refine b_iloadN (pc := 36) 3 dX7_explore_36 rfl rfl ?_
                  refine b_ialdD (pc := 37) ?_ dX7_explore_37 ?_
                  rotate_left -- leaf 1: index at 37
                  refine b_aloadN (pc := 38) 0 dX7_explore_38 rfl rfl ?_
                  refine gf7_9 (pc := 39) k327 dX7_explore_39 ?_
                  refine b_icmp_ne (pc := 42) 111 dX7_explore_42 (by decide) (fun c42 => ?_) (fun c42 => ?_)
                  refine inc3 (pc := 111) notL_i (by decide) dX7_explore_111 ?_
                  refine b_goto (pc := 114) 24 dX7_explore_114 (by decide) ?_
                  rotate_left -- leaf 2: at 24
                  refine b_aloadN (pc := 45) 0 dX7_explore_45 rfl rfl ?_
                  refine gf7_2 (pc := 46) k320 dX7_explore_46 ?_
                  refine b_iloadN (pc := 49) 3 dX7_explore_49 rfl rfl ?_
                  refine b_ialdD (pc := 50) ?_ dX7_explore_50 ?_
                  rotate_left -- leaf 3: index at 50
                  refine b_iloadN (pc := 51) 2 dX7_explore_51 rfl rfl ?_
                  refine b_icmp_eq (pc := 52) 58 dX7_explore_52 (by decide) (fun c52 => ?_) (fun c52 => ?_)
                  refine b_aloadN (pc := 58) 0 dX7_explore_58 rfl rfl ?_
                  refine b_aloadN (pc := 59) 0 dX7_explore_59 rfl rfl ?_
                  refine b_iloadN (pc := 60) 3 dX7_explore_60 rfl rfl ?_
                  refine call_X7_soOf (pc := 61) k792 (by decide) ⟨Nat.le_of_ble_eq_true rfl, Nat.le_of_ble_eq_true rfl⟩ (Nat.le_of_ble_eq_true rfl) dX7_explore_61 ?_
                  refine ⟨_, rfl, k, C 0, rfl, hS.2.1.1, h06.2, ?_⟩
                  refine call_X7_isMet (pc := 64) k766 (by decide) ⟨Nat.le_of_ble_eq_true rfl, Nat.le_of_ble_eq_true rfl⟩ (Nat.le_of_ble_eq_true rfl) dX7_explore_64 ?_
                  refine ⟨_, rfl, k % 2 ^ C 0, A, Bn, rfl, hso64, hS.2.1.2.2.2.2.2.2.1, hS.2.1.2.2.2.2.2.2.2, hA1, ?_⟩
                  refine b_if_ne (pc := 67) 79 dX7_explore_67 (by decide) (fun c67 => ?_) (fun c67 => ?_)
                  refine b_aloadN (pc := 79) 0 dX7_explore_79 rfl rfl ?_
                  refine gf7_13 (pc := 80) k331 dX7_explore_80 ?_
                  refine b_ldc (pc := 83) k765 dX7_explore_83 ?_
                  refine b_icmp_eq (pc := 85) 101 dX7_explore_85 (by decide) (fun c85 => ?_) (fun c85 => ?_)
                  refine b_aloadN (pc := 101) 0 dX7_explore_101 rfl rfl ?_
                  refine b_aloadN (pc := 102) 0 dX7_explore_102 rfl rfl ?_
                  refine gf7_3 (pc := 103) k321 dX7_explore_103 ?_
                  refine b_iloadN (pc := 106) 3 dX7_explore_106 rfl rfl ?_
                  refine b_ialdD (pc := 107) ?_ dX7_explore_107 ?_
                  rotate_left -- leaf 4: index at 107
                  refine pf7_13 (pc := 108) k331 dX7_explore_108 ?_
                  refine inc3 (pc := 111) notL_i (by decide) dX7_explore_111 ?_
                  refine b_goto (pc := 114) 24 dX7_explore_114 (by decide) ?_
                  rotate_left -- leaf 5: at 24
                  refine b_aloadN (pc := 88) 0 dX7_explore_88 rfl rfl ?_
                  refine gf7_3 (pc := 89) k321 dX7_explore_89 ?_
                  refine b_iloadN (pc := 92) 3 dX7_explore_92 rfl rfl ?_
                  refine b_ialdD (pc := 93) ?_ dX7_explore_93 ?_
                  rotate_left -- leaf 6: index at 93
                  refine b_aloadN (pc := 94) 0 dX7_explore_94 rfl rfl ?_
                  refine gf7_13 (pc := 95) k331 dX7_explore_95 ?_
                  refine b_icmp_ge (pc := 98) 111 dX7_explore_98 (by decide) (fun c98 => ?_) (fun c98 => ?_)
                  refine inc3 (pc := 111) notL_i (by decide) dX7_explore_111 ?_
                  refine b_goto (pc := 114) 24 dX7_explore_114 (by decide) ?_
                  rotate_left -- leaf 7: at 24
                  refine b_aloadN (pc := 101) 0 dX7_explore_101 rfl rfl ?_
                  refine b_aloadN (pc := 102) 0 dX7_explore_102 rfl rfl ?_
                  refine gf7_3 (pc := 103) k321 dX7_explore_103 ?_
                  refine b_iloadN (pc := 106) 3 dX7_explore_106 rfl rfl ?_
                  refine b_ialdD (pc := 107) ?_ dX7_explore_107 ?_
                  rotate_left -- leaf 8: index at 107
                  refine pf7_13 (pc := 108) k331 dX7_explore_108 ?_
                  refine inc3 (pc := 111) notL_i (by decide) dX7_explore_111 ?_
                  refine b_goto (pc := 114) 24 dX7_explore_114 (by decide) ?_
                  rotate_left -- leaf 9: at 24
                  rotate_left -- leaf 10: at 70
                  refine b_goto (pc := 55) 111 dX7_explore_55 (by decide) ?_
                  refine inc3 (pc := 111) notL_i (by decide) dX7_explore_111 ?_
                  refine b_goto (pc := 114) 24 dX7_explore_114 (by decide) ?_
                  rotate_left -- leaf 11: at 24
                  -- leaves: 0 at 117; 1 index at 37; 2 at 24; 3 index at 50; 4 index at 107; 5 at 24; 6 index at 93; 7 at 24; 8 index at 107; 9 at 24; 10 at 70; 11 at 24
                  · rw [hS.2.1.2.1, n_le (by omega) (by omega)] at c29; omega
                  · exact n_in (by omega) (by omega)
                  · rw [n_cl (by omega), hS.2.1.2.2.2.2.1] at c42
                    exact absurd sv.1 c42
                  · exact n_in (by omega) (by omega)
                  · exact n_in (by omega) (by omega)
                  · rw [n_cl (by omega), sv.2.2, n_inc]
                    exact put (Or.inl c85) hm
                  · exact n_in (by omega) (by omega)
                  · rcases id hFi with ⟨a, -⟩ | ⟨F, a, a2, -, -⟩
                    · exact absurd a c85
                    · rw [n_cl (by omega), sv.2.2, a, n_le (by omega) (by omega)] at c98
                      rw [n_inc]
                      exact ihn (k + 1) lab far m2 (by omega) (by omega) hL ⟨i1, hB, hS, hSd, hSt, hCl, hPr.skip (fun x a b c => absurd hm c), hFi.keep a a2 hlk c98⟩
                  · exact n_in (by omega) (by omega)
                  · rcases id hFi with ⟨a, -⟩ | ⟨F, a, a2, -, -⟩
                    · exact absurd a c85
                    · rw [n_cl (by omega), sv.2.2, a, n_le (by omega) (by omega)] at c98
                      rw [n_cl (by omega), sv.2.2, n_inc]
                      exact put (Or.inr ⟨F, a, a2, by omega⟩) hm
                  · rw [if_pos hmb] at c67
                    exact absurd c67 (by decide)
                  · rw [n_cl (by omega), sv.2.1] at c52
                    exact absurd rfl c52
                · have hmb : ¬ metB A Bn (k % 2 ^ C 0) = true := fun z => hm ((metB_iff A Bn _).mp z)
                  refine b_iloadN (pc := 24) 3 dX7_explore_24 rfl rfl ?_
                  refine b_aloadN (pc := 25) 0 dX7_explore_25 rfl rfl ?_
                  refine gf7_6 (pc := 26) k324 dX7_explore_26 ?_
                  refine b_icmp_ge (pc := 29) 117 dX7_explore_29 (by decide) (fun c29 => ?_) (fun c29 => ?_)
                  rotate_left -- leaf 0: at 117
                  refine b_aloadN (pc := 32) 0 dX7_explore_32 rfl rfl ?_
                  refine gf7_1 (pc := 33) k319 dX7_explore_33 ?_
                  refine b_iloadN (pc := 36) 3 dX7_explore_36 rfl rfl ?_
                  refine b_ialdD (pc := 37) ?_ dX7_explore_37 ?_
                  rotate_left -- leaf 1: index at 37
                  refine b_aloadN (pc := 38) 0 dX7_explore_38 rfl rfl ?_
                  refine gf7_9 (pc := 39) k327 dX7_explore_39 ?_
                  refine b_icmp_ne (pc := 42) 111 dX7_explore_42 (by decide) (fun c42 => ?_) (fun c42 => ?_)
                  refine inc3 (pc := 111) notL_i (by decide) dX7_explore_111 ?_
                  refine b_goto (pc := 114) 24 dX7_explore_114 (by decide) ?_
                  rotate_left -- leaf 2: at 24
                  refine b_aloadN (pc := 45) 0 dX7_explore_45 rfl rfl ?_
                  refine gf7_2 (pc := 46) k320 dX7_explore_46 ?_
                  refine b_iloadN (pc := 49) 3 dX7_explore_49 rfl rfl ?_
                  refine b_ialdD (pc := 50) ?_ dX7_explore_50 ?_
                  rotate_left -- leaf 3: index at 50
                  refine b_iloadN (pc := 51) 2 dX7_explore_51 rfl rfl ?_
                  refine b_icmp_eq (pc := 52) 58 dX7_explore_52 (by decide) (fun c52 => ?_) (fun c52 => ?_)
                  refine b_aloadN (pc := 58) 0 dX7_explore_58 rfl rfl ?_
                  refine b_aloadN (pc := 59) 0 dX7_explore_59 rfl rfl ?_
                  refine b_iloadN (pc := 60) 3 dX7_explore_60 rfl rfl ?_
                  refine call_X7_soOf (pc := 61) k792 (by decide) ⟨Nat.le_of_ble_eq_true rfl, Nat.le_of_ble_eq_true rfl⟩ (Nat.le_of_ble_eq_true rfl) dX7_explore_61 ?_
                  refine ⟨_, rfl, k, C 0, rfl, hS.2.1.1, h06.2, ?_⟩
                  refine call_X7_isMet (pc := 64) k766 (by decide) ⟨Nat.le_of_ble_eq_true rfl, Nat.le_of_ble_eq_true rfl⟩ (Nat.le_of_ble_eq_true rfl) dX7_explore_64 ?_
                  refine ⟨_, rfl, k % 2 ^ C 0, A, Bn, rfl, hso64, hS.2.1.2.2.2.2.2.2.1, hS.2.1.2.2.2.2.2.2.2, hA1, ?_⟩
                  refine b_if_ne (pc := 67) 79 dX7_explore_67 (by decide) (fun c67 => ?_) (fun c67 => ?_)
                  rotate_left -- leaf 4: at 79
                  refine b_aloadN (pc := 70) 0 dX7_explore_70 rfl rfl ?_
                  refine b_aloadN (pc := 71) 1 dX7_explore_71 rfl rfl ?_
                  refine b_iloadN (pc := 72) 3 dX7_explore_72 rfl rfl ?_
                  refine call_X7_lead (pc := 73) k796 (by decide) ⟨Nat.le_of_ble_eq_true rfl, Nat.le_of_ble_eq_true rfl⟩ (Nat.le_of_ble_eq_true rfl) dX7_explore_73 ?_
                  refine ⟨_, rfl, C, bc, wk, A, Bn, lab, far, k, L, f, hB, hwk, hbc1, hS, rfl, hk, hlk, hSd, fun m73 lab2 far2 xs73 hB2 et73 hS2 hSd2 fl73 hLow hMon hClo => ?_⟩
                  refine b_goto (pc := 76) 111 dX7_explore_76 (by decide) ?_
                  refine inc3 (pc := 111) notL_i (by decide) dX7_explore_111 ?_
                  refine b_goto (pc := 114) 24 dX7_explore_114 (by decide) ?_
                  rotate_left -- leaf 5: at 24
                  refine b_goto (pc := 55) 111 dX7_explore_55 (by decide) ?_
                  refine inc3 (pc := 111) notL_i (by decide) dX7_explore_111 ?_
                  refine b_goto (pc := 114) 24 dX7_explore_114 (by decide) ?_
                  rotate_left -- leaf 6: at 24
                  -- leaves: 0 at 117; 1 index at 37; 2 at 24; 3 index at 50; 4 at 79; 5 at 24; 6 at 24
                  · rw [hS.2.1.2.1, n_le (by omega) (by omega)] at c29; omega
                  · exact n_in (by omega) (by omega)
                  · rw [n_cl (by omega), hS.2.1.2.2.2.2.1] at c42
                    exact absurd sv.1 c42
                  · exact n_in (by omega) (by omega)
                  · rw [if_neg hmb] at c67
                    exact absurd rfl c67
                  · rw [n_inc]
                    refine ihn (k + 1) lab2 far2 m73 (by omega) (by omega) hL ⟨i1.tr xs73, hB2, hS2, hSd2, hSt.mono hMon, hCl.low hLow hMon, (hPr.low hLow hMon).skip (fun x a b c => ?_), ?_⟩
                    · have a := (hLow k x (by omega)).mp a
                      rw [hlk] at a
                      cases a
                      exact hClo
                    · rw [et73]
                      exact (hFi.low hLow).skip (fun x a b => hm)
                  · rw [n_cl (by omega), sv.2.1] at c52
                    exact absurd rfl c52
              · skip
                refine b_iloadN (pc := 24) 3 dX7_explore_24 rfl rfl ?_
                refine b_aloadN (pc := 25) 0 dX7_explore_25 rfl rfl ?_
                refine gf7_6 (pc := 26) k324 dX7_explore_26 ?_
                refine b_icmp_ge (pc := 29) 117 dX7_explore_29 (by decide) (fun c29 => ?_) (fun c29 => ?_)
                rotate_left -- leaf 0: at 117
                refine b_aloadN (pc := 32) 0 dX7_explore_32 rfl rfl ?_
                refine gf7_1 (pc := 33) k319 dX7_explore_33 ?_
                refine b_iloadN (pc := 36) 3 dX7_explore_36 rfl rfl ?_
                refine b_ialdD (pc := 37) ?_ dX7_explore_37 ?_
                rotate_left -- leaf 1: index at 37
                refine b_aloadN (pc := 38) 0 dX7_explore_38 rfl rfl ?_
                refine gf7_9 (pc := 39) k327 dX7_explore_39 ?_
                refine b_icmp_ne (pc := 42) 111 dX7_explore_42 (by decide) (fun c42 => ?_) (fun c42 => ?_)
                refine inc3 (pc := 111) notL_i (by decide) dX7_explore_111 ?_
                refine b_goto (pc := 114) 24 dX7_explore_114 (by decide) ?_
                rotate_left -- leaf 2: at 24
                refine b_aloadN (pc := 45) 0 dX7_explore_45 rfl rfl ?_
                refine gf7_2 (pc := 46) k320 dX7_explore_46 ?_
                refine b_iloadN (pc := 49) 3 dX7_explore_49 rfl rfl ?_
                refine b_ialdD (pc := 50) ?_ dX7_explore_50 ?_
                rotate_left -- leaf 3: index at 50
                refine b_iloadN (pc := 51) 2 dX7_explore_51 rfl rfl ?_
                refine b_icmp_eq (pc := 52) 58 dX7_explore_52 (by decide) (fun c52 => ?_) (fun c52 => ?_)
                rotate_left -- leaf 4: at 58
                refine b_goto (pc := 55) 111 dX7_explore_55 (by decide) ?_
                refine inc3 (pc := 111) notL_i (by decide) dX7_explore_111 ?_
                refine b_goto (pc := 114) 24 dX7_explore_114 (by decide) ?_
                rotate_left -- leaf 5: at 24
                -- leaves: 0 at 117; 1 index at 37; 2 at 24; 3 index at 50; 4 at 58; 5 at 24
                · rw [hS.2.1.2.1, n_le (by omega) (by omega)] at c29; omega
                · exact n_in (by omega) (by omega)
                · rw [n_cl (by omega), hS.2.1.2.2.2.2.1] at c42
                  exact absurd sv.1 c42
                · exact n_in (by omega) (by omega)
                · rw [n_cl (by omega), sv.2.1, n_eq (by omega) (by omega)] at c52
                  exact absurd c52 hxL
                · rw [n_inc]
                  exact ihn (k + 1) lab far m2 (by omega) (by omega) hL ⟨i1, hB, hS, hSd, hSt, hCl, hPr.skip (fun y h e => by rw [hlk] at h; cases h; exact absurd e hxL), hFi.skip (fun y h e => by rw [hlk] at h; cases h; exact absurd e hxL)⟩
          · have ek : k = ndN C := by omega
            subst ek
            refine b_iloadN (pc := 24) 3 dX7_explore_24 rfl rfl ?_
            refine b_aloadN (pc := 25) 0 dX7_explore_25 rfl rfl ?_
            refine gf7_6 (pc := 26) k324 dX7_explore_26 ?_
            refine b_icmp_ge (pc := 29) 117 dX7_explore_29 (by decide) (fun c29 => ?_) (fun c29 => ?_)
            refine b_aloadN (pc := 117) 0 dX7_explore_117 rfl rfl ?_
            refine gf7_13 (pc := 118) k331 dX7_explore_118 ?_
            refine b_ldc (pc := 121) k765 dX7_explore_121 ?_
            refine b_icmp_eq (pc := 123) 128 dX7_explore_123 (by decide) (fun c123 => ?_) (fun c123 => ?_)
            refine inc2 (pc := 128) notL_r (by decide) dX7_explore_128 ?_
            refine b_goto (pc := 131) 7 dX7_explore_131 (by decide) ?_
            rotate_left -- leaf 0: at 7
            refine b_iloadN (pc := 126) 2 dX7_explore_126 rfl rfl ?_
            refine b_iret (pc := 127) rfl dX7_explore_127 ⟨Nat.le_of_ble_eq_true rfl, Nat.le_of_ble_eq_true rfl⟩ ?_
            rotate_left -- leaf 1: return at 127
            rotate_left -- leaf 2: at 32
            -- leaves: 0 at 7; 1 return at 127; 2 at 32
            · rw [n_inc]
              refine ih (L + 1) lab far m2 _ (by omega) (by omega) ⟨i1, hB, hS, hSd, hSt, fun n x a b => ?_, fun n x a => absurd a (Nat.not_lt_zero _), Or.inl ⟨c123, fun n x a => absurd a (Nat.not_lt_zero _)⟩⟩
              by_cases q : x.1 < L
              · exact hCl n x a q
              · have hn := (hSd n x a).1
                rcases hFi with ⟨-, u⟩ | ⟨F, u, u2, -, -⟩
                · have w := u n x hn a (by omega)
                  exact ⟨w, hPr n x hn a (by omega) w⟩
                · rw [u] at c123
                  exact absurd c123 (n_ne_none (by omega))
            · rcases hFi with ⟨u, -⟩ | ⟨F, u, u2, ⟨n, b1, b2, b3⟩, u3⟩
              · exact absurd u c123
              · obtain ⟨-, kk, hkk⟩ := hSd n _ b2
                refine hY m2 lab far L F i1 hB hS hSd u (best_of_C hv (r := some (L, F)) ?_) hL u2
                refine ⟨⟨kk, _, _, hkk, b3⟩, fun n2 so sd c f hw hm => ?_⟩
                show L < c ∨ (L = c ∧ F ≤ f)
                by_cases q : c ≤ L
                · obtain ⟨y, hy, hle⟩ := walk_lab hv hSt hCl n2 so sd c f hw q
                  have l := CWk_lt hv n2 _ _ _ _ hw
                  have hm2 : metP A Bn (nodeN C so sd % 2 ^ C 0) := by rw [node_so l.1]; exact hm
                  have hle : y.1 < c ∨ (y.1 = c ∧ y.2 ≤ f) := hle
                  by_cases w : y.1 < L
                  · exact absurd hm2 (hCl _ y hy w).1
                  · have := u3 _ y (hSd _ y hy).1 hy (by omega) hm2
                    omega
                · omega
            · rw [hS.2.1.2.1, n_le (by omega) (by omega)] at c29; omega
      obtain ⟨i1, hB, hS, hSd, hSt, hCl, hPr, hFi⟩ := id hI
      have s5 := hS.2.2.2.2.1
      have s6 := hS.2.2.2.2.2.1
      have hcn := cntL_le lab (ndN C)
      have done : far < L → Φ (some (vi (-1000000))) m2 := by
        intro hfl
        refine hN m2 lab far i1 hB hS hSd ?_ (fun n so sd c f hw => ?_)
        · rcases hFi with ⟨u, -⟩ | ⟨F, u, u2, ⟨n, b1, b2, b3⟩, u3⟩
          · exact u
          · exact absurd b1 (Nat.not_lt_zero _)
        · have l := CWk_lt hv n _ _ _ _ hw
          have cl : ClL C bc A Bn lab (c + L) := fun n x a b => hCl n x a (by have := (s5 n x a).1; omega)
          obtain ⟨y, hy, hle⟩ := walk_lab hv hSt cl n so sd c f hw (by omega)
          refine ⟨⟨y, hy⟩, fun hm => ?_⟩
          have hm2 : metP A Bn (nodeN C so sd % 2 ^ C 0) := by rw [node_so l.1]; exact hm
          exact (hCl _ y hy (by have := (s5 _ y hy).1; omega)).1 hm2
      refine b_iloadN (pc := 7) 2 dX7_explore_7 rfl rfl ?_
      refine b_aloadN (pc := 8) 0 dX7_explore_8 rfl rfl ?_
      refine gf7_10 (pc := 9) k328 dX7_explore_9 ?_
      refine b_icmp_gt (pc := 12) 134 dX7_explore_12 (by decide) (fun c12 => ?_) (fun c12 => ?_)
      refine b_ldc (pc := 134) k765 dX7_explore_134 ?_
      refine b_iret (pc := 136) rfl dX7_explore_136 ⟨Nat.le_of_ble_eq_true rfl, Nat.le_of_ble_eq_true rfl⟩ ?_
      rotate_left -- leaf 0: return at 136
      refine b_iloadN (pc := 15) 2 dX7_explore_15 rfl rfl ?_
      refine b_sipush (pc := 16) (nI 24576) dX7_explore_16 (by decide) ?_
      refine b_icmp_gt (pc := 19) 134 dX7_explore_19 (by decide) (fun c19 => ?_) (fun c19 => ?_)
      refine b_ldc (pc := 134) k765 dX7_explore_134 ?_
      refine b_iret (pc := 136) rfl dX7_explore_136 ⟨Nat.le_of_ble_eq_true rfl, Nat.le_of_ble_eq_true rfl⟩ ?_
      rotate_left -- leaf 1: return at 136
      refine b_iconst (pc := 22) (nI 0) dX7_explore_22 (by decide) ?_
      refine siN3 (pc := 23) rfl notL_i (by decide) dX7_explore_23 ?_
      rotate_left -- leaf 2: at 24
      -- leaves: 0 return at 136; 1 return at 136; 2 at 24
      · rw [hS.2.1.2.2.2.2.2.1, n_lt (by omega) (by omega)] at c12
        exact done c12
      · rw [n_lt (by omega) (by omega)] at c19
        exact done (by omega)
      · rw [n_lt (by omega) (by omega)] at c19
        exact node (ndN C + 1) 0 lab far m2 (by omega) (by omega) (by omega) hI
  refine b_aloadN (pc := 0) 0 dX7_explore_0 rfl rfl ?_
  refine b_aloadN (pc := 1) 1 dX7_explore_1 rfl rfl ?_
  refine call_X7_sayFirst (pc := 2) k774 (by decide) ⟨Nat.le_of_ble_eq_true rfl, Nat.le_of_ble_eq_true rfl⟩ (Nat.le_of_ble_eq_true rfl) dX7_explore_2 ?_
  refine ⟨rfl, C, bc, wk, A, Bn, hB, hwk, hbc1, hS, fun m2 lab far xs2 hB2 et2 hS2 hSd2 hH2 => ?_⟩
  refine b_iconst (pc := 5) (nI 0) dX7_explore_5 (by decide) ?_
  refine siN2 (pc := 6) rfl notL_r (by decide) dX7_explore_6 ?_
  rotate_left -- leaf 0: at 7
  -- leaves: 0 at 7
  exact level 24578 0 lab far m2 _ (by omega) (by omega) ⟨xs2, hB2, hS2, hSd2, hH2, (fun n x a b => absurd b (Nat.not_lt_zero _)), (fun n x a => absurd a (Nat.not_lt_zero _)), Or.inl ⟨et2.trans h13, fun n x a => absurd a (Nat.not_lt_zero _)⟩⟩
theorem call_X7_explore {E : ME} {Φ : Option AV → AM → Prop} {pc : Nat} {L : List (Option AV)} {st : List AV} {m : AM} {a : Nat × Nat} {idx : Nat} {x0 : AV} {i : Nat} (hl : Cond.methodLink E.2.1 idx yX7_explore ∈ TB) (hdep : 6 + 1 ≤ E.2.2.2.2.2.2) (hroom : a.1 + 0 ≤ E.2.2.2.2.1 ∧ a.2 + 0 ≤ E.2.2.2.2.2.1) (hsr : st.length ≤ 4) (hd : decode E.1 pc = .ok (.invokevirtual idx, 3)) (hsp : Sp_X7_explore [vr 7 i, x0] m (fun r m2 => B E Φ (pc + 3) L (r.toList ++ st) m2 a)) : B E Φ pc L (x0 :: vr 7 i :: st) m a := b_callV S_X7_explore [x0] (RX7, TX7, 14) rfl rfl (by decide) (Or.inl hl) k772 k19 k76 k773 (show _ ∧ _ ∧ Option.map (fun d => d.parameters.length) (parseMethodDescriptor yX7_explore.desc) = some 1 from by decide +kernel) ⟨hdep, by decide⟩ hroom hsr hd hsp
