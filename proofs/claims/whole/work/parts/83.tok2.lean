/-! the class's steps over the tape: step, fails, takes, takesNumber, kindBy -/
def Tp (li ls : List Nat) (m m2 : AM) : Prop := m2.2 = m.2 ∧ (∀ a, a ≠ 13 → a ∉ li → m2.1 a = m.1 a) ∧ ∀ k, k ∉ ls → m2.1 13 k = m.1 13 k
theorem Tp.rf (li ls : List Nat) (m : AM) : Tp li ls m m := ⟨rfl, fun _ _ _ => rfl, fun _ _ => rfl⟩
theorem Tp.tr {li ls : List Nat} {m m2 m3 : AM} (h : Tp li ls m m2) (h2 : Tp li ls m2 m3) : Tp li ls m m3 := ⟨h2.1.trans h.1, fun a b c => (h2.2.1 a b c).trans (h.2.1 a b c), fun k c => (h2.2.2 k c).trans (h.2.2 k c)⟩
theorem Tp.m0 {li ls : List Nat} {m m2 : AM} (h : Tp li ls m m2) {j : Nat} {x : Int32} (hj : j ∈ ls) : Tp li ls m (mset m2 13 j x) := ⟨h.1, fun a h1 h2 => by
    rw [mset_ne _ _ _ h1]; exact h.2.1 a h1 h2, fun k hk => by
    rw [mset_at, if_neg (fun e => hk (by rw [e]; exact hj))]; exact h.2.2 k hk⟩
theorem Tp.ms {li ls : List Nat} {m m2 : AM} (h : Tp li ls m m2) {i j : Nat} {x : Int32} (h0 : i ≠ 13) (hi : i ∈ li) : Tp li ls m (mset m2 i j x) := ⟨h.1, fun a h1 h2 => by
    rw [mset_ne _ _ _ (fun e => h2 (by rw [e]; exact hi))]; exact h.2.1 a h1 h2, fun k hk => by
    rw [mset_ne _ _ _ (Ne.symm h0)]; exact h.2.2 k hk⟩
theorem Tp.mono {li ls li2 ls2 : List Nat} {m m2 : AM} (h : Tp li ls m m2) (h1 : ∀ a, a ∈ li → a ∈ li2) (h2 : ∀ a, a ∈ ls → a ∈ ls2) : Tp li2 ls2 m m2 := ⟨h.1, fun a x y => h.2.1 a x (fun z => y (h1 a z)), fun k y => h.2.2 k (fun z => y (h2 k z))⟩
theorem TapC.tp {li ls : List Nat} {m m2 : AM} {T : Nat → Nat} {n : Nat} (h : TapC m T n) (f : Tp li ls m m2) (h1 : 19 ∉ li) (h2 : 2 ∉ ls) : TapC m2 T n := by
  unfold TapC
  rw [f.2.1 19 (by decide) h1, f.2.2 2 h2]
  exact h
theorem bhd_le {T : Nat → Nat} {n p : Nat} (hn : n ≤ 120) (h : p ≤ n) : p ≤ bhdN T n p ∧ bhdN T n p ≤ n := by
  unfold bhdN
  by_cases q : dgP T n p
  · rw [if_pos q]
    have := endT_ok hn q
    omega
  · rw [if_neg q]
    split <;> omega
def StpR (T : Nat → Nat) (n p : Nat) (m : AM) : Prop := m.1 13 3 = nI p ∧ m.1 13 4 = nI (bhdN T n p) ∧ m.1 13 5 = mI (symO T n p) ∧ m.1 13 6 = mI (numO T n p)
abbrev e_X9_step : ME := (cX9_step, (RX9, (2, (none, (0, (0, 2))))))
theorem dX9_step_0 : decode cX9_step 0 = .ok (.aload_n 0, 1) := by decide +kernel
theorem dX9_step_1 : decode cX9_step 1 = .ok (.aload_n 0, 1) := by decide +kernel
theorem dX9_step_2 : decode cX9_step 2 = .ok (.getfield 36, 3) := by decide +kernel
theorem dX9_step_5 : decode cX9_step 5 = .ok (.putfield 100, 3) := by decide +kernel
theorem dX9_step_8 : decode cX9_step 8 = .ok (.aload_n 0, 1) := by decide +kernel
theorem dX9_step_9 : decode cX9_step 9 = .ok (.iconst (-1), 1) := by decide +kernel
theorem dX9_step_10 : decode cX9_step 10 = .ok (.putfield 72, 3) := by decide +kernel
theorem dX9_step_13 : decode cX9_step 13 = .ok (.aload_n 0, 1) := by decide +kernel
theorem dX9_step_14 : decode cX9_step 14 = .ok (.iconst (-1), 1) := by decide +kernel
theorem dX9_step_15 : decode cX9_step 15 = .ok (.putfield 57, 3) := by decide +kernel
theorem dX9_step_18 : decode cX9_step 18 = .ok (.aload_n 0, 1) := by decide +kernel
theorem dX9_step_19 : decode cX9_step 19 = .ok (.getfield 100, 3) := by decide +kernel
theorem dX9_step_22 : decode cX9_step 22 = .ok (.aload_n 0, 1) := by decide +kernel
theorem dX9_step_23 : decode cX9_step 23 = .ok (.getfield 22, 3) := by decide +kernel
theorem dX9_step_26 : decode cX9_step 26 = .ok (.if_icmp .lt 4, 3) := by decide +kernel
theorem dX9_step_29 : decode cX9_step 29 = .ok (.return_, 1) := by decide +kernel
theorem dX9_step_30 : decode cX9_step 30 = .ok (.aload_n 0, 1) := by decide +kernel
theorem dX9_step_31 : decode cX9_step 31 = .ok (.getfield 18, 3) := by decide +kernel
theorem dX9_step_34 : decode cX9_step 34 = .ok (.aload_n 0, 1) := by decide +kernel
theorem dX9_step_35 : decode cX9_step 35 = .ok (.getfield 100, 3) := by decide +kernel
theorem dX9_step_38 : decode cX9_step 38 = .ok (.iaload, 1) := by decide +kernel
theorem dX9_step_39 : decode cX9_step 39 = .ok (.istore_n 1, 1) := by decide +kernel
theorem dX9_step_40 : decode cX9_step 40 = .ok (.iload_n 1, 1) := by decide +kernel
theorem dX9_step_41 : decode cX9_step 41 = .ok (.bipush 48, 2) := by decide +kernel
theorem dX9_step_43 : decode cX9_step 43 = .ok (.if_icmp .lt 14, 3) := by decide +kernel
theorem dX9_step_46 : decode cX9_step 46 = .ok (.iload_n 1, 1) := by decide +kernel
theorem dX9_step_47 : decode cX9_step 47 = .ok (.bipush 57, 2) := by decide +kernel
theorem dX9_step_49 : decode cX9_step 49 = .ok (.if_icmp .gt 8, 3) := by decide +kernel
theorem dX9_step_52 : decode cX9_step 52 = .ok (.aload_n 0, 1) := by decide +kernel
theorem dX9_step_53 : decode cX9_step 53 = .ok (.invokevirtual 103, 3) := by decide +kernel
theorem dX9_step_56 : decode cX9_step 56 = .ok (.return_, 1) := by decide +kernel
theorem dX9_step_57 : decode cX9_step 57 = .ok (.aload_n 0, 1) := by decide +kernel
theorem dX9_step_58 : decode cX9_step 58 = .ok (.aload_n 0, 1) := by decide +kernel
theorem dX9_step_59 : decode cX9_step 59 = .ok (.getfield 100, 3) := by decide +kernel
theorem dX9_step_62 : decode cX9_step 62 = .ok (.iconst 1, 1) := by decide +kernel
theorem dX9_step_63 : decode cX9_step 63 = .ok (.iadd, 1) := by decide +kernel
theorem dX9_step_64 : decode cX9_step 64 = .ok (.putfield 36, 3) := by decide +kernel
theorem dX9_step_67 : decode cX9_step 67 = .ok (.iload_n 1, 1) := by decide +kernel
theorem dX9_step_68 : decode cX9_step 68 = .ok (.bipush 97, 2) := by decide +kernel
theorem dX9_step_70 : decode cX9_step 70 = .ok (.if_icmp .lt 9, 3) := by decide +kernel
theorem dX9_step_73 : decode cX9_step 73 = .ok (.iload_n 1, 1) := by decide +kernel
theorem dX9_step_74 : decode cX9_step 74 = .ok (.bipush 122, 2) := by decide +kernel
theorem dX9_step_76 : decode cX9_step 76 = .ok (.if_icmp .le 15, 3) := by decide +kernel
theorem dX9_step_79 : decode cX9_step 79 = .ok (.iload_n 1, 1) := by decide +kernel
theorem dX9_step_80 : decode cX9_step 80 = .ok (.bipush 44, 2) := by decide +kernel
theorem dX9_step_82 : decode cX9_step 82 = .ok (.if_icmp .eq 9, 3) := by decide +kernel
theorem dX9_step_85 : decode cX9_step 85 = .ok (.iload_n 1, 1) := by decide +kernel
theorem dX9_step_86 : decode cX9_step 86 = .ok (.bipush 59, 2) := by decide +kernel
theorem dX9_step_88 : decode cX9_step 88 = .ok (.if_icmp .ne 8, 3) := by decide +kernel
theorem dX9_step_91 : decode cX9_step 91 = .ok (.aload_n 0, 1) := by decide +kernel
theorem dX9_step_92 : decode cX9_step 92 = .ok (.iload_n 1, 1) := by decide +kernel
theorem dX9_step_93 : decode cX9_step 93 = .ok (.putfield 72, 3) := by decide +kernel
theorem dX9_step_96 : decode cX9_step 96 = .ok (.return_, 1) := by decide +kernel
def Sp_X9_step (av : List AV) (m : AM) (Φ : Option AV → AM → Prop) : Prop := av = [vr 9 13] ∧ ∃ T n p, TapC m T n ∧ m.1 13 4 = nI p ∧ p ≤ n ∧ ∀ m2, Tp [] [3, 4, 5, 6] m m2 → StpR T n p m2 → Φ none m2
set_option maxRecDepth 20000 in
set_option maxHeartbeats 4000000 in
theorem S_X9_step : Snd yX9_step e_X9_step Sp_X9_step := by
  refine Snd.of (by decide +kernel) rfl ?_ ?_
  · rintro av m Φ ⟨rfl, _⟩; exact Nat.le_of_ble_eq_true rfl
  rintro av m Φ ⟨rfl, T, n, p, hT, h4, hp, h⟩ hav hty
  show B e_X9_step Φ 0 [some (vr 9 13), none] [] m (0, 0)
  have hn := hT.2.1
  have g3 : (mset (mset (mset m 13 3 (nI p)) 13 5 (-1)) 13 6 (-1)).1 13 3 = nI p := by
    rw [mset_at, if_neg (by decide), mset_at, if_neg (by decide), mset_at, if_pos rfl]
  have g2 : (mset (mset (mset m 13 3 (nI p)) 13 5 (-1)) 13 6 (-1)).1 13 2 = nI n := by
    rw [mset_at, if_neg (by decide), mset_at, if_neg (by decide), mset_at, if_neg (by decide)]
    exact hT.1
  have g19 : (mset (mset (mset m 13 3 (nI p)) 13 5 (-1)) 13 6 (-1)).1 19 = m.1 19 := by
    rw [mset_ne _ _ _ (show 19 ≠ 13 by decide), mset_ne _ _ _ (show 19 ≠ 13 by decide), mset_ne _ _ _ (show 19 ≠ 13 by decide)]
  have g5 : (mset (mset (mset m 13 3 (nI p)) 13 5 (-1)) 13 6 (-1)).1 13 5 = -1 := by
    rw [mset_at, if_neg (by decide), mset_at, if_pos rfl]
  have g6 : (mset (mset (mset m 13 3 (nI p)) 13 5 (-1)) 13 6 (-1)).1 13 6 = -1 := by
    rw [mset_at, if_pos rfl]
  have g4 : (mset (mset (mset m 13 3 (nI p)) 13 5 (-1)) 13 6 (-1)).1 13 4 = nI p := by
    rw [mset_at, if_neg (by decide), mset_at, if_neg (by decide), mset_at, if_neg (by decide), h4]
  have gT : Tp [] [3, 4, 5, 6] m (mset (mset (mset m 13 3 (nI p)) 13 5 (-1)) 13 6 (-1)) := (((Tp.rf _ _ m).m0 (by simp)).m0 (by simp)).m0 (by simp)
  have gC : TapC (mset (mset (mset m 13 3 (nI p)) 13 5 (-1)) 13 6 (-1)) T n := ((hT.ms (by decide)).ms (by decide)).ms (by decide)
  have hend : ¬ p < n → symO T n p = none ∧ numO T n p = none ∧ bhdN T n p = p := by
    intro q
    refine ⟨if_neg (fun z => q z.1), if_neg (fun z => q z.1.1), ?_⟩
    unfold bhdN
    rw [if_neg (fun z => q z.1), if_neg q]
  have nodg : p < n → ¬ dgP T n p → numO T n p = none ∧ bhdN T n p = p + 1 := by
    intro a q
    refine ⟨if_neg (fun z => q z.1), ?_⟩
    unfold bhdN
    rw [if_neg q, if_pos a]
  generalize hM0 : mset (mset (mset m 13 3 (nI p)) 13 5 (-1)) 13 6 (-1) = M0 at g3 g2 g19 g4 g5 g6 gT gC
  have m40 : p < n → B e_X9_step Φ 40 [some (vr 9 13), some (vi (nI (T p)))] [] M0 (0, 0) := by
    intro q
    have tk := hT.2.2 p q
    have put1 : ¬ dgP T n p → symO T n p = some (T p) → Φ none (mset (mset M0 13 4 (nI (p + 1))) 13 5 (nI (T p))) := by
      intro a b
      have k := nodg q a
      refine h _ ((gT.m0 (by simp)).m0 (by simp)) ⟨?_, ?_, ?_, ?_⟩
      · rw [mset_at, if_neg (by decide), mset_at, if_neg (by decide), g3]
      · rw [mset_at, if_neg (by decide), mset_at, if_pos rfl, k.2]
      · rw [mset_at, if_pos rfl, b]; rfl
      · rw [mset_at, if_neg (by decide), mset_at, if_neg (by decide), g6, k.1]; rfl
    have put0 : ¬ dgP T n p → symO T n p = none → Φ none (mset M0 13 4 (nI (p + 1))) := by
      intro a b
      have k := nodg q a
      refine h _ (gT.m0 (by simp)) ⟨?_, ?_, ?_, ?_⟩
      · rw [mset_at, if_neg (by decide), g3]
      · rw [mset_at, if_pos rfl, k.2]
      · rw [mset_at, if_neg (by decide), g5, b]; rfl
      · rw [mset_at, if_neg (by decide), g6, k.1]; rfl
    have isS : ((97 ≤ T p ∧ T p ≤ 122) ∨ T p = 44 ∨ T p = 59) → symO T n p = some (T p) := fun z => if_pos ⟨q, z⟩
    have noS : ¬ ((97 ≤ T p ∧ T p ≤ 122) ∨ T p = 44 ∨ T p = 59) → symO T n p = none := fun z => if_neg (fun y => z y.2)
    have nd : T p < 48 ∨ 57 < T p → ¬ dgP T n p := fun z y => by omega
    refine b_iloadN (pc := 40) 1 dX9_step_40 rfl rfl ?_
    refine b_bipush (pc := 41) (nI 48) dX9_step_41 (by decide) ?_
    refine b_icmp_lt (pc := 43) 57 dX9_step_43 (by decide) (fun c43 => ?_) (fun c43 => ?_)
    refine b_aloadN (pc := 57) 0 dX9_step_57 rfl rfl ?_
    refine b_aloadN (pc := 58) 0 dX9_step_58 rfl rfl ?_
    refine gf9_3 (pc := 59) k188 dX9_step_59 ?_
    refine b_iconst (pc := 62) (nI 1) dX9_step_62 (by decide) ?_
    refine b_iadd (pc := 63) dX9_step_63 ?_
    refine pf9_4 (pc := 64) k189 dX9_step_64 ?_
    refine b_iloadN (pc := 67) 1 dX9_step_67 rfl rfl ?_
    refine b_bipush (pc := 68) (nI 97) dX9_step_68 (by decide) ?_
    refine b_icmp_lt (pc := 70) 79 dX9_step_70 (by decide) (fun c70 => ?_) (fun c70 => ?_)
    refine b_iloadN (pc := 79) 1 dX9_step_79 rfl rfl ?_
    refine b_bipush (pc := 80) (nI 44) dX9_step_80 (by decide) ?_
    refine b_icmp_eq (pc := 82) 91 dX9_step_82 (by decide) (fun c82 => ?_) (fun c82 => ?_)
    refine b_aloadN (pc := 91) 0 dX9_step_91 rfl rfl ?_
    refine b_iloadN (pc := 92) 1 dX9_step_92 rfl rfl ?_
    refine pf9_5 (pc := 93) k190 dX9_step_93 ?_
    refine b_vret (pc := 96) rfl dX9_step_96 ⟨Nat.le_of_ble_eq_true rfl, Nat.le_of_ble_eq_true rfl⟩ ?_
    rotate_left -- leaf 0: return at 96
    refine b_iloadN (pc := 85) 1 dX9_step_85 rfl rfl ?_
    refine b_bipush (pc := 86) (nI 59) dX9_step_86 (by decide) ?_
    refine b_icmp_ne (pc := 88) 96 dX9_step_88 (by decide) (fun c88 => ?_) (fun c88 => ?_)
    refine b_vret (pc := 96) rfl dX9_step_96 ⟨Nat.le_of_ble_eq_true rfl, Nat.le_of_ble_eq_true rfl⟩ ?_
    rotate_left -- leaf 1: return at 96
    refine b_aloadN (pc := 91) 0 dX9_step_91 rfl rfl ?_
    refine b_iloadN (pc := 92) 1 dX9_step_92 rfl rfl ?_
    refine pf9_5 (pc := 93) k190 dX9_step_93 ?_
    refine b_vret (pc := 96) rfl dX9_step_96 ⟨Nat.le_of_ble_eq_true rfl, Nat.le_of_ble_eq_true rfl⟩ ?_
    rotate_left -- leaf 2: return at 96
    refine b_iloadN (pc := 73) 1 dX9_step_73 rfl rfl ?_
    refine b_bipush (pc := 74) (nI 122) dX9_step_74 (by decide) ?_
    refine b_icmp_le (pc := 76) 91 dX9_step_76 (by decide) (fun c76 => ?_) (fun c76 => ?_)
    refine b_aloadN (pc := 91) 0 dX9_step_91 rfl rfl ?_
    refine b_iloadN (pc := 92) 1 dX9_step_92 rfl rfl ?_
    refine pf9_5 (pc := 93) k190 dX9_step_93 ?_
    refine b_vret (pc := 96) rfl dX9_step_96 ⟨Nat.le_of_ble_eq_true rfl, Nat.le_of_ble_eq_true rfl⟩ ?_
    rotate_left -- leaf 3: return at 96
    refine b_iloadN (pc := 79) 1 dX9_step_79 rfl rfl ?_
    refine b_bipush (pc := 80) (nI 44) dX9_step_80 (by decide) ?_
    refine b_icmp_eq (pc := 82) 91 dX9_step_82 (by decide) (fun c82 => ?_) (fun c82 => ?_)
    refine b_aloadN (pc := 91) 0 dX9_step_91 rfl rfl ?_
    refine b_iloadN (pc := 92) 1 dX9_step_92 rfl rfl ?_
    refine pf9_5 (pc := 93) k190 dX9_step_93 ?_
    refine b_vret (pc := 96) rfl dX9_step_96 ⟨Nat.le_of_ble_eq_true rfl, Nat.le_of_ble_eq_true rfl⟩ ?_
    rotate_left -- leaf 4: return at 96
    refine b_iloadN (pc := 85) 1 dX9_step_85 rfl rfl ?_
    refine b_bipush (pc := 86) (nI 59) dX9_step_86 (by decide) ?_
    refine b_icmp_ne (pc := 88) 96 dX9_step_88 (by decide) (fun c88 => ?_) (fun c88 => ?_)
    refine b_vret (pc := 96) rfl dX9_step_96 ⟨Nat.le_of_ble_eq_true rfl, Nat.le_of_ble_eq_true rfl⟩ ?_
    rotate_left -- leaf 5: return at 96
    refine b_aloadN (pc := 91) 0 dX9_step_91 rfl rfl ?_
    refine b_iloadN (pc := 92) 1 dX9_step_92 rfl rfl ?_
    refine pf9_5 (pc := 93) k190 dX9_step_93 ?_
    refine b_vret (pc := 96) rfl dX9_step_96 ⟨Nat.le_of_ble_eq_true rfl, Nat.le_of_ble_eq_true rfl⟩ ?_
    rotate_left -- leaf 6: return at 96
    refine b_iloadN (pc := 46) 1 dX9_step_46 rfl rfl ?_
    refine b_bipush (pc := 47) (nI 57) dX9_step_47 (by decide) ?_
    refine b_icmp_gt (pc := 49) 57 dX9_step_49 (by decide) (fun c49 => ?_) (fun c49 => ?_)
    refine b_aloadN (pc := 57) 0 dX9_step_57 rfl rfl ?_
    refine b_aloadN (pc := 58) 0 dX9_step_58 rfl rfl ?_
    refine gf9_3 (pc := 59) k188 dX9_step_59 ?_
    refine b_iconst (pc := 62) (nI 1) dX9_step_62 (by decide) ?_
    refine b_iadd (pc := 63) dX9_step_63 ?_
    refine pf9_4 (pc := 64) k189 dX9_step_64 ?_
    refine b_iloadN (pc := 67) 1 dX9_step_67 rfl rfl ?_
    refine b_bipush (pc := 68) (nI 97) dX9_step_68 (by decide) ?_
    refine b_icmp_lt (pc := 70) 79 dX9_step_70 (by decide) (fun c70 => ?_) (fun c70 => ?_)
    refine b_iloadN (pc := 79) 1 dX9_step_79 rfl rfl ?_
    refine b_bipush (pc := 80) (nI 44) dX9_step_80 (by decide) ?_
    refine b_icmp_eq (pc := 82) 91 dX9_step_82 (by decide) (fun c82 => ?_) (fun c82 => ?_)
    refine b_aloadN (pc := 91) 0 dX9_step_91 rfl rfl ?_
    refine b_iloadN (pc := 92) 1 dX9_step_92 rfl rfl ?_
    refine pf9_5 (pc := 93) k190 dX9_step_93 ?_
    refine b_vret (pc := 96) rfl dX9_step_96 ⟨Nat.le_of_ble_eq_true rfl, Nat.le_of_ble_eq_true rfl⟩ ?_
    rotate_left -- leaf 7: return at 96
    refine b_iloadN (pc := 85) 1 dX9_step_85 rfl rfl ?_
    refine b_bipush (pc := 86) (nI 59) dX9_step_86 (by decide) ?_
    refine b_icmp_ne (pc := 88) 96 dX9_step_88 (by decide) (fun c88 => ?_) (fun c88 => ?_)
    refine b_vret (pc := 96) rfl dX9_step_96 ⟨Nat.le_of_ble_eq_true rfl, Nat.le_of_ble_eq_true rfl⟩ ?_
    rotate_left -- leaf 8: return at 96
    refine b_aloadN (pc := 91) 0 dX9_step_91 rfl rfl ?_
    refine b_iloadN (pc := 92) 1 dX9_step_92 rfl rfl ?_
    refine pf9_5 (pc := 93) k190 dX9_step_93 ?_
    refine b_vret (pc := 96) rfl dX9_step_96 ⟨Nat.le_of_ble_eq_true rfl, Nat.le_of_ble_eq_true rfl⟩ ?_
    rotate_left -- leaf 9: return at 96
    refine b_iloadN (pc := 73) 1 dX9_step_73 rfl rfl ?_
    refine b_bipush (pc := 74) (nI 122) dX9_step_74 (by decide) ?_
    refine b_icmp_le (pc := 76) 91 dX9_step_76 (by decide) (fun c76 => ?_) (fun c76 => ?_)
    refine b_aloadN (pc := 91) 0 dX9_step_91 rfl rfl ?_
    refine b_iloadN (pc := 92) 1 dX9_step_92 rfl rfl ?_
    refine pf9_5 (pc := 93) k190 dX9_step_93 ?_
    refine b_vret (pc := 96) rfl dX9_step_96 ⟨Nat.le_of_ble_eq_true rfl, Nat.le_of_ble_eq_true rfl⟩ ?_
    rotate_left -- leaf 10: return at 96
    refine b_iloadN (pc := 79) 1 dX9_step_79 rfl rfl ?_
    refine b_bipush (pc := 80) (nI 44) dX9_step_80 (by decide) ?_
    refine b_icmp_eq (pc := 82) 91 dX9_step_82 (by decide) (fun c82 => ?_) (fun c82 => ?_)
    refine b_aloadN (pc := 91) 0 dX9_step_91 rfl rfl ?_
    refine b_iloadN (pc := 92) 1 dX9_step_92 rfl rfl ?_
    refine pf9_5 (pc := 93) k190 dX9_step_93 ?_
    refine b_vret (pc := 96) rfl dX9_step_96 ⟨Nat.le_of_ble_eq_true rfl, Nat.le_of_ble_eq_true rfl⟩ ?_
    rotate_left -- leaf 11: return at 96
    refine b_iloadN (pc := 85) 1 dX9_step_85 rfl rfl ?_
    refine b_bipush (pc := 86) (nI 59) dX9_step_86 (by decide) ?_
    refine b_icmp_ne (pc := 88) 96 dX9_step_88 (by decide) (fun c88 => ?_) (fun c88 => ?_)
    refine b_vret (pc := 96) rfl dX9_step_96 ⟨Nat.le_of_ble_eq_true rfl, Nat.le_of_ble_eq_true rfl⟩ ?_
    rotate_left -- leaf 12: return at 96
    refine b_aloadN (pc := 91) 0 dX9_step_91 rfl rfl ?_
    refine b_iloadN (pc := 92) 1 dX9_step_92 rfl rfl ?_
    refine pf9_5 (pc := 93) k190 dX9_step_93 ?_
    refine b_vret (pc := 96) rfl dX9_step_96 ⟨Nat.le_of_ble_eq_true rfl, Nat.le_of_ble_eq_true rfl⟩ ?_
    rotate_left -- leaf 13: return at 96
    refine b_aloadN (pc := 52) 0 dX9_step_52 rfl rfl ?_
    refine call_X9_stepOverFigures (pc := 53) k537 (by decide) ⟨Nat.le_of_ble_eq_true rfl, Nat.le_of_ble_eq_true rfl⟩ (Nat.le_of_ble_eq_true rfl) dX9_step_53 ?_
    refine ⟨rfl, T, n, p, gC, g3, ?_, ?_⟩
    rotate_left -- leaf 14: figure of X9_stepOverFigures at 53
    refine b_vret (pc := 56) rfl dX9_step_56 ⟨Nat.le_of_ble_eq_true rfl, Nat.le_of_ble_eq_true rfl⟩ ?_
    rotate_left -- leaf 15: return at 56
    -- leaves: 0 return at 96; 1 return at 96; 2 return at 96; 3 return at 96; 4 return at 96; 5 return at 96; 6 return at 96; 7 return at 96; 8 return at 96; 9 return at 96; 10 return at 96; 11 return at 96; 12 return at 96; 13 return at 96; 14 figure of X9_stepOverFigures at 53; 15 return at 56
    all_goals try rw [n_lt (by omega) (by omega)] at c43
    all_goals try rw [n_lt (by omega) (by omega)] at c49
    all_goals try rw [n_lt (by omega) (by omega)] at c70
    all_goals try rw [n_le (by omega) (by omega)] at c76
    all_goals try rw [n_eq (by omega) (by omega)] at c82
    all_goals try rw [n_eq (by omega) (by omega)] at c88
    all_goals first
      | (rw [g3, n_add]; exact put1 (nd (by omega)) (isS (by omega)))
      | (rw [g3, n_add]; exact put0 (nd (by omega)) (noS (by omega)))
      | exact ⟨q, by omega, by omega⟩
      | skip
    have dg : dgP T n p := ⟨q, by omega, by omega⟩
    refine h _ ((gT.m0 (by simp)).m0 (by simp)) ⟨?_, ?_, ?_, ?_⟩
    · rw [mset_at, if_neg (by decide), mset_at, if_neg (by decide), g3]
    · rw [mset_at, if_neg (by decide), mset_at, if_pos rfl]
      unfold bhdN
      rw [if_pos dg]
    · rw [mset_at, if_neg (by decide), mset_at, if_neg (by decide), g5, noS (by omega)]
      rfl
    · rw [mset_at, if_pos rfl, numO_pv hn dg]
  refine b_aloadN (pc := 0) 0 dX9_step_0 rfl rfl ?_
  refine b_aloadN (pc := 1) 0 dX9_step_1 rfl rfl ?_
  refine gf9_4 (pc := 2) k189 dX9_step_2 ?_
  refine pf9_3 (pc := 5) k188 dX9_step_5 ?_
  refine b_aloadN (pc := 8) 0 dX9_step_8 rfl rfl ?_
  refine b_iconst (pc := 9) (-1) dX9_step_9 (by decide) ?_
  refine pf9_5 (pc := 10) k190 dX9_step_10 ?_
  refine b_aloadN (pc := 13) 0 dX9_step_13 rfl rfl ?_
  refine b_iconst (pc := 14) (-1) dX9_step_14 (by decide) ?_
  refine pf9_6 (pc := 15) k191 dX9_step_15 ?_
  refine b_aloadN (pc := 18) 0 dX9_step_18 rfl rfl ?_
  refine gf9_3 (pc := 19) k188 dX9_step_19 ?_
  refine b_aloadN (pc := 22) 0 dX9_step_22 rfl rfl ?_
  refine gf9_2 (pc := 23) k186 dX9_step_23 ?_
  refine b_icmp_lt (pc := 26) 30 dX9_step_26 (by decide) (fun c26 => ?_) (fun c26 => ?_)
  refine b_aloadN (pc := 30) 0 dX9_step_30 rfl rfl ?_
  refine gf9_1 (pc := 31) 19 rfl k185 dX9_step_31 ?_
  refine b_aloadN (pc := 34) 0 dX9_step_34 rfl rfl ?_
  refine gf9_3 (pc := 35) k188 dX9_step_35 ?_
  refine b_iald (pc := 38) (by decide) ?_ dX9_step_38 ?_
  rotate_left -- leaf 0: index at 38
  refine siN1 (pc := 39) rfl notL_r (by decide) dX9_step_39 ?_
  rotate_left -- leaf 1: at 40
  refine b_vret (pc := 29) rfl dX9_step_29 ⟨Nat.le_of_ble_eq_true rfl, Nat.le_of_ble_eq_true rfl⟩ ?_
  rotate_left -- leaf 2: return at 29
  -- leaves: 0 index at 38; 1 at 40; 2 return at 29
  · rw [h4, hM0, g3, g2, n_lt (by omega) (by omega)] at c26
    rw [h4, hM0, g3]
    exact n_in (by omega) (by omega)
  · rw [h4, hM0, g3, g2, n_lt (by omega) (by omega)] at c26
    rw [h4, hM0, g3, g19, n_cl (by omega), (hT.2.2 p c26).1]
    exact m40 c26
  · rw [h4, hM0, g3, g2, n_lt (by omega) (by omega)] at c26
    have k := hend c26
    rw [h4, hM0]
    refine h _ gT ⟨g3, ?_, ?_, ?_⟩
    · rw [g4, k.2.2]
    · rw [g5, k.1]; rfl
    · rw [g6, k.2.1]; rfl
theorem call_X9_step {E : ME} {Φ : Option AV → AM → Prop} {pc : Nat} {L : List (Option AV)} {st : List AV} {m : AM} {a : Nat × Nat} {idx : Nat} {i : Nat} (hl : Cond.methodLink E.2.1 idx yX9_step ∈ TB) (hdep : 2 + 1 ≤ E.2.2.2.2.2.2) (hroom : a.1 + 0 ≤ E.2.2.2.2.1 ∧ a.2 + 0 ≤ E.2.2.2.2.2.1) (hsr : st.length ≤ 4) (hd : decode E.1 pc = .ok (.invokevirtual idx, 3)) (hsp : Sp_X9_step [vr 9 i] m (fun r m2 => B E Φ (pc + 3) L (r.toList ++ st) m2 a)) : B E Φ pc L (vr 9 i :: st) m a := b_callV S_X9_step [] (RX9, TX9, 9) rfl rfl (by decide) (Or.inl hl) k535 k4 k71 k536 (show _ ∧ _ ∧ Option.map (fun d => d.parameters.length) (parseMethodDescriptor yX9_step.desc) = some 0 from by decide +kernel) ⟨hdep, by decide⟩ hroom hsr hd hsp
abbrev e_X9_fails : ME := (cX9_fails, (RX9, (2, ((some .boolean), (0, (0, 1))))))
theorem dX9_fails_0 : decode cX9_fails 0 = .ok (.aload_n 0, 1) := by decide +kernel
theorem dX9_fails_1 : decode cX9_fails 1 = .ok (.iload_n 1, 1) := by decide +kernel
theorem dX9_fails_2 : decode cX9_fails 2 = .ok (.putfield 27, 3) := by decide +kernel
theorem dX9_fails_5 : decode cX9_fails 5 = .ok (.aload_n 0, 1) := by decide +kernel
theorem dX9_fails_6 : decode cX9_fails 6 = .ok (.aload_n 0, 1) := by decide +kernel
theorem dX9_fails_7 : decode cX9_fails 7 = .ok (.getfield 100, 3) := by decide +kernel
theorem dX9_fails_10 : decode cX9_fails 10 = .ok (.putfield 30, 3) := by decide +kernel
theorem dX9_fails_13 : decode cX9_fails 13 = .ok (.iconst 0, 1) := by decide +kernel
theorem dX9_fails_14 : decode cX9_fails 14 = .ok (.ireturn, 1) := by decide +kernel
def Sp_X9_fails (av : List AV) (m : AM) (Φ : Option AV → AM → Prop) : Prop := ∃ x, av = [vr 9 13, vi x] ∧ Φ (some (vi (nI 0))) (mset (mset m 13 7 x) 13 8 (m.1 13 3))
set_option maxRecDepth 20000 in
set_option maxHeartbeats 4000000 in
theorem S_X9_fails : Snd yX9_fails e_X9_fails Sp_X9_fails := by
  refine Snd.of (by decide +kernel) rfl ?_ ?_
  · rintro av m Φ ⟨x, rfl, _⟩; exact Nat.le_of_ble_eq_true rfl
  rintro av m Φ ⟨x, rfl, h⟩ hav hty
  show B e_X9_fails Φ 0 [some (vr 9 13), some (vi x)] [] m (0, 0)
  refine b_aloadN (pc := 0) 0 dX9_fails_0 rfl rfl ?_
  refine b_iloadN (pc := 1) 1 dX9_fails_1 rfl rfl ?_
  refine pf9_7 (pc := 2) k192 dX9_fails_2 ?_
  refine b_aloadN (pc := 5) 0 dX9_fails_5 rfl rfl ?_
  refine b_aloadN (pc := 6) 0 dX9_fails_6 rfl rfl ?_
  refine gf9_3 (pc := 7) k188 dX9_fails_7 ?_
  refine pf9_8 (pc := 10) k193 dX9_fails_10 ?_
  refine b_iconst (pc := 13) (nI 0) dX9_fails_13 (by decide) ?_
  refine b_zret (pc := 14) rfl ?_ dX9_fails_14 ⟨Nat.le_of_ble_eq_true rfl, Nat.le_of_ble_eq_true rfl⟩ ?_
  rotate_left -- leaf 0: bool at 14
  rotate_left -- leaf 1: return at 14
  -- leaves: 0 bool at 14; 1 return at 14
  · exact Or.inl rfl
  · exact h
theorem call_X9_fails {E : ME} {Φ : Option AV → AM → Prop} {pc : Nat} {L : List (Option AV)} {st : List AV} {m : AM} {a : Nat × Nat} {idx : Nat} {x0 : AV} {i : Nat} (hl : Cond.methodLink E.2.1 idx yX9_fails ∈ TB) (hdep : 1 + 1 ≤ E.2.2.2.2.2.2) (hroom : a.1 + 0 ≤ E.2.2.2.2.1 ∧ a.2 + 0 ≤ E.2.2.2.2.2.1) (hsr : st.length ≤ 4) (hd : decode E.1 pc = .ok (.invokevirtual idx, 3)) (hsp : Sp_X9_fails [vr 9 i, x0] m (fun r m2 => B E Φ (pc + 3) L (r.toList ++ st) m2 a)) : B E Φ pc L (x0 :: vr 9 i :: st) m a := b_callV S_X9_fails [x0] (RX9, TX9, 9) rfl rfl (by decide) (Or.inl hl) k543 k6 k71 k544 (show _ ∧ _ ∧ Option.map (fun d => d.parameters.length) (parseMethodDescriptor yX9_fails.desc) = some 1 from by decide +kernel) ⟨hdep, by decide⟩ hroom hsr hd hsp
def tknS (T : Nat → Nat) (n v p : Nat) : Except (Nat × Nat) Nat := if symO T n p = some v then .ok (bhdN T n p) else .error (1, p)
def tknN (T : Nat → Nat) (n lo hi p : Nat) : Except (Nat × Nat) (Nat × Nat) := match numO T n p with
  | none => .error (1, p)
  | some v => if lo ≤ v ∧ v ≤ hi then .ok (v, bhdN T n p) else .error (2, p)
def ErR (m : AM) (f pl : Nat) : Prop := m.1 13 7 = nI f ∧ m.1 13 8 = nI pl
theorem ErR.put {m : AM} {f p : Nat} (h : m.1 13 3 = nI p) : ErR (mset (mset m 13 7 (nI f)) 13 8 (m.1 13 3)) f p := by
  unfold ErR
  rw [mset_at, if_neg (by decide), mset_at, if_pos rfl, mset_at, if_pos rfl]
  exact ⟨rfl, h⟩
theorem mI_ne {v : Nat} (h : v < 2147483648) (o : Option Nat) (ho : ∀ w, o = some w → w < 2147483648) : mI o = nI v ↔ o = some v := by
  cases o with
  | none =>
    constructor
    · intro z
      have z : (-1 : Int32) = nI v := z
      have t := congrArg Int32.toInt z
      rw [nI_toInt h, show (-1 : Int32).toInt = -1 from rfl] at t
      omega
    · intro z; cases z
  | some w =>
    show nI w = nI v ↔ _
    rw [n_eq (ho w rfl) h]
    constructor
    · intro z; rw [z]
    · intro z; cases z; rfl
theorem sym_lt {T : Nat → Nat} {n p w : Nat} (h : symO T n p = some w) : w ≤ 122 := by
  unfold symO at h
  by_cases q : p < n ∧ ((97 ≤ T p ∧ T p ≤ 122) ∨ T p = 44 ∨ T p = 59)
  · rw [if_pos q] at h
    cases h
    omega
  · rw [if_neg q] at h
    cases h
theorem num_lt {T : Nat → Nat} {n p w : Nat} (hT : ∀ k, k < n → T k < 256) (hn : n ≤ 120) (h : numO T n p = some w) : w ≤ 99 := by
  unfold numO at h
  by_cases q : dgP T n p ∧ endT T n p ≤ p + 2
  · have k := endT_ok hn q.1
    rw [if_pos q] at h
    by_cases r : endT T n p = p + 1
    · rw [if_pos r] at h
      cases h
      have := q.1
      omega
    · rw [if_neg r] at h
      cases h
      have a := q.1
      have b := k.2.2.1 (p + 1) (by omega) (by omega)
      omega
  · rw [if_neg q] at h
    cases h
abbrev e_X9_takes : ME := (cX9_takes, (RX9, (2, ((some .boolean), (0, (0, 3))))))
theorem dX9_takes_0 : decode cX9_takes 0 = .ok (.aload_n 0, 1) := by decide +kernel
theorem dX9_takes_1 : decode cX9_takes 1 = .ok (.invokevirtual 69, 3) := by decide +kernel
theorem dX9_takes_4 : decode cX9_takes 4 = .ok (.aload_n 0, 1) := by decide +kernel
theorem dX9_takes_5 : decode cX9_takes 5 = .ok (.getfield 72, 3) := by decide +kernel
theorem dX9_takes_8 : decode cX9_takes 8 = .ok (.iload_n 1, 1) := by decide +kernel
theorem dX9_takes_9 : decode cX9_takes 9 = .ok (.if_icmp .eq 11, 3) := by decide +kernel
theorem dX9_takes_12 : decode cX9_takes 12 = .ok (.aload_n 0, 1) := by decide +kernel
theorem dX9_takes_13 : decode cX9_takes 13 = .ok (.iconst 1, 1) := by decide +kernel
theorem dX9_takes_14 : decode cX9_takes 14 = .ok (.invokevirtual 78, 3) := by decide +kernel
theorem dX9_takes_17 : decode cX9_takes 17 = .ok (.ifCond .eq 7, 3) := by decide +kernel
theorem dX9_takes_20 : decode cX9_takes 20 = .ok (.iconst 1, 1) := by decide +kernel
theorem dX9_takes_21 : decode cX9_takes 21 = .ok (.goto 4, 3) := by decide +kernel
theorem dX9_takes_24 : decode cX9_takes 24 = .ok (.iconst 0, 1) := by decide +kernel
theorem dX9_takes_25 : decode cX9_takes 25 = .ok (.ireturn, 1) := by decide +kernel
def Sp_X9_takes (av : List AV) (m : AM) (Φ : Option AV → AM → Prop) : Prop := ∃ x, av = [vr 9 13, vi x] ∧ ∃ T n p v, TapC m T n ∧ m.1 13 4 = nI p ∧ p ≤ n ∧ x = nI v ∧ v < 256 ∧ ∀ b m2, Tp [] [3, 4, 5, 6, 7, 8] m m2 → (b = 1 ∧ Tp [] [3, 4, 5, 6] m m2 ∧ (∃ q, tknS T n v p = .ok q ∧ q ≤ n ∧ m2.1 13 4 = nI q) ∨ b = 0 ∧ ∃ f pl, tknS T n v p = .error (f, pl) ∧ ErR m2 f pl) → Φ (some (vi (nI b))) m2
set_option maxRecDepth 20000 in
set_option maxHeartbeats 4000000 in
theorem S_X9_takes : Snd yX9_takes e_X9_takes Sp_X9_takes := by
  refine Snd.of (by decide +kernel) rfl ?_ ?_
  · rintro av m Φ ⟨x, rfl, _⟩; exact Nat.le_of_ble_eq_true rfl
  rintro av m Φ ⟨x, rfl, T, n, p, v, hT, hp, hpn, rfl, hv, h⟩ hav hty
  show B e_X9_takes Φ 0 [some (vr 9 13), some (vi (nI v))] [] m (0, 0)
  have hn := hT.2.1
  have tot : ∀ {M : AM}, Tp [] [3, 4, 5, 6] m M → Tp [] [3, 4, 5, 6, 7, 8] m M := fun f => f.mono (fun a z => z) (fun a z => by simp at z; simp; omega)
  refine b_aloadN (pc := 0) 0 dX9_takes_0 rfl rfl ?_
  refine call_X9_step (pc := 1) k533 (by decide) ⟨Nat.le_of_ble_eq_true rfl, Nat.le_of_ble_eq_true rfl⟩ (Nat.le_of_ble_eq_true rfl) dX9_takes_1 ?_
  refine ⟨rfl, T, n, p, hT, hp, hpn, fun m1 tp1 st1 => ?_⟩
  refine b_aloadN (pc := 4) 0 dX9_takes_4 rfl rfl ?_
  refine gf9_5 (pc := 5) k190 dX9_takes_5 ?_
  refine b_iloadN (pc := 8) 1 dX9_takes_8 rfl rfl ?_
  refine b_icmp_eq (pc := 9) 20 dX9_takes_9 (by decide) (fun c9 => ?_) (fun c9 => ?_)
  refine b_iconst (pc := 20) (nI 1) dX9_takes_20 (by decide) ?_
  refine b_goto (pc := 21) 25 dX9_takes_21 (by decide) ?_
  refine b_zret (pc := 25) rfl ?_ dX9_takes_25 ⟨Nat.le_of_ble_eq_true rfl, Nat.le_of_ble_eq_true rfl⟩ ?_
  rotate_left -- leaf 0: bool at 25
  rotate_left -- leaf 1: return at 25
  refine b_aloadN (pc := 12) 0 dX9_takes_12 rfl rfl ?_
  refine b_iconst (pc := 13) (nI 1) dX9_takes_13 (by decide) ?_
  refine call_X9_fails (pc := 14) k541 (by decide) ⟨Nat.le_of_ble_eq_true rfl, Nat.le_of_ble_eq_true rfl⟩ (Nat.le_of_ble_eq_true rfl) dX9_takes_14 ?_
  refine ⟨_, rfl, ?_⟩
  refine b_if_eq (pc := 17) 24 dX9_takes_17 (by decide) (fun c17 => ?_) (fun c17 => ?_)
  refine b_iconst (pc := 24) (nI 0) dX9_takes_24 (by decide) ?_
  refine b_zret (pc := 25) rfl ?_ dX9_takes_25 ⟨Nat.le_of_ble_eq_true rfl, Nat.le_of_ble_eq_true rfl⟩ ?_
  rotate_left -- leaf 2: bool at 25
  rotate_left -- leaf 3: return at 25
  refine b_iconst (pc := 20) (nI 1) dX9_takes_20 (by decide) ?_
  refine b_goto (pc := 21) 25 dX9_takes_21 (by decide) ?_
  refine b_zret (pc := 25) rfl ?_ dX9_takes_25 ⟨Nat.le_of_ble_eq_true rfl, Nat.le_of_ble_eq_true rfl⟩ ?_
  rotate_left -- leaf 4: bool at 25
  rotate_left -- leaf 5: return at 25
  -- leaves: 0 bool at 25; 1 return at 25; 2 bool at 25; 3 return at 25; 4 bool at 25; 5 return at 25
  · exact Or.inr rfl
  · rw [st1.2.2.1, mI_ne (by omega) _ (fun w hw => by have := sym_lt hw; omega)] at c9
    exact h 1 m1 (tot tp1) (Or.inl ⟨rfl, tp1, bhdN T n p, if_pos c9, (bhd_le hn hpn).2, st1.2.1⟩)
  · exact Or.inl rfl
  · rw [st1.2.2.1, mI_ne (by omega) _ (fun w hw => by have := sym_lt hw; omega)] at c9
    exact h 0 _ (((tot tp1).m0 (by simp)).m0 (by simp)) (Or.inr ⟨rfl, 1, p, if_neg c9, ErR.put st1.1⟩)
  · exact Or.inr rfl
  · exact absurd rfl c17
theorem call_X9_takes {E : ME} {Φ : Option AV → AM → Prop} {pc : Nat} {L : List (Option AV)} {st : List AV} {m : AM} {a : Nat × Nat} {idx : Nat} {x0 : AV} {i : Nat} (hl : Cond.methodLink E.2.1 idx yX9_takes ∈ TB) (hdep : 3 + 1 ≤ E.2.2.2.2.2.2) (hroom : a.1 + 0 ≤ E.2.2.2.2.1 ∧ a.2 + 0 ≤ E.2.2.2.2.2.1) (hsr : st.length ≤ 4) (hd : decode E.1 pc = .ok (.invokevirtual idx, 3)) (hsp : Sp_X9_takes [vr 9 i, x0] m (fun r m2 => B E Φ (pc + 3) L (r.toList ++ st) m2 a)) : B E Φ pc L (x0 :: vr 9 i :: st) m a := b_callV S_X9_takes [x0] (RX9, TX9, 9) rfl rfl (by decide) (Or.inl hl) k531 k3 k71 k532 (show _ ∧ _ ∧ Option.map (fun d => d.parameters.length) (parseMethodDescriptor yX9_takes.desc) = some 1 from by decide +kernel) ⟨hdep, by decide⟩ hroom hsr hd hsp
abbrev e_X9_takesNumber : ME := (cX9_takesNumber, (RX9, (3, ((some .boolean), (0, (0, 3))))))
theorem dX9_takesNumber_0 : decode cX9_takesNumber 0 = .ok (.aload_n 0, 1) := by decide +kernel
theorem dX9_takesNumber_1 : decode cX9_takesNumber 1 = .ok (.invokevirtual 69, 3) := by decide +kernel
theorem dX9_takesNumber_4 : decode cX9_takesNumber 4 = .ok (.aload_n 0, 1) := by decide +kernel
theorem dX9_takesNumber_5 : decode cX9_takesNumber 5 = .ok (.getfield 57, 3) := by decide +kernel
theorem dX9_takesNumber_8 : decode cX9_takesNumber 8 = .ok (.iconst (-1), 1) := by decide +kernel
theorem dX9_takesNumber_9 : decode cX9_takesNumber 9 = .ok (.if_icmp .ne 9, 3) := by decide +kernel
theorem dX9_takesNumber_12 : decode cX9_takesNumber 12 = .ok (.aload_n 0, 1) := by decide +kernel
theorem dX9_takesNumber_13 : decode cX9_takesNumber 13 = .ok (.iconst 1, 1) := by decide +kernel
theorem dX9_takesNumber_14 : decode cX9_takesNumber 14 = .ok (.invokevirtual 78, 3) := by decide +kernel
theorem dX9_takesNumber_17 : decode cX9_takesNumber 17 = .ok (.ireturn, 1) := by decide +kernel
theorem dX9_takesNumber_18 : decode cX9_takesNumber 18 = .ok (.aload_n 0, 1) := by decide +kernel
theorem dX9_takesNumber_19 : decode cX9_takesNumber 19 = .ok (.getfield 57, 3) := by decide +kernel
theorem dX9_takesNumber_22 : decode cX9_takesNumber 22 = .ok (.iload_n 1, 1) := by decide +kernel
theorem dX9_takesNumber_23 : decode cX9_takesNumber 23 = .ok (.if_icmp .lt 11, 3) := by decide +kernel
theorem dX9_takesNumber_26 : decode cX9_takesNumber 26 = .ok (.aload_n 0, 1) := by decide +kernel
theorem dX9_takesNumber_27 : decode cX9_takesNumber 27 = .ok (.getfield 57, 3) := by decide +kernel
theorem dX9_takesNumber_30 : decode cX9_takesNumber 30 = .ok (.iload_n 2, 1) := by decide +kernel
theorem dX9_takesNumber_31 : decode cX9_takesNumber 31 = .ok (.if_icmp .le 11, 3) := by decide +kernel
theorem dX9_takesNumber_34 : decode cX9_takesNumber 34 = .ok (.aload_n 0, 1) := by decide +kernel
theorem dX9_takesNumber_35 : decode cX9_takesNumber 35 = .ok (.iconst 2, 1) := by decide +kernel
theorem dX9_takesNumber_36 : decode cX9_takesNumber 36 = .ok (.invokevirtual 78, 3) := by decide +kernel
theorem dX9_takesNumber_39 : decode cX9_takesNumber 39 = .ok (.ifCond .eq 7, 3) := by decide +kernel
theorem dX9_takesNumber_42 : decode cX9_takesNumber 42 = .ok (.iconst 1, 1) := by decide +kernel
theorem dX9_takesNumber_43 : decode cX9_takesNumber 43 = .ok (.goto 4, 3) := by decide +kernel
theorem dX9_takesNumber_46 : decode cX9_takesNumber 46 = .ok (.iconst 0, 1) := by decide +kernel
theorem dX9_takesNumber_47 : decode cX9_takesNumber 47 = .ok (.ireturn, 1) := by decide +kernel
def Sp_X9_takesNumber (av : List AV) (m : AM) (Φ : Option AV → AM → Prop) : Prop := ∃ x y, av = [vr 9 13, vi x, vi y] ∧ ∃ T n p lo hi, TapC m T n ∧ m.1 13 4 = nI p ∧ p ≤ n ∧ x = nI lo ∧ y = nI hi ∧ lo < 256 ∧ hi < 256 ∧ ∀ b m2, Tp [] [3, 4, 5, 6, 7, 8] m m2 → (b = 1 ∧ Tp [] [3, 4, 5, 6] m m2 ∧ (∃ v q, tknN T n lo hi p = .ok (v, q) ∧ q ≤ n ∧ v ≤ hi ∧ lo ≤ v ∧ m2.1 13 3 = nI p ∧ m2.1 13 4 = nI q ∧ m2.1 13 6 = nI v) ∨ b = 0 ∧ ∃ f pl, tknN T n lo hi p = .error (f, pl) ∧ ErR m2 f pl) → Φ (some (vi (nI b))) m2
set_option maxRecDepth 20000 in
set_option maxHeartbeats 4000000 in
theorem S_X9_takesNumber : Snd yX9_takesNumber e_X9_takesNumber Sp_X9_takesNumber := by
  refine Snd.of (by decide +kernel) rfl ?_ ?_
  · rintro av m Φ ⟨x, y, rfl, _⟩; exact Nat.le_of_ble_eq_true rfl
  rintro av m Φ ⟨x, y, rfl, T, n, p, lo, hi, hT, hp, hpn, rfl, rfl, hlo, hhi, h⟩ hav hty
  show B e_X9_takesNumber Φ 0 [some (vr 9 13), some (vi (nI lo)), some (vi (nI hi))] [] m (0, 0)
  have hn := hT.2.1
  have tot : ∀ {M : AM}, Tp [] [3, 4, 5, 6] m M → Tp [] [3, 4, 5, 6, 7, 8] m M := fun f => f.mono (fun a z => z) (fun a z => by simp at z; simp; omega)
  cases hN : numO T n p with
  | none =>
    have e : tknN T n lo hi p = .error (1, p) := by
      unfold tknN
      rw [hN]
    refine b_aloadN (pc := 0) 0 dX9_takesNumber_0 rfl rfl ?_
    refine call_X9_step (pc := 1) k533 (by decide) ⟨Nat.le_of_ble_eq_true rfl, Nat.le_of_ble_eq_true rfl⟩ (Nat.le_of_ble_eq_true rfl) dX9_takesNumber_1 ?_
    refine ⟨rfl, T, n, p, hT, hp, hpn, fun m1 tp1 st1 => ?_⟩
    refine b_aloadN (pc := 4) 0 dX9_takesNumber_4 rfl rfl ?_
    refine gf9_6 (pc := 5) k191 dX9_takesNumber_5 ?_
    refine b_iconst (pc := 8) (-1) dX9_takesNumber_8 (by decide) ?_
    refine b_icmp_ne (pc := 9) 18 dX9_takesNumber_9 (by decide) (fun c9 => ?_) (fun c9 => ?_)
    rotate_left -- leaf 0: at 18
    refine b_aloadN (pc := 12) 0 dX9_takesNumber_12 rfl rfl ?_
    refine b_iconst (pc := 13) (nI 1) dX9_takesNumber_13 (by decide) ?_
    refine call_X9_fails (pc := 14) k541 (by decide) ⟨Nat.le_of_ble_eq_true rfl, Nat.le_of_ble_eq_true rfl⟩ (Nat.le_of_ble_eq_true rfl) dX9_takesNumber_14 ?_
    refine ⟨_, rfl, ?_⟩
    refine b_zret (pc := 17) rfl ?_ dX9_takesNumber_17 ⟨Nat.le_of_ble_eq_true rfl, Nat.le_of_ble_eq_true rfl⟩ ?_
    rotate_left -- leaf 1: bool at 17
    rotate_left -- leaf 2: return at 17
    -- leaves: 0 at 18; 1 bool at 17; 2 return at 17
    · rw [st1.2.2.2, hN] at c9
      exact absurd rfl c9
    · exact Or.inl rfl
    · exact h 0 _ (((tot tp1).m0 (by simp)).m0 (by simp)) (Or.inr ⟨rfl, 1, p, e, ErR.put st1.1⟩)
  | some w =>
    have hw := num_lt (fun k hk => (hT.2.2 k hk).2) hn hN
    have e : tknN T n lo hi p = if lo ≤ w ∧ w ≤ hi then .ok (w, bhdN T n p) else .error (2, p) := by
      unfold tknN
      rw [hN]
    refine b_aloadN (pc := 0) 0 dX9_takesNumber_0 rfl rfl ?_
    refine call_X9_step (pc := 1) k533 (by decide) ⟨Nat.le_of_ble_eq_true rfl, Nat.le_of_ble_eq_true rfl⟩ (Nat.le_of_ble_eq_true rfl) dX9_takesNumber_1 ?_
    refine ⟨rfl, T, n, p, hT, hp, hpn, fun m1 tp1 st1 => ?_⟩
    refine b_aloadN (pc := 4) 0 dX9_takesNumber_4 rfl rfl ?_
    refine gf9_6 (pc := 5) k191 dX9_takesNumber_5 ?_
    refine b_iconst (pc := 8) (-1) dX9_takesNumber_8 (by decide) ?_
    refine b_icmp_ne (pc := 9) 18 dX9_takesNumber_9 (by decide) (fun c9 => ?_) (fun c9 => ?_)
    refine b_aloadN (pc := 18) 0 dX9_takesNumber_18 rfl rfl ?_
    refine gf9_6 (pc := 19) k191 dX9_takesNumber_19 ?_
    refine b_iloadN (pc := 22) 1 dX9_takesNumber_22 rfl rfl ?_
    refine b_icmp_lt (pc := 23) 34 dX9_takesNumber_23 (by decide) (fun c23 => ?_) (fun c23 => ?_)
    refine b_aloadN (pc := 34) 0 dX9_takesNumber_34 rfl rfl ?_
    refine b_iconst (pc := 35) (nI 2) dX9_takesNumber_35 (by decide) ?_
    refine call_X9_fails (pc := 36) k541 (by decide) ⟨Nat.le_of_ble_eq_true rfl, Nat.le_of_ble_eq_true rfl⟩ (Nat.le_of_ble_eq_true rfl) dX9_takesNumber_36 ?_
    refine ⟨_, rfl, ?_⟩
    refine b_if_eq (pc := 39) 46 dX9_takesNumber_39 (by decide) (fun c39 => ?_) (fun c39 => ?_)
    refine b_iconst (pc := 46) (nI 0) dX9_takesNumber_46 (by decide) ?_
    refine b_zret (pc := 47) rfl ?_ dX9_takesNumber_47 ⟨Nat.le_of_ble_eq_true rfl, Nat.le_of_ble_eq_true rfl⟩ ?_
    rotate_left -- leaf 0: bool at 47
    rotate_left -- leaf 1: return at 47
    refine b_iconst (pc := 42) (nI 1) dX9_takesNumber_42 (by decide) ?_
    refine b_goto (pc := 43) 47 dX9_takesNumber_43 (by decide) ?_
    refine b_zret (pc := 47) rfl ?_ dX9_takesNumber_47 ⟨Nat.le_of_ble_eq_true rfl, Nat.le_of_ble_eq_true rfl⟩ ?_
    rotate_left -- leaf 2: bool at 47
    rotate_left -- leaf 3: return at 47
    refine b_aloadN (pc := 26) 0 dX9_takesNumber_26 rfl rfl ?_
    refine gf9_6 (pc := 27) k191 dX9_takesNumber_27 ?_
    refine b_iloadN (pc := 30) 2 dX9_takesNumber_30 rfl rfl ?_
    refine b_icmp_le (pc := 31) 42 dX9_takesNumber_31 (by decide) (fun c31 => ?_) (fun c31 => ?_)
    refine b_iconst (pc := 42) (nI 1) dX9_takesNumber_42 (by decide) ?_
    refine b_goto (pc := 43) 47 dX9_takesNumber_43 (by decide) ?_
    refine b_zret (pc := 47) rfl ?_ dX9_takesNumber_47 ⟨Nat.le_of_ble_eq_true rfl, Nat.le_of_ble_eq_true rfl⟩ ?_
    rotate_left -- leaf 4: bool at 47
    rotate_left -- leaf 5: return at 47
    refine b_aloadN (pc := 34) 0 dX9_takesNumber_34 rfl rfl ?_
    refine b_iconst (pc := 35) (nI 2) dX9_takesNumber_35 (by decide) ?_
    refine call_X9_fails (pc := 36) k541 (by decide) ⟨Nat.le_of_ble_eq_true rfl, Nat.le_of_ble_eq_true rfl⟩ (Nat.le_of_ble_eq_true rfl) dX9_takesNumber_36 ?_
    refine ⟨_, rfl, ?_⟩
    refine b_if_eq (pc := 39) 46 dX9_takesNumber_39 (by decide) (fun c39 => ?_) (fun c39 => ?_)
    refine b_iconst (pc := 46) (nI 0) dX9_takesNumber_46 (by decide) ?_
    refine b_zret (pc := 47) rfl ?_ dX9_takesNumber_47 ⟨Nat.le_of_ble_eq_true rfl, Nat.le_of_ble_eq_true rfl⟩ ?_
    rotate_left -- leaf 6: bool at 47
    rotate_left -- leaf 7: return at 47
    refine b_iconst (pc := 42) (nI 1) dX9_takesNumber_42 (by decide) ?_
    refine b_goto (pc := 43) 47 dX9_takesNumber_43 (by decide) ?_
    refine b_zret (pc := 47) rfl ?_ dX9_takesNumber_47 ⟨Nat.le_of_ble_eq_true rfl, Nat.le_of_ble_eq_true rfl⟩ ?_
    rotate_left -- leaf 8: bool at 47
    rotate_left -- leaf 9: return at 47
    refine b_aloadN (pc := 12) 0 dX9_takesNumber_12 rfl rfl ?_
    refine b_iconst (pc := 13) (nI 1) dX9_takesNumber_13 (by decide) ?_
    refine call_X9_fails (pc := 14) k541 (by decide) ⟨Nat.le_of_ble_eq_true rfl, Nat.le_of_ble_eq_true rfl⟩ (Nat.le_of_ble_eq_true rfl) dX9_takesNumber_14 ?_
    refine ⟨_, rfl, ?_⟩
    refine b_zret (pc := 17) rfl ?_ dX9_takesNumber_17 ⟨Nat.le_of_ble_eq_true rfl, Nat.le_of_ble_eq_true rfl⟩ ?_
    rotate_left -- leaf 10: bool at 17
    rotate_left -- leaf 11: return at 17
    -- leaves: 0 bool at 47; 1 return at 47; 2 bool at 47; 3 return at 47; 4 bool at 47; 5 return at 47; 6 bool at 47; 7 return at 47; 8 bool at 47; 9 return at 47; 10 bool at 17; 11 return at 17
    · exact Or.inl rfl
    · rw [st1.2.2.2, hN, show mI (some w) = nI w from rfl, n_lt (by omega) (by omega)] at c23
      rw [if_neg (by omega)] at e
      exact h 0 _ (((tot tp1).m0 (by simp)).m0 (by simp)) (Or.inr ⟨rfl, 2, p, e, ErR.put st1.1⟩)
    · exact Or.inr rfl
    · exact absurd rfl c39
    · exact Or.inr rfl
    · rw [st1.2.2.2, hN, show mI (some w) = nI w from rfl, n_lt (by omega) (by omega)] at c23
      rw [st1.2.2.2, hN, show mI (some w) = nI w from rfl, n_le (by omega) (by omega)] at c31
      rw [if_pos (by omega)] at e
      exact h 1 m1 (tot tp1) (Or.inl ⟨rfl, tp1, w, bhdN T n p, e, (bhd_le hn hpn).2, c31, by omega, st1.1, st1.2.1, by rw [st1.2.2.2, hN]; rfl⟩)
    · exact Or.inl rfl
    · rw [st1.2.2.2, hN, show mI (some w) = nI w from rfl, n_le (by omega) (by omega)] at c31
      rw [if_neg (by omega)] at e
      exact h 0 _ (((tot tp1).m0 (by simp)).m0 (by simp)) (Or.inr ⟨rfl, 2, p, e, ErR.put st1.1⟩)
    · exact Or.inr rfl
    · exact absurd rfl c39
    · exact Or.inl rfl
    · rw [st1.2.2.2, hN] at c9
      exact absurd c9 (n_ne_m1 (by omega))
theorem call_X9_takesNumber {E : ME} {Φ : Option AV → AM → Prop} {pc : Nat} {L : List (Option AV)} {st : List AV} {m : AM} {a : Nat × Nat} {idx : Nat} {x0 x1 : AV} {i : Nat} (hl : Cond.methodLink E.2.1 idx yX9_takesNumber ∈ TB) (hdep : 3 + 1 ≤ E.2.2.2.2.2.2) (hroom : a.1 + 0 ≤ E.2.2.2.2.1 ∧ a.2 + 0 ≤ E.2.2.2.2.2.1) (hsr : st.length ≤ 4) (hd : decode E.1 pc = .ok (.invokevirtual idx, 3)) (hsp : Sp_X9_takesNumber [vr 9 i, x0, x1] m (fun r m2 => B E Φ (pc + 3) L (r.toList ++ st) m2 a)) : B E Φ pc L (x1 :: x0 :: vr 9 i :: st) m a := b_callV S_X9_takesNumber [x0, x1] (RX9, TX9, 9) rfl rfl (by decide) (Or.inl hl) k547 k7 k71 k548 (show _ ∧ _ ∧ Option.map (fun d => d.parameters.length) (parseMethodDescriptor yX9_takesNumber.desc) = some 2 from by decide +kernel) ⟨hdep, by decide⟩ hroom hsr hd hsp
