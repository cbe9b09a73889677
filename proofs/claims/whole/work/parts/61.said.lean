/-! said, of the class: tellSaying, turnOver -/
def FsR (m : AM) : Prop := (∀ k, k < 4 → 104 ≤ m.2.1 103 k ∧ m.2.1 103 k ≤ 107) ∧ (∀ a b, a < 4 → b < 4 → m.2.1 103 a = m.2.1 103 b → a = b) ∧ ∀ i, 104 ≤ i → i ≤ 107 → m.2.2.1 i = 64
theorem FsR.cg {m m2 : AM} (h : FsR m) (e : m2.2 = m.2) : FsR m2 := by
  unfold FsR
  rw [e]
  exact h
theorem stepS_out {C : Nat → Nat} {q : Nat} {d : Int32} {k s y : Nat} : stepS C q d (some (k, s)) y = (match outN C q k s y with | none => none | some v => if nI v = d then some (v, s ||| 2 ^ (y / 2)) else none) := rfl
abbrev e_X3_tellSaying : ME := (cX3_tellSaying, (RX3, (11, (none, (0, (0, 5))))))
theorem dX3_tellSaying_0 : decode cX3_tellSaying 0 = .ok (.iconst 0, 1) := by decide +kernel
theorem dX3_tellSaying_1 : decode cX3_tellSaying 1 = .ok (.istore 7, 2) := by decide +kernel
theorem dX3_tellSaying_3 : decode cX3_tellSaying 3 = .ok (.iload 7, 2) := by decide +kernel
theorem dX3_tellSaying_5 : decode cX3_tellSaying 5 = .ok (.bipush 64, 2) := by decide +kernel
theorem dX3_tellSaying_7 : decode cX3_tellSaying 7 = .ok (.if_icmp .ge 126, 3) := by decide +kernel
theorem dX3_tellSaying_10 : decode cX3_tellSaying 10 = .ok (.aload_n 0, 1) := by decide +kernel
theorem dX3_tellSaying_11 : decode cX3_tellSaying 11 = .ok (.getfield 11, 3) := by decide +kernel
theorem dX3_tellSaying_14 : decode cX3_tellSaying 14 = .ok (.iload 7, 2) := by decide +kernel
theorem dX3_tellSaying_16 : decode cX3_tellSaying 16 = .ok (.iaload, 1) := by decide +kernel
theorem dX3_tellSaying_17 : decode cX3_tellSaying 17 = .ok (.ifCond .ne 6, 3) := by decide +kernel
theorem dX3_tellSaying_20 : decode cX3_tellSaying 20 = .ok (.goto 107, 3) := by decide +kernel
theorem dX3_tellSaying_23 : decode cX3_tellSaying 23 = .ok (.aload_n 1, 1) := by decide +kernel
theorem dX3_tellSaying_24 : decode cX3_tellSaying 24 = .ok (.iload_n 2, 1) := by decide +kernel
theorem dX3_tellSaying_25 : decode cX3_tellSaying 25 = .ok (.iload_n 3, 1) := by decide +kernel
theorem dX3_tellSaying_26 : decode cX3_tellSaying 26 = .ok (.iload 4, 2) := by decide +kernel
theorem dX3_tellSaying_28 : decode cX3_tellSaying 28 = .ok (.iload 7, 2) := by decide +kernel
theorem dX3_tellSaying_30 : decode cX3_tellSaying 30 = .ok (.invokevirtual 48, 3) := by decide +kernel
theorem dX3_tellSaying_33 : decode cX3_tellSaying 33 = .ok (.istore 8, 2) := by decide +kernel
theorem dX3_tellSaying_35 : decode cX3_tellSaying 35 = .ok (.iload 8, 2) := by decide +kernel
theorem dX3_tellSaying_37 : decode cX3_tellSaying 37 = .ok (.ldc 61, 2) := by decide +kernel
theorem dX3_tellSaying_39 : decode cX3_tellSaying 39 = .ok (.if_icmp .eq 88, 3) := by decide +kernel
theorem dX3_tellSaying_42 : decode cX3_tellSaying 42 = .ok (.iload 8, 2) := by decide +kernel
theorem dX3_tellSaying_44 : decode cX3_tellSaying 44 = .ok (.iload 5, 2) := by decide +kernel
theorem dX3_tellSaying_46 : decode cX3_tellSaying 46 = .ok (.if_icmp .eq 6, 3) := by decide +kernel
theorem dX3_tellSaying_49 : decode cX3_tellSaying 49 = .ok (.goto 78, 3) := by decide +kernel
theorem dX3_tellSaying_52 : decode cX3_tellSaying 52 = .ok (.iload 7, 2) := by decide +kernel
theorem dX3_tellSaying_54 : decode cX3_tellSaying 54 = .ok (.iload_n 3, 1) := by decide +kernel
theorem dX3_tellSaying_55 : decode cX3_tellSaying 55 = .ok (.invokestatic 83, 3) := by decide +kernel
theorem dX3_tellSaying_58 : decode cX3_tellSaying 58 = .ok (.ior, 1) := by decide +kernel
theorem dX3_tellSaying_59 : decode cX3_tellSaying 59 = .ok (.istore 9, 2) := by decide +kernel
theorem dX3_tellSaying_61 : decode cX3_tellSaying 61 = .ok (.iload 6, 2) := by decide +kernel
theorem dX3_tellSaying_63 : decode cX3_tellSaying 63 = .ok (.ifCond .eq 7, 3) := by decide +kernel
theorem dX3_tellSaying_66 : decode cX3_tellSaying 66 = .ok (.iload_n 3, 1) := by decide +kernel
theorem dX3_tellSaying_67 : decode cX3_tellSaying 67 = .ok (.goto 10, 3) := by decide +kernel
theorem dX3_tellSaying_70 : decode cX3_tellSaying 70 = .ok (.aload_n 0, 1) := by decide +kernel
theorem dX3_tellSaying_71 : decode cX3_tellSaying 71 = .ok (.getfield 15, 3) := by decide +kernel
theorem dX3_tellSaying_74 : decode cX3_tellSaying 74 = .ok (.iload 7, 2) := by decide +kernel
theorem dX3_tellSaying_76 : decode cX3_tellSaying 76 = .ok (.iaload, 1) := by decide +kernel
theorem dX3_tellSaying_77 : decode cX3_tellSaying 77 = .ok (.istore 10, 2) := by decide +kernel
theorem dX3_tellSaying_79 : decode cX3_tellSaying 79 = .ok (.aload_n 0, 1) := by decide +kernel
theorem dX3_tellSaying_80 : decode cX3_tellSaying 80 = .ok (.getfield 18, 3) := by decide +kernel
theorem dX3_tellSaying_83 : decode cX3_tellSaying 83 = .ok (.iload 9, 2) := by decide +kernel
theorem dX3_tellSaying_85 : decode cX3_tellSaying 85 = .ok (.iaload, 1) := by decide +kernel
theorem dX3_tellSaying_86 : decode cX3_tellSaying 86 = .ok (.ifCond .eq 15, 3) := by decide +kernel
theorem dX3_tellSaying_89 : decode cX3_tellSaying 89 = .ok (.iload 10, 2) := by decide +kernel
theorem dX3_tellSaying_91 : decode cX3_tellSaying 91 = .ok (.aload_n 0, 1) := by decide +kernel
theorem dX3_tellSaying_92 : decode cX3_tellSaying 92 = .ok (.getfield 21, 3) := by decide +kernel
theorem dX3_tellSaying_95 : decode cX3_tellSaying 95 = .ok (.iload 9, 2) := by decide +kernel
theorem dX3_tellSaying_97 : decode cX3_tellSaying 97 = .ok (.iaload, 1) := by decide +kernel
theorem dX3_tellSaying_98 : decode cX3_tellSaying 98 = .ok (.if_icmp .ge 12, 3) := by decide +kernel
theorem dX3_tellSaying_101 : decode cX3_tellSaying 101 = .ok (.aload_n 0, 1) := by decide +kernel
theorem dX3_tellSaying_102 : decode cX3_tellSaying 102 = .ok (.getfield 21, 3) := by decide +kernel
theorem dX3_tellSaying_105 : decode cX3_tellSaying 105 = .ok (.iload 9, 2) := by decide +kernel
theorem dX3_tellSaying_107 : decode cX3_tellSaying 107 = .ok (.iload 10, 2) := by decide +kernel
theorem dX3_tellSaying_109 : decode cX3_tellSaying 109 = .ok (.iastore, 1) := by decide +kernel
theorem dX3_tellSaying_110 : decode cX3_tellSaying 110 = .ok (.aload_n 0, 1) := by decide +kernel
theorem dX3_tellSaying_111 : decode cX3_tellSaying 111 = .ok (.getfield 18, 3) := by decide +kernel
theorem dX3_tellSaying_114 : decode cX3_tellSaying 114 = .ok (.iload 9, 2) := by decide +kernel
theorem dX3_tellSaying_116 : decode cX3_tellSaying 116 = .ok (.dup2, 1) := by decide +kernel
theorem dX3_tellSaying_117 : decode cX3_tellSaying 117 = .ok (.iaload, 1) := by decide +kernel
theorem dX3_tellSaying_118 : decode cX3_tellSaying 118 = .ok (.aload_n 0, 1) := by decide +kernel
theorem dX3_tellSaying_119 : decode cX3_tellSaying 119 = .ok (.getfield 11, 3) := by decide +kernel
theorem dX3_tellSaying_122 : decode cX3_tellSaying 122 = .ok (.iload 7, 2) := by decide +kernel
theorem dX3_tellSaying_124 : decode cX3_tellSaying 124 = .ok (.iaload, 1) := by decide +kernel
theorem dX3_tellSaying_125 : decode cX3_tellSaying 125 = .ok (.iadd, 1) := by decide +kernel
theorem dX3_tellSaying_126 : decode cX3_tellSaying 126 = .ok (.iastore, 1) := by decide +kernel
theorem dX3_tellSaying_127 : decode cX3_tellSaying 127 = .ok (.iinc 7 1, 3) := by decide +kernel
theorem dX3_tellSaying_130 : decode cX3_tellSaying 130 = .ok (.goto (-127), 3) := by decide +kernel
theorem dX3_tellSaying_133 : decode cX3_tellSaying 133 = .ok (.return_, 1) := by decide +kernel
def Sp_X3_tellSaying (av : List AV) (m : AM) (Φ : Option AV → AM → Prop) : Prop := ∃ x y0 x4 d x6, av = [vr 3 103, vr 2 20, vi x, vi y0, vi x4, vi d, vi x6] ∧ ∃ (C : Nat → Nat) (q y K : Nat) (W F : Nat → Nat) (Z : (Nat → Nat) × (Nat → Nat)) (st : Nat), BR m C ∧ FsR m ∧ x = nI q ∧ (1 ≤ q ∧ q ≤ 5) ∧ y0 = nI y ∧ y < 2 * C 0 ∧ (∀ s, s < 64 → 0 < W s → x4 = nI K ∧ K < 64) ∧ x6 = nI st ∧ st ≤ 1 ∧ (∀ s, s < 64 → W s ≤ 20736) ∧ (∀ s, Z.1 s ≤ 1000000000) ∧ (∀ s, s < 64 → m.1 (m.2.1 103 0) s = nI (W s)) ∧ (∀ s, s < 64 → 0 < W s → F s < 1000) ∧ (∀ s, Z.2 s < 1000) ∧ (st = 0 → ∀ s, s < 64 → 0 < W s → m.1 (m.2.1 103 1) s = nI (F s)) ∧ (∀ s, s < 64 → m.1 (m.2.1 103 2) s = nI (Z.1 s)) ∧ (∀ s, s < 64 → 0 < Z.1 s → m.1 (m.2.1 103 3) s = nI (Z.2 s)) ∧ ∀ m2, Fr [30, m.2.1 103 2, m.2.1 103 3] m m2 → BR m2 C → (∀ s, s < 64 → m2.1 (m.2.1 103 2) s = nI ((tsZ C q d K W (fun s => if st = 1 then y else F s) y Z 64).1 s)) → (∀ s, s < 64 → 0 < (tsZ C q d K W (fun s => if st = 1 then y else F s) y Z 64).1 s → m2.1 (m.2.1 103 3) s = nI ((tsZ C q d K W (fun s => if st = 1 then y else F s) y Z 64).2 s)) → Φ none m2
theorem tsZ_lt {C : Nat → Nat} {q : Nat} {d : Int32} {k : Nat} {W ff : Nat → Nat} {y : Nat} {Z : (Nat → Nat) × (Nat → Nat)} (h : ∀ s, Z.2 s < 1000) (hf : ∀ s, s < 64 → 0 < W s → ff s < 1000) : ∀ n, n ≤ 64 → ∀ s, (tsZ C q d k W ff y Z n).2 s < 1000
  | 0, _ => h
  | n + 1, hn => by
    have ih := tsZ_lt (C := C) (q := q) (d := d) (k := k) (y := y) h hf n (by omega)
    intro s
    unfold tsZ
    by_cases hw : W n = 0
    · rw [if_pos hw]; exact ih s
    · rw [if_neg hw]
      cases stepS C q d (some (k, n)) y with
      | none => exact ih s
      | some p =>
        show (if (tsZ C q d k W ff y Z n).1 p.2 = 0 ∨ ff n < (tsZ C q d k W ff y Z n).2 p.2 then upC (tsZ C q d k W ff y Z n).2 p.2 (ff n) else (tsZ C q d k W ff y Z n).2) s < 1000
        by_cases c : (tsZ C q d k W ff y Z n).1 p.2 = 0 ∨ ff n < (tsZ C q d k W ff y Z n).2 p.2
        · rw [if_pos c]
          unfold upC
          split
          · exact hf n (by omega) (by omega)
          · exact ih s
        · rw [if_neg c]; exact ih s
theorem tsZ_bd {C : Nat → Nat} {q : Nat} {d : Int32} {k : Nat} {W ff : Nat → Nat} {y : Nat} {Z : (Nat → Nat) × (Nat → Nat)} (hW : ∀ s, s < 64 → W s ≤ 20736) (t n : Nat) (hn : n ≤ 64) : (tsZ C q d k W ff y Z n).1 t ≤ Z.1 t + 64 * 20736 := by
  rw [tsZ_1]
  have := sumN_le (f := fun s => gN C q d k W y s t) 20736 n (fun i hi => by
    unfold gN
    have h1 := hW i (by omega)
    have h2 := hasM_le (stepS C q d (some (k, i)) y) t
    have h3 : W i * hasM (stepS C q d (some (k, i)) y) t ≤ W i * 1 := Nat.mul_le_mul (Nat.le_refl _) h2
    omega)
  have h4 : n * 20736 ≤ 64 * 20736 := Nat.mul_le_mul hn (Nat.le_refl _)
  omega
set_option maxRecDepth 20000 in
set_option maxHeartbeats 4000000 in
theorem S_X3_tellSaying : Snd yX3_tellSaying e_X3_tellSaying Sp_X3_tellSaying := by
  refine Snd.of (by decide +kernel) rfl ?_ ?_
  · rintro av m Φ ⟨x, y0, x4, d, x6, rfl, _⟩; exact Nat.le_of_ble_eq_true rfl
  rintro av m Φ ⟨x, y0, x4, d, x6, rfl, C, q, y, K, W, F, Z, st, hB0, hFs, rfl, hq, rfl, hy, hK, rfl, hst, hW, hZ, hA0, hF1, hZ2, hA1, hA2, hA3, h⟩ hav hty
  show B e_X3_tellSaying Φ 0 [some (vr 3 103), some (vr 2 20), some (vi (nI q)), some (vi (nI y)), some (vi x4), some (vi d), some (vi (nI st)), none, none, none, none] [] m (0, 0)
  have hv := hB0.1
  have h06 := hv.1
  obtain ⟨f1, f2, f3⟩ := hFs
  have r0 := f1 0 (by omega)
  have r1 := f1 1 (by omega)
  have r2 := f1 2 (by omega)
  have r3 := f1 3 (by omega)
  have n02 : m.2.1 103 0 ≠ m.2.1 103 2 := fun e => by have := f2 0 2 (by omega) (by omega) e; omega
  have n03 : m.2.1 103 0 ≠ m.2.1 103 3 := fun e => by have := f2 0 3 (by omega) (by omega) e; omega
  have n12 : m.2.1 103 1 ≠ m.2.1 103 2 := fun e => by have := f2 1 2 (by omega) (by omega) e; omega
  have n13 : m.2.1 103 1 ≠ m.2.1 103 3 := fun e => by have := f2 1 3 (by omega) (by omega) e; omega
  have n23 : m.2.1 103 2 ≠ m.2.1 103 3 := fun e => by have := f2 2 3 (by omega) (by omega) e; omega
  generalize g0 : m.2.1 103 0 = R0 at *
  generalize g1 : m.2.1 103 1 = R1 at *
  generalize g2 : m.2.1 103 2 = R2 at *
  generalize g3 : m.2.1 103 3 = R3 at *
  have hffd : ∀ s, s < 64 → 0 < W s → (fun s => if st = 1 then y else F s) s < 1000 := fun s h1 h2 => by
    show (if st = 1 then y else F s) < 1000
    split
    · omega
    · exact hF1 s h1 h2
  generalize hff : (fun s => if st = 1 then y else F s) = ff at *
  have hffs : ∀ s, ff s = if st = 1 then y else F s := fun s => by rw [← hff]
  have loop : ∀ e s m2 o8 o9 o10, s + e = 64 → Fr [30, R2, R3] m m2 → BR m2 C → (∀ u, u < 64 → m2.1 R2 u = nI ((tsZ C q d K W ff y Z s).1 u)) → (∀ u, u < 64 → 0 < (tsZ C q d K W ff y Z s).1 u → m2.1 R3 u = nI ((tsZ C q d K W ff y Z s).2 u)) → B e_X3_tellSaying Φ 3 [some (vr 3 103), some (vr 2 20), some (vi (nI q)), some (vi (nI y)), some (vi x4), some (vi d), some (vi (nI st)), some (vi (nI s)), o8, o9, o10] [] m2 (0, 0) := by
    intro e
    induction e with
    | zero =>
      intro s m2 o8 o9 o10 h1 h2 hB h3 h4
      have es : s = 64 := by omega
      subst es
      refine b_iloadG (pc := 3) 7 dX3_tellSaying_3 rfl ?_
      refine b_bipush (pc := 5) (nI 64) dX3_tellSaying_5 (by decide) ?_
      refine b_icmp_ge (pc := 7) 133 dX3_tellSaying_7 (by decide) (fun c7 => ?_) (fun c7 => ?_)
      refine b_vret (pc := 133) rfl dX3_tellSaying_133 ⟨Nat.le_of_ble_eq_true rfl, Nat.le_of_ble_eq_true rfl⟩ ?_
      rotate_left -- leaf 0: return at 133
      rotate_left -- leaf 1: at 10
      -- leaves: 0 return at 133; 1 at 10
      · exact h m2 h2 hB h3 h4
      · rw [n_le (by omega) (by omega)] at c7; omega
    | succ e ih =>
      intro s m2 o8 o9 o10 h1 h2 hB h3 h4
      have hs64 : s < 64 := by omega
      have i0 : m2.2.1 103 0 = R0 := by rw [h2.1]; exact g0
      have i1 : m2.2.1 103 1 = R1 := by rw [h2.1]; exact g1
      have i2 : m2.2.1 103 2 = R2 := by rw [h2.1]; exact g2
      have i3 : m2.2.1 103 3 = R3 := by rw [h2.1]; exact g3
      have l64 : ∀ i, 104 ≤ i → i ≤ 107 → m2.2.2.1 i = 64 := fun i a b => by rw [h2.1]; exact f3 i a b
      have w0 : m2.1 R0 s = nI (W s) := by
        rw [h2.2 R0 (by simp; omega)]; exact hA0 s hs64
      have wb := hW s hs64
      have tb := fun u => tsZ_bd (C := C) (q := q) (d := d) (k := K) (ff := ff) (y := y) (Z := Z) hW u s (by omega)
      have tl := tsZ_lt (C := C) (q := q) (d := d) (k := K) (y := y) hZ2 hffd s (by omega)
      by_cases hw : W s = 0
      · have un : tsZ C q d K W ff y Z (s + 1) = tsZ C q d K W ff y Z s := by
          show (if W s = 0 then _ else _) = _
          rw [if_pos hw]
        have nx := ih (s + 1) m2 o8 o9 o10 (by omega) h2 hB
        rw [un] at nx
        refine b_iloadG (pc := 3) 7 dX3_tellSaying_3 rfl ?_
        refine b_bipush (pc := 5) (nI 64) dX3_tellSaying_5 (by decide) ?_
        refine b_icmp_ge (pc := 7) 133 dX3_tellSaying_7 (by decide) (fun c7 => ?_) (fun c7 => ?_)
        rotate_left -- leaf 0: at 133
        refine b_aloadN (pc := 10) 0 dX3_tellSaying_10 rfl rfl ?_
        refine gf3_0 (pc := 11) k367 dX3_tellSaying_11 ?_
        refine b_iloadG (pc := 14) 7 dX3_tellSaying_14 rfl ?_
        refine b_ialdD (pc := 16) ?_ dX3_tellSaying_16 ?_
        rotate_left -- leaf 1: index at 16
        refine b_if_ne (pc := 17) 23 dX3_tellSaying_17 (by decide) (fun c17 => ?_) (fun c17 => ?_)
        rotate_left -- leaf 2: at 23
        refine b_goto (pc := 20) 127 dX3_tellSaying_20 (by decide) ?_
        refine inc7 (pc := 127) notL_i (by decide) dX3_tellSaying_127 ?_
        refine b_goto (pc := 130) 3 dX3_tellSaying_130 (by decide) ?_
        rotate_left -- leaf 3: at 3
        -- leaves: 0 at 133; 1 index at 16; 2 at 23; 3 at 3
        · rw [n_le (by omega) (by omega)] at c7; omega
        · rw [i0, l64 R0 r0.1 r0.2]; exact n_in (by omega) (by omega)
        · rw [n_cl (by omega), i0, w0, hw] at c17
          exact absurd rfl c17
        · rw [n_inc]
          exact nx h3 h4
      · obtain ⟨hx4, hK64⟩ := hK s hs64 (by omega)
        have un : tsZ C q d K W ff y Z (s + 1) = (match stepS C q d (some (K, s)) y with | none => tsZ C q d K W ff y Z s | some p => (upC (tsZ C q d K W ff y Z s).1 p.2 ((tsZ C q d K W ff y Z s).1 p.2 + W s), if (tsZ C q d K W ff y Z s).1 p.2 = 0 ∨ ff s < (tsZ C q d K W ff y Z s).2 p.2 then upC (tsZ C q d K W ff y Z s).2 p.2 (ff s) else (tsZ C q d K W ff y Z s).2)) := by
          show (if W s = 0 then _ else _) = _
          rw [if_neg hw]
          rfl
        rw [stepS_out] at un
        have nx := fun m3 o8 o9 o10 => ih (s + 1) m3 o8 o9 o10 (by omega)
        refine b_iloadG (pc := 3) 7 dX3_tellSaying_3 rfl ?_
        refine b_bipush (pc := 5) (nI 64) dX3_tellSaying_5 (by decide) ?_
        refine b_icmp_ge (pc := 7) 133 dX3_tellSaying_7 (by decide) (fun c7 => ?_) (fun c7 => ?_)
        rotate_left -- leaf 0: at 133
        refine b_aloadN (pc := 10) 0 dX3_tellSaying_10 rfl rfl ?_
        refine gf3_0 (pc := 11) k367 dX3_tellSaying_11 ?_
        refine b_iloadG (pc := 14) 7 dX3_tellSaying_14 rfl ?_
        refine b_ialdD (pc := 16) ?_ dX3_tellSaying_16 ?_
        rotate_left -- leaf 1: index at 16
        refine b_if_ne (pc := 17) 23 dX3_tellSaying_17 (by decide) (fun c17 => ?_) (fun c17 => ?_)
        refine b_aloadN (pc := 23) 1 dX3_tellSaying_23 rfl rfl ?_
        refine b_iloadN (pc := 24) 2 dX3_tellSaying_24 rfl rfl ?_
        refine b_iloadN (pc := 25) 3 dX3_tellSaying_25 rfl rfl ?_
        refine b_iloadG (pc := 26) 4 dX3_tellSaying_26 rfl ?_
        refine b_iloadG (pc := 28) 7 dX3_tellSaying_28 rfl ?_
        refine call_X2_outcome (pc := 30) k816 (by decide) ⟨Nat.le_of_ble_eq_true rfl, Nat.le_of_ble_eq_true rfl⟩ (Nat.le_of_ble_eq_true rfl) dX3_tellSaying_30 ?_
        refine ⟨_, _, _, _, rfl, C, q, y, K, s, hB, rfl, rfl, ?_, rfl, hq, hy, ?_, hs64, fun m30 h30 => ?_⟩
        rotate_left -- leaf 2: kx of X2_outcome at 30
        rotate_left -- leaf 3: k64 of X2_outcome at 30
        refine siG8 (pc := 33) notL_i (by decide) dX3_tellSaying_33 ?_
        rotate_left -- leaf 4: at 35
        rotate_left -- leaf 5: at 20
        -- leaves: 0 at 133; 1 index at 16; 2 kx of X2_outcome at 30; 3 k64 of X2_outcome at 30; 4 at 35; 5 at 20
        · rw [n_le (by omega) (by omega)] at c7; omega
        · rw [i0, l64 R0 r0.1 r0.2]; exact n_in (by omega) (by omega)
        · exact hx4
        · exact hK64
        · have hB3 : BR m30 C := hB.cu h30
          have hf3 : Fr [30, R2, R3] m m30 := h2.tr2 (h30.fr.mono (by simp))
          have j0 : m30.2.1 103 0 = R0 := by rw [h30.two]; exact i0
          have j1 : m30.2.1 103 1 = R1 := by rw [h30.two]; exact i1
          have j2 : m30.2.1 103 2 = R2 := by rw [h30.two]; exact i2
          have j3 : m30.2.1 103 3 = R3 := by rw [h30.two]; exact i3
          have l64b : ∀ i, 104 ≤ i → i ≤ 107 → m30.2.2.1 i = 64 := fun i a b => by rw [h30.two]; exact l64 i a b
          have k2 : ∀ u, u < 64 → m30.1 R2 u = nI ((tsZ C q d K W ff y Z s).1 u) := fun u hu => by rw [h30.ne (by omega)]; exact h3 u hu
          have k3 : ∀ u, u < 64 → 0 < (tsZ C q d K W ff y Z s).1 u → m30.1 R3 u = nI ((tsZ C q d K W ff y Z s).2 u) := fun u hu hz => by rw [h30.ne (by omega)]; exact h4 u hu hz
          have kw : m30.1 R0 s = nI (W s) := by rw [h30.ne (by omega)]; exact w0
          cases eo : outN C q K s y with
          | none =>
            rw [eo] at un
            refine b_iloadG (pc := 35) 8 dX3_tellSaying_35 rfl ?_
            refine b_ldc (pc := 37) k827 dX3_tellSaying_37 ?_
            refine b_icmp_eq (pc := 39) 127 dX3_tellSaying_39 (by decide) (fun c39 => ?_) (fun c39 => ?_)
            refine inc7 (pc := 127) notL_i (by decide) dX3_tellSaying_127 ?_
            refine b_goto (pc := 130) 3 dX3_tellSaying_130 (by decide) ?_
            rotate_left -- leaf 0: at 3
            rotate_left -- leaf 1: at 42
            -- leaves: 0 at 3; 1 at 42
            · rw [n_inc]
              refine nx m30 _ _ _ hf3 hB3 ?_ ?_
              · rw [un]; exact k2
              · rw [un]; exact k3
            · exact absurd rfl c39
          | some v =>
            have hv64 := outN_lt hv hK64 hy eo
            have eI : oI (some v) = nI v := rfl
            rw [eI]
            rw [eo] at un
            by_cases hd : nI v = d
            · have un2 : tsZ C q d K W ff y Z (s + 1) = (upC (tsZ C q d K W ff y Z s).1 (s ||| 2 ^ (y / 2)) ((tsZ C q d K W ff y Z s).1 (s ||| 2 ^ (y / 2)) + W s), if (tsZ C q d K W ff y Z s).1 (s ||| 2 ^ (y / 2)) = 0 ∨ ff s < (tsZ C q d K W ff y Z s).2 (s ||| 2 ^ (y / 2)) then upC (tsZ C q d K W ff y Z s).2 (s ||| 2 ^ (y / 2)) (ff s) else (tsZ C q d K W ff y Z s).2) := by
                simp only [if_pos hd] at un
                exact un
              obtain ⟨t, ht⟩ : ∃ t, t = s ||| 2 ^ (y / 2) := ⟨_, rfl⟩
              rw [← ht] at un2
              have ht64 : t < 64 := by rw [ht]; exact or_lt64 hs64 (pow_lt64 (by omega))
              have et : nI s ||| nI (2 ^ (y / 2)) = nI t := by rw [n_or, ht]
              have un1 : ∀ u, (tsZ C q d K W ff y Z (s + 1)).1 u = if u = t then (tsZ C q d K W ff y Z s).1 t + W s else (tsZ C q d K W ff y Z s).1 u := fun u => by
                rw [un2]; rfl
              have un3 : ∀ u, (tsZ C q d K W ff y Z (s + 1)).2 u = if u = t then (if (tsZ C q d K W ff y Z s).1 t = 0 ∨ ff s < (tsZ C q d K W ff y Z s).2 t then ff s else (tsZ C q d K W ff y Z s).2 t) else (tsZ C q d K W ff y Z s).2 u := fun u => by
                rw [un2]
                show (if (tsZ C q d K W ff y Z s).1 t = 0 ∨ ff s < (tsZ C q d K W ff y Z s).2 t then upC (tsZ C q d K W ff y Z s).2 t (ff s) else (tsZ C q d K W ff y Z s).2) u = _
                by_cases c : (tsZ C q d K W ff y Z s).1 t = 0 ∨ ff s < (tsZ C q d K W ff y Z s).2 t
                · rw [if_pos c, if_pos c]; rfl
                · rw [if_neg c, if_neg c]
                  by_cases e3 : u = t
                  · rw [if_pos e3, e3]
                  · rw [if_neg e3]
              have t110 : ∀ m4 o10, Fr [30, R2, R3] m m4 → BR m4 C → (∀ u, u < 64 → m4.1 R2 u = nI ((tsZ C q d K W ff y Z s).1 u)) → (∀ u, u < 64 → 0 < (tsZ C q d K W ff y Z (s + 1)).1 u → m4.1 R3 u = nI ((tsZ C q d K W ff y Z (s + 1)).2 u)) → B e_X3_tellSaying Φ 110 [some (vr 3 103), some (vr 2 20), some (vi (nI q)), some (vi (nI y)), some (vi x4), some (vi d), some (vi (nI st)), some (vi (nI s)), some (vi (nI v)), some (vi (nI t)), o10] [] m4 (0, 0) := by
                intro m4 o10 a1 aB a2 a3
                have q0 : m4.2.1 103 0 = R0 := by rw [a1.1]; exact g0
                have q2 : m4.2.1 103 2 = R2 := by rw [a1.1]; exact g2
                have lq : ∀ i, 104 ≤ i → i ≤ 107 → m4.2.2.1 i = 64 := fun i a b => by rw [a1.1]; exact f3 i a b
                have qw : m4.1 R0 s = nI (W s) := by rw [a1.2 R0 (by simp; omega)]; exact hA0 s hs64
                refine b_aloadN (pc := 110) 0 dX3_tellSaying_110 rfl rfl ?_
                refine gf3_2 (pc := 111) k369 dX3_tellSaying_111 ?_
                refine b_iloadG (pc := 114) 9 dX3_tellSaying_114 rfl ?_
                refine b_dup2 (pc := 116) dX3_tellSaying_116 ?_
                refine b_ialdD (pc := 117) ?_ dX3_tellSaying_117 ?_
                rotate_left -- leaf 0: index at 117
                refine b_aloadN (pc := 118) 0 dX3_tellSaying_118 rfl rfl ?_
                refine gf3_0 (pc := 119) k367 dX3_tellSaying_119 ?_
                refine b_iloadG (pc := 122) 7 dX3_tellSaying_122 rfl ?_
                refine b_ialdD (pc := 124) ?_ dX3_tellSaying_124 ?_
                rotate_left -- leaf 1: index at 124
                refine b_iadd (pc := 125) dX3_tellSaying_125 ?_
                refine b_iastD (pc := 126) ?_ dX3_tellSaying_126 ?_
                rotate_left -- leaf 2: index at 126
                refine inc7 (pc := 127) notL_i (by decide) dX3_tellSaying_127 ?_
                refine b_goto (pc := 130) 3 dX3_tellSaying_130 (by decide) ?_
                rotate_left -- leaf 3: at 3
                -- leaves: 0 index at 117; 1 index at 124; 2 index at 126; 3 at 3
                · rw [q2, lq R2 r2.1 r2.2]; exact n_in (by omega) (by omega)
                · rw [q0, lq R0 r0.1 r0.2]; exact n_in (by omega) (by omega)
                · rw [q2, lq R2 r2.1 r2.2]; exact n_in (by omega) (by omega)
                · rw [q2, q0, n_cl (show t < 2147483648 by omega), n_cl (show s < 2147483648 by omega), a2 t ht64, qw, n_add, n_inc]
                  refine nx _ _ _ _ (a1.ms (by simp)) (aB.fr (fun a b c => mset_ne _ _ _ (by omega))) (fun u hu => ?_) (fun u hu hz => ?_)
                  · rw [mset_at, un1 u]
                    by_cases e3 : u = t
                    · rw [if_pos e3, if_pos e3]
                    · rw [if_neg e3, if_neg e3]; exact a2 u hu
                  · rw [mset_ne _ _ _ (Ne.symm n23)]; exact a3 u hu hz
              have t101 : ∀ o10, o10 = some (vi (nI (ff s))) → ((tsZ C q d K W ff y Z s).1 t = 0 ∨ ff s < (tsZ C q d K W ff y Z s).2 t) → B e_X3_tellSaying Φ 101 [some (vr 3 103), some (vr 2 20), some (vi (nI q)), some (vi (nI y)), some (vi x4), some (vi d), some (vi (nI st)), some (vi (nI s)), some (vi (nI v)), some (vi (nI t)), o10] [] m30 (0, 0) := by
                intro o10 ho c
                subst ho
                refine b_aloadN (pc := 101) 0 dX3_tellSaying_101 rfl rfl ?_
                refine gf3_3 (pc := 102) k370 dX3_tellSaying_102 ?_
                refine b_iloadG (pc := 105) 9 dX3_tellSaying_105 rfl ?_
                refine b_iloadG (pc := 107) 10 dX3_tellSaying_107 rfl ?_
                refine b_iastD (pc := 109) ?_ dX3_tellSaying_109 ?_
                rotate_left -- leaf 0: index at 109
                rotate_left -- leaf 1: at 110
                -- leaves: 0 index at 109; 1 at 110
                · rw [j3, l64b R3 r3.1 r3.2]; exact n_in (by omega) (by omega)
                · rw [j3, n_cl (show t < 2147483648 by omega)]
                  refine t110 _ _ (hf3.ms (by simp)) (hB3.fr (fun a b c => mset_ne _ _ _ (by omega))) (fun u hu => ?_) (fun u hu hz => ?_)
                  · rw [mset_ne _ _ _ n23]; exact k2 u hu
                  · rw [mset_at, un3 u, if_pos c]
                    by_cases e3 : u = t
                    · rw [if_pos e3, if_pos e3]
                    · rw [un1 u, if_neg e3] at hz
                      rw [if_neg e3, if_neg e3]; exact k3 u hu hz
              have mid : ∀ o10, B e_X3_tellSaying Φ 77 [some (vr 3 103), some (vr 2 20), some (vi (nI q)), some (vi (nI y)), some (vi x4), some (vi d), some (vi (nI st)), some (vi (nI s)), some (vi (nI v)), some (vi (nI t)), o10] [vi (nI (ff s))] m30 (0, 0) := by
                intro o10
                have hfs := hffd s hs64 (by omega)
                have tbt := tb t
                have hZt := hZ t
                have tlt := tl t
                refine siG10 (pc := 77) notL_i (by decide) dX3_tellSaying_77 ?_
                refine b_aloadN (pc := 79) 0 dX3_tellSaying_79 rfl rfl ?_
                refine gf3_2 (pc := 80) k369 dX3_tellSaying_80 ?_
                refine b_iloadG (pc := 83) 9 dX3_tellSaying_83 rfl ?_
                refine b_ialdD (pc := 85) ?_ dX3_tellSaying_85 ?_
                rotate_left -- leaf 0: index at 85
                refine b_if_eq (pc := 86) 101 dX3_tellSaying_86 (by decide) (fun c86 => ?_) (fun c86 => ?_)
                rotate_left -- leaf 1: at 101
                refine b_iloadG (pc := 89) 10 dX3_tellSaying_89 rfl ?_
                refine b_aloadN (pc := 91) 0 dX3_tellSaying_91 rfl rfl ?_
                refine gf3_3 (pc := 92) k370 dX3_tellSaying_92 ?_
                refine b_iloadG (pc := 95) 9 dX3_tellSaying_95 rfl ?_
                refine b_ialdD (pc := 97) ?_ dX3_tellSaying_97 ?_
                rotate_left -- leaf 2: index at 97
                refine b_icmp_ge (pc := 98) 110 dX3_tellSaying_98 (by decide) (fun c98 => ?_) (fun c98 => ?_)
                rotate_left -- leaf 3: at 110
                rotate_left -- leaf 4: at 101
                -- leaves: 0 index at 85; 1 at 101; 2 index at 97; 3 at 110; 4 at 101
                · rw [j2, l64b R2 r2.1 r2.2]; exact n_in (by omega) (by omega)
                · rw [n_cl (by omega), j2, k2 t ht64, n_eq0 (by omega)] at c86
                  exact t101 _ rfl (Or.inl c86)
                · rw [j3, l64b R3 r3.1 r3.2]; exact n_in (by omega) (by omega)
                · rw [n_cl (by omega), j2, k2 t ht64, n_eq0 (by omega)] at c86
                  rw [n_cl (by omega), j3, k3 t ht64 (by omega), n_le (by omega) (by omega)] at c98
                  have nc : ¬ ((tsZ C q d K W ff y Z s).1 t = 0 ∨ ff s < (tsZ C q d K W ff y Z s).2 t) := by omega
                  refine t110 _ _ hf3 hB3 k2 (fun u hu hz => ?_)
                  rw [un3 u, if_neg nc]
                  by_cases e3 : u = t
                  · rw [if_pos e3, e3]; exact k3 t ht64 (by omega)
                  · rw [un1 u, if_neg e3] at hz
                    rw [if_neg e3]; exact k3 u hu hz
                · rw [n_cl (by omega), j2, k2 t ht64, n_eq0 (by omega)] at c86
                  rw [n_cl (by omega), j3, k3 t ht64 (by omega), n_le (by omega) (by omega)] at c98
                  exact t101 _ rfl (Or.inr (by omega))
              refine b_iloadG (pc := 35) 8 dX3_tellSaying_35 rfl ?_
              refine b_ldc (pc := 37) k827 dX3_tellSaying_37 ?_
              refine b_icmp_eq (pc := 39) 127 dX3_tellSaying_39 (by decide) (fun c39 => ?_) (fun c39 => ?_)
              refine inc7 (pc := 127) notL_i (by decide) dX3_tellSaying_127 ?_
              refine b_goto (pc := 130) 3 dX3_tellSaying_130 (by decide) ?_
              rotate_left -- leaf 0: at 3
              refine b_iloadG (pc := 42) 8 dX3_tellSaying_42 rfl ?_
              refine b_iloadG (pc := 44) 5 dX3_tellSaying_44 rfl ?_
              refine b_icmp_eq (pc := 46) 52 dX3_tellSaying_46 (by decide) (fun c46 => ?_) (fun c46 => ?_)
              refine b_iloadG (pc := 52) 7 dX3_tellSaying_52 rfl ?_
              refine b_iloadN (pc := 54) 3 dX3_tellSaying_54 rfl rfl ?_
              refine call_X2_factOf (pc := 55) k893 (by decide) ⟨Nat.le_of_ble_eq_true rfl, Nat.le_of_ble_eq_true rfl⟩ (Nat.le_of_ble_eq_true rfl) dX3_tellSaying_55 ?_
              refine ⟨_, rfl, y, rfl, ?_, ?_⟩
              rotate_left -- leaf 1: bound of X2_factOf at 55
              refine b_ior (pc := 58) dX3_tellSaying_58 ?_
              refine siG9 (pc := 59) notL_i (by decide) dX3_tellSaying_59 ?_
              refine b_iloadG (pc := 61) 6 dX3_tellSaying_61 rfl ?_
              refine b_if_eq (pc := 63) 70 dX3_tellSaying_63 (by decide) (fun c63 => ?_) (fun c63 => ?_)
              refine b_aloadN (pc := 70) 0 dX3_tellSaying_70 rfl rfl ?_
              refine gf3_1 (pc := 71) k368 dX3_tellSaying_71 ?_
              refine b_iloadG (pc := 74) 7 dX3_tellSaying_74 rfl ?_
              refine b_ialdD (pc := 76) ?_ dX3_tellSaying_76 ?_
              rotate_left -- leaf 2: index at 76
              rotate_left -- leaf 3: at 77
              refine b_iloadN (pc := 66) 3 dX3_tellSaying_66 rfl rfl ?_
              refine b_goto (pc := 67) 77 dX3_tellSaying_67 (by decide) ?_
              rotate_left -- leaf 4: at 77
              refine b_goto (pc := 49) 127 dX3_tellSaying_49 (by decide) ?_
              refine inc7 (pc := 127) notL_i (by decide) dX3_tellSaying_127 ?_
              refine b_goto (pc := 130) 3 dX3_tellSaying_130 (by decide) ?_
              rotate_left -- leaf 5: at 3
              -- leaves: 0 at 3; 1 bound of X2_factOf at 55; 2 index at 76; 3 at 77; 4 at 77; 5 at 3
              · exact absurd c39 (n_ne_none (show v < 2147483648 by omega))
              · omega
              · rw [j1, l64b R1 r1.1 r1.2]; exact n_in (by omega) (by omega)
              · rw [n_eq0 (by omega)] at c63
                rw [et, n_cl (by omega), j1, hf3.2 R1 (by simp; omega), hA1 c63 s hs64 (by omega)]
                have e4 := hffs s
                rw [if_neg (by omega)] at e4
                have t9 := mid o10
                rw [e4] at t9
                exact t9
              · rw [n_eq0 (by omega)] at c63
                have e4 := hffs s
                rw [if_pos (by omega)] at e4
                have t9 := mid o10
                rw [e4] at t9
                rw [et]
                exact t9
              · exact absurd hd c46
            · have un2 : tsZ C q d K W ff y Z (s + 1) = tsZ C q d K W ff y Z s := by
                simp only [if_neg hd] at un
                exact un
              refine b_iloadG (pc := 35) 8 dX3_tellSaying_35 rfl ?_
              refine b_ldc (pc := 37) k827 dX3_tellSaying_37 ?_
              refine b_icmp_eq (pc := 39) 127 dX3_tellSaying_39 (by decide) (fun c39 => ?_) (fun c39 => ?_)
              refine inc7 (pc := 127) notL_i (by decide) dX3_tellSaying_127 ?_
              refine b_goto (pc := 130) 3 dX3_tellSaying_130 (by decide) ?_
              rotate_left -- leaf 0: at 3
              refine b_iloadG (pc := 42) 8 dX3_tellSaying_42 rfl ?_
              refine b_iloadG (pc := 44) 5 dX3_tellSaying_44 rfl ?_
              refine b_icmp_eq (pc := 46) 52 dX3_tellSaying_46 (by decide) (fun c46 => ?_) (fun c46 => ?_)
              rotate_left -- leaf 1: at 52
              refine b_goto (pc := 49) 127 dX3_tellSaying_49 (by decide) ?_
              refine inc7 (pc := 127) notL_i (by decide) dX3_tellSaying_127 ?_
              refine b_goto (pc := 130) 3 dX3_tellSaying_130 (by decide) ?_
              rotate_left -- leaf 2: at 3
              -- leaves: 0 at 3; 1 at 52; 2 at 3
              · exact absurd c39 (n_ne_none (show v < 2147483648 by omega))
              · exact absurd c46 hd
              · rw [n_inc]
                refine nx m30 _ _ _ hf3 hB3 ?_ ?_
                · rw [un2]; exact k2
                · rw [un2]; exact k3
        · rw [n_cl (by omega), i0, w0, n_eq0 (by omega)] at c17
          exact absurd c17 hw
  refine b_iconst (pc := 0) (nI 0) dX3_tellSaying_0 (by decide) ?_
  refine siG7 (pc := 1) notL_i (by decide) dX3_tellSaying_1 ?_
  rotate_left -- leaf 0: at 3
  -- leaves: 0 at 3
  exact loop 64 0 m none none none (by omega) (Fr.rf _ m) hB0 hA2 hA3
theorem call_X3_tellSaying {E : ME} {Φ : Option AV → AM → Prop} {pc : Nat} {L : List (Option AV)} {st : List AV} {m : AM} {a : Nat × Nat} {idx : Nat} {x0 x1 x2 x3 x4 x5 : AV} {i : Nat} (hl : Cond.methodLink E.2.1 idx yX3_tellSaying ∈ TB) (hdep : 5 + 1 ≤ E.2.2.2.2.2.2) (hroom : a.1 + 0 ≤ E.2.2.2.2.1 ∧ a.2 + 0 ≤ E.2.2.2.2.2.1) (hsr : st.length ≤ 4) (hd : decode E.1 pc = .ok (.invokevirtual idx, 3)) (hsp : Sp_X3_tellSaying [vr 3 i, x0, x1, x2, x3, x4, x5] m (fun r m2 => B E Φ (pc + 3) L (r.toList ++ st) m2 a)) : B E Φ pc L (x5 :: x4 :: x3 :: x2 :: x1 :: x0 :: vr 3 i :: st) m a := b_callV S_X3_tellSaying [x0, x1, x2, x3, x4, x5] (RX3, TX3, 4) rfl rfl (by decide) (Or.inl hl) k891 k25 k77 k892 (show _ ∧ _ ∧ Option.map (fun d => d.parameters.length) (parseMethodDescriptor yX3_tellSaying.desc) = some 6 from by decide +kernel) ⟨hdep, by decide⟩ hroom hsr hd hsp
