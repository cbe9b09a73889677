/-! said, of the class: turnOver, tellRows, waysInAll, firstOfAll -/
abbrev e_X3_turnOver : ME := (cX3_turnOver, (RX3, (3, (none, (0, (0, 1))))))
theorem dX3_turnOver_0 : decode cX3_turnOver 0 = .ok (.aload_n 0, 1) := by decide +kernel
theorem dX3_turnOver_1 : decode cX3_turnOver 1 = .ok (.getfield 11, 3) := by decide +kernel
theorem dX3_turnOver_4 : decode cX3_turnOver 4 = .ok (.astore_n 1, 1) := by decide +kernel
theorem dX3_turnOver_5 : decode cX3_turnOver 5 = .ok (.aload_n 0, 1) := by decide +kernel
theorem dX3_turnOver_6 : decode cX3_turnOver 6 = .ok (.getfield 15, 3) := by decide +kernel
theorem dX3_turnOver_9 : decode cX3_turnOver 9 = .ok (.astore_n 2, 1) := by decide +kernel
theorem dX3_turnOver_10 : decode cX3_turnOver 10 = .ok (.aload_n 0, 1) := by decide +kernel
theorem dX3_turnOver_11 : decode cX3_turnOver 11 = .ok (.aload_n 0, 1) := by decide +kernel
theorem dX3_turnOver_12 : decode cX3_turnOver 12 = .ok (.getfield 18, 3) := by decide +kernel
theorem dX3_turnOver_15 : decode cX3_turnOver 15 = .ok (.putfield 11, 3) := by decide +kernel
theorem dX3_turnOver_18 : decode cX3_turnOver 18 = .ok (.aload_n 0, 1) := by decide +kernel
theorem dX3_turnOver_19 : decode cX3_turnOver 19 = .ok (.aload_n 0, 1) := by decide +kernel
theorem dX3_turnOver_20 : decode cX3_turnOver 20 = .ok (.getfield 21, 3) := by decide +kernel
theorem dX3_turnOver_23 : decode cX3_turnOver 23 = .ok (.putfield 15, 3) := by decide +kernel
theorem dX3_turnOver_26 : decode cX3_turnOver 26 = .ok (.aload_n 0, 1) := by decide +kernel
theorem dX3_turnOver_27 : decode cX3_turnOver 27 = .ok (.aload_n 1, 1) := by decide +kernel
theorem dX3_turnOver_28 : decode cX3_turnOver 28 = .ok (.putfield 18, 3) := by decide +kernel
theorem dX3_turnOver_31 : decode cX3_turnOver 31 = .ok (.aload_n 0, 1) := by decide +kernel
theorem dX3_turnOver_32 : decode cX3_turnOver 32 = .ok (.aload_n 2, 1) := by decide +kernel
theorem dX3_turnOver_33 : decode cX3_turnOver 33 = .ok (.putfield 21, 3) := by decide +kernel
theorem dX3_turnOver_36 : decode cX3_turnOver 36 = .ok (.return_, 1) := by decide +kernel
def Sp_X3_turnOver (av : List AV) (m : AM) (Φ : Option AV → AM → Prop) : Prop := av = [vr 3 103] ∧ ∀ m2, m2.1 = m.1 → m2.2.2 = m.2.2 → (∀ i k, i ≠ 103 → m2.2.1 i k = m.2.1 i k) → m2.2.1 103 0 = m.2.1 103 2 → m2.2.1 103 1 = m.2.1 103 3 → m2.2.1 103 2 = m.2.1 103 0 → m2.2.1 103 3 = m.2.1 103 1 → Φ none m2
set_option maxRecDepth 20000 in
set_option maxHeartbeats 4000000 in
theorem S_X3_turnOver : Snd yX3_turnOver e_X3_turnOver Sp_X3_turnOver := by
  refine Snd.of (by decide +kernel) rfl ?_ ?_
  · rintro av m Φ ⟨rfl, _⟩; exact Nat.le_of_ble_eq_true rfl
  rintro av m Φ ⟨rfl, h⟩ hav hty
  show B e_X3_turnOver Φ 0 [some (vr 3 103), none, none] [] m (0, 0)
  refine b_aloadN (pc := 0) 0 dX3_turnOver_0 rfl rfl ?_
  refine gf3_0 (pc := 1) k367 dX3_turnOver_1 ?_
  refine saN1 (pc := 4) rfl notL_r (by decide) dX3_turnOver_4 ?_
  refine b_aloadN (pc := 5) 0 dX3_turnOver_5 rfl rfl ?_
  refine gf3_1 (pc := 6) k368 dX3_turnOver_6 ?_
  refine saN2 (pc := 9) rfl notL_r (by decide) dX3_turnOver_9 ?_
  refine b_aloadN (pc := 10) 0 dX3_turnOver_10 rfl rfl ?_
  refine b_aloadN (pc := 11) 0 dX3_turnOver_11 rfl rfl ?_
  refine gf3_2 (pc := 12) k369 dX3_turnOver_12 ?_
  refine pf3_0 (pc := 15) k367 dX3_turnOver_15 ?_
  refine b_aloadN (pc := 18) 0 dX3_turnOver_18 rfl rfl ?_
  refine b_aloadN (pc := 19) 0 dX3_turnOver_19 rfl rfl ?_
  refine gf3_3 (pc := 20) k370 dX3_turnOver_20 ?_
  refine pf3_1 (pc := 23) k368 dX3_turnOver_23 ?_
  refine b_aloadN (pc := 26) 0 dX3_turnOver_26 rfl rfl ?_
  refine b_aloadN (pc := 27) 1 dX3_turnOver_27 rfl rfl ?_
  refine pf3_2 (pc := 28) k369 dX3_turnOver_28 ?_
  refine b_aloadN (pc := 31) 0 dX3_turnOver_31 rfl rfl ?_
  refine b_aloadN (pc := 32) 2 dX3_turnOver_32 rfl rfl ?_
  refine pf3_3 (pc := 33) k370 dX3_turnOver_33 ?_
  refine b_vret (pc := 36) rfl dX3_turnOver_36 ⟨Nat.le_of_ble_eq_true rfl, Nat.le_of_ble_eq_true rfl⟩ ?_
  rotate_left -- leaf 0: return at 36
  -- leaves: 0 return at 36
  exact h _ rfl rfl (fun i k hi => by simp [rset, hi]) (by simp [rset]) (by simp [rset]) (by simp [rset]) (by simp [rset])
theorem call_X3_turnOver {E : ME} {Φ : Option AV → AM → Prop} {pc : Nat} {L : List (Option AV)} {st : List AV} {m : AM} {a : Nat × Nat} {idx : Nat} {i : Nat} (hl : Cond.methodLink E.2.1 idx yX3_turnOver ∈ TB) (hdep : 1 + 1 ≤ E.2.2.2.2.2.2) (hroom : a.1 + 0 ≤ E.2.2.2.2.1 ∧ a.2 + 0 ≤ E.2.2.2.2.2.1) (hsr : st.length ≤ 4) (hd : decode E.1 pc = .ok (.invokevirtual idx, 3)) (hsp : Sp_X3_turnOver [vr 3 i] m (fun r m2 => B E Φ (pc + 3) L (r.toList ++ st) m2 a)) : B E Φ pc L (vr 3 i :: st) m a := b_callV S_X3_turnOver [] (RX3, TX3, 4) rfl rfl (by decide) (Or.inl hl) k896 k26 k77 k897 (show _ ∧ _ ∧ Option.map (fun d => d.parameters.length) (parseMethodDescriptor yX3_turnOver.desc) = some 0 from by decide +kernel) ⟨hdep, by decide⟩ hroom hsr hd hsp
def XF (m m2 : AM) : Prop := m2.2.2 = m.2.2 ∧ (∀ i k, i ≠ 103 → m2.2.1 i k = m.2.1 i k) ∧ ∀ a, a ≠ 30 → ¬ (104 ≤ a ∧ a ≤ 107) → m2.1 a = m.1 a
theorem XF.rf (m : AM) : XF m m := ⟨rfl, fun _ _ _ => rfl, fun _ _ _ => rfl⟩
theorem XF.tr {m m2 m3 : AM} (h : XF m m2) (h2 : XF m2 m3) : XF m m3 := ⟨h2.1.trans h.1, fun i k hi => (h2.2.1 i k hi).trans (h.2.1 i k hi), fun a h3 h4 => (h2.2.2 a h3 h4).trans (h.2.2 a h3 h4)⟩
theorem XF.fr {l : List Nat} {m m2 : AM} (h : Fr l m m2) (hl : ∀ a, a ∈ l → a = 30 ∨ (104 ≤ a ∧ a ≤ 107)) : XF m m2 := ⟨by rw [h.1], fun i k _ => by rw [h.1], fun a h1 h2 => h.2 a (fun z => by rcases hl a z with w | w; exact h1 w; exact h2 w)⟩
theorem FsR.turn {m m2 : AM} (h : FsR m) (tl : m2.2.2 = m.2.2) (ta : m2.2.1 103 0 = m.2.1 103 2) (tb : m2.2.1 103 1 = m.2.1 103 3) (tc : m2.2.1 103 2 = m.2.1 103 0) (td : m2.2.1 103 3 = m.2.1 103 1) : FsR m2 := by
  obtain ⟨f1, f2, f3⟩ := h
  have hp : ∀ k, k < 4 → m2.2.1 103 k = m.2.1 103 ((k + 2) % 4) := fun k hk => by
    rcases (by omega : k = 0 ∨ k = 1 ∨ k = 2 ∨ k = 3) with rfl | rfl | rfl | rfl
    · exact ta
    · exact tb
    · exact tc
    · exact td
  refine ⟨fun k hk => ?_, fun a b ha hb e => ?_, fun i p q => by rw [tl]; exact f3 i p q⟩
  · rw [hp k hk]; exact f1 _ (by omega)
  · rw [hp a ha, hp b hb] at e
    have := f2 _ _ (by omega) (by omega) e
    omega
theorem surv {C : Nat → Nat} (hv : VC C) {q : Nat} {D : Nat → Int32} {j : Nat} (h : ∃ s, s < 64 ∧ 0 < WN C q D j s) : nI (soI C D j).toNatClampNeg = soI C D j ∧ (soI C D j).toNatClampNeg < 64 := by
  obtain ⟨s, hs, hw⟩ := h
  obtain ⟨pr, hpr, hm⟩ := (sumN_pos _).mp hw
  obtain ⟨so, e⟩ := (hasM_iff _ _).mp hm
  have ok := pS_ok hv j pr _ e
  have h64 : so < 64 := ok.1
  have e2 : nI so = soI C D j := ok.2.2
  rw [← e2, n_cl (by omega)]
  exact ⟨rfl, h64⟩
theorem E_pow {C : Nat → Nat} (hv : VC C) {k n : Nat} (hk : k ≤ n) (hn : n ≤ 4) : (2 * C 0) ^ k ≤ 20736 := by
  have h06 := hv.1
  have h1 : (2 * C 0) ^ k ≤ 12 ^ k := Nat.pow_le_pow_left (by omega) k
  have h2 : 12 ^ k ≤ 12 ^ 4 := Nat.pow_le_pow_right (by omega) (by omega)
  have h3 : (12 : Nat) ^ 4 = 20736 := by decide
  omega
abbrev e_X3_tellRows : ME := (cX3_tellRows, (RX3, (7, (none, (0, (0, 6))))))
theorem dX3_tellRows_0 : decode cX3_tellRows 0 = .ok (.aload_n 0, 1) := by decide +kernel
theorem dX3_tellRows_1 : decode cX3_tellRows 1 = .ok (.getfield 11, 3) := by decide +kernel
theorem dX3_tellRows_4 : decode cX3_tellRows 4 = .ok (.iconst 0, 1) := by decide +kernel
theorem dX3_tellRows_5 : decode cX3_tellRows 5 = .ok (.invokestatic 70, 3) := by decide +kernel
theorem dX3_tellRows_8 : decode cX3_tellRows 8 = .ok (.aload_n 0, 1) := by decide +kernel
theorem dX3_tellRows_9 : decode cX3_tellRows 9 = .ok (.getfield 11, 3) := by decide +kernel
theorem dX3_tellRows_12 : decode cX3_tellRows 12 = .ok (.aload_n 1, 1) := by decide +kernel
theorem dX3_tellRows_13 : decode cX3_tellRows 13 = .ok (.getfield 36, 3) := by decide +kernel
theorem dX3_tellRows_16 : decode cX3_tellRows 16 = .ok (.getfield 45, 3) := by decide +kernel
theorem dX3_tellRows_19 : decode cX3_tellRows 19 = .ok (.iconst 1, 1) := by decide +kernel
theorem dX3_tellRows_20 : decode cX3_tellRows 20 = .ok (.iastore, 1) := by decide +kernel
theorem dX3_tellRows_21 : decode cX3_tellRows 21 = .ok (.aload_n 1, 1) := by decide +kernel
theorem dX3_tellRows_22 : decode cX3_tellRows 22 = .ok (.getfield 36, 3) := by decide +kernel
theorem dX3_tellRows_25 : decode cX3_tellRows 25 = .ok (.getfield 40, 3) := by decide +kernel
theorem dX3_tellRows_28 : decode cX3_tellRows 28 = .ok (.istore 4, 2) := by decide +kernel
theorem dX3_tellRows_30 : decode cX3_tellRows 30 = .ok (.iconst 0, 1) := by decide +kernel
theorem dX3_tellRows_31 : decode cX3_tellRows 31 = .ok (.istore 5, 2) := by decide +kernel
theorem dX3_tellRows_33 : decode cX3_tellRows 33 = .ok (.iload 5, 2) := by decide +kernel
theorem dX3_tellRows_35 : decode cX3_tellRows 35 = .ok (.aload_n 3, 1) := by decide +kernel
theorem dX3_tellRows_36 : decode cX3_tellRows 36 = .ok (.arraylength, 1) := by decide +kernel
theorem dX3_tellRows_37 : decode cX3_tellRows 37 = .ok (.if_icmp .ge 74, 3) := by decide +kernel
theorem dX3_tellRows_40 : decode cX3_tellRows 40 = .ok (.aload_n 0, 1) := by decide +kernel
theorem dX3_tellRows_41 : decode cX3_tellRows 41 = .ok (.getfield 18, 3) := by decide +kernel
theorem dX3_tellRows_44 : decode cX3_tellRows 44 = .ok (.iconst 0, 1) := by decide +kernel
theorem dX3_tellRows_45 : decode cX3_tellRows 45 = .ok (.invokestatic 70, 3) := by decide +kernel
theorem dX3_tellRows_48 : decode cX3_tellRows 48 = .ok (.iconst 0, 1) := by decide +kernel
theorem dX3_tellRows_49 : decode cX3_tellRows 49 = .ok (.istore 6, 2) := by decide +kernel
theorem dX3_tellRows_51 : decode cX3_tellRows 51 = .ok (.iload 6, 2) := by decide +kernel
theorem dX3_tellRows_53 : decode cX3_tellRows 53 = .ok (.iconst 2, 1) := by decide +kernel
theorem dX3_tellRows_54 : decode cX3_tellRows 54 = .ok (.aload_n 1, 1) := by decide +kernel
theorem dX3_tellRows_55 : decode cX3_tellRows 55 = .ok (.getfield 24, 3) := by decide +kernel
theorem dX3_tellRows_58 : decode cX3_tellRows 58 = .ok (.getfield 30, 3) := by decide +kernel
theorem dX3_tellRows_61 : decode cX3_tellRows 61 = .ok (.imul, 1) := by decide +kernel
theorem dX3_tellRows_62 : decode cX3_tellRows 62 = .ok (.if_icmp .ge 33, 3) := by decide +kernel
theorem dX3_tellRows_65 : decode cX3_tellRows 65 = .ok (.aload_n 0, 1) := by decide +kernel
theorem dX3_tellRows_66 : decode cX3_tellRows 66 = .ok (.aload_n 1, 1) := by decide +kernel
theorem dX3_tellRows_67 : decode cX3_tellRows 67 = .ok (.iload_n 2, 1) := by decide +kernel
theorem dX3_tellRows_68 : decode cX3_tellRows 68 = .ok (.iload 6, 2) := by decide +kernel
theorem dX3_tellRows_70 : decode cX3_tellRows 70 = .ok (.iload 4, 2) := by decide +kernel
theorem dX3_tellRows_72 : decode cX3_tellRows 72 = .ok (.aload_n 3, 1) := by decide +kernel
theorem dX3_tellRows_73 : decode cX3_tellRows 73 = .ok (.iload 5, 2) := by decide +kernel
theorem dX3_tellRows_75 : decode cX3_tellRows 75 = .ok (.iaload, 1) := by decide +kernel
theorem dX3_tellRows_76 : decode cX3_tellRows 76 = .ok (.iload 5, 2) := by decide +kernel
theorem dX3_tellRows_78 : decode cX3_tellRows 78 = .ok (.ifCond .ne 7, 3) := by decide +kernel
theorem dX3_tellRows_81 : decode cX3_tellRows 81 = .ok (.iconst 1, 1) := by decide +kernel
theorem dX3_tellRows_82 : decode cX3_tellRows 82 = .ok (.goto 4, 3) := by decide +kernel
theorem dX3_tellRows_85 : decode cX3_tellRows 85 = .ok (.iconst 0, 1) := by decide +kernel
theorem dX3_tellRows_86 : decode cX3_tellRows 86 = .ok (.invokevirtual 76, 3) := by decide +kernel
theorem dX3_tellRows_89 : decode cX3_tellRows 89 = .ok (.iinc 6 1, 3) := by decide +kernel
theorem dX3_tellRows_92 : decode cX3_tellRows 92 = .ok (.goto (-41), 3) := by decide +kernel
theorem dX3_tellRows_95 : decode cX3_tellRows 95 = .ok (.aload_n 0, 1) := by decide +kernel
theorem dX3_tellRows_96 : decode cX3_tellRows 96 = .ok (.invokevirtual 80, 3) := by decide +kernel
theorem dX3_tellRows_99 : decode cX3_tellRows 99 = .ok (.aload_n 3, 1) := by decide +kernel
theorem dX3_tellRows_100 : decode cX3_tellRows 100 = .ok (.iload 5, 2) := by decide +kernel
theorem dX3_tellRows_102 : decode cX3_tellRows 102 = .ok (.iaload, 1) := by decide +kernel
theorem dX3_tellRows_103 : decode cX3_tellRows 103 = .ok (.istore 4, 2) := by decide +kernel
theorem dX3_tellRows_105 : decode cX3_tellRows 105 = .ok (.iinc 5 1, 3) := by decide +kernel
theorem dX3_tellRows_108 : decode cX3_tellRows 108 = .ok (.goto (-75), 3) := by decide +kernel
theorem dX3_tellRows_111 : decode cX3_tellRows 111 = .ok (.return_, 1) := by decide +kernel
def Sp_X3_tellRows (av : List AV) (m : AM) (Φ : Option AV → AM → Prop) : Prop := ∃ x j, av = [vr 3 103, vr 2 20, vi x, vr 12 j] ∧ ∃ C q D n, BR m C ∧ FsR m ∧ x = nI q ∧ (1 ≤ q ∧ q ≤ 5) ∧ m.2.2.1 j = n ∧ (1 ≤ n ∧ n ≤ 4) ∧ 125 ≤ j ∧ (∀ k, k < n → m.1 j k = D k) ∧ ∀ m2, XF m m2 → BR m2 C → FsR m2 → (∀ s, s < 64 → m2.1 (m2.2.1 103 0) s = nI (WN C q D n s)) → ∀ F, FI C q D n F → (∀ s, F s < 1000) → (∀ s, s < 64 → 0 < WN C q D n s → m2.1 (m2.2.1 103 1) s = nI (F s)) → Φ none m2
set_option maxRecDepth 20000 in
set_option maxHeartbeats 4000000 in
theorem S_X3_tellRows : Snd yX3_tellRows e_X3_tellRows Sp_X3_tellRows := by
  refine Snd.of (by decide +kernel) rfl ?_ ?_
  · rintro av m Φ ⟨x, j, rfl, _⟩; exact Nat.le_of_ble_eq_true rfl
  rintro av m Φ ⟨x, j, rfl, C, q, D, n, hB0, hFs0, rfl, hq, hl, hn, hj, hD, h⟩ hav hty
  show B e_X3_tellRows Φ 0 [some (vr 3 103), some (vr 2 20), some (vi (nI q)), some (vr 12 j), none, none, none] [] m (0, 0)
  have hv := hB0.1
  have h06 := hv.1
  have h05 := hv.c5
  have outer : ∀ (e k : Nat) (m2 : AM) (F : Nat → Nat) (o6 : Option AV), n + 1 ≤ k + e → k ≤ n → XF m m2 → BR m2 C → FsR m2 → (∀ s, s < 64 → m2.1 (m2.2.1 103 0) s = nI (WN C q D k s)) → (1 ≤ k → FI C q D k F) → (∀ s, F s < 1000) → (1 ≤ k → ∀ s, s < 64 → 0 < WN C q D k s → m2.1 (m2.2.1 103 1) s = nI (F s)) → B e_X3_tellRows Φ 33 [some (vr 3 103), some (vr 2 20), some (vi (nI q)), some (vr 12 j), some (vi (soI C D k)), some (vi (nI k)), o6] [] m2 (0, 0) := by
    intro e
    induction e with
    | zero => intro k m2 F o6 h1 h2; omega
    | succ e ih =>
      intro k m2 F o6 h1 h2 hX hB hFs hW hFI hF1 hFa
      have hl2 : m2.2.2.1 j = n := by rw [hX.1]; exact hl
      by_cases hk : k < n
      · have hEk := E_pow hv (k := k) (n := 4) (by omega) (by omega)
        have hWb : ∀ s, s < 64 → WN C q D k s ≤ 20736 := fun s _ => Nat.le_trans (WN_le C q D k s) hEk
        obtain ⟨f1, f2, f3⟩ := id hFs
        have r0 := f1 0 (by omega)
        have r1 := f1 1 (by omega)
        have r2 := f1 2 (by omega)
        have r3 := f1 3 (by omega)
        have n02 : m2.2.1 103 0 ≠ m2.2.1 103 2 := fun e => by have := f2 0 2 (by omega) (by omega) e; omega
        have n03 : m2.2.1 103 0 ≠ m2.2.1 103 3 := fun e => by have := f2 0 3 (by omega) (by omega) e; omega
        have n12 : m2.2.1 103 1 ≠ m2.2.1 103 2 := fun e => by have := f2 1 2 (by omega) (by omega) e; omega
        have n13 : m2.2.1 103 1 ≠ m2.2.1 103 3 := fun e => by have := f2 1 3 (by omega) (by omega) e; omega
        have told : ∀ m3 : AM, m3.1 j = m2.1 j → m3.1 j (nI k).toNatClampNeg = D k := fun m3 z => by
          rw [n_cl (by omega), z, hX.2.2 j (by omega) (by omega)]; exact hD k hk
        have inner : ∀ (e y : Nat) (m3 : AM) (Z : (Nat → Nat) × (Nat → Nat)), 2 * C 0 + 1 ≤ y + e → y ≤ 2 * C 0 → Fr [30, m2.2.1 103 2, m2.2.1 103 3] m2 m3 → BR m3 C → (∀ t, Z.1 t = sumN y (fun a => sumN 64 (fun s => gN C q (D k) (soI C D k).toNatClampNeg (WN C q D k) a s t))) → FZ (fun a s => a < y ∧ s < 64) (gN C q (D k) (soI C D k).toNatClampNeg (WN C q D k)) (fun a s => if k = 0 then a else F s) Z → (∀ s, Z.2 s < 1000) → (∀ s, s < 64 → m3.1 (m2.2.1 103 2) s = nI (Z.1 s)) → (∀ s, s < 64 → 0 < Z.1 s → m3.1 (m2.2.1 103 3) s = nI (Z.2 s)) → B e_X3_tellRows Φ 51 [some (vr 3 103), some (vr 2 20), some (vi (nI q)), some (vr 12 j), some (vi (soI C D k)), some (vi (nI k)), some (vi (nI y))] [] m3 (0, 0) := by
          intro e
          induction e with
          | zero => intro y m3 Z z1 z2; omega
          | succ e ih2 =>
            intro y m3 Z z1 z2 hf3 hB3 hZ1 hZ2 hZ3 ha2 ha3
            have hFs3 : FsR m3 := hFs.cg hf3.1
            have hj3 : m3.1 j = m2.1 j := hf3.2 j (by simp; omega)
            have hl3 : m3.2.2.1 j = n := by rw [hf3.1]; exact hl2
            have rr : ∀ a, m3.2.1 103 a = m2.2.1 103 a := fun a => by rw [hf3.1]
            by_cases hy : y < 2 * C 0
            · have hZb : ∀ t, Z.1 t ≤ 1000000000 := fun t => by
                rw [hZ1 t]
                have := sumN_le (f := fun a => sumN 64 (fun s => gN C q (D k) (soI C D k).toNatClampNeg (WN C q D k) a s t)) (64 * 20736) y (fun a _ => by
                  exact sumN_le 20736 64 (fun s hs => by
                    unfold gN
                    have h1 := hWb s hs
                    have h2 := hasM_le (stepS C q (D k) (some ((soI C D k).toNatClampNeg, s)) a) t
                    have h3 := Nat.mul_le_mul (Nat.le_refl (WN C q D k s)) h2
                    omega))
                have h9 : y * (64 * 20736) ≤ 12 * (64 * 20736) := Nat.mul_le_mul (by omega) (Nat.le_refl _)
                omega
              have w0 : ∀ s, s < 64 → m3.1 (m2.2.1 103 0) s = nI (WN C q D k s) := fun s hs => by rw [hf3.2 _ (by simp; omega)]; exact hW s hs
              have sv : ∀ s, s < 64 → 0 < WN C q D k s → soI C D k = nI (soI C D k).toNatClampNeg ∧ (soI C D k).toNatClampNeg < 64 := fun s a b => by
                have := surv hv ⟨s, a, b⟩
                exact ⟨this.1.symm, this.2⟩
              have next : ∀ (m4 : AM) (Z' : (Nat → Nat) × (Nat → Nat)), True → Z' = tsZ C q (D k) (soI C D k).toNatClampNeg (WN C q D k) (fun s => if k = 0 then y else F s) y Z 64 → Fr [30, m2.2.1 103 2, m2.2.1 103 3] m3 m4 → BR m4 C → (∀ s, s < 64 → m4.1 (m2.2.1 103 2) s = nI (Z'.1 s)) → (∀ s, s < 64 → 0 < Z'.1 s → m4.1 (m2.2.1 103 3) s = nI (Z'.2 s)) → B e_X3_tellRows Φ 51 [some (vr 3 103), some (vr 2 20), some (vi (nI q)), some (vr 12 j), some (vi (soI C D k)), some (vi (nI k)), some (vi (nI (y + 1)))] [] m4 (0, 0) := by
                intro m4 Z' _ eZ hf4 hB4 b1 b2
                refine ih2 (y + 1) m4 Z' (by omega) (by omega) (hf3.tr2 hf4) hB4 (fun t => ?_) ?_ ?_ b1 b2
                · rw [eZ, tsZ_1, hZ1 t]; rfl
                · have z := tsZ_2 hZ2 64 (Nat.le_refl 64)
                  intro t
                  rw [eZ]
                  refine ⟨fun w => ?_, fun a s u1 u2 => (z t).2 a s (by omega) u2⟩
                  obtain ⟨a, s, u1, u2⟩ := (z t).1 w
                  exact ⟨a, s, by omega, u2⟩
                · rw [eZ]
                  refine tsZ_lt hZ3 (fun s s1 s2 => ?_) 64 (Nat.le_refl 64)
                  show (if k = 0 then y else F s) < 1000
                  split
                  · omega
                  · exact hF1 s
              by_cases hk0 : k = 0
              · skip
                refine b_iloadG (pc := 51) 6 dX3_tellRows_51 rfl ?_
                refine b_iconst (pc := 53) (nI 2) dX3_tellRows_53 (by decide) ?_
                refine b_aloadN (pc := 54) 1 dX3_tellRows_54 rfl rfl ?_
                refine gf2_0 (pc := 55) 21 rfl k267 dX3_tellRows_55 ?_
                refine gf5_4 (pc := 58) k144 dX3_tellRows_58 ?_
                refine b_imul (pc := 61) dX3_tellRows_61 ?_
                refine b_icmp_ge (pc := 62) 95 dX3_tellRows_62 (by decide) (fun c62 => ?_) (fun c62 => ?_)
                rotate_left -- leaf 0: at 95
                refine b_aloadN (pc := 65) 0 dX3_tellRows_65 rfl rfl ?_
                refine b_aloadN (pc := 66) 1 dX3_tellRows_66 rfl rfl ?_
                refine b_iloadN (pc := 67) 2 dX3_tellRows_67 rfl rfl ?_
                refine b_iloadG (pc := 68) 6 dX3_tellRows_68 rfl ?_
                refine b_iloadG (pc := 70) 4 dX3_tellRows_70 rfl ?_
                refine b_aloadN (pc := 72) 3 dX3_tellRows_72 rfl rfl ?_
                refine b_iloadG (pc := 73) 5 dX3_tellRows_73 rfl ?_
                refine b_ialdD (pc := 75) ?_ dX3_tellRows_75 ?_
                rotate_left -- leaf 1: index at 75
                refine b_iloadG (pc := 76) 5 dX3_tellRows_76 rfl ?_
                refine b_if_ne (pc := 78) 85 dX3_tellRows_78 (by decide) (fun c78 => ?_) (fun c78 => ?_)
                rotate_left -- leaf 2: at 85
                refine b_iconst (pc := 81) (nI 1) dX3_tellRows_81 (by decide) ?_
                refine b_goto (pc := 82) 86 dX3_tellRows_82 (by decide) ?_
                refine call_X3_tellSaying (pc := 86) k889 (by decide) ⟨Nat.le_of_ble_eq_true rfl, Nat.le_of_ble_eq_true rfl⟩ (Nat.le_of_ble_eq_true rfl) dX3_tellRows_86 ?_
                refine ⟨_, _, _, _, _, rfl, C, q, y, (soI C D k).toNatClampNeg, WN C q D k, F, Z, 1, hB3, hFs3, rfl, hq, rfl, hy, sv, rfl, by omega, hWb, hZb, ?_, fun s _ _ => hF1 s, hZ3, fun z => absurd z (by decide), ?_, ?_, fun m86 fr86 hB86 z186 z286 => ?_⟩
                rotate_left -- leaf 3: a0 of X3_tellSaying at 86
                rotate_left -- leaf 4: a2 of X3_tellSaying at 86
                rotate_left -- leaf 5: a3 of X3_tellSaying at 86
                refine inc6 (pc := 89) notL_i (by decide) dX3_tellRows_89 ?_
                refine b_goto (pc := 92) 51 dX3_tellRows_92 (by decide) ?_
                rotate_left -- leaf 6: at 51
                -- leaves: 0 at 95; 1 index at 75; 2 at 85; 3 a0 of X3_tellSaying at 86; 4 a2 of X3_tellSaying at 86; 5 a3 of X3_tellSaying at 86; 6 at 51
                · rw [hB3.2.1.1, n_mul, n_le (by omega) (by omega)] at c62; omega
                · rw [hl3]; exact n_in (by omega) (by omega)
                · rw [n_eq0 (by omega)] at c78; exact absurd hk0 c78
                · rw [rr 0]; exact w0
                · rw [rr 2]; exact ha2
                · rw [rr 3]; exact ha3
                · have ef : (fun s => if (1 : Nat) = 1 then y else F s) = (fun s => if k = 0 then y else F s) := by
                    funext s
                    rw [if_pos rfl, if_pos hk0]
                  rw [told m3 hj3, ef, rr 2] at z186
                  rw [told m3 hj3, ef, rr 3] at z286
                  rw [rr 2, rr 3] at fr86
                  rw [n_inc]
                  exact next m86 _ trivial rfl fr86 hB86 z186 z286
              · skip
                refine b_iloadG (pc := 51) 6 dX3_tellRows_51 rfl ?_
                refine b_iconst (pc := 53) (nI 2) dX3_tellRows_53 (by decide) ?_
                refine b_aloadN (pc := 54) 1 dX3_tellRows_54 rfl rfl ?_
                refine gf2_0 (pc := 55) 21 rfl k267 dX3_tellRows_55 ?_
                refine gf5_4 (pc := 58) k144 dX3_tellRows_58 ?_
                refine b_imul (pc := 61) dX3_tellRows_61 ?_
                refine b_icmp_ge (pc := 62) 95 dX3_tellRows_62 (by decide) (fun c62 => ?_) (fun c62 => ?_)
                rotate_left -- leaf 0: at 95
                refine b_aloadN (pc := 65) 0 dX3_tellRows_65 rfl rfl ?_
                refine b_aloadN (pc := 66) 1 dX3_tellRows_66 rfl rfl ?_
                refine b_iloadN (pc := 67) 2 dX3_tellRows_67 rfl rfl ?_
                refine b_iloadG (pc := 68) 6 dX3_tellRows_68 rfl ?_
                refine b_iloadG (pc := 70) 4 dX3_tellRows_70 rfl ?_
                refine b_aloadN (pc := 72) 3 dX3_tellRows_72 rfl rfl ?_
                refine b_iloadG (pc := 73) 5 dX3_tellRows_73 rfl ?_
                refine b_ialdD (pc := 75) ?_ dX3_tellRows_75 ?_
                rotate_left -- leaf 1: index at 75
                refine b_iloadG (pc := 76) 5 dX3_tellRows_76 rfl ?_
                refine b_if_ne (pc := 78) 85 dX3_tellRows_78 (by decide) (fun c78 => ?_) (fun c78 => ?_)
                refine b_iconst (pc := 85) (nI 0) dX3_tellRows_85 (by decide) ?_
                refine call_X3_tellSaying (pc := 86) k889 (by decide) ⟨Nat.le_of_ble_eq_true rfl, Nat.le_of_ble_eq_true rfl⟩ (Nat.le_of_ble_eq_true rfl) dX3_tellRows_86 ?_
                refine ⟨_, _, _, _, _, rfl, C, q, y, (soI C D k).toNatClampNeg, WN C q D k, F, Z, 0, hB3, hFs3, rfl, hq, rfl, hy, sv, rfl, by omega, hWb, hZb, ?_, fun s _ _ => hF1 s, hZ3, ?_, ?_, ?_, fun m86 fr86 hB86 z186 z286 => ?_⟩
                rotate_left -- leaf 2: a0 of X3_tellSaying at 86
                rotate_left -- leaf 3: a1 of X3_tellSaying at 86
                rotate_left -- leaf 4: a2 of X3_tellSaying at 86
                rotate_left -- leaf 5: a3 of X3_tellSaying at 86
                refine inc6 (pc := 89) notL_i (by decide) dX3_tellRows_89 ?_
                refine b_goto (pc := 92) 51 dX3_tellRows_92 (by decide) ?_
                rotate_left -- leaf 6: at 51
                rotate_left -- leaf 7: at 81
                -- leaves: 0 at 95; 1 index at 75; 2 a0 of X3_tellSaying at 86; 3 a1 of X3_tellSaying at 86; 4 a2 of X3_tellSaying at 86; 5 a3 of X3_tellSaying at 86; 6 at 51; 7 at 81
                · rw [hB3.2.1.1, n_mul, n_le (by omega) (by omega)] at c62; omega
                · rw [hl3]; exact n_in (by omega) (by omega)
                · rw [rr 0]; exact w0
                · intro _
                  rw [rr 1]
                  intro s hs hw
                  rw [hf3.2 _ (by simp; omega)]
                  exact hFa (by omega) s hs hw
                · rw [rr 2]; exact ha2
                · rw [rr 3]; exact ha3
                · have ef : (fun s => if (0 : Nat) = 1 then y else F s) = (fun s => if k = 0 then y else F s) := by
                    funext s
                    rw [if_neg (by decide), if_neg hk0]
                  rw [told m3 hj3, ef, rr 2] at z186
                  rw [told m3 hj3, ef, rr 3] at z286
                  rw [rr 2, rr 3] at fr86
                  rw [n_inc]
                  exact next m86 _ trivial rfl fr86 hB86 z186 z286
                · rw [n_eq0 (by omega)] at c78; exact absurd c78 hk0
            · have ey : y = 2 * C 0 := by omega
              have hWn : ∀ t, Z.1 t = WN C q D (k + 1) t := fun t => by
                rw [hZ1 t, ey]
                exact WN_step hv (fun z => surv hv z)
              have hFn : FI C q D (k + 1) Z.2 := by
                refine FI_step hv (fun z => surv hv z) hFI ?_ hWn
                rw [← ey]
                exact hZ2
              refine b_iloadG (pc := 51) 6 dX3_tellRows_51 rfl ?_
              refine b_iconst (pc := 53) (nI 2) dX3_tellRows_53 (by decide) ?_
              refine b_aloadN (pc := 54) 1 dX3_tellRows_54 rfl rfl ?_
              refine gf2_0 (pc := 55) 21 rfl k267 dX3_tellRows_55 ?_
              refine gf5_4 (pc := 58) k144 dX3_tellRows_58 ?_
              refine b_imul (pc := 61) dX3_tellRows_61 ?_
              refine b_icmp_ge (pc := 62) 95 dX3_tellRows_62 (by decide) (fun c62 => ?_) (fun c62 => ?_)
              refine b_aloadN (pc := 95) 0 dX3_tellRows_95 rfl rfl ?_
              refine call_X3_turnOver (pc := 96) k894 (by decide) ⟨Nat.le_of_ble_eq_true rfl, Nat.le_of_ble_eq_true rfl⟩ (Nat.le_of_ble_eq_true rfl) dX3_tellRows_96 ?_
              refine ⟨rfl, fun m96 ti96 tl96 tr96 ta96 tb96 tc96 td96 => ?_⟩
              refine b_aloadN (pc := 99) 3 dX3_tellRows_99 rfl rfl ?_
              refine b_iloadG (pc := 100) 5 dX3_tellRows_100 rfl ?_
              refine b_ialdD (pc := 102) ?_ dX3_tellRows_102 ?_
              rotate_left -- leaf 0: index at 102
              refine siG4 (pc := 103) notL_r (by decide) dX3_tellRows_103 ?_
              refine inc5 (pc := 105) notL_i (by decide) dX3_tellRows_105 ?_
              refine b_goto (pc := 108) 33 dX3_tellRows_108 (by decide) ?_
              rotate_left -- leaf 1: at 33
              rotate_left -- leaf 2: at 65
              -- leaves: 0 index at 102; 1 at 33; 2 at 65
              · rw [tl96, hl3]; exact n_in (by omega) (by omega)
              · rw [ti96, told m3 hj3, n_inc]
                refine ih (k + 1) m96 Z.2 _ (by omega) (by omega) ((hX.tr (XF.fr hf3 (fun a ha => by simp at ha; omega))).tr ⟨tl96, tr96, fun a _ _ => by rw [ti96]⟩) (hB3.fr (fun a _ _ => by rw [ti96])) (hFs3.turn tl96 ta96 tb96 tc96 td96) (fun s hs => ?_) (fun _ => hFn) hZ3 (fun _ s hs hw => ?_)
                · rw [ta96, rr 2, ti96, ← hWn s]; exact ha2 s hs
                · rw [tb96, rr 3, ti96]
                  exact ha3 s hs (by rw [hWn s]; exact hw)
              · rw [hB3.2.1.1, n_mul, n_le (by omega) (by omega)] at c62; omega
        refine b_iloadG (pc := 33) 5 dX3_tellRows_33 rfl ?_
        refine b_aloadN (pc := 35) 3 dX3_tellRows_35 rfl rfl ?_
        refine b_alenD (pc := 36) dX3_tellRows_36 ?_
        refine b_icmp_ge (pc := 37) 111 dX3_tellRows_37 (by decide) (fun c37 => ?_) (fun c37 => ?_)
        rotate_left -- leaf 0: at 111
        refine b_aloadN (pc := 40) 0 dX3_tellRows_40 rfl rfl ?_
        refine gf3_2 (pc := 41) k369 dX3_tellRows_41 ?_
        refine b_iconst (pc := 44) (nI 0) dX3_tellRows_44 (by decide) ?_
        refine call_J7_fill_53178 (pc := 45) k888 (by decide) ⟨Nat.le_of_ble_eq_true rfl, Nat.le_of_ble_eq_true rfl⟩ (Nat.le_of_ble_eq_true rfl) dX3_tellRows_45 ?_
        refine ⟨_, _, _, rfl, Or.inl rfl, ?_, ?_⟩
        rotate_left -- leaf 1: small of J7_fill_53178 at 45
        refine b_iconst (pc := 48) (nI 0) dX3_tellRows_48 (by decide) ?_
        refine siG6 (pc := 49) notL_i (by decide) dX3_tellRows_49 ?_
        rotate_left -- leaf 2: at 51
        -- leaves: 0 at 111; 1 small of J7_fill_53178 at 45; 2 at 51
        · have c37 : nI (m2.2.2.1 j) ≤ nI k := c37
          rw [hl2, n_le (by omega) (by omega)] at c37; omega
        · unfold alT
          rw [if_pos rfl, f3 _ r2.1 r2.2]; omega
        · have al : alT m2 12 (m2.2.1 103 2) = 64 := by
            unfold alT
            rw [if_pos rfl, f3 _ r2.1 r2.2]
          rw [al]
          refine inner (2 * C 0 + 1) 0 _ (fun _ => 0, fun _ => 0) (by omega) (by omega) ((Fr.rf _ m2).as (by simp)) (hB.fr (fun a _ _ => aset_ne _ _ (by omega))) (fun t => rfl) (fun t => ⟨fun z => absurd z (Nat.lt_irrefl 0), fun a s u => absurd u.1 (Nat.not_lt_zero a)⟩) (fun s => by show 0 < 1000; omega) (fun s hs => ?_) (fun s hs z => absurd z (Nat.lt_irrefl 0))
          rw [aset_at]
          unfold fillF
          rw [if_pos hs]
      · have ek : k = n := by omega
        subst ek
        refine b_iloadG (pc := 33) 5 dX3_tellRows_33 rfl ?_
        refine b_aloadN (pc := 35) 3 dX3_tellRows_35 rfl rfl ?_
        refine b_alenD (pc := 36) dX3_tellRows_36 ?_
        refine b_icmp_ge (pc := 37) 111 dX3_tellRows_37 (by decide) (fun c37 => ?_) (fun c37 => ?_)
        refine b_vret (pc := 111) rfl dX3_tellRows_111 ⟨Nat.le_of_ble_eq_true rfl, Nat.le_of_ble_eq_true rfl⟩ ?_
        rotate_left -- leaf 0: return at 111
        rotate_left -- leaf 1: at 40
        -- leaves: 0 return at 111; 1 at 40
        · exact h m2 hX hB hFs hW F (hFI hn.1) hF1 (hFa hn.1)
        · have c37 : ¬ nI (m2.2.2.1 j) ≤ nI k := c37
          rw [hl2, n_le (by omega) (by omega)] at c37; omega
  refine b_aloadN (pc := 0) 0 dX3_tellRows_0 rfl rfl ?_
  refine gf3_0 (pc := 1) k367 dX3_tellRows_1 ?_
  refine b_iconst (pc := 4) (nI 0) dX3_tellRows_4 (by decide) ?_
  refine call_J7_fill_53178 (pc := 5) k888 (by decide) ⟨Nat.le_of_ble_eq_true rfl, Nat.le_of_ble_eq_true rfl⟩ (Nat.le_of_ble_eq_true rfl) dX3_tellRows_5 ?_
  refine ⟨_, _, _, rfl, Or.inl rfl, ?_, ?_⟩
  rotate_left -- leaf 0: small of J7_fill_53178 at 5
  refine b_aloadN (pc := 8) 0 dX3_tellRows_8 rfl rfl ?_
  refine gf3_0 (pc := 9) k367 dX3_tellRows_9 ?_
  refine b_aloadN (pc := 12) 1 dX3_tellRows_12 rfl rfl ?_
  refine gf2_1 (pc := 13) 26 rfl k273 dX3_tellRows_13 ?_
  refine gf8_2 (pc := 16) k238 dX3_tellRows_16 ?_
  refine b_iconst (pc := 19) (nI 1) dX3_tellRows_19 (by decide) ?_
  refine b_iastD (pc := 20) ?_ dX3_tellRows_20 ?_
  rotate_left -- leaf 1: index at 20
  refine b_aloadN (pc := 21) 1 dX3_tellRows_21 rfl rfl ?_
  refine gf2_1 (pc := 22) 26 rfl k273 dX3_tellRows_22 ?_
  refine gf8_1 (pc := 25) k233 dX3_tellRows_25 ?_
  refine siG4 (pc := 28) notL_r (by decide) dX3_tellRows_28 ?_
  refine b_iconst (pc := 30) (nI 0) dX3_tellRows_30 (by decide) ?_
  refine siG5 (pc := 31) notL_i (by decide) dX3_tellRows_31 ?_
  rotate_left -- leaf 2: at 33
  -- leaves: 0 small of J7_fill_53178 at 5; 1 index at 20; 2 at 33
  · unfold alT
    rw [if_pos rfl, hFs0.2.2 _ (hFs0.1 0 (by omega)).1 (hFs0.1 0 (by omega)).2]; omega
  · have r0 := hFs0.1 0 (by omega)
    rw [aset_ne _ _ (show 26 ≠ m.2.1 103 0 by omega), hB0.2.2.1.2.1]
    show vp_in (nI (C 5)) (m.2.2.1 (m.2.1 103 0))
    rw [hFs0.2.2 _ r0.1 r0.2]
    exact n_in (by omega) (by omega)
  · have r0 := hFs0.1 0 (by omega)
    have al : alT m 12 (m.2.1 103 0) = 64 := by
      unfold alT
      rw [if_pos rfl, hFs0.2.2 _ r0.1 r0.2]
    have e2 : (mset (aset m (m.2.1 103 0) (fillF (m.1 (m.2.1 103 0)) (alT m 12 (m.2.1 103 0)) (nI 0))) (m.2.1 103 0) (C 5) (nI 1)).1 26 = m.1 26 := by
      rw [mset_ne _ _ _ (by omega), aset_ne _ _ (by omega)]
    rw [aset_ne _ _ (show 26 ≠ m.2.1 103 0 by omega), hB0.2.2.1.2.1, n_cl (by omega)]
    show B e_X3_tellRows Φ 33 [_, _, _, _, some (vi ((mset (aset m (m.2.1 103 0) (fillF (m.1 (m.2.1 103 0)) (alT m 12 (m.2.1 103 0)) (nI 0))) (m.2.1 103 0) (C 5) (nI 1)).1 26 1)), _, _] [] (mset (aset m (m.2.1 103 0) (fillF (m.1 (m.2.1 103 0)) (alT m 12 (m.2.1 103 0)) (nI 0))) (m.2.1 103 0) (C 5) (nI 1)) (0, 0)
    rw [e2, hB0.2.2.1.1]
    have fr : Fr [m.2.1 103 0] m (mset (aset m (m.2.1 103 0) (fillF (m.1 (m.2.1 103 0)) (alT m 12 (m.2.1 103 0)) (nI 0))) (m.2.1 103 0) (C 5) (nI 1)) := ((Fr.rf _ m).as (by simp)).ms (by simp)
    refine outer (n + 1) 0 _ (fun _ => 0) none (by omega) (by omega) (XF.fr fr (fun a ha => by simp at ha; omega)) (hB0.fr (fun a _ _ => fr.2 a (by simp; omega))) (hFs0.cg rfl) (fun s hs => ?_) (fun z => absurd z (by decide)) (fun s => by show 0 < 1000; omega) (fun z => absurd z (by decide))
    show (mset (aset m (m.2.1 103 0) (fillF (m.1 (m.2.1 103 0)) (alT m 12 (m.2.1 103 0)) (nI 0))) (m.2.1 103 0) (C 5) (nI 1)).1 (m.2.1 103 0) s = _
    rw [mset_at, aset_at, WN_0, al]
    unfold fillF
    by_cases z : s = C 5
    · rw [if_pos z, if_pos z.symm]
    · rw [if_neg z, if_neg (Ne.symm z), if_pos hs]
theorem call_X3_tellRows {E : ME} {Φ : Option AV → AM → Prop} {pc : Nat} {L : List (Option AV)} {st : List AV} {m : AM} {a : Nat × Nat} {idx : Nat} {x0 x1 x2 : AV} {i : Nat} (hl : Cond.methodLink E.2.1 idx yX3_tellRows ∈ TB) (hdep : 6 + 1 ≤ E.2.2.2.2.2.2) (hroom : a.1 + 0 ≤ E.2.2.2.2.1 ∧ a.2 + 0 ≤ E.2.2.2.2.2.1) (hsr : st.length ≤ 4) (hd : decode E.1 pc = .ok (.invokevirtual idx, 3)) (hsp : Sp_X3_tellRows [vr 3 i, x0, x1, x2] m (fun r m2 => B E Φ (pc + 3) L (r.toList ++ st) m2 a)) : B E Φ pc L (x2 :: x1 :: x0 :: vr 3 i :: st) m a := b_callV S_X3_tellRows [x0, x1, x2] (RX3, TX3, 4) rfl rfl (by decide) (Or.inl hl) k885 k886 k77 k887 (show _ ∧ _ ∧ Option.map (fun d => d.parameters.length) (parseMethodDescriptor yX3_tellRows.desc) = some 3 from by decide +kernel) ⟨hdep, by decide⟩ hroom hsr hd hsp
