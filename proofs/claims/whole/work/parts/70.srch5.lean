/-! the class's search: begin -/
/-- three new arrays for the search -/
def gr3 (M : AM) (N : Nat) : AM := rset (nwA (rset (nwA (rset (nwA M N) 98 1 M.2.2.2) N) 98 2 (M.2.2.2 + 1)) N) 98 3 (M.2.2.2 + 2)
theorem gr3_old (M : AM) (N : Nat) {a : Nat} (h : a < M.2.2.2) : (gr3 M N).1 a = M.1 a ∧ (gr3 M N).2.2.1 a = M.2.2.1 a := by
  constructor
  · exact ((nwA_old _ N (show a < M.2.2.2 + 2 by omega)).trans (nwA_old _ N (show a < M.2.2.2 + 1 by omega))).trans (nwA_old M N h)
  · exact ((nwA_oldL _ N (show a < M.2.2.2 + 2 by omega)).trans (nwA_oldL _ N (show a < M.2.2.2 + 1 by omega))).trans (nwA_oldL M N h)
theorem gr3_new (M : AM) (N : Nat) : (gr3 M N).1 M.2.2.2 = fun _ => nI 0 :=
  ((nwA_old _ N (show M.2.2.2 < M.2.2.2 + 2 by omega)).trans (nwA_old _ N (show M.2.2.2 < M.2.2.2 + 1 by omega))).trans (nwA_new M N)
theorem gr3_len (M : AM) (N : Nat) : (gr3 M N).2.2.1 M.2.2.2 = N ∧ (gr3 M N).2.2.1 (M.2.2.2 + 1) = N ∧ (gr3 M N).2.2.1 (M.2.2.2 + 2) = N :=
  ⟨((nwA_oldL _ N (show M.2.2.2 < M.2.2.2 + 2 by omega)).trans (nwA_oldL _ N (show M.2.2.2 < M.2.2.2 + 1 by omega))).trans (nwA_newL M N),
   (nwA_oldL _ N (show M.2.2.2 + 1 < M.2.2.2 + 2 by omega)).trans (nwA_newL (rset (nwA M N) 98 1 M.2.2.2) N), nwA_newL (rset (nwA (rset (nwA M N) 98 1 M.2.2.2) N) 98 2 (M.2.2.2 + 1)) N⟩
theorem gr3_ref (M : AM) (N : Nat) : (gr3 M N).2.1 98 1 = M.2.2.2 ∧ (gr3 M N).2.1 98 2 = M.2.2.2 + 1 ∧ (gr3 M N).2.1 98 3 = M.2.2.2 + 2 ∧ (∀ i k, i ≠ 98 → (gr3 M N).2.1 i k = M.2.1 i k) ∧ (gr3 M N).2.2.2 = M.2.2.2 + 3 := by
  refine ⟨rfl, rfl, rfl, fun i k h => ?_, rfl⟩
  unfold gr3 rset nwA
  simp [h]
theorem gr3_A {M : AM} {N l : Nat} (hf : 125 ≤ M.2.2.2) (hl : l ≤ N) (hN : N ≤ 4096) : SrA (gr3 M N) l := by
  have r := gr3_ref M N
  have q := gr3_len M N
  unfold SrA
  rw [r.1, r.2.1, r.2.2.1]
  refine ⟨fun k h1 h2 => ?_, by omega, by omega, by omega⟩
  rcases (by omega : k = 1 ∨ k = 2 ∨ k = 3) with rfl | rfl | rfl
  · rw [r.1, q.1]; exact ⟨⟨by omega, Or.inr hf⟩, hl, hN⟩
  · rw [r.2.1, q.2.1]; exact ⟨⟨by omega, Or.inr (by omega)⟩, hl, hN⟩
  · rw [r.2.2.1, q.2.2]; exact ⟨⟨by omega, Or.inr (by omega)⟩, hl, hN⟩
/-- the search between two calls -/
def SrI (m : AM) (w : Nat) : Prop := SrA m (m.2.2.1 (m.2.1 98 1)) ∧ m.1 98 9 = nI w ∧ ∀ n, n < m.2.2.1 (m.2.1 98 1) → ∃ j, j ≤ w ∧ m.1 (m.2.1 98 1) n = nI j
/-- what a call of the search leaves be -/
def Xz (m m2 : AM) : Prop := (∀ i k, i ≠ 98 → m2.2.1 i k = m.2.1 i k) ∧ m.2.2.2 ≤ m2.2.2.2 ∧ (∀ a, a < m.2.2.2 → m2.2.2.1 a = m.2.2.1 a) ∧ ∀ a, a < 125 → (a < 98 ∨ 102 < a) → a ≠ 30 → m2.1 a = m.1 a
theorem Xz.rf (m : AM) : Xz m m := ⟨fun _ _ _ => rfl, Nat.le_refl _, fun _ _ => rfl, fun _ _ _ _ => rfl⟩
theorem Xz.tr {m m2 m3 : AM} (h : Xz m m2) (h2 : Xz m2 m3) : Xz m m3 := ⟨fun i k a => (h2.1 i k a).trans (h.1 i k a), Nat.le_trans h.2.1 h2.2.1, fun a b => (h2.2.2.1 a (Nat.lt_of_lt_of_le b h.2.1)).trans (h.2.2.1 a b), fun a b c d => (h2.2.2.2 a b c d).trans (h.2.2.2 a b c d)⟩
theorem Xz.xs {m m2 : AM} {l : Nat} (hA : SrA m l) (h : Xs m m2) : Xz m m2 := ⟨fun i k _ => by rw [h.1], Nat.le_of_eq (by rw [h.1]), fun a _ => by rw [h.1], fun a b c d => h.2 a d (by omega) (by have := (hA.1 1 (by omega) (by omega)).1; omega) (by have := (hA.1 2 (by omega) (by omega)).1; omega) (by have := (hA.1 3 (by omega) (by omega)).1; omega)⟩
theorem SrA.mono {m : AM} {l l2 : Nat} (h : SrA m l) (hl : l2 ≤ l) : SrA m l2 := ⟨fun k a b => ⟨(h.1 k a b).1, Nat.le_trans hl (h.1 k a b).2.1, (h.1 k a b).2.2⟩, h.2⟩
theorem SrS.srI {C : Nat → Nat} {bc wk A Bn : Nat} {lab : Nat → Option (Nat × Nat)} {far : Nat} {m : AM} (h : SrS C bc wk A Bn lab far m) (h0 : SrA m (m.2.2.1 (m.2.1 98 1))) : SrI m wk := ⟨h0, h.2.1.2.2.2.2.1, h.2.2.2.2.2.2⟩
theorem ndN_sh {C : Nat → Nat} (hv : VC C) : nI 1 <<< ((if mindP C = true then nI 2 * nI (C 0) else nI (C 0)) &&& 31) = nI (ndN C) := by
  have h06 := hv.1
  have hn := nd_le hv
  unfold ndN at *
  by_cases q : mindP C = true
  · rw [if_pos q] at hn
    rw [if_pos q, if_pos q, n_mul, n_shl (by omega) (by omega), Nat.shiftLeft_eq, Nat.one_mul]
  · rw [if_neg q] at hn
    rw [if_neg q, if_neg q, n_shl (by omega) (by omega), Nat.shiftLeft_eq, Nat.one_mul]
abbrev e_X7_begin : ME := (cX7_begin, (RX7, (5, (none, (3, (12288, 3))))))
theorem dX7_begin_0 : decode cX7_begin 0 = .ok (.aload_n 0, 1) := by decide +kernel
theorem dX7_begin_1 : decode cX7_begin 1 = .ok (.aload_n 1, 1) := by decide +kernel
theorem dX7_begin_2 : decode cX7_begin 2 = .ok (.getfield 77, 3) := by decide +kernel
theorem dX7_begin_5 : decode cX7_begin 5 = .ok (.putfield 80, 3) := by decide +kernel
theorem dX7_begin_8 : decode cX7_begin 8 = .ok (.aload_n 0, 1) := by decide +kernel
theorem dX7_begin_9 : decode cX7_begin 9 = .ok (.aload_n 1, 1) := by decide +kernel
theorem dX7_begin_10 : decode cX7_begin 10 = .ok (.invokevirtual 81, 3) := by decide +kernel
theorem dX7_begin_13 : decode cX7_begin 13 = .ok (.aload_n 0, 1) := by decide +kernel
theorem dX7_begin_14 : decode cX7_begin 14 = .ok (.iconst 1, 1) := by decide +kernel
theorem dX7_begin_15 : decode cX7_begin 15 = .ok (.aload_n 0, 1) := by decide +kernel
theorem dX7_begin_16 : decode cX7_begin 16 = .ok (.getfield 85, 3) := by decide +kernel
theorem dX7_begin_19 : decode cX7_begin 19 = .ok (.ifCond .eq 12, 3) := by decide +kernel
theorem dX7_begin_22 : decode cX7_begin 22 = .ok (.iconst 2, 1) := by decide +kernel
theorem dX7_begin_23 : decode cX7_begin 23 = .ok (.aload_n 0, 1) := by decide +kernel
theorem dX7_begin_24 : decode cX7_begin 24 = .ok (.getfield 80, 3) := by decide +kernel
theorem dX7_begin_27 : decode cX7_begin 27 = .ok (.imul, 1) := by decide +kernel
theorem dX7_begin_28 : decode cX7_begin 28 = .ok (.goto 7, 3) := by decide +kernel
theorem dX7_begin_31 : decode cX7_begin 31 = .ok (.aload_n 0, 1) := by decide +kernel
theorem dX7_begin_32 : decode cX7_begin 32 = .ok (.getfield 80, 3) := by decide +kernel
theorem dX7_begin_35 : decode cX7_begin 35 = .ok (.ishl, 1) := by decide +kernel
theorem dX7_begin_36 : decode cX7_begin 36 = .ok (.putfield 61, 3) := by decide +kernel
theorem dX7_begin_39 : decode cX7_begin 39 = .ok (.aload_n 0, 1) := by decide +kernel
theorem dX7_begin_40 : decode cX7_begin 40 = .ok (.getfield 15, 3) := by decide +kernel
theorem dX7_begin_43 : decode cX7_begin 43 = .ok (.arraylength, 1) := by decide +kernel
theorem dX7_begin_44 : decode cX7_begin 44 = .ok (.aload_n 0, 1) := by decide +kernel
theorem dX7_begin_45 : decode cX7_begin 45 = .ok (.getfield 61, 3) := by decide +kernel
theorem dX7_begin_48 : decode cX7_begin 48 = .ok (.if_icmp .ge 33, 3) := by decide +kernel
theorem dX7_begin_51 : decode cX7_begin 51 = .ok (.aload_n 0, 1) := by decide +kernel
theorem dX7_begin_52 : decode cX7_begin 52 = .ok (.aload_n 0, 1) := by decide +kernel
theorem dX7_begin_53 : decode cX7_begin 53 = .ok (.getfield 61, 3) := by decide +kernel
theorem dX7_begin_56 : decode cX7_begin 56 = .ok (.newarray .int, 2) := by decide +kernel
theorem dX7_begin_58 : decode cX7_begin 58 = .ok (.putfield 15, 3) := by decide +kernel
theorem dX7_begin_61 : decode cX7_begin 61 = .ok (.aload_n 0, 1) := by decide +kernel
theorem dX7_begin_62 : decode cX7_begin 62 = .ok (.aload_n 0, 1) := by decide +kernel
theorem dX7_begin_63 : decode cX7_begin 63 = .ok (.getfield 61, 3) := by decide +kernel
theorem dX7_begin_66 : decode cX7_begin 66 = .ok (.newarray .int, 2) := by decide +kernel
theorem dX7_begin_68 : decode cX7_begin 68 = .ok (.putfield 18, 3) := by decide +kernel
theorem dX7_begin_71 : decode cX7_begin 71 = .ok (.aload_n 0, 1) := by decide +kernel
theorem dX7_begin_72 : decode cX7_begin 72 = .ok (.aload_n 0, 1) := by decide +kernel
theorem dX7_begin_73 : decode cX7_begin 73 = .ok (.getfield 61, 3) := by decide +kernel
theorem dX7_begin_76 : decode cX7_begin 76 = .ok (.newarray .int, 2) := by decide +kernel
theorem dX7_begin_78 : decode cX7_begin 78 = .ok (.putfield 21, 3) := by decide +kernel
theorem dX7_begin_81 : decode cX7_begin 81 = .ok (.aload_n 0, 1) := by decide +kernel
theorem dX7_begin_82 : decode cX7_begin 82 = .ok (.dup, 1) := by decide +kernel
theorem dX7_begin_83 : decode cX7_begin 83 = .ok (.getfield 64, 3) := by decide +kernel
theorem dX7_begin_86 : decode cX7_begin 86 = .ok (.iconst 1, 1) := by decide +kernel
theorem dX7_begin_87 : decode cX7_begin 87 = .ok (.iadd, 1) := by decide +kernel
theorem dX7_begin_88 : decode cX7_begin 88 = .ok (.putfield 64, 3) := by decide +kernel
theorem dX7_begin_91 : decode cX7_begin 91 = .ok (.aload_n 0, 1) := by decide +kernel
theorem dX7_begin_92 : decode cX7_begin 92 = .ok (.iconst 0, 1) := by decide +kernel
theorem dX7_begin_93 : decode cX7_begin 93 = .ok (.putfield 89, 3) := by decide +kernel
theorem dX7_begin_96 : decode cX7_begin 96 = .ok (.aload_n 0, 1) := by decide +kernel
theorem dX7_begin_97 : decode cX7_begin 97 = .ok (.ldc 48, 2) := by decide +kernel
theorem dX7_begin_99 : decode cX7_begin 99 = .ok (.putfield 53, 3) := by decide +kernel
theorem dX7_begin_102 : decode cX7_begin 102 = .ok (.aload_n 0, 1) := by decide +kernel
theorem dX7_begin_103 : decode cX7_begin 103 = .ok (.iload_n 2, 1) := by decide +kernel
theorem dX7_begin_104 : decode cX7_begin 104 = .ok (.putfield 92, 3) := by decide +kernel
theorem dX7_begin_107 : decode cX7_begin 107 = .ok (.aload_n 0, 1) := by decide +kernel
theorem dX7_begin_108 : decode cX7_begin 108 = .ok (.iload_n 3, 1) := by decide +kernel
theorem dX7_begin_109 : decode cX7_begin 109 = .ok (.putfield 95, 3) := by decide +kernel
theorem dX7_begin_112 : decode cX7_begin 112 = .ok (.aload_n 0, 1) := by decide +kernel
theorem dX7_begin_113 : decode cX7_begin 113 = .ok (.iload 4, 2) := by decide +kernel
theorem dX7_begin_115 : decode cX7_begin 115 = .ok (.putfield 98, 3) := by decide +kernel
theorem dX7_begin_118 : decode cX7_begin 118 = .ok (.return_, 1) := by decide +kernel
def Sp_X7_begin (av : List AV) (m : AM) (Φ : Option AV → AM → Prop) : Prop := ∃ x y z, av = [vr 7 98, vr 5 21, vi x, vi y, vi z] ∧ ∃ (C : Nat → Nat) (A Bn bc wk : Nat), BR m C ∧ x = nI A ∧ y = nI Bn ∧ z = nI bc ∧ bc ≤ 1 ∧ SrI m wk ∧ wk < 999999 ∧ ∀ m2, Xz m m2 → m2.1 30 = m.1 30 → BR m2 C → SrA m2 (m2.2.2.1 (m2.2.1 98 1)) → SrS C bc (wk + 1) A Bn (fun _ => none) 0 m2 → m2.1 98 13 = -1000000 → Φ none m2
set_option maxRecDepth 20000 in
set_option maxHeartbeats 4000000 in
theorem S_X7_begin : Snd yX7_begin e_X7_begin Sp_X7_begin := by
  refine Snd.of (by decide +kernel) rfl ?_ ?_
  · rintro av m Φ ⟨x, y, z, rfl, _⟩; exact Nat.le_of_ble_eq_true rfl
  rintro av m Φ ⟨x, y, z, rfl, C, A, Bn, bc, wk, hB, rfl, rfl, rfl, hbc, hI, hwk, h⟩ hav hty
  show B e_X7_begin Φ 0 [some (vr 7 98), some (vr 5 21), some (vi (nI A)), some (vi (nI Bn)), some (vi (nI bc))] [] m (0, 0)
  have hv := hB.1
  have h06 := hv.1
  have hnd := nd_le hv
  have h125 := hty.1
  unfold nS at h125
  have m81 : ∀ M, Xz m M → M.1 30 = m.1 30 → SrA M (ndN C) → SrA M (M.2.2.1 (M.2.1 98 1)) → M.1 98 5 = nI (C 0) → M.1 98 6 = nI (ndN C) → M.1 98 7 = nI (miN C) → M.1 98 9 = nI wk → MvR M C → (∀ n, n < M.2.2.1 (M.2.1 98 1) → ∃ j, j ≤ wk ∧ M.1 (M.2.1 98 1) n = nI j) → B e_X7_begin Φ 81 [some (vr 7 98), some (vr 5 21), some (vi (nI A)), some (vi (nI Bn)), some (vi (nI bc))] [] M (3, 12288) := by
    intro M hX e30 hA hA2 e5 e6 e7 e9 hM hJ
    have r1 := (hA.1 1 (by omega) (by omega))
    have r2 := (hA.1 2 (by omega) (by omega)).1
    have r3 := (hA.1 3 (by omega) (by omega)).1
    have key : ∀ M2, M2 = mset (mset (mset (mset (mset (mset M 98 9 (nI (wk + 1))) 98 10 (nI 0)) 98 13 (-1000000)) 98 11 (nI A)) 98 12 (nI Bn)) 98 8 (nI bc) → Φ none M2 := by
      intro M2 hM2
      have A8 : ∀ k, M2.1 98 k = if k = 8 then nI bc else if k = 12 then nI Bn else if k = 11 then nI A else if k = 13 then -1000000 else if k = 10 then nI 0 else if k = 9 then nI (wk + 1) else M.1 98 k := fun k => by
        rw [hM2, mset_at, mset_at, mset_at, mset_at, mset_at, mset_at]
      have Ao : ∀ a, a ≠ 98 → M2.1 a = M.1 a := fun a ha => by
        rw [hM2, mset_ne _ _ _ ha, mset_ne _ _ _ ha, mset_ne _ _ _ ha, mset_ne _ _ _ ha, mset_ne _ _ _ ha, mset_ne _ _ _ ha]
      have e2 : M2.2 = M.2 := by rw [hM2]; rfl
      have hX2 : Xz m M2 := hX.tr ⟨fun i k _ => by rw [e2], Nat.le_of_eq (by rw [e2]), fun a _ => by rw [e2], fun a _ b _ => Ao a (by omega)⟩
      refine h M2 hX2 ((Ao 30 (by decide)).trans e30) (hB.fr (fun a h1 h2 => ?_)) (by rw [e2]; exact hA2.cg e2) ?_ (by rw [A8]; rfl)
      · by_cases q : a = 30
        · rw [q]; exact (Ao 30 (by decide)).trans e30
        · exact hX2.2.2.2 a (by omega) (by omega) q
      · unfold SrS MvR
        rw [e2, A8 5, A8 6, A8 7, A8 8, A8 9, A8 10, A8 11, A8 12, A8 4, Ao 99 (by decide), Ao (M.2.1 98 1) (by omega), Ao (M.2.1 98 2) (by omega), Ao (M.2.1 98 3) (by omega)]
        refine ⟨hA.cg e2, ⟨e5, e6, e7, rfl, rfl, rfl, rfl, rfl⟩, hM, fun n hn => ⟨fun _ z => ?_, fun x z => by cases z⟩, (fun n x z => by cases z), Nat.zero_le _, fun n hn => ?_⟩
        · obtain ⟨j, hj, ej⟩ := hJ n (by omega)
          rw [ej] at z
          have z : nI j = nI (wk + 1) := z
          rw [n_eq (by omega) (by omega)] at z
          omega
        · obtain ⟨j, hj, ej⟩ := hJ n hn
          exact ⟨j, by omega, ej⟩
    refine b_aloadN (pc := 81) 0 dX7_begin_81 rfl rfl ?_
    refine b_dup_r (pc := 82) dX7_begin_82 ?_
    refine gf7_9 (pc := 83) k327 dX7_begin_83 ?_
    refine b_iconst (pc := 86) (nI 1) dX7_begin_86 (by decide) ?_
    refine b_iadd (pc := 87) dX7_begin_87 ?_
    refine pf7_9 (pc := 88) k327 dX7_begin_88 ?_
    refine b_aloadN (pc := 91) 0 dX7_begin_91 rfl rfl ?_
    refine b_iconst (pc := 92) (nI 0) dX7_begin_92 (by decide) ?_
    refine pf7_10 (pc := 93) k328 dX7_begin_93 ?_
    refine b_aloadN (pc := 96) 0 dX7_begin_96 rfl rfl ?_
    refine b_ldc (pc := 97) k765 dX7_begin_97 ?_
    refine pf7_13 (pc := 99) k331 dX7_begin_99 ?_
    refine b_aloadN (pc := 102) 0 dX7_begin_102 rfl rfl ?_
    refine b_iloadN (pc := 103) 2 dX7_begin_103 rfl rfl ?_
    refine pf7_11 (pc := 104) k329 dX7_begin_104 ?_
    refine b_aloadN (pc := 107) 0 dX7_begin_107 rfl rfl ?_
    refine b_iloadN (pc := 108) 3 dX7_begin_108 rfl rfl ?_
    refine pf7_12 (pc := 109) k330 dX7_begin_109 ?_
    refine b_aloadN (pc := 112) 0 dX7_begin_112 rfl rfl ?_
    refine b_iloadG (pc := 113) 4 dX7_begin_113 rfl ?_
    refine pf7_8 (pc := 115) k326 ?_ dX7_begin_115 ?_
    rotate_left -- leaf 0: bool at 115
    refine b_vret (pc := 118) rfl dX7_begin_118 ⟨Nat.le_of_ble_eq_true rfl, Nat.le_of_ble_eq_true rfl⟩ ?_
    rotate_left -- leaf 1: return at 118
    -- leaves: 0 bool at 115; 1 return at 118
    · rcases (by omega : bc = 0 ∨ bc = 1) with z | z
      · rw [z]; exact Or.inl rfl
      · rw [z]; exact Or.inr rfl
    · rw [e9, n_add]
      exact key _ rfl
  have m39 : ∀ M, M.2 = m.2 → (∀ a, a ≠ 98 → a ≠ 99 → M.1 a = m.1 a) → (∀ k, k ≠ 7 → k ≠ 4 → k ≠ 5 → k ≠ 6 → M.1 98 k = m.1 98 k) → M.1 98 5 = nI (C 0) → M.1 98 6 = nI (ndN C) → M.1 98 7 = nI (miN C) → MvR M C → B e_X7_begin Φ 39 [some (vr 7 98), some (vr 5 21), some (vi (nI A)), some (vi (nI Bn)), some (vi (nI bc))] [] M (0, 0) := by
    intro M e2 eo e8 e5 e6 e7 hM
    obtain ⟨i1, i2, i3⟩ := id hI
    have i1 : SrA M (M.2.2.1 (M.2.1 98 1)) := by
      rw [e2]
      exact hI.1.cg e2
    have r1 := i1.1 1 (by omega) (by omega)
    have hX0 : Xz m M := ⟨fun i k _ => by rw [e2], Nat.le_of_eq (by rw [e2]), fun a _ => by rw [e2], fun a _ b _ => eo a (by omega) (by omega)⟩
    have e9 : M.1 98 9 = nI wk := (e8 9 (by decide) (by decide) (by decide) (by decide)).trans i2
    have i3 : ∀ n, n < M.2.2.1 (M.2.1 98 1) → ∃ j, j ≤ wk ∧ M.1 (M.2.1 98 1) n = nI j := by
      rw [e2] at r1 ⊢
      rw [eo (m.2.1 98 1) (by omega) (by omega)]
      exact i3
    refine b_aloadN (pc := 39) 0 dX7_begin_39 rfl rfl ?_
    refine gf7_1 (pc := 40) k319 dX7_begin_40 ?_
    refine b_alenD (pc := 43) dX7_begin_43 ?_
    refine b_aloadN (pc := 44) 0 dX7_begin_44 rfl rfl ?_
    refine gf7_6 (pc := 45) k324 dX7_begin_45 ?_
    refine b_icmp_ge (pc := 48) 81 dX7_begin_48 (by decide) (fun c48 => ?_) (fun c48 => ?_)
    rotate_left -- leaf 0: at 81
    refine b_aloadN (pc := 51) 0 dX7_begin_51 rfl rfl ?_
    refine b_aloadN (pc := 52) 0 dX7_begin_52 rfl rfl ?_
    refine gf7_6 (pc := 53) k324 dX7_begin_53 ?_
    rotate_left -- leaf 1: newarray at 56
    -- leaves: 0 at 81; 1 newarray at 56
    · rw [e6, show Int32.ofNat (M.2.2.1 (M.2.1 98 1)) = nI (M.2.2.1 (M.2.1 98 1)) from rfl, n_le (by omega) (by omega)] at c48
      exact B.mono (m81 M hX0 (eo 30 (by decide) (by decide)) (i1.mono c48) i1 e5 e6 e7 e9 hM i3) (Nat.zero_le _) (Nat.zero_le _)
    · have h125 : 125 ≤ M.2.2.2 := by rw [e2]; exact h125
      have al := fun (a : Nat) (ha : a < 125) => (gr3_old M (ndN C) (show a < M.2.2.2 by omega)).1
      refine b_newI (pc := 56) e6 (by omega) ⟨by show 0 + 1 ≤ 3; omega, by show 0 + ndN C ≤ 12288; omega⟩ k114 dX7_begin_56 ?_
      refine pf7_1 (pc := 58) k319 dX7_begin_58 ?_
      refine b_aloadN (pc := 61) 0 dX7_begin_61 rfl rfl ?_
      refine b_aloadN (pc := 62) 0 dX7_begin_62 rfl rfl ?_
      refine gf7_6 (pc := 63) k324 dX7_begin_63 ?_
      rotate_left -- leaf 0: newarray at 66
      -- leaves: 0 newarray at 66
      refine b_newI (pc := 66) (by show (nwA M (ndN C)).1 98 6 = _; rw [nwA_old M _ (by omega)]; exact e6) (by omega) ⟨by show 0 + 1 + 1 ≤ 3; omega, by show 0 + ndN C + ndN C ≤ 12288; omega⟩ k114 dX7_begin_66 ?_
      refine pf7_2 (pc := 68) k320 dX7_begin_68 ?_
      refine b_aloadN (pc := 71) 0 dX7_begin_71 rfl rfl ?_
      refine b_aloadN (pc := 72) 0 dX7_begin_72 rfl rfl ?_
      refine gf7_6 (pc := 73) k324 dX7_begin_73 ?_
      rotate_left -- leaf 0: newarray at 76
      -- leaves: 0 newarray at 76
      refine b_newI (pc := 76) (by show (nwA (rset (nwA M (ndN C)) 98 1 M.2.2.2) (ndN C)).1 98 6 = _; rw [nwA_old _ _ (show 98 < M.2.2.2 + 1 by omega)]; show (nwA M (ndN C)).1 98 6 = _; rw [nwA_old M _ (by omega)]; exact e6) (by omega) ⟨by show 0 + 1 + 1 + 1 ≤ 3; omega, by show 0 + ndN C + ndN C + ndN C ≤ 12288; omega⟩ k114 dX7_begin_76 ?_
      refine pf7_3 (pc := 78) k321 dX7_begin_78 ?_
      rotate_left -- leaf 0: at 81
      -- leaves: 0 at 81
      refine B.mono (m81 (gr3 M (ndN C)) (hX0.tr ⟨(gr3_ref M _).2.2.2.1, by rw [(gr3_ref M _).2.2.2.2]; omega, fun a ha => (gr3_old M _ ha).2, fun a b _ _ => al a b⟩) ((al 30 (by decide)).trans (eo 30 (by decide) (by decide))) (gr3_A h125 (Nat.le_refl _) hnd.1) ?_ ((congrFun (al 98 (by decide)) 5).trans e5) ((congrFun (al 98 (by decide)) 6).trans e6) ((congrFun (al 98 (by decide)) 7).trans e7) ((congrFun (al 98 (by decide)) 9).trans e9) ?_ (fun n hn => ?_)) (by show 0 + 1 + 1 + 1 ≤ 3; omega) (by show 0 + ndN C + ndN C + ndN C ≤ 12288; omega)
      · rw [(gr3_ref M _).1, (gr3_len M _).1]
        exact gr3_A h125 (Nat.le_refl _) hnd.1
      · unfold MvR
        rw [al 98 (by decide), al 99 (by decide)]
        exact hM
      · rw [(gr3_ref M _).1, gr3_new]
        exact ⟨0, Nat.zero_le _, rfl⟩
  have fin : ∀ m10, GmX C (mset m 98 5 (nI (C 0))) m10 → MvR m10 C → B e_X7_begin Φ 39 [some (vr 7 98), some (vr 5 21), some (vi (nI A)), some (vi (nI Bn)), some (vi (nI bc))] [] (mset m10 98 6 (nI (ndN C))) (0, 0) := by
    intro m10 g mv
    have g5 : m10.1 98 5 = nI (C 0) := by
      rw [g.2.2.1 5 (by decide) (by decide), mset_at, if_pos rfl]
    refine m39 _ g.1 (fun a b c => ?_) (fun k b c d e => ?_) ?_ ?_ ?_ ?_
    · rw [mset_ne _ _ _ b, g.2.1 a b c, mset_ne _ _ _ b]
    · rw [mset_at, if_neg e, g.2.2.1 k b c, mset_at, if_neg d]
    · rw [mset_at, if_neg (by decide)]; exact g5
    · rw [mset_at, if_pos rfl]
    · rw [mset_at, if_neg (by decide)]; exact g.2.2.2
    · unfold MvR
      rw [mset_at, if_neg (by decide), mset_ne _ _ _ (show 99 ≠ 98 by decide)]
      exact mv
  have sh := ndN_sh hv
  refine b_aloadN (pc := 0) 0 dX7_begin_0 rfl rfl ?_
  refine b_aloadN (pc := 1) 1 dX7_begin_1 rfl rfl ?_
  refine gf5_4 (pc := 2) k145 dX7_begin_2 ?_
  refine pf7_5 (pc := 5) k323 dX7_begin_5 ?_
  refine b_aloadN (pc := 8) 0 dX7_begin_8 rfl rfl ?_
  refine b_aloadN (pc := 9) 1 dX7_begin_9 rfl rfl ?_
  refine call_X7_gatherMovers (pc := 10) k757 (by decide) ⟨Nat.le_of_ble_eq_true rfl, Nat.le_of_ble_eq_true rfl⟩ (Nat.le_of_ble_eq_true rfl) dX7_begin_10 ?_
  refine ⟨rfl, C, hB.fr (fun a h1 h2 => mset_ne _ _ _ (by omega)), fun m10 g10 mv10 => ?_⟩
  refine b_aloadN (pc := 13) 0 dX7_begin_13 rfl rfl ?_
  refine b_iconst (pc := 14) (nI 1) dX7_begin_14 (by decide) ?_
  refine b_aloadN (pc := 15) 0 dX7_begin_15 rfl rfl ?_
  refine gf7_7 (pc := 16) k325 dX7_begin_16 ?_
  refine b_if_eq (pc := 19) 31 dX7_begin_19 (by decide) (fun c19 => ?_) (fun c19 => ?_)
  refine b_aloadN (pc := 31) 0 dX7_begin_31 rfl rfl ?_
  refine gf7_5 (pc := 32) k323 dX7_begin_32 ?_
  refine b_ishl (pc := 35) dX7_begin_35 ?_
  refine pf7_6 (pc := 36) k324 dX7_begin_36 ?_
  rotate_left -- leaf 0: at 39
  refine b_iconst (pc := 22) (nI 2) dX7_begin_22 (by decide) ?_
  refine b_aloadN (pc := 23) 0 dX7_begin_23 rfl rfl ?_
  refine gf7_5 (pc := 24) k323 dX7_begin_24 ?_
  refine b_imul (pc := 27) dX7_begin_27 ?_
  refine b_goto (pc := 28) 35 dX7_begin_28 (by decide) ?_
  refine b_ishl (pc := 35) dX7_begin_35 ?_
  refine pf7_6 (pc := 36) k324 dX7_begin_36 ?_
  rotate_left -- leaf 1: at 39
  -- leaves: 0 at 39; 1 at 39
  · rw [hB.2.1.1] at g10
    have g5 : m10.1 98 5 = nI (C 0) := by
      rw [g10.2.2.1 5 (by decide) (by decide), mset_at, if_pos rfl]
    have q : ¬ mindP C = true := fun z => by
      rw [g10.2.2.2, miN_if, if_pos z] at c19
      exact absurd c19 (by decide)
    rw [if_neg q] at sh
    rw [g5, sh]
    exact fin m10 g10 mv10
  · rw [hB.2.1.1] at g10
    have g5 : m10.1 98 5 = nI (C 0) := by
      rw [g10.2.2.1 5 (by decide) (by decide), mset_at, if_pos rfl]
    have q : mindP C = true := by
      cases z : mindP C
      · rw [g10.2.2.2, miN_if, z] at c19
        exact absurd rfl c19
      · rfl
    rw [if_pos q] at sh
    rw [g5, sh]
    exact fin m10 g10 mv10
theorem call_X7_begin {E : ME} {Φ : Option AV → AM → Prop} {pc : Nat} {L : List (Option AV)} {st : List AV} {m : AM} {a : Nat × Nat} {idx : Nat} {x0 x1 x2 x3 : AV} {i : Nat} (hl : Cond.methodLink E.2.1 idx yX7_begin ∈ TB) (hdep : 3 + 1 ≤ E.2.2.2.2.2.2) (hroom : a.1 + 3 ≤ E.2.2.2.2.1 ∧ a.2 + 12288 ≤ E.2.2.2.2.2.1) (hsr : st.length ≤ 4) (hd : decode E.1 pc = .ok (.invokevirtual idx, 3)) (hsp : Sp_X7_begin [vr 7 i, x0, x1, x2, x3] m (fun r m2 => B E Φ (pc + 3) L (r.toList ++ st) m2 (a.1 + 3, a.2 + 12288))) : B E Φ pc L (x3 :: x2 :: x1 :: x0 :: vr 7 i :: st) m a := b_callV S_X7_begin [x0, x1, x2, x3] (RX7, TX7, 14) rfl rfl (by decide) (Or.inl hl) k755 k16 k76 k756 (show _ ∧ _ ∧ Option.map (fun d => d.parameters.length) (parseMethodDescriptor yX7_begin.desc) = some 4 from by decide +kernel) ⟨hdep, by decide⟩ hroom hsr hd hsp
