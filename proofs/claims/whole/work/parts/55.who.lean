/-! who, of the class -/
def wkS (C : Nat → Nat) (q : Nat) (D : Nat → Int32) : Nat → Nat × Nat
  | 0 => (C 1, C 5)
  | k + 1 => (behN C q (wkS C q D k).1 (wkS C q D k).2 (D (2 * k)).toNatClampNeg, (wkS C q D k).2 ||| 2 ^ ((D (2 * k)).toNatClampNeg / 2))
def wkB (C : Nat → Nat) (q : Nat) (D : Nat → Int32) : Nat → Bool
  | 0 => true
  | k + 1 => wkB C q D k && decide (nI (wkS C q D (k + 1)).1 = D (2 * k + 1))
def whoK (C : Nat → Nat) (D : Nat → Int32) (n : Nat) : Nat → Nat
  | 0 => 0
  | q + 1 => if wkB C (q + 1) D n = true then whoK C D n q ||| 2 ^ (q + 1) else whoK C D n q
def sayOk (C : Nat → Nat) (D : Nat → Int32) (n : Nat) : Prop := ∀ k, k < n → inB (D (2 * k)) (2 * C 0) = true
theorem wkB_down {C : Nat → Nat} {q : Nat} {D : Nat → Int32} {k : Nat} (h : wkB C q D k = false) : ∀ n, k ≤ n → wkB C q D n = false := by
  intro n
  induction n with
  | zero => intro hn; rw [show k = 0 by omega] at h; exact h
  | succ n ih =>
    intro hn
    rcases Nat.lt_or_ge n k with z | z
    · rw [show n + 1 = k by omega]; exact h
    · unfold wkB
      rw [ih z]; rfl
theorem wkS_lt {C : Nat → Nat} (hv : VC C) {q : Nat} {D : Nat → Int32} {n : Nat} (h : sayOk C D n) : ∀ k, k ≤ n → (wkS C q D k).1 < 64 ∧ (wkS C q D k).2 < 64
  | 0, _ => ⟨hv.c1, hv.c5⟩
  | k + 1, hk => by
    have ih := wkS_lt hv (q := q) h k (by omega)
    have h06 := hv.1
    obtain ⟨y, hy, e⟩ := (inB_iff (by omega)).mp (h k (by omega))
    unfold wkS
    rw [e, n_cl (by omega)]
    exact ⟨behN_lt hv ih.1 hy, or_lt64 ih.2 (pow_lt64 (by omega))⟩
theorem wkB_cg {C : Nat → Nat} {q : Nat} {D D2 : Nat → Int32} {n : Nat} (h : ∀ k, k < 2 * n → D k = D2 k) : ∀ k, k ≤ n → wkS C q D k = wkS C q D2 k ∧ wkB C q D k = wkB C q D2 k
  | 0, _ => ⟨rfl, rfl⟩
  | k + 1, hk => by
    have ih := wkB_cg (C := C) (q := q) h k (by omega)
    have e1 : wkS C q D (k + 1) = wkS C q D2 (k + 1) := by
      unfold wkS
      rw [ih.1, h (2 * k) (by omega)]
    refine ⟨e1, ?_⟩
    unfold wkB
    rw [ih.2, e1, h (2 * k + 1) (by omega)]
theorem n_inc2 (a : Nat) : nI a + Int32.ofInt 2 = nI (a + 2) := n_add a 2
abbrev e_X3_fits : ME := (cX3_fits, (RX3, (6, ((some .boolean), (0, (0, 5))))))
theorem dX3_fits_0 : decode cX3_fits 0 = .ok (.aload_n 0, 1) := by decide +kernel
theorem dX3_fits_1 : decode cX3_fits 1 = .ok (.getfield 36, 3) := by decide +kernel
theorem dX3_fits_4 : decode cX3_fits 4 = .ok (.getfield 40, 3) := by decide +kernel
theorem dX3_fits_7 : decode cX3_fits 7 = .ok (.istore_n 3, 1) := by decide +kernel
theorem dX3_fits_8 : decode cX3_fits 8 = .ok (.aload_n 0, 1) := by decide +kernel
theorem dX3_fits_9 : decode cX3_fits 9 = .ok (.getfield 36, 3) := by decide +kernel
theorem dX3_fits_12 : decode cX3_fits 12 = .ok (.getfield 45, 3) := by decide +kernel
theorem dX3_fits_15 : decode cX3_fits 15 = .ok (.istore 4, 2) := by decide +kernel
theorem dX3_fits_17 : decode cX3_fits 17 = .ok (.iconst 0, 1) := by decide +kernel
theorem dX3_fits_18 : decode cX3_fits 18 = .ok (.istore 5, 2) := by decide +kernel
theorem dX3_fits_20 : decode cX3_fits 20 = .ok (.iload 5, 2) := by decide +kernel
theorem dX3_fits_22 : decode cX3_fits 22 = .ok (.iconst 1, 1) := by decide +kernel
theorem dX3_fits_23 : decode cX3_fits 23 = .ok (.iadd, 1) := by decide +kernel
theorem dX3_fits_24 : decode cX3_fits 24 = .ok (.aload_n 2, 1) := by decide +kernel
theorem dX3_fits_25 : decode cX3_fits 25 = .ok (.arraylength, 1) := by decide +kernel
theorem dX3_fits_26 : decode cX3_fits 26 = .ok (.if_icmp .ge 46, 3) := by decide +kernel
theorem dX3_fits_29 : decode cX3_fits 29 = .ok (.aload_n 0, 1) := by decide +kernel
theorem dX3_fits_30 : decode cX3_fits 30 = .ok (.iload_n 1, 1) := by decide +kernel
theorem dX3_fits_31 : decode cX3_fits 31 = .ok (.aload_n 2, 1) := by decide +kernel
theorem dX3_fits_32 : decode cX3_fits 32 = .ok (.iload 5, 2) := by decide +kernel
theorem dX3_fits_34 : decode cX3_fits 34 = .ok (.iaload, 1) := by decide +kernel
theorem dX3_fits_35 : decode cX3_fits 35 = .ok (.iload_n 3, 1) := by decide +kernel
theorem dX3_fits_36 : decode cX3_fits 36 = .ok (.iload 4, 2) := by decide +kernel
theorem dX3_fits_38 : decode cX3_fits 38 = .ok (.invokevirtual 90, 3) := by decide +kernel
theorem dX3_fits_41 : decode cX3_fits 41 = .ok (.istore_n 3, 1) := by decide +kernel
theorem dX3_fits_42 : decode cX3_fits 42 = .ok (.iload 4, 2) := by decide +kernel
theorem dX3_fits_44 : decode cX3_fits 44 = .ok (.aload_n 2, 1) := by decide +kernel
theorem dX3_fits_45 : decode cX3_fits 45 = .ok (.iload 5, 2) := by decide +kernel
theorem dX3_fits_47 : decode cX3_fits 47 = .ok (.iaload, 1) := by decide +kernel
theorem dX3_fits_48 : decode cX3_fits 48 = .ok (.invokestatic 83, 3) := by decide +kernel
theorem dX3_fits_51 : decode cX3_fits 51 = .ok (.ior, 1) := by decide +kernel
theorem dX3_fits_52 : decode cX3_fits 52 = .ok (.istore 4, 2) := by decide +kernel
theorem dX3_fits_54 : decode cX3_fits 54 = .ok (.iload_n 3, 1) := by decide +kernel
theorem dX3_fits_55 : decode cX3_fits 55 = .ok (.aload_n 2, 1) := by decide +kernel
theorem dX3_fits_56 : decode cX3_fits 56 = .ok (.iload 5, 2) := by decide +kernel
theorem dX3_fits_58 : decode cX3_fits 58 = .ok (.iconst 1, 1) := by decide +kernel
theorem dX3_fits_59 : decode cX3_fits 59 = .ok (.iadd, 1) := by decide +kernel
theorem dX3_fits_60 : decode cX3_fits 60 = .ok (.iaload, 1) := by decide +kernel
theorem dX3_fits_61 : decode cX3_fits 61 = .ok (.if_icmp .eq 5, 3) := by decide +kernel
theorem dX3_fits_64 : decode cX3_fits 64 = .ok (.iconst 0, 1) := by decide +kernel
theorem dX3_fits_65 : decode cX3_fits 65 = .ok (.ireturn, 1) := by decide +kernel
theorem dX3_fits_66 : decode cX3_fits 66 = .ok (.iinc 5 2, 3) := by decide +kernel
theorem dX3_fits_69 : decode cX3_fits 69 = .ok (.goto (-49), 3) := by decide +kernel
theorem dX3_fits_72 : decode cX3_fits 72 = .ok (.iconst 1, 1) := by decide +kernel
theorem dX3_fits_73 : decode cX3_fits 73 = .ok (.ireturn, 1) := by decide +kernel
def Sp_X3_fits (av : List AV) (m : AM) (Φ : Option AV → AM → Prop) : Prop := ∃ x j, av = [vr 2 20, vi x, vr 12 j] ∧ ∃ C q D n, BR m C ∧ x = nI q ∧ (1 ≤ q ∧ q ≤ 5) ∧ m.2.2.1 j = 2 * n ∧ n ≤ 12 ∧ j ≠ 30 ∧ (∀ k, k < 2 * n → m.1 j k = D k) ∧ sayOk C D n ∧ ∀ m2, CU C m m2 → Φ (some (vi (nI (if wkB C q D n = true then 1 else 0)))) m2
set_option maxRecDepth 20000 in
set_option maxHeartbeats 4000000 in
theorem S_X3_fits : Snd yX3_fits e_X3_fits Sp_X3_fits := by
  refine Snd.of (by decide +kernel) rfl ?_ ?_
  · rintro av m Φ ⟨x, j, rfl, _⟩; exact Nat.le_of_ble_eq_true rfl
  rintro av m Φ ⟨x, j, rfl, C, q, D, n, hB0, rfl, hq, hl, hn, hj, hD, hok, h⟩ hav hty
  show B e_X3_fits Φ 0 [some (vr 2 20), some (vi (nI q)), some (vr 12 j), none, none, none] [] m (0, 0)
  have hv := hB0.1
  have h06 := hv.1
  have loop : ∀ e k m2, n + 1 ≤ k + e → k ≤ n → CU C m m2 → wkB C q D k = true → B e_X3_fits Φ 20 [some (vr 2 20), some (vi (nI q)), some (vr 12 j), some (vi (nI (wkS C q D k).1)), some (vi (nI (wkS C q D k).2)), some (vi (nI (2 * k)))] [] m2 (0, 0) := by
    intro e
    induction e with
    | zero => intro k m2 h1 h2; omega
    | succ e ih =>
      intro k m2 h1 h2 hu hb
      have hB := hB0.cu hu
      have hl2 : m2.2.2.1 j = 2 * n := by rw [hu.two]; exact hl
      have hw := wkS_lt hv (q := q) hok k h2
      by_cases hk : k < n
      · obtain ⟨y, hy, ey⟩ := (inB_iff (by omega)).mp (hok k hk)
        have er : ∀ m3, CU C m m3 → m3.1 j (nI (2 * k)).toNatClampNeg = nI y := fun m3 z => by
          rw [n_cl (by omega), z.ne hj, hD _ (by omega), ey]
        have er2 : ∀ m3, CU C m m3 → m3.1 j (nI (2 * k) + nI 1).toNatClampNeg = D (2 * k + 1) := fun m3 z => by
          rw [n_add, n_cl (by omega), z.ne hj, hD _ (by omega)]
        have u1 : (wkS C q D (k + 1)).1 = behN C q (wkS C q D k).1 (wkS C q D k).2 y := by
          show behN C q (wkS C q D k).1 (wkS C q D k).2 (D (2 * k)).toNatClampNeg = _
          rw [ey, n_cl (by omega)]
        have u2 : (wkS C q D (k + 1)).2 = (wkS C q D k).2 ||| 2 ^ (y / 2) := by
          show (wkS C q D k).2 ||| 2 ^ ((D (2 * k)).toNatClampNeg / 2) = _
          rw [ey, n_cl (by omega)]
        have ub : wkB C q D (k + 1) = (wkB C q D k && decide (nI (wkS C q D (k + 1)).1 = D (2 * k + 1))) := rfl
        refine b_iloadG (pc := 20) 5 dX3_fits_20 rfl ?_
        refine b_iconst (pc := 22) (nI 1) dX3_fits_22 (by decide) ?_
        refine b_iadd (pc := 23) dX3_fits_23 ?_
        refine b_aloadN (pc := 24) 2 dX3_fits_24 rfl rfl ?_
        refine b_alenD (pc := 25) dX3_fits_25 ?_
        refine b_icmp_ge (pc := 26) 72 dX3_fits_26 (by decide) (fun c26 => ?_) (fun c26 => ?_)
        rotate_left -- leaf 0: at 72
        refine b_aloadN (pc := 29) 0 dX3_fits_29 rfl rfl ?_
        refine b_iloadN (pc := 30) 1 dX3_fits_30 rfl rfl ?_
        refine b_aloadN (pc := 31) 2 dX3_fits_31 rfl rfl ?_
        refine b_iloadG (pc := 32) 5 dX3_fits_32 rfl ?_
        refine b_ialdD (pc := 34) ?_ dX3_fits_34 ?_
        rotate_left -- leaf 1: index at 34
        refine b_iloadN (pc := 35) 3 dX3_fits_35 rfl rfl ?_
        refine b_iloadG (pc := 36) 4 dX3_fits_36 rfl ?_
        refine call_X2_soBehind (pc := 38) k917 (by decide) ⟨Nat.le_of_ble_eq_true rfl, Nat.le_of_ble_eq_true rfl⟩ (Nat.le_of_ble_eq_true rfl) dX3_fits_38 ?_
        refine ⟨_, _, _, _, rfl, C, q, y, _, _, hB, rfl, ?_, rfl, rfl, ?_, ?_, ?_, ?_, fun m38 h38 => ?_⟩
        rotate_left -- leaf 2: sy of X2_soBehind at 38
        rotate_left -- leaf 3: kind of X2_soBehind at 38
        rotate_left -- leaf 4: saying of X2_soBehind at 38
        rotate_left -- leaf 5: so of X2_soBehind at 38
        rotate_left -- leaf 6: said of X2_soBehind at 38
        have hB := hB.cu h38
        refine siN3 (pc := 41) rfl notL_r (by decide) dX3_fits_41 ?_
        refine b_iloadG (pc := 42) 4 dX3_fits_42 rfl ?_
        refine b_aloadN (pc := 44) 2 dX3_fits_44 rfl rfl ?_
        refine b_iloadG (pc := 45) 5 dX3_fits_45 rfl ?_
        refine b_ialdD (pc := 47) ?_ dX3_fits_47 ?_
        rotate_left -- leaf 7: index at 47
        refine call_X2_factOf (pc := 48) k893 (by decide) ⟨Nat.le_of_ble_eq_true rfl, Nat.le_of_ble_eq_true rfl⟩ (Nat.le_of_ble_eq_true rfl) dX3_fits_48 ?_
        refine ⟨_, rfl, y, ?_, ?_, ?_⟩
        rotate_left -- leaf 8: fy of X2_factOf at 48
        rotate_left -- leaf 9: bound of X2_factOf at 48
        refine b_ior (pc := 51) dX3_fits_51 ?_
        refine siG4 (pc := 52) notL_i (by decide) dX3_fits_52 ?_
        refine b_iloadN (pc := 54) 3 dX3_fits_54 rfl rfl ?_
        refine b_aloadN (pc := 55) 2 dX3_fits_55 rfl rfl ?_
        refine b_iloadG (pc := 56) 5 dX3_fits_56 rfl ?_
        refine b_iconst (pc := 58) (nI 1) dX3_fits_58 (by decide) ?_
        refine b_iadd (pc := 59) dX3_fits_59 ?_
        refine b_ialdD (pc := 60) ?_ dX3_fits_60 ?_
        rotate_left -- leaf 10: index at 60
        refine b_icmp_eq (pc := 61) 66 dX3_fits_61 (by decide) (fun c61 => ?_) (fun c61 => ?_)
        refine inc5 (pc := 66) notL_i (by decide) dX3_fits_66 ?_
        refine b_goto (pc := 69) 20 dX3_fits_69 (by decide) ?_
        rotate_left -- leaf 11: at 20
        refine b_iconst (pc := 64) (nI 0) dX3_fits_64 (by decide) ?_
        refine b_zret (pc := 65) rfl ?_ dX3_fits_65 ⟨Nat.le_of_ble_eq_true rfl, Nat.le_of_ble_eq_true rfl⟩ ?_
        rotate_left -- leaf 12: bool at 65
        rotate_left -- leaf 13: return at 65
        -- leaves: 0 at 72; 1 index at 34; 2 sy of X2_soBehind at 38; 3 kind of X2_soBehind at 38; 4 saying of X2_soBehind at 38; 5 so of X2_soBehind at 38; 6 said of X2_soBehind at 38; 7 index at 47; 8 fy of X2_factOf at 48; 9 bound of X2_factOf at 48; 10 index at 60; 11 at 20; 12 bool at 65; 13 return at 65
        · have c26 : Int32.ofNat (m2.2.2.1 j) ≤ nI (2 * k) + nI 1 := c26
          rw [hl2, show Int32.ofNat (2 * n) = nI (2 * n) from rfl, n_add, n_le (by omega) (by omega)] at c26
          omega
        · rw [hl2]; exact n_in (by omega) (by omega)
        · exact er m2 hu
        · exact hq
        · exact hy
        · exact hw.1
        · exact hw.2
        · rw [(hu.tr h38).two, hl]; exact n_in (by omega) (by omega)
        · exact er m38 (hu.tr h38)
        · omega
        · rw [(hu.tr h38).two, hl, n_add]; exact n_in (by omega) (by omega)
        · rw [er2 _ (hu.tr h38)] at c61
          have eb : wkB C q D (k + 1) = true := by
            rw [ub, hb, u1, decide_eq_true c61]; rfl
          have nx := ih (k + 1) m38 (by omega) (by omega) (hu.tr h38) eb
          rw [u1, u2] at nx
          rw [n_or, n_inc2]
          exact nx
        · exact Or.inl rfl
        · rw [er2 _ (hu.tr h38)] at c61
          have eb : wkB C q D (k + 1) = false := by
            rw [ub, u1, decide_eq_false c61, Bool.and_false]
          have t := h m38 (hu.tr h38)
          rw [wkB_down eb n (by omega)] at t
          exact t
      · have e : k = n := by omega
        subst e
        have t := h m2 hu
        rw [hb] at t
        refine b_iloadG (pc := 20) 5 dX3_fits_20 rfl ?_
        refine b_iconst (pc := 22) (nI 1) dX3_fits_22 (by decide) ?_
        refine b_iadd (pc := 23) dX3_fits_23 ?_
        refine b_aloadN (pc := 24) 2 dX3_fits_24 rfl rfl ?_
        refine b_alenD (pc := 25) dX3_fits_25 ?_
        refine b_icmp_ge (pc := 26) 72 dX3_fits_26 (by decide) (fun c26 => ?_) (fun c26 => ?_)
        refine b_iconst (pc := 72) (nI 1) dX3_fits_72 (by decide) ?_
        refine b_zret (pc := 73) rfl ?_ dX3_fits_73 ⟨Nat.le_of_ble_eq_true rfl, Nat.le_of_ble_eq_true rfl⟩ ?_
        rotate_left -- leaf 0: bool at 73
        rotate_left -- leaf 1: return at 73
        rotate_left -- leaf 2: at 29
        -- leaves: 0 bool at 73; 1 return at 73; 2 at 29
        · exact Or.inr rfl
        · exact t
        · have c26 : ¬ Int32.ofNat (m2.2.2.1 j) ≤ nI (2 * k) + nI 1 := c26
          rw [hl2, show Int32.ofNat (2 * k) = nI (2 * k) from rfl, n_add, n_le (by omega) (by omega)] at c26
          omega
  refine b_aloadN (pc := 0) 0 dX3_fits_0 rfl rfl ?_
  refine gf2_1 (pc := 1) 26 rfl k273 dX3_fits_1 ?_
  refine gf8_1 (pc := 4) k233 dX3_fits_4 ?_
  refine siN3 (pc := 7) rfl notL_r (by decide) dX3_fits_7 ?_
  refine b_aloadN (pc := 8) 0 dX3_fits_8 rfl rfl ?_
  refine gf2_1 (pc := 9) 26 rfl k273 dX3_fits_9 ?_
  refine gf8_2 (pc := 12) k238 dX3_fits_12 ?_
  refine siG4 (pc := 15) notL_i (by decide) dX3_fits_15 ?_
  refine b_iconst (pc := 17) (nI 0) dX3_fits_17 (by decide) ?_
  refine siG5 (pc := 18) notL_i (by decide) dX3_fits_18 ?_
  rotate_left -- leaf 0: at 20
  -- leaves: 0 at 20
  rw [hB0.2.2.1.1, hB0.2.2.1.2.1]
  exact loop (n + 1) 0 m (by omega) (by omega) (CU.rf C m) rfl
theorem call_X3_fits {E : ME} {Φ : Option AV → AM → Prop} {pc : Nat} {L : List (Option AV)} {st : List AV} {m : AM} {a : Nat × Nat} {idx : Nat} {x0 x1 x2 : AV} (hl : Cond.methodLink E.2.1 idx yX3_fits ∈ TB) (hdep : 5 + 1 ≤ E.2.2.2.2.2.2) (hroom : a.1 + 0 ≤ E.2.2.2.2.1 ∧ a.2 + 0 ≤ E.2.2.2.2.2.1) (hsr : st.length ≤ 4) (hd : decode E.1 pc = .ok (.invokestatic idx, 3)) (hsp : Sp_X3_fits [x0, x1, x2] m (fun r m2 => B E Φ (pc + 3) L (r.toList ++ st) m2 a)) : B E Φ pc L (x2 :: x1 :: x0 :: st) m a := b_callS S_X3_fits [x0, x1, x2] (Or.inl hl) k915 k77 k916 (show _ ∧ _ ∧ Option.map (fun d => d.parameters.length) (parseMethodDescriptor yX3_fits.desc) = some 3 from by decide +kernel) ⟨hdep, by decide⟩ hroom hsr hd hsp
theorem whoK_lt (C : Nat → Nat) (D : Nat → Int32) (n : Nat) : ∀ q, q ≤ 5 → whoK C D n q < 64
  | 0, _ => by simp [whoK]
  | q + 1, h => by
    unfold whoK
    split
    · exact or_lt64 (whoK_lt C D n q (by omega)) (pow_lt64 (by omega))
    · exact whoK_lt C D n q (by omega)
abbrev e_X3_fittingKinds : ME := (cX3_fittingKinds, (RX3, (5, ((some .int), (0, (0, 6))))))
theorem dX3_fittingKinds_0 : decode cX3_fittingKinds 0 = .ok (.iconst 0, 1) := by decide +kernel
theorem dX3_fittingKinds_1 : decode cX3_fittingKinds 1 = .ok (.istore_n 3, 1) := by decide +kernel
theorem dX3_fittingKinds_2 : decode cX3_fittingKinds 2 = .ok (.iconst 1, 1) := by decide +kernel
theorem dX3_fittingKinds_3 : decode cX3_fittingKinds 3 = .ok (.istore 4, 2) := by decide +kernel
theorem dX3_fittingKinds_5 : decode cX3_fittingKinds 5 = .ok (.iload 4, 2) := by decide +kernel
theorem dX3_fittingKinds_7 : decode cX3_fittingKinds 7 = .ok (.iconst 5, 1) := by decide +kernel
theorem dX3_fittingKinds_8 : decode cX3_fittingKinds 8 = .ok (.if_icmp .gt 26, 3) := by decide +kernel
theorem dX3_fittingKinds_11 : decode cX3_fittingKinds 11 = .ok (.aload_n 1, 1) := by decide +kernel
theorem dX3_fittingKinds_12 : decode cX3_fittingKinds 12 = .ok (.iload 4, 2) := by decide +kernel
theorem dX3_fittingKinds_14 : decode cX3_fittingKinds 14 = .ok (.aload_n 2, 1) := by decide +kernel
theorem dX3_fittingKinds_15 : decode cX3_fittingKinds 15 = .ok (.invokestatic 86, 3) := by decide +kernel
theorem dX3_fittingKinds_18 : decode cX3_fittingKinds 18 = .ok (.ifCond .eq 10, 3) := by decide +kernel
theorem dX3_fittingKinds_21 : decode cX3_fittingKinds 21 = .ok (.iload_n 3, 1) := by decide +kernel
theorem dX3_fittingKinds_22 : decode cX3_fittingKinds 22 = .ok (.iconst 1, 1) := by decide +kernel
theorem dX3_fittingKinds_23 : decode cX3_fittingKinds 23 = .ok (.iload 4, 2) := by decide +kernel
theorem dX3_fittingKinds_25 : decode cX3_fittingKinds 25 = .ok (.ishl, 1) := by decide +kernel
theorem dX3_fittingKinds_26 : decode cX3_fittingKinds 26 = .ok (.ior, 1) := by decide +kernel
theorem dX3_fittingKinds_27 : decode cX3_fittingKinds 27 = .ok (.istore_n 3, 1) := by decide +kernel
theorem dX3_fittingKinds_28 : decode cX3_fittingKinds 28 = .ok (.iinc 4 1, 3) := by decide +kernel
theorem dX3_fittingKinds_31 : decode cX3_fittingKinds 31 = .ok (.goto (-26), 3) := by decide +kernel
theorem dX3_fittingKinds_34 : decode cX3_fittingKinds 34 = .ok (.iload_n 3, 1) := by decide +kernel
theorem dX3_fittingKinds_35 : decode cX3_fittingKinds 35 = .ok (.ireturn, 1) := by decide +kernel
def Sp_X3_fittingKinds (av : List AV) (m : AM) (Φ : Option AV → AM → Prop) : Prop := ∃ j, av = [vr 3 103, vr 2 20, vr 12 j] ∧ ∃ C D n, BR m C ∧ m.2.2.1 j = 2 * n ∧ n ≤ 12 ∧ j ≠ 30 ∧ (∀ k, k < 2 * n → m.1 j k = D k) ∧ sayOk C D n ∧ ∀ m2, CU C m m2 → Φ (some (vi (nI (whoK C D n 5)))) m2
set_option maxRecDepth 20000 in
set_option maxHeartbeats 4000000 in
theorem S_X3_fittingKinds : Snd yX3_fittingKinds e_X3_fittingKinds Sp_X3_fittingKinds := by
  refine Snd.of (by decide +kernel) rfl ?_ ?_
  · rintro av m Φ ⟨j, rfl, _⟩; exact Nat.le_of_ble_eq_true rfl
  rintro av m Φ ⟨j, rfl, C, D, n, hB0, hl, hn, hj, hD, hok, h⟩ hav hty
  show B e_X3_fittingKinds Φ 0 [some (vr 3 103), some (vr 2 20), some (vr 12 j), none, none] [] m (0, 0)
  have loop : ∀ e q m2, q + e = 5 → CU C m m2 → B e_X3_fittingKinds Φ 5 [some (vr 3 103), some (vr 2 20), some (vr 12 j), some (vi (nI (whoK C D n q))), some (vi (nI (q + 1)))] [] m2 (0, 0) := by
    intro e
    induction e with
    | zero =>
      intro q m2 h1 hu
      refine b_iloadG (pc := 5) 4 dX3_fittingKinds_5 rfl ?_
      refine b_iconst (pc := 7) (nI 5) dX3_fittingKinds_7 (by decide) ?_
      refine b_icmp_gt (pc := 8) 34 dX3_fittingKinds_8 (by decide) (fun c8 => ?_) (fun c8 => ?_)
      refine b_iloadN (pc := 34) 3 dX3_fittingKinds_34 rfl rfl ?_
      refine b_iret (pc := 35) rfl dX3_fittingKinds_35 ⟨Nat.le_of_ble_eq_true rfl, Nat.le_of_ble_eq_true rfl⟩ ?_
      rotate_left -- leaf 0: return at 35
      rotate_left -- leaf 1: at 11
      -- leaves: 0 return at 35; 1 at 11
      · rw [show q = 5 by omega]; exact h m2 hu
      · rw [n_lt (by omega) (by omega)] at c8; omega
    | succ e ih =>
      intro q m2 h1 hu
      have hB := hB0.cu hu
      have un : whoK C D n (q + 1) = if wkB C (q + 1) D n = true then whoK C D n q ||| 2 ^ (q + 1) else whoK C D n q := rfl
      refine b_iloadG (pc := 5) 4 dX3_fittingKinds_5 rfl ?_
      refine b_iconst (pc := 7) (nI 5) dX3_fittingKinds_7 (by decide) ?_
      refine b_icmp_gt (pc := 8) 34 dX3_fittingKinds_8 (by decide) (fun c8 => ?_) (fun c8 => ?_)
      rotate_left -- leaf 0: at 34
      refine b_aloadN (pc := 11) 1 dX3_fittingKinds_11 rfl rfl ?_
      refine b_iloadG (pc := 12) 4 dX3_fittingKinds_12 rfl ?_
      refine b_aloadN (pc := 14) 2 dX3_fittingKinds_14 rfl rfl ?_
      refine call_X3_fits (pc := 15) k914 (by decide) ⟨Nat.le_of_ble_eq_true rfl, Nat.le_of_ble_eq_true rfl⟩ (Nat.le_of_ble_eq_true rfl) dX3_fittingKinds_15 ?_
      refine ⟨_, _, rfl, C, q + 1, D, n, hB, rfl, ?_, ?_, hn, hj, ?_, hok, fun m15 h15 => ?_⟩
      rotate_left -- leaf 1: kind of X3_fits at 15
      rotate_left -- leaf 2: len of X3_fits at 15
      rotate_left -- leaf 3: dat of X3_fits at 15
      have hB := hB.cu h15
      refine b_if_eq (pc := 18) 28 dX3_fittingKinds_18 (by decide) (fun c18 => ?_) (fun c18 => ?_)
      refine inc4 (pc := 28) notL_i (by decide) dX3_fittingKinds_28 ?_
      refine b_goto (pc := 31) 5 dX3_fittingKinds_31 (by decide) ?_
      rotate_left -- leaf 4: at 5
      refine b_iloadN (pc := 21) 3 dX3_fittingKinds_21 rfl rfl ?_
      refine b_iconst (pc := 22) (nI 1) dX3_fittingKinds_22 (by decide) ?_
      refine b_iloadG (pc := 23) 4 dX3_fittingKinds_23 rfl ?_
      refine b_ishl (pc := 25) dX3_fittingKinds_25 ?_
      refine b_ior (pc := 26) dX3_fittingKinds_26 ?_
      refine siN3 (pc := 27) rfl notL_r (by decide) dX3_fittingKinds_27 ?_
      refine inc4 (pc := 28) notL_i (by decide) dX3_fittingKinds_28 ?_
      refine b_goto (pc := 31) 5 dX3_fittingKinds_31 (by decide) ?_
      rotate_left -- leaf 5: at 5
      -- leaves: 0 at 34; 1 kind of X3_fits at 15; 2 len of X3_fits at 15; 3 dat of X3_fits at 15; 4 at 5; 5 at 5
      · rw [n_lt (by omega) (by omega)] at c8; omega
      · omega
      · rw [hu.two]; exact hl
      · intro k hk
        rw [hu.ne hj]; exact hD k hk
      · have nx := ih (q + 1) m15 (by omega) (hu.tr h15)
        rw [un, bF c18] at nx
        rw [n_inc]
        exact nx
      · have nx := ih (q + 1) m15 (by omega) (hu.tr h15)
        rw [un, if_pos (bT c18)] at nx
        rw [n_pow (by omega), n_or, n_inc]
        exact nx
  refine b_iconst (pc := 0) (nI 0) dX3_fittingKinds_0 (by decide) ?_
  refine siN3 (pc := 1) rfl notL_r (by decide) dX3_fittingKinds_1 ?_
  refine b_iconst (pc := 2) (nI 1) dX3_fittingKinds_2 (by decide) ?_
  refine siG4 (pc := 3) notL_i (by decide) dX3_fittingKinds_3 ?_
  rotate_left -- leaf 0: at 5
  -- leaves: 0 at 5
  exact loop 5 0 m (by omega) (CU.rf C m)
theorem call_X3_fittingKinds {E : ME} {Φ : Option AV → AM → Prop} {pc : Nat} {L : List (Option AV)} {st : List AV} {m : AM} {a : Nat × Nat} {idx : Nat} {x0 x1 : AV} {i : Nat} (hl : Cond.methodLink E.2.1 idx yX3_fittingKinds ∈ TB) (hdep : 6 + 1 ≤ E.2.2.2.2.2.2) (hroom : a.1 + 0 ≤ E.2.2.2.2.1 ∧ a.2 + 0 ≤ E.2.2.2.2.2.1) (hsr : st.length ≤ 4) (hd : decode E.1 pc = .ok (.invokevirtual idx, 3)) (hsp : Sp_X3_fittingKinds [vr 3 i, x0, x1] m (fun r m2 => B E Φ (pc + 3) L (r.toList ++ st) m2 a)) : B E Φ pc L (x1 :: x0 :: vr 3 i :: st) m a := b_callV S_X3_fittingKinds [x0, x1] (RX3, TX3, 4) rfl rfl (by decide) (Or.inl hl) k911 k912 k77 k913 (show _ ∧ _ ∧ Option.map (fun d => d.parameters.length) (parseMethodDescriptor yX3_fittingKinds.desc) = some 2 from by decide +kernel) ⟨hdep, by decide⟩ hroom hsr hd hsp
def whoC (C : Nat → Nat) (p r n : Int32) : Bool := inB p (C 4) && (inB r 8 && (inB n 13 && decide (¬ n = nI 0)))
theorem NewA.old {m m2 : AM} {N : Nat} {g : Nat → Int32} (h : NewA m m2 N g) (hty : TY m) : ∀ a, a < 125 → m2.1 a = m.1 a := fun a ha => (h.2.2.1 a (Nat.lt_of_lt_of_le ha hty.1)).1
/-- what persists, all but the ints of l; arrays may be new -/
def Xt (l : List Nat) (m m2 : AM) : Prop := m2.2.1 = m.2.1 ∧ m.2.2.2 ≤ m2.2.2.2 ∧ (∀ a, a < m.2.2.2 → m2.2.2.1 a = m.2.2.1 a) ∧ ∀ a, a < m.2.2.2 → a ∉ l → m2.1 a = m.1 a
theorem Xt.fr {l : List Nat} {m m2 : AM} (h : Fr l m m2) : Xt l m m2 := ⟨by rw [h.1], Nat.le_of_eq (by rw [h.1]), fun a _ => by rw [h.1], fun a _ hl => h.2 a hl⟩
theorem Xt.nw {l : List Nat} {m m2 : AM} {N : Nat} {g : Nat → Int32} (h : NewA m m2 N g) : Xt l m m2 := ⟨h.1, by rw [h.2.1]; omega, fun a ha => (h.2.2.1 a ha).2, fun a ha _ => (h.2.2.1 a ha).1⟩
theorem Xt.tr {l : List Nat} {m m2 m3 : AM} (h : Xt l m m2) (h2 : Xt l m2 m3) : Xt l m m3 := ⟨h2.1.trans h.1, Nat.le_trans h.2.1 h2.2.1, fun a ha => (h2.2.2.1 a (Nat.lt_of_lt_of_le ha h.2.1)).trans (h.2.2.1 a ha), fun a ha hl => (h2.2.2.2 a (Nat.lt_of_lt_of_le ha h.2.1) hl).trans (h.2.2.2 a ha hl)⟩
theorem Xt.old {l : List Nat} {m m2 : AM} (h : Xt l m m2) (hty : TY m) : ∀ a, a < 125 → a ∉ l → m2.1 a = m.1 a := fun a ha hl => h.2.2.2 a (Nat.lt_of_lt_of_le ha hty.1) hl
theorem nN12 {n : Int32} : (¬ n < nI 1 ∧ n ≤ nI 12) ↔ (inB n 13 && decide (¬ n = nI 0)) = true := by
  constructor
  · rintro ⟨a, b⟩
    rw [i_lt, nI_toInt (by omega)] at a
    rw [i_le, nI_toInt (by omega)] at b
    obtain ⟨j, hj, rfl⟩ := nI_of (show ¬ n < 0 by rw [i_lt, i_0]; omega)
    rw [nI_toInt (by omega)] at a b
    have e2 : ¬ nI j = nI 0 := fun z => by rw [n_eq (by omega) (by omega)] at z; omega
    rw [(inB_iff (by omega)).mpr ⟨j, by omega, rfl⟩, decide_eq_true e2]; rfl
  · intro h
    rw [Bool.and_eq_true] at h
    obtain ⟨j, hj, rfl⟩ := (inB_iff (by omega)).mp h.1
    have q2 := of_decide_eq_true h.2
    rw [n_eq (by omega) (by omega)] at q2
    rw [n_lt (by omega) (by omega), n_le (by omega) (by omega)]
    omega
abbrev e_X10_who : ME := (cX10_who, (RX10, (8, ((some .int), (1, (40, 8))))))
theorem dX10_who_0 : decode cX10_who 0 = .ok (.aload_n 0, 1) := by decide +kernel
theorem dX10_who_1 : decode cX10_who 1 = .ok (.getfield 26, 3) := by decide +kernel
theorem dX10_who_4 : decode cX10_who 4 = .ok (.getfield 127, 3) := by decide +kernel
theorem dX10_who_7 : decode cX10_who 7 = .ok (.iload_n 1, 1) := by decide +kernel
theorem dX10_who_8 : decode cX10_who 8 = .ok (.invokevirtual 147, 3) := by decide +kernel
theorem dX10_who_11 : decode cX10_who 11 = .ok (.ifCond .eq 23, 3) := by decide +kernel
theorem dX10_who_14 : decode cX10_who 14 = .ok (.iload_n 2, 1) := by decide +kernel
theorem dX10_who_15 : decode cX10_who 15 = .ok (.invokestatic 65, 3) := by decide +kernel
theorem dX10_who_18 : decode cX10_who 18 = .ok (.ifCond .eq 16, 3) := by decide +kernel
theorem dX10_who_21 : decode cX10_who 21 = .ok (.iload 4, 2) := by decide +kernel
theorem dX10_who_23 : decode cX10_who 23 = .ok (.iconst 1, 1) := by decide +kernel
theorem dX10_who_24 : decode cX10_who 24 = .ok (.if_icmp .lt 10, 3) := by decide +kernel
theorem dX10_who_27 : decode cX10_who 27 = .ok (.iload 4, 2) := by decide +kernel
theorem dX10_who_29 : decode cX10_who 29 = .ok (.bipush 12, 2) := by decide +kernel
theorem dX10_who_31 : decode cX10_who 31 = .ok (.if_icmp .le 6, 3) := by decide +kernel
theorem dX10_who_34 : decode cX10_who 34 = .ok (.ldc 69, 2) := by decide +kernel
theorem dX10_who_36 : decode cX10_who 36 = .ok (.ireturn, 1) := by decide +kernel
theorem dX10_who_37 : decode cX10_who 37 = .ok (.aload_n 0, 1) := by decide +kernel
theorem dX10_who_38 : decode cX10_who 38 = .ok (.getfield 10, 3) := by decide +kernel
theorem dX10_who_41 : decode cX10_who 41 = .ok (.iload_n 2, 1) := by decide +kernel
theorem dX10_who_42 : decode cX10_who 42 = .ok (.iload_n 3, 1) := by decide +kernel
theorem dX10_who_43 : decode cX10_who 43 = .ok (.iconst 2, 1) := by decide +kernel
theorem dX10_who_44 : decode cX10_who 44 = .ok (.iload 4, 2) := by decide +kernel
theorem dX10_who_46 : decode cX10_who 46 = .ok (.imul, 1) := by decide +kernel
theorem dX10_who_47 : decode cX10_who 47 = .ok (.invokevirtual 81, 3) := by decide +kernel
theorem dX10_who_50 : decode cX10_who 50 = .ok (.istore 5, 2) := by decide +kernel
theorem dX10_who_52 : decode cX10_who 52 = .ok (.iload 5, 2) := by decide +kernel
theorem dX10_who_54 : decode cX10_who 54 = .ok (.ifCond .eq 10, 3) := by decide +kernel
theorem dX10_who_57 : decode cX10_who 57 = .ok (.aload_n 0, 1) := by decide +kernel
theorem dX10_who_58 : decode cX10_who 58 = .ok (.iload 5, 2) := by decide +kernel
theorem dX10_who_60 : decode cX10_who 60 = .ok (.invokevirtual 70, 3) := by decide +kernel
theorem dX10_who_63 : decode cX10_who 63 = .ok (.ireturn, 1) := by decide +kernel
theorem dX10_who_64 : decode cX10_who 64 = .ok (.aload_n 0, 1) := by decide +kernel
theorem dX10_who_65 : decode cX10_who 65 = .ok (.getfield 10, 3) := by decide +kernel
theorem dX10_who_68 : decode cX10_who 68 = .ok (.iload_n 2, 1) := by decide +kernel
theorem dX10_who_69 : decode cX10_who 69 = .ok (.iload_n 3, 1) := by decide +kernel
theorem dX10_who_70 : decode cX10_who 70 = .ok (.iconst 2, 1) := by decide +kernel
theorem dX10_who_71 : decode cX10_who 71 = .ok (.iload 4, 2) := by decide +kernel
theorem dX10_who_73 : decode cX10_who 73 = .ok (.imul, 1) := by decide +kernel
theorem dX10_who_74 : decode cX10_who 74 = .ok (.invokevirtual 250, 3) := by decide +kernel
theorem dX10_who_77 : decode cX10_who 77 = .ok (.astore 6, 2) := by decide +kernel
theorem dX10_who_79 : decode cX10_who 79 = .ok (.iconst 0, 1) := by decide +kernel
theorem dX10_who_80 : decode cX10_who 80 = .ok (.istore 7, 2) := by decide +kernel
theorem dX10_who_82 : decode cX10_who 82 = .ok (.iload 7, 2) := by decide +kernel
theorem dX10_who_84 : decode cX10_who 84 = .ok (.iconst 1, 1) := by decide +kernel
theorem dX10_who_85 : decode cX10_who 85 = .ok (.iadd, 1) := by decide +kernel
theorem dX10_who_86 : decode cX10_who 86 = .ok (.aload 6, 2) := by decide +kernel
theorem dX10_who_88 : decode cX10_who 88 = .ok (.arraylength, 1) := by decide +kernel
theorem dX10_who_89 : decode cX10_who 89 = .ok (.if_icmp .ge 30, 3) := by decide +kernel
theorem dX10_who_92 : decode cX10_who 92 = .ok (.aload_n 0, 1) := by decide +kernel
theorem dX10_who_93 : decode cX10_who 93 = .ok (.getfield 26, 3) := by decide +kernel
theorem dX10_who_96 : decode cX10_who 96 = .ok (.getfield 127, 3) := by decide +kernel
theorem dX10_who_99 : decode cX10_who 99 = .ok (.aload 6, 2) := by decide +kernel
theorem dX10_who_101 : decode cX10_who 101 = .ok (.iload 7, 2) := by decide +kernel
theorem dX10_who_103 : decode cX10_who 103 = .ok (.iaload, 1) := by decide +kernel
theorem dX10_who_104 : decode cX10_who 104 = .ok (.invokevirtual 150, 3) := by decide +kernel
theorem dX10_who_107 : decode cX10_who 107 = .ok (.ifCond .ne 6, 3) := by decide +kernel
theorem dX10_who_110 : decode cX10_who 110 = .ok (.ldc 69, 2) := by decide +kernel
theorem dX10_who_112 : decode cX10_who 112 = .ok (.ireturn, 1) := by decide +kernel
theorem dX10_who_113 : decode cX10_who 113 = .ok (.iinc 7 2, 3) := by decide +kernel
theorem dX10_who_116 : decode cX10_who 116 = .ok (.goto (-34), 3) := by decide +kernel
theorem dX10_who_119 : decode cX10_who 119 = .ok (.aload_n 0, 1) := by decide +kernel
theorem dX10_who_120 : decode cX10_who 120 = .ok (.aload_n 0, 1) := by decide +kernel
theorem dX10_who_121 : decode cX10_who 121 = .ok (.getfield 53, 3) := by decide +kernel
theorem dX10_who_124 : decode cX10_who 124 = .ok (.aload_n 0, 1) := by decide +kernel
theorem dX10_who_125 : decode cX10_who 125 = .ok (.getfield 26, 3) := by decide +kernel
theorem dX10_who_128 : decode cX10_who 128 = .ok (.aload 6, 2) := by decide +kernel
theorem dX10_who_130 : decode cX10_who 130 = .ok (.invokevirtual 264, 3) := by decide +kernel
theorem dX10_who_133 : decode cX10_who 133 = .ok (.invokevirtual 78, 3) := by decide +kernel
theorem dX10_who_136 : decode cX10_who 136 = .ok (.ireturn, 1) := by decide +kernel
def Sp_X10_who (av : List AV) (m : AM) (Φ : Option AV → AM → Prop) : Prop := ∃ p r i n, av = [vr 10 0, vi p, vi r, vi i, vi n] ∧ ∃ C La Ma It, CR m C ∧ RowR m La Ma It ∧ (whoC C p r n = false → Φ (some (vi (-1000001))) m) ∧ (whoC C p r n = true → ∀ k, k = lackN La Ma r.toNatClampNeg i (nI (2 * n.toNatClampNeg)) → ¬ k = 0 → Φ (some (vi (-1000010 - nI k))) (mset m 0 8 (nI k))) ∧ (whoC C p r n = true → lackN La Ma r.toNatClampNeg i (nI (2 * n.toNatClampNeg)) = 0 → ∀ D, D = (fun j => It r.toNatClampNeg (i.toNatClampNeg + j)) → (¬ sayOk C D n.toNatClampNeg → ∀ m2, Xt [] m m2 → Φ (some (vi (-1000001))) m2) ∧ (sayOk C D n.toNatClampNeg → ∀ m2, Xt [0, 30] m m2 → BR m2 C → m2.1 0 8 = nI 0 → Φ (some (vi (nI (whoK C D n.toNatClampNeg 5)))) m2))
set_option maxRecDepth 20000 in
set_option maxHeartbeats 4000000 in
theorem S_X10_who : Snd yX10_who e_X10_who Sp_X10_who := by
  refine Snd.of (by decide +kernel) rfl ?_ ?_
  · rintro av m Φ ⟨p, r, i, n, rfl, _⟩; exact Nat.le_of_ble_eq_true rfl
  rintro av m Φ ⟨p, r, i, n, rfl, C, La, Ma, It, hC, hR, h1, h2, h3⟩ hav hty
  show B e_X10_who Φ 0 [some (vr 10 0), some (vi p), some (vi r), some (vi i), some (vi n), none, none, none] [] m (0, 0)
  have hle := hC.le
  by_cases hc : whoC C p r n = true
  · have hc2 := hc
    unfold whoC at hc2
    rw [Bool.and_eq_true, Bool.and_eq_true] at hc2
    have hn12 := nN12.mpr hc2.2.2
    rw [Bool.and_eq_true] at hc2
    obtain ⟨P, hP, rfl⟩ := (inB_iff (by omega)).mp hc2.1
    obtain ⟨r, hr, rfl⟩ := (inB_iff (by omega)).mp hc2.2.1
    obtain ⟨N, hN, rfl⟩ := (inB_iff (by omega)).mp hc2.2.2.1
    rw [n_cl (show r < 2147483648 by omega), n_cl (show N < 2147483648 by omega)] at h2 h3
    have hB := hC.op (Or.inr (Or.inr (by omega)))
    have hv := hB.1
    have h06 := hv.1
    have hlk := lackN_lt La Ma r i (nI (2 * N))
    have e2n : nI 2 * nI N = nI (2 * N) := n_mul 2 N
    have no9 : ∀ (z : nI (if inB (nI P) (C 4) = true then 1 else 0) = 0), False := fun z => by rw [hc2.1] at z; exact absurd z (by decide)
    have no18 : ∀ (z : nI (if inB (nI r) 8 = true then 1 else 0) = 0), False := fun z => by rw [hc2.2.1] at z; exact absurd z (by decide)
    by_cases hz : lackN La Ma r i (nI (2 * N)) = 0
    · obtain ⟨hl, hfit⟩ := lackN_0.mp hz
      have w := (hR r hr).2 hl
      obtain ⟨I, b, hi, hb, hle2⟩ := fit_to w.2.2.2.1 hfit
      have w40 := w.2.2.2.1
      rw [n_eq (by omega) (by omega)] at hb
      have h4 := h3 hc hz (fun j => It r (I + j)) (by rw [hi, n_cl (by omega)])
      have loop : ∀ m74, NewA m m74 (2 * N) (fun j => It r (I + j)) → ∀ e k o5, N + 1 ≤ k + e → k ≤ N → (∀ j, j < k → inB (It r (I + 2 * j)) (2 * C 0) = true) → B e_X10_who Φ 82 [some (vr 10 0), some (vi (nI P)), some (vi (nI r)), some (vi i), some (vi (nI N)), o5, some (vr 12 m.2.2.2), some (vi (nI (2 * k)))] [] m74 (0 + 1, 0 + 40) := by
        intro m74 nw e
        have hB2 : BR m74 C := hB.fr (fun a h1 h2 => nw.old hty a (by omega))
        have hlen : m74.2.2.1 m.2.2.2 = 2 * N := nw.2.2.2.1
        have h125 := hty.1
        unfold nS at h125
        induction e with
        | zero => intro k o5 z1 z2; omega
        | succ e ih =>
          intro k o5 z1 z2 z3
          by_cases hk : k < N
          · skip
            refine b_iloadG (pc := 82) 7 dX10_who_82 rfl ?_
            refine b_iconst (pc := 84) (nI 1) dX10_who_84 (by decide) ?_
            refine b_iadd (pc := 85) dX10_who_85 ?_
            refine b_aloadG (pc := 86) 6 dX10_who_86 rfl ?_
            refine b_alenD (pc := 88) dX10_who_88 ?_
            refine b_icmp_ge (pc := 89) 119 dX10_who_89 (by decide) (fun c89 => ?_) (fun c89 => ?_)
            rotate_left -- leaf 0: at 119
            refine b_aloadN (pc := 92) 0 dX10_who_92 rfl rfl ?_
            refine gf10_2 (pc := 93) 20 rfl k417 dX10_who_93 ?_
            refine gf2_0 (pc := 96) 21 rfl k269 dX10_who_96 ?_
            refine b_aloadG (pc := 99) 6 dX10_who_99 rfl ?_
            refine b_iloadG (pc := 101) 7 dX10_who_101 rfl ?_
            refine b_ialdD (pc := 103) ?_ dX10_who_103 ?_
            rotate_left -- leaf 1: index at 103
            refine call_X5_isSaying (pc := 104) k646 (by decide) ⟨Nat.le_of_ble_eq_true rfl, Nat.le_of_ble_eq_true rfl⟩ (Nat.le_of_ble_eq_true rfl) dX10_who_104 ?_
            refine ⟨_, rfl, _, hB2.2.1.1, ?_⟩
            refine b_if_ne (pc := 107) 113 dX10_who_107 (by decide) (fun c107 => ?_) (fun c107 => ?_)
            refine inc7 (pc := 113) notL_r (by decide) dX10_who_113 ?_
            refine b_goto (pc := 116) 82 dX10_who_116 (by decide) ?_
            rotate_left -- leaf 2: at 82
            refine b_ldc (pc := 110) k450 dX10_who_110 ?_
            refine b_iret (pc := 112) rfl dX10_who_112 ⟨Nat.le_of_ble_eq_true rfl, Nat.le_of_ble_eq_true rfl⟩ ?_
            rotate_left -- leaf 3: return at 112
            -- leaves: 0 at 119; 1 index at 103; 2 at 82; 3 return at 112
            · have c89 : nI (m74.2.2.1 m.2.2.2) ≤ nI (2 * k) + nI 1 := c89
              rw [hlen, n_add, n_le (by omega) (by omega)] at c89
              omega
            · rw [hlen]; exact n_in (by omega) (by omega)
            · rw [n_cl (by omega), nw.2.2.2.2 (2 * k) (by omega)] at c107
              rw [n_inc2]
              exact ih (k + 1) _ (by omega) (by omega) (fun j hj => by
                rcases Nat.lt_or_ge j k with z | z
                · exact z3 j z
                · rw [show j = k by omega]; exact bT c107)
            · rw [n_cl (by omega), nw.2.2.2.2 (2 * k) (by omega)] at c107
              exact h4.1 (fun ok => by
                have z := ok k hk
                rw [show inB ((fun j => It r (I + j)) (2 * k)) (2 * C 0) = false from bF c107] at z
                cases z) m74 (Xt.nw nw)
          · have e : k = N := by omega
            subst e
            have hok : sayOk C (fun j => It r (I + j)) k := fun j hj => z3 j hj
            refine b_iloadG (pc := 82) 7 dX10_who_82 rfl ?_
            refine b_iconst (pc := 84) (nI 1) dX10_who_84 (by decide) ?_
            refine b_iadd (pc := 85) dX10_who_85 ?_
            refine b_aloadG (pc := 86) 6 dX10_who_86 rfl ?_
            refine b_alenD (pc := 88) dX10_who_88 ?_
            refine b_icmp_ge (pc := 89) 119 dX10_who_89 (by decide) (fun c89 => ?_) (fun c89 => ?_)
            refine b_aloadN (pc := 119) 0 dX10_who_119 rfl rfl ?_
            refine b_aloadN (pc := 120) 0 dX10_who_120 rfl rfl ?_
            refine gf10_6 (pc := 121) 103 rfl k421 dX10_who_121 ?_
            refine b_aloadN (pc := 124) 0 dX10_who_124 rfl rfl ?_
            refine gf10_2 (pc := 125) 20 rfl k417 dX10_who_125 ?_
            refine b_aloadG (pc := 128) 6 dX10_who_128 rfl ?_
            refine call_X3_fittingKinds (pc := 130) k910 (by decide) ⟨Nat.le_of_ble_eq_true rfl, Nat.le_of_ble_eq_true rfl⟩ (Nat.le_of_ble_eq_true rfl) dX10_who_130 ?_
            refine ⟨_, rfl, C, (fun j => It r (I + j)), k, hB2, hlen, ?_, ?_, ?_, hok, fun m130 h130 => ?_⟩
            rotate_left -- leaf 0: n12 of X3_fittingKinds at 130
            rotate_left -- leaf 1: j30 of X3_fittingKinds at 130
            rotate_left -- leaf 2: dat of X3_fittingKinds at 130
            refine call_X10_fine (pc := 133) k460 (by decide) ⟨Nat.le_of_ble_eq_true rfl, Nat.le_of_ble_eq_true rfl⟩ (Nat.le_of_ble_eq_true rfl) dX10_who_133 ?_
            refine ⟨_, rfl, ?_⟩
            refine b_iret (pc := 136) rfl dX10_who_136 ⟨Nat.le_of_ble_eq_true rfl, Nat.le_of_ble_eq_true rfl⟩ ?_
            rotate_left -- leaf 3: return at 136
            rotate_left -- leaf 4: at 92
            -- leaves: 0 n12 of X3_fittingKinds at 130; 1 j30 of X3_fittingKinds at 130; 2 dat of X3_fittingKinds at 130; 3 return at 136; 4 at 92
            · omega
            · omega
            · intro j hj
              exact nw.2.2.2.2 j hj
            · exact h4.2 hok _ (((Xt.nw nw).tr (Xt.fr (h130.fr.mono (by simp)))).tr (Xt.fr ((Fr.rf _ _).ms (by simp)))) ((hB2.cu h130).fr (fun a h1 h2 => mset_ne _ _ _ (by omega))) (by rw [mset_at, if_pos rfl])
            · have c89 : ¬ nI (m74.2.2.1 m.2.2.2) ≤ nI (2 * k) + nI 1 := c89
              rw [hlen, n_add, n_le (by omega) (by omega)] at c89
              omega
      refine b_aloadN (pc := 0) 0 dX10_who_0 rfl rfl ?_
      refine gf10_2 (pc := 1) 20 rfl k417 dX10_who_1 ?_
      refine gf2_0 (pc := 4) 21 rfl k269 dX10_who_4 ?_
      refine b_iloadN (pc := 7) 1 dX10_who_7 rfl rfl ?_
      refine call_X5_isPerson (pc := 8) k642 (by decide) ⟨Nat.le_of_ble_eq_true rfl, Nat.le_of_ble_eq_true rfl⟩ (Nat.le_of_ble_eq_true rfl) dX10_who_8 ?_
      refine ⟨_, rfl, _, hC.num.2.2.2.1, ?_⟩
      refine b_if_eq (pc := 11) 34 dX10_who_11 (by decide) (fun c11 => ?_) (fun c11 => ?_)
      rotate_left -- leaf 0: at 34
      refine b_iloadN (pc := 14) 2 dX10_who_14 rfl rfl ?_
      refine call_X10_isRow (pc := 15) k447 (by decide) ⟨Nat.le_of_ble_eq_true rfl, Nat.le_of_ble_eq_true rfl⟩ (Nat.le_of_ble_eq_true rfl) dX10_who_15 ?_
      refine ⟨_, rfl, ?_⟩
      refine b_if_eq (pc := 18) 34 dX10_who_18 (by decide) (fun c18 => ?_) (fun c18 => ?_)
      rotate_left -- leaf 1: at 34
      refine b_iloadG (pc := 21) 4 dX10_who_21 rfl ?_
      refine b_iconst (pc := 23) (nI 1) dX10_who_23 (by decide) ?_
      refine b_icmp_lt (pc := 24) 34 dX10_who_24 (by decide) (fun c24 => ?_) (fun c24 => ?_)
      rotate_left -- leaf 2: at 34
      refine b_iloadG (pc := 27) 4 dX10_who_27 rfl ?_
      refine b_bipush (pc := 29) (nI 12) dX10_who_29 (by decide) ?_
      refine b_icmp_le (pc := 31) 37 dX10_who_31 (by decide) (fun c31 => ?_) (fun c31 => ?_)
      refine b_aloadN (pc := 37) 0 dX10_who_37 rfl rfl ?_
      refine gf10_0 (pc := 38) 1 rfl k415 dX10_who_38 ?_
      refine b_iloadN (pc := 41) 2 dX10_who_41 rfl rfl ?_
      refine b_iloadN (pc := 42) 3 dX10_who_42 rfl rfl ?_
      refine b_iconst (pc := 43) (nI 2) dX10_who_43 (by decide) ?_
      refine b_iloadG (pc := 44) 4 dX10_who_44 rfl ?_
      refine b_imul (pc := 46) dX10_who_46 ?_
      refine call_X6_lack (pc := 47) k468 (by decide) ⟨Nat.le_of_ble_eq_true rfl, Nat.le_of_ble_eq_true rfl⟩ (Nat.le_of_ble_eq_true rfl) dX10_who_47 ?_
      refine ⟨_, _, _, rfl, La, Ma, It, r, hR, rfl, hr, ?_⟩
      refine siG5 (pc := 50) notL_i (by decide) dX10_who_50 ?_
      refine b_iloadG (pc := 52) 5 dX10_who_52 rfl ?_
      refine b_if_eq (pc := 54) 64 dX10_who_54 (by decide) (fun c54 => ?_) (fun c54 => ?_)
      refine b_aloadN (pc := 64) 0 dX10_who_64 rfl rfl ?_
      refine gf10_0 (pc := 65) 1 rfl k415 dX10_who_65 ?_
      refine b_iloadN (pc := 68) 2 dX10_who_68 rfl rfl ?_
      refine b_iloadN (pc := 69) 3 dX10_who_69 rfl rfl ?_
      refine b_iconst (pc := 70) (nI 2) dX10_who_70 (by decide) ?_
      refine b_iloadG (pc := 71) 4 dX10_who_71 rfl ?_
      refine b_imul (pc := 73) dX10_who_73 ?_
      refine call_X6_itemsFrom (pc := 74) k862 (by decide) ⟨Nat.le_of_ble_eq_true rfl, Nat.le_of_ble_eq_true rfl⟩ (Nat.le_of_ble_eq_true rfl) dX10_who_74 ?_
      refine ⟨_, _, _, rfl, La, Ma, It, r, I, 2 * N, hR, rfl, hi, n_mul 2 N, hr, hl, ?_, ?_, fun m74 nw74 => ?_⟩
      rotate_left -- leaf 3: in of X6_itemsFrom at 74
      rotate_left -- leaf 4: many of X6_itemsFrom at 74
      refine saG6 (pc := 77) notL_i (by decide) dX10_who_77 ?_
      refine b_iconst (pc := 79) (nI 0) dX10_who_79 (by decide) ?_
      refine siG7 (pc := 80) notL_r (by decide) dX10_who_80 ?_
      rotate_left -- leaf 5: at 82
      rotate_left -- leaf 6: at 57
      rotate_left -- leaf 7: at 34
      -- leaves: 0 at 34; 1 at 34; 2 at 34; 3 in of X6_itemsFrom at 74; 4 many of X6_itemsFrom at 74; 5 at 82; 6 at 57; 7 at 34
      · exact (no9 c11).elim
      · exact (no18 c18).elim
      · exact absurd c24 hn12.1
      · omega
      · omega
      · exact loop m74 nw74 (N + 1) 0 _ (by omega) (by omega) (fun j hj => absurd hj (Nat.not_lt_zero j))
      · rw [e2n, n_eq0 (by omega)] at c54
        exact absurd hz c54
      · exact absurd hn12.2 c31
    · have bad := h2 hc _ rfl hz
      refine b_aloadN (pc := 0) 0 dX10_who_0 rfl rfl ?_
      refine gf10_2 (pc := 1) 20 rfl k417 dX10_who_1 ?_
      refine gf2_0 (pc := 4) 21 rfl k269 dX10_who_4 ?_
      refine b_iloadN (pc := 7) 1 dX10_who_7 rfl rfl ?_
      refine call_X5_isPerson (pc := 8) k642 (by decide) ⟨Nat.le_of_ble_eq_true rfl, Nat.le_of_ble_eq_true rfl⟩ (Nat.le_of_ble_eq_true rfl) dX10_who_8 ?_
      refine ⟨_, rfl, _, hC.num.2.2.2.1, ?_⟩
      refine b_if_eq (pc := 11) 34 dX10_who_11 (by decide) (fun c11 => ?_) (fun c11 => ?_)
      rotate_left -- leaf 0: at 34
      refine b_iloadN (pc := 14) 2 dX10_who_14 rfl rfl ?_
      refine call_X10_isRow (pc := 15) k447 (by decide) ⟨Nat.le_of_ble_eq_true rfl, Nat.le_of_ble_eq_true rfl⟩ (Nat.le_of_ble_eq_true rfl) dX10_who_15 ?_
      refine ⟨_, rfl, ?_⟩
      refine b_if_eq (pc := 18) 34 dX10_who_18 (by decide) (fun c18 => ?_) (fun c18 => ?_)
      rotate_left -- leaf 1: at 34
      refine b_iloadG (pc := 21) 4 dX10_who_21 rfl ?_
      refine b_iconst (pc := 23) (nI 1) dX10_who_23 (by decide) ?_
      refine b_icmp_lt (pc := 24) 34 dX10_who_24 (by decide) (fun c24 => ?_) (fun c24 => ?_)
      rotate_left -- leaf 2: at 34
      refine b_iloadG (pc := 27) 4 dX10_who_27 rfl ?_
      refine b_bipush (pc := 29) (nI 12) dX10_who_29 (by decide) ?_
      refine b_icmp_le (pc := 31) 37 dX10_who_31 (by decide) (fun c31 => ?_) (fun c31 => ?_)
      refine b_aloadN (pc := 37) 0 dX10_who_37 rfl rfl ?_
      refine gf10_0 (pc := 38) 1 rfl k415 dX10_who_38 ?_
      refine b_iloadN (pc := 41) 2 dX10_who_41 rfl rfl ?_
      refine b_iloadN (pc := 42) 3 dX10_who_42 rfl rfl ?_
      refine b_iconst (pc := 43) (nI 2) dX10_who_43 (by decide) ?_
      refine b_iloadG (pc := 44) 4 dX10_who_44 rfl ?_
      refine b_imul (pc := 46) dX10_who_46 ?_
      refine call_X6_lack (pc := 47) k468 (by decide) ⟨Nat.le_of_ble_eq_true rfl, Nat.le_of_ble_eq_true rfl⟩ (Nat.le_of_ble_eq_true rfl) dX10_who_47 ?_
      refine ⟨_, _, _, rfl, La, Ma, It, r, hR, rfl, hr, ?_⟩
      refine siG5 (pc := 50) notL_i (by decide) dX10_who_50 ?_
      refine b_iloadG (pc := 52) 5 dX10_who_52 rfl ?_
      refine b_if_eq (pc := 54) 64 dX10_who_54 (by decide) (fun c54 => ?_) (fun c54 => ?_)
      rotate_left -- leaf 3: at 64
      refine b_aloadN (pc := 57) 0 dX10_who_57 rfl rfl ?_
      refine b_iloadG (pc := 58) 5 dX10_who_58 rfl ?_
      refine call_X10_found (pc := 60) k451 (by decide) ⟨Nat.le_of_ble_eq_true rfl, Nat.le_of_ble_eq_true rfl⟩ (Nat.le_of_ble_eq_true rfl) dX10_who_60 ?_
      refine ⟨_, rfl, ?_⟩
      refine b_iret (pc := 63) rfl dX10_who_63 ⟨Nat.le_of_ble_eq_true rfl, Nat.le_of_ble_eq_true rfl⟩ ?_
      rotate_left -- leaf 4: return at 63
      rotate_left -- leaf 5: at 34
      -- leaves: 0 at 34; 1 at 34; 2 at 34; 3 at 64; 4 return at 63; 5 at 34
      · exact (no9 c11).elim
      · exact (no18 c18).elim
      · exact absurd c24 hn12.1
      · rw [e2n, n_eq0 (by omega)] at c54
        exact absurd c54 hz
      · rw [e2n]; exact bad
      · exact absurd hn12.2 c31
  · have e : whoC C p r n = false := by
      cases q : whoC C p r n
      · rfl
      · exact absurd q hc
    have bad := h1 e
    refine b_aloadN (pc := 0) 0 dX10_who_0 rfl rfl ?_
    refine gf10_2 (pc := 1) 20 rfl k417 dX10_who_1 ?_
    refine gf2_0 (pc := 4) 21 rfl k269 dX10_who_4 ?_
    refine b_iloadN (pc := 7) 1 dX10_who_7 rfl rfl ?_
    refine call_X5_isPerson (pc := 8) k642 (by decide) ⟨Nat.le_of_ble_eq_true rfl, Nat.le_of_ble_eq_true rfl⟩ (Nat.le_of_ble_eq_true rfl) dX10_who_8 ?_
    refine ⟨_, rfl, _, hC.num.2.2.2.1, ?_⟩
    refine b_if_eq (pc := 11) 34 dX10_who_11 (by decide) (fun c11 => ?_) (fun c11 => ?_)
    refine b_ldc (pc := 34) k450 dX10_who_34 ?_
    refine b_iret (pc := 36) rfl dX10_who_36 ⟨Nat.le_of_ble_eq_true rfl, Nat.le_of_ble_eq_true rfl⟩ ?_
    rotate_left -- leaf 0: return at 36
    refine b_iloadN (pc := 14) 2 dX10_who_14 rfl rfl ?_
    refine call_X10_isRow (pc := 15) k447 (by decide) ⟨Nat.le_of_ble_eq_true rfl, Nat.le_of_ble_eq_true rfl⟩ (Nat.le_of_ble_eq_true rfl) dX10_who_15 ?_
    refine ⟨_, rfl, ?_⟩
    refine b_if_eq (pc := 18) 34 dX10_who_18 (by decide) (fun c18 => ?_) (fun c18 => ?_)
    refine b_ldc (pc := 34) k450 dX10_who_34 ?_
    refine b_iret (pc := 36) rfl dX10_who_36 ⟨Nat.le_of_ble_eq_true rfl, Nat.le_of_ble_eq_true rfl⟩ ?_
    rotate_left -- leaf 1: return at 36
    refine b_iloadG (pc := 21) 4 dX10_who_21 rfl ?_
    refine b_iconst (pc := 23) (nI 1) dX10_who_23 (by decide) ?_
    refine b_icmp_lt (pc := 24) 34 dX10_who_24 (by decide) (fun c24 => ?_) (fun c24 => ?_)
    refine b_ldc (pc := 34) k450 dX10_who_34 ?_
    refine b_iret (pc := 36) rfl dX10_who_36 ⟨Nat.le_of_ble_eq_true rfl, Nat.le_of_ble_eq_true rfl⟩ ?_
    rotate_left -- leaf 2: return at 36
    refine b_iloadG (pc := 27) 4 dX10_who_27 rfl ?_
    refine b_bipush (pc := 29) (nI 12) dX10_who_29 (by decide) ?_
    refine b_icmp_le (pc := 31) 37 dX10_who_31 (by decide) (fun c31 => ?_) (fun c31 => ?_)
    rotate_left -- leaf 3: at 37
    refine b_ldc (pc := 34) k450 dX10_who_34 ?_
    refine b_iret (pc := 36) rfl dX10_who_36 ⟨Nat.le_of_ble_eq_true rfl, Nat.le_of_ble_eq_true rfl⟩ ?_
    rotate_left -- leaf 4: return at 36
    -- leaves: 0 return at 36; 1 return at 36; 2 return at 36; 3 at 37; 4 return at 36
    · exact bad
    · exact bad
    · exact bad
    · exact absurd (by unfold whoC; rw [bT c11, bT c18, nN12.mp ⟨c24, c31⟩]; rfl) hc
    · exact bad
theorem call_X10_who {E : ME} {Φ : Option AV → AM → Prop} {pc : Nat} {L : List (Option AV)} {st : List AV} {m : AM} {a : Nat × Nat} {idx : Nat} {x0 x1 x2 x3 : AV} {i : Nat} (hl : Cond.methodLink E.2.1 idx yX10_who ∈ TB) (hdep : 8 + 1 ≤ E.2.2.2.2.2.2) (hroom : a.1 + 1 ≤ E.2.2.2.2.1 ∧ a.2 + 40 ≤ E.2.2.2.2.2.1) (hsr : st.length ≤ 4) (hd : decode E.1 pc = .ok (.invokevirtual idx, 3)) (hsp : Sp_X10_who [vr 10 i, x0, x1, x2, x3] m (fun r m2 => B E Φ (pc + 3) L (r.toList ++ st) m2 (a.1 + 1, a.2 + 40))) : B E Φ pc L (x3 :: x2 :: x1 :: x0 :: vr 10 i :: st) m a := b_callV S_X10_who [x0, x1, x2, x3] (RX10, TX10, 9) rfl rfl (by decide) (Or.inl hl) k907 k908 k68 k909 (show _ ∧ _ ∧ Option.map (fun d => d.parameters.length) (parseMethodDescriptor yX10_who.desc) = some 4 from by decide +kernel) ⟨hdep, by decide⟩ hroom hsr hd hsp
