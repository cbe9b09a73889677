/-! the reference reads: number, begin, isTold, readRule, failed -/
def numP (T : Nat → Nat) (n lo hi : Nat) (x : Except (Nat × Nat) Nat) : Except (Nat × Nat) Nat := bnd x fun p => bnd (tknN T n lo hi p) fun q => .ok q.2
theorem n_some {T : Nat → Nat} {n lo hi p w : Nat} (h : numO T n p = some w) : tknN T n lo hi p = if lo ≤ w ∧ w ≤ hi then .ok (w, bhdN T n p) else .error (2, p) := by
  unfold tknN
  rw [h]
theorem n_none {T : Nat → Nat} {n lo hi p : Nat} (h : numO T n p = none) : tknN T n lo hi p = .error (1, p) := by
  unfold tknN
  rw [h]
theorem inNN {a lo hi : Nat} (ha : a < 2147483648) (hl : lo < 2147483648) (hh : hi < 2147483648) : nI (if (nI lo).toInt64.toInt ≤ (nI a).toInt64.toInt ∧ (nI a).toInt64.toInt ≤ (nI hi).toInt64.toInt then 1 else 0) = 0 ↔ ¬ (lo ≤ a ∧ a ≤ hi) := in0 ha (by rw [Int32.toInt_toInt64, nI_toInt hl]) (by rw [Int32.toInt_toInt64, nI_toInt hh])
abbrev e_X11_number : ME := (cX11_number, (RX11, (4, ((some .int), (0, (0, 6))))))
theorem dX11_number_0 : decode cX11_number 0 = .ok (.aload_n 0, 1) := by decide +kernel
theorem dX11_number_1 : decode cX11_number 1 = .ok (.getfield 84, 3) := by decide +kernel
theorem dX11_number_4 : decode cX11_number 4 = .ok (.ifCond .ne 16, 3) := by decide +kernel
theorem dX11_number_7 : decode cX11_number 7 = .ok (.aload_n 0, 1) := by decide +kernel
theorem dX11_number_8 : decode cX11_number 8 = .ok (.getfield 108, 3) := by decide +kernel
theorem dX11_number_11 : decode cX11_number 11 = .ok (.iconst 3, 1) := by decide +kernel
theorem dX11_number_12 : decode cX11_number 12 = .ok (.if_icmp .eq 8, 3) := by decide +kernel
theorem dX11_number_15 : decode cX11_number 15 = .ok (.aload_n 0, 1) := by decide +kernel
theorem dX11_number_16 : decode cX11_number 16 = .ok (.iconst 1, 1) := by decide +kernel
theorem dX11_number_17 : decode cX11_number 17 = .ok (.invokevirtual 111, 3) := by decide +kernel
theorem dX11_number_20 : decode cX11_number 20 = .ok (.aload_n 0, 1) := by decide +kernel
theorem dX11_number_21 : decode cX11_number 21 = .ok (.getfield 84, 3) := by decide +kernel
theorem dX11_number_24 : decode cX11_number 24 = .ok (.ifCond .ne 23, 3) := by decide +kernel
theorem dX11_number_27 : decode cX11_number 27 = .ok (.aload_n 0, 1) := by decide +kernel
theorem dX11_number_28 : decode cX11_number 28 = .ok (.getfield 97, 3) := by decide +kernel
theorem dX11_number_31 : decode cX11_number 31 = .ok (.i2l, 1) := by decide +kernel
theorem dX11_number_32 : decode cX11_number 32 = .ok (.iload_n 1, 1) := by decide +kernel
theorem dX11_number_33 : decode cX11_number 33 = .ok (.i2l, 1) := by decide +kernel
theorem dX11_number_34 : decode cX11_number 34 = .ok (.iload_n 2, 1) := by decide +kernel
theorem dX11_number_35 : decode cX11_number 35 = .ok (.i2l, 1) := by decide +kernel
theorem dX11_number_36 : decode cX11_number 36 = .ok (.invokestatic 63, 3) := by decide +kernel
theorem dX11_number_39 : decode cX11_number 39 = .ok (.ifCond .ne 8, 3) := by decide +kernel
theorem dX11_number_42 : decode cX11_number 42 = .ok (.aload_n 0, 1) := by decide +kernel
theorem dX11_number_43 : decode cX11_number 43 = .ok (.iconst 2, 1) := by decide +kernel
theorem dX11_number_44 : decode cX11_number 44 = .ok (.invokevirtual 111, 3) := by decide +kernel
theorem dX11_number_47 : decode cX11_number 47 = .ok (.aload_n 0, 1) := by decide +kernel
theorem dX11_number_48 : decode cX11_number 48 = .ok (.getfield 84, 3) := by decide +kernel
theorem dX11_number_51 : decode cX11_number 51 = .ok (.ifCond .ne 10, 3) := by decide +kernel
theorem dX11_number_54 : decode cX11_number 54 = .ok (.aload_n 0, 1) := by decide +kernel
theorem dX11_number_55 : decode cX11_number 55 = .ok (.getfield 97, 3) := by decide +kernel
theorem dX11_number_58 : decode cX11_number 58 = .ok (.goto 4, 3) := by decide +kernel
theorem dX11_number_61 : decode cX11_number 61 = .ok (.iload_n 1, 1) := by decide +kernel
theorem dX11_number_62 : decode cX11_number 62 = .ok (.istore_n 3, 1) := by decide +kernel
theorem dX11_number_63 : decode cX11_number 63 = .ok (.aload_n 0, 1) := by decide +kernel
theorem dX11_number_64 : decode cX11_number 64 = .ok (.iconst 1, 1) := by decide +kernel
theorem dX11_number_65 : decode cX11_number 65 = .ok (.invokevirtual 118, 3) := by decide +kernel
theorem dX11_number_68 : decode cX11_number 68 = .ok (.iload_n 3, 1) := by decide +kernel
theorem dX11_number_69 : decode cX11_number 69 = .ok (.ireturn, 1) := by decide +kernel
def Sp_X11_number (av : List AV) (m : AM) (Φ : Option AV → AM → Prop) : Prop := ∃ y z, av = [vr 11 110, vi y, vi z] ∧ ∃ T n x lo hi, TapM m T n ∧ RdS m T n x ∧ (∀ p, x = .ok p → y = nI lo ∧ z = nI hi ∧ lo < 256 ∧ hi < 256) ∧ ∀ v m2, Fm [] rdL m m2 → RdS m2 T n (numP T n lo hi x) → (∀ p w q, x = .ok p → tknN T n lo hi p = .ok (w, q) → v = nI w) → Φ (some (vi v)) m2
set_option maxRecDepth 20000 in
set_option maxHeartbeats 4000000 in
theorem S_X11_number : Snd yX11_number e_X11_number Sp_X11_number := by
  refine Snd.of (by decide +kernel) rfl ?_ ?_
  · rintro av m Φ ⟨y, z, rfl, _⟩; exact Nat.le_of_ble_eq_true rfl
  rintro av m Φ ⟨y, z, rfl, T, n, x, lo, hi, hT, hR, hlh, h⟩ hav hty
  show B e_X11_number Φ 0 [some (vr 11 110), some (vi y), some (vi z), none] [] m (0, 0)
  have s47e : ∀ M e, RdS M T n (.error e) → Fm [] rdL m M → numP T n lo hi x = .error e → (∀ p w q, x = .ok p → ¬ tknN T n lo hi p = .ok (w, q)) → B e_X11_number Φ 47 [some (vr 11 110), some (vi y), some (vi z), none] [] M (0, 0) := by
    intro M e hRM hF hE hno
    have h1 := hRM.1
    refine b_aloadN (pc := 47) 0 dX11_number_47 rfl rfl ?_
    refine gf11_15 (pc := 48) k1057 dX11_number_48 ?_
    refine b_if_ne (pc := 51) 61 dX11_number_51 (by decide) (fun c51 => ?_) (fun c51 => ?_)
    refine b_iloadN (pc := 61) 1 dX11_number_61 rfl rfl ?_
    refine siN3 (pc := 62) rfl notL_i (by decide) dX11_number_62 ?_
    refine b_aloadN (pc := 63) 0 dX11_number_63 rfl rfl ?_
    refine b_iconst (pc := 64) (nI 1) dX11_number_64 (by decide) ?_
    refine call_X11_must (pc := 65) k1189 (by decide) ⟨Nat.le_of_ble_eq_true rfl, Nat.le_of_ble_eq_true rfl⟩ (Nat.le_of_ble_eq_true rfl) dX11_number_65 ?_
    refine ⟨_, rfl, T, n, .error e, true, hT.fm hF (by decide) (by decide), hRM, rfl, fun m65 fm65 rd65 => ?_⟩
    refine b_iloadN (pc := 68) 3 dX11_number_68 rfl rfl ?_
    refine b_iret (pc := 69) rfl dX11_number_69 ⟨Nat.le_of_ble_eq_true rfl, Nat.le_of_ble_eq_true rfl⟩ ?_
    rotate_left -- leaf 0: return at 69
    rotate_left -- leaf 1: at 54
    -- leaves: 0 return at 69; 1 at 54
    · exact h _ m65 (hF.tr fm65) (by rw [hE]; exact rd65) (fun p w q a b => absurd b (hno p w q a))
    · rw [hRM.2.1, n_eq0 (by omega)] at c51
      omega
  have s20e : ∀ M e, RdS M T n (.error e) → Fm [] rdL m M → numP T n lo hi x = .error e → (∀ p w q, x = .ok p → ¬ tknN T n lo hi p = .ok (w, q)) → B e_X11_number Φ 20 [some (vr 11 110), some (vi y), some (vi z), none] [] M (0, 0) := by
    intro M e hRM hF hE hno
    have h1 := hRM.1
    refine b_aloadN (pc := 20) 0 dX11_number_20 rfl rfl ?_
    refine gf11_15 (pc := 21) k1057 dX11_number_21 ?_
    refine b_if_ne (pc := 24) 47 dX11_number_24 (by decide) (fun c24 => ?_) (fun c24 => ?_)
    rotate_left -- leaf 0: at 47
    rotate_left -- leaf 1: at 27
    -- leaves: 0 at 47; 1 at 27
    · exact s47e M e hRM hF hE hno
    · rw [hRM.2.1, n_eq0 (by omega)] at c24
      omega
  cases x with
  | error e =>
    have h1 := hR.1
    refine b_aloadN (pc := 0) 0 dX11_number_0 rfl rfl ?_
    refine gf11_15 (pc := 1) k1057 dX11_number_1 ?_
    refine b_if_ne (pc := 4) 20 dX11_number_4 (by decide) (fun c4 => ?_) (fun c4 => ?_)
    rotate_left -- leaf 0: at 20
    rotate_left -- leaf 1: at 7
    -- leaves: 0 at 20; 1 at 7
    · exact s20e m e hR (Fm.rf _ _ m) rfl (fun p w q a => by cases a)
    · rw [hR.2.1, n_eq0 (by omega)] at c4
      omega
  | ok p =>
    obtain ⟨rfl, rfl, hlo, hhi⟩ := hlh p rfl
    have tk := tkQ (T := T) (n := n) p
    cases hN : numO T n p with
    | none =>
      have hE : tknN T n lo hi p = .error (1, p) := n_none hN
      refine b_aloadN (pc := 0) 0 dX11_number_0 rfl rfl ?_
      refine gf11_15 (pc := 1) k1057 dX11_number_1 ?_
      refine b_if_ne (pc := 4) 20 dX11_number_4 (by decide) (fun c4 => ?_) (fun c4 => ?_)
      rotate_left -- leaf 0: at 20
      refine b_aloadN (pc := 7) 0 dX11_number_7 rfl rfl ?_
      refine gf11_13 (pc := 8) k1055 dX11_number_8 ?_
      refine b_iconst (pc := 11) (nI 3) dX11_number_11 (by decide) ?_
      refine b_icmp_eq (pc := 12) 20 dX11_number_12 (by decide) (fun c12 => ?_) (fun c12 => ?_)
      rotate_left -- leaf 1: at 20
      refine b_aloadN (pc := 15) 0 dX11_number_15 rfl rfl ?_
      refine b_iconst (pc := 16) (nI 1) dX11_number_16 (by decide) ?_
      refine call_X11_bad (pc := 17) k1193 (by decide) ⟨Nat.le_of_ble_eq_true rfl, Nat.le_of_ble_eq_true rfl⟩ (Nat.le_of_ble_eq_true rfl) dX11_number_17 ?_
      refine ⟨_, rfl, T, n, .ok p, _, hR, rfl, by decide, fun m17 fm17 rd17 => ?_⟩
      rotate_left -- leaf 2: at 20
      -- leaves: 0 at 20; 1 at 20; 2 at 20
      · exact absurd hR.2.1 c4
      · rw [hR.2.2.2.2.1, n_eq (by omega) (by omega), tk.2.2.1] at c12
        obtain ⟨v, z⟩ := c12
        rw [hN] at z
        cases z
      · refine s20e m17 (1, p) rd17 (fm17.mono (fun a z => z) (fun a z => by simp at z; simp; omega)) (by unfold numP; rw [bndR_ok rfl, hE]; rfl) (fun p' w q a b => ?_)
        cases a
        rw [hE] at b
        cases b
    | some w =>
      have hw := num_lt (fun k hk => (hT.2.2 k hk).2) hT.2.1 hN
      have t3 := tk.2.2.1.mpr ⟨w, hN⟩
      have hv := hR.2.2.2.2.2.2 w hN
      have s20 : B e_X11_number Φ 20 [some (vr 11 110), some (vi (nI lo)), some (vi (nI hi)), none] [] m (0, 0) := by
        by_cases q : lo ≤ w ∧ w ≤ hi
        · have hE : tknN T n lo hi p = .ok (w, bhdN T n p) := by rw [n_some hN, if_pos q]
          refine b_aloadN (pc := 20) 0 dX11_number_20 rfl rfl ?_
          refine gf11_15 (pc := 21) k1057 dX11_number_21 ?_
          refine b_if_ne (pc := 24) 47 dX11_number_24 (by decide) (fun c24 => ?_) (fun c24 => ?_)
          refine b_aloadN (pc := 47) 0 dX11_number_47 rfl rfl ?_
          refine gf11_15 (pc := 48) k1057 dX11_number_48 ?_
          refine b_if_ne (pc := 51) 61 dX11_number_51 (by decide) (fun c51 => ?_) (fun c51 => ?_)
          rotate_left -- leaf 0: at 61
          refine b_aloadN (pc := 54) 0 dX11_number_54 rfl rfl ?_
          refine gf11_14 (pc := 55) k1056 dX11_number_55 ?_
          refine b_goto (pc := 58) 62 dX11_number_58 (by decide) ?_
          refine siN3 (pc := 62) rfl notL_i (by decide) dX11_number_62 ?_
          refine b_aloadN (pc := 63) 0 dX11_number_63 rfl rfl ?_
          refine b_iconst (pc := 64) (nI 1) dX11_number_64 (by decide) ?_
          refine call_X11_must (pc := 65) k1189 (by decide) ⟨Nat.le_of_ble_eq_true rfl, Nat.le_of_ble_eq_true rfl⟩ (Nat.le_of_ble_eq_true rfl) dX11_number_65 ?_
          refine ⟨_, rfl, T, n, .ok p, true, hT, hR, rfl, fun m65 fm65 rd65 => ?_⟩
          refine b_iloadN (pc := 68) 3 dX11_number_68 rfl rfl ?_
          refine b_iret (pc := 69) rfl dX11_number_69 ⟨Nat.le_of_ble_eq_true rfl, Nat.le_of_ble_eq_true rfl⟩ ?_
          rotate_left -- leaf 1: return at 69
          refine b_aloadN (pc := 27) 0 dX11_number_27 rfl rfl ?_
          refine gf11_14 (pc := 28) k1056 dX11_number_28 ?_
          refine b_i2l (pc := 31) dX11_number_31 ?_
          refine b_iloadN (pc := 32) 1 dX11_number_32 rfl rfl ?_
          refine b_i2l (pc := 33) dX11_number_33 ?_
          refine b_iloadN (pc := 34) 2 dX11_number_34 rfl rfl ?_
          refine b_i2l (pc := 35) dX11_number_35 ?_
          refine call_X11_in (pc := 36) k1136 (by decide) ⟨Nat.le_of_ble_eq_true rfl, Nat.le_of_ble_eq_true rfl⟩ (Nat.le_of_ble_eq_true rfl) dX11_number_36 ?_
          refine ⟨_, _, _, rfl, ?_⟩
          refine b_if_ne (pc := 39) 47 dX11_number_39 (by decide) (fun c39 => ?_) (fun c39 => ?_)
          refine b_aloadN (pc := 47) 0 dX11_number_47 rfl rfl ?_
          refine gf11_15 (pc := 48) k1057 dX11_number_48 ?_
          refine b_if_ne (pc := 51) 61 dX11_number_51 (by decide) (fun c51 => ?_) (fun c51 => ?_)
          rotate_left -- leaf 2: at 61
          refine b_aloadN (pc := 54) 0 dX11_number_54 rfl rfl ?_
          refine gf11_14 (pc := 55) k1056 dX11_number_55 ?_
          refine b_goto (pc := 58) 62 dX11_number_58 (by decide) ?_
          refine siN3 (pc := 62) rfl notL_i (by decide) dX11_number_62 ?_
          refine b_aloadN (pc := 63) 0 dX11_number_63 rfl rfl ?_
          refine b_iconst (pc := 64) (nI 1) dX11_number_64 (by decide) ?_
          refine call_X11_must (pc := 65) k1189 (by decide) ⟨Nat.le_of_ble_eq_true rfl, Nat.le_of_ble_eq_true rfl⟩ (Nat.le_of_ble_eq_true rfl) dX11_number_65 ?_
          refine ⟨_, rfl, T, n, .ok p, true, hT, hR, rfl, fun m65 fm65 rd65 => ?_⟩
          refine b_iloadN (pc := 68) 3 dX11_number_68 rfl rfl ?_
          refine b_iret (pc := 69) rfl dX11_number_69 ⟨Nat.le_of_ble_eq_true rfl, Nat.le_of_ble_eq_true rfl⟩ ?_
          rotate_left -- leaf 3: return at 69
          rotate_left -- leaf 4: at 42
          -- leaves: 0 at 61; 1 return at 69; 2 at 61; 3 return at 69; 4 at 42
          · exact absurd hR.2.1 c24
          · exact absurd hR.2.1 c24
          · exact absurd hR.2.1 c51
          · rw [hv]
            refine h _ m65 fm65 ?_ (fun p' w' q' a b => ?_)
            · have e2 : numP T n lo hi (.ok p) = .ok (bhdN T n p) := by
                unfold numP
                rw [bndR_ok rfl, hE]
                rfl
              rw [e2]
              exact rd65
            · cases a
              rw [hE] at b
              cases b
              rfl
          · rw [hv, inNN (by omega) (by omega) (by omega)] at c39
            exact absurd q c39
        · have hE : tknN T n lo hi p = .error (2, p) := by rw [n_some hN, if_neg q]
          refine b_aloadN (pc := 20) 0 dX11_number_20 rfl rfl ?_
          refine gf11_15 (pc := 21) k1057 dX11_number_21 ?_
          refine b_if_ne (pc := 24) 47 dX11_number_24 (by decide) (fun c24 => ?_) (fun c24 => ?_)
          rotate_left -- leaf 0: at 47
          refine b_aloadN (pc := 27) 0 dX11_number_27 rfl rfl ?_
          refine gf11_14 (pc := 28) k1056 dX11_number_28 ?_
          refine b_i2l (pc := 31) dX11_number_31 ?_
          refine b_iloadN (pc := 32) 1 dX11_number_32 rfl rfl ?_
          refine b_i2l (pc := 33) dX11_number_33 ?_
          refine b_iloadN (pc := 34) 2 dX11_number_34 rfl rfl ?_
          refine b_i2l (pc := 35) dX11_number_35 ?_
          refine call_X11_in (pc := 36) k1136 (by decide) ⟨Nat.le_of_ble_eq_true rfl, Nat.le_of_ble_eq_true rfl⟩ (Nat.le_of_ble_eq_true rfl) dX11_number_36 ?_
          refine ⟨_, _, _, rfl, ?_⟩
          refine b_if_ne (pc := 39) 47 dX11_number_39 (by decide) (fun c39 => ?_) (fun c39 => ?_)
          rotate_left -- leaf 1: at 47
          refine b_aloadN (pc := 42) 0 dX11_number_42 rfl rfl ?_
          refine b_iconst (pc := 43) (nI 2) dX11_number_43 (by decide) ?_
          refine call_X11_bad (pc := 44) k1193 (by decide) ⟨Nat.le_of_ble_eq_true rfl, Nat.le_of_ble_eq_true rfl⟩ (Nat.le_of_ble_eq_true rfl) dX11_number_44 ?_
          refine ⟨_, rfl, T, n, .ok p, _, hR, rfl, by decide, fun m44 fm44 rd44 => ?_⟩
          rotate_left -- leaf 2: at 47
          -- leaves: 0 at 47; 1 at 47; 2 at 47
          · exact absurd hR.2.1 c24
          · rw [hv, inNN (by omega) (by omega) (by omega)] at c39
            exact absurd (Decidable.not_not.mp c39) q
          · refine s47e m44 (2, p) rd44 (fm44.mono (fun a z => z) (fun a z => by simp at z; simp; omega)) (by unfold numP; rw [bndR_ok rfl, hE]; rfl) (fun p' w q a b => ?_)
            cases a
            rw [hE] at b
            cases b
      refine b_aloadN (pc := 0) 0 dX11_number_0 rfl rfl ?_
      refine gf11_15 (pc := 1) k1057 dX11_number_1 ?_
      refine b_if_ne (pc := 4) 20 dX11_number_4 (by decide) (fun c4 => ?_) (fun c4 => ?_)
      rotate_left -- leaf 0: at 20
      refine b_aloadN (pc := 7) 0 dX11_number_7 rfl rfl ?_
      refine gf11_13 (pc := 8) k1055 dX11_number_8 ?_
      refine b_iconst (pc := 11) (nI 3) dX11_number_11 (by decide) ?_
      refine b_icmp_eq (pc := 12) 20 dX11_number_12 (by decide) (fun c12 => ?_) (fun c12 => ?_)
      rotate_left -- leaf 1: at 20
      rotate_left -- leaf 2: at 15
      -- leaves: 0 at 20; 1 at 20; 2 at 15
      · exact absurd hR.2.1 c4
      · exact s20
      · rw [hR.2.2.2.2.1, n_eq (by omega) (by omega)] at c12
        exact absurd t3 c12
theorem call_X11_number {E : ME} {Φ : Option AV → AM → Prop} {pc : Nat} {L : List (Option AV)} {st : List AV} {m : AM} {a : Nat × Nat} {idx : Nat} {x0 x1 : AV} {i : Nat} (hl : Cond.methodLink E.2.1 idx yX11_number ∈ TB) (hdep : 6 + 1 ≤ E.2.2.2.2.2.2) (hroom : a.1 + 0 ≤ E.2.2.2.2.1 ∧ a.2 + 0 ≤ E.2.2.2.2.2.1) (hsr : st.length ≤ 4) (hd : decode E.1 pc = .ok (.invokevirtual idx, 3)) (hsp : Sp_X11_number [vr 11 i, x0, x1] m (fun r m2 => B E Φ (pc + 3) L (r.toList ++ st) m2 a)) : B E Φ pc L (x1 :: x0 :: vr 11 i :: st) m a := b_callV S_X11_number [x0, x1] (RX11, TX11, 28) rfl rfl (by decide) (Or.inl hl) k1199 k36 k80 k1200 (show _ ∧ _ ∧ Option.map (fun d => d.parameters.length) (parseMethodDescriptor yX11_number.desc) = some 2 from by decide +kernel) ⟨hdep, by decide⟩ hroom hsr hd hsp
abbrev e_X11_begin : ME := (cX11_begin, (RX11, (1, (none, (0, (0, 4))))))
theorem dX11_begin_0 : decode cX11_begin 0 = .ok (.aload_n 0, 1) := by decide +kernel
theorem dX11_begin_1 : decode cX11_begin 1 = .ok (.iconst 0, 1) := by decide +kernel
theorem dX11_begin_2 : decode cX11_begin 2 = .ok (.putfield 93, 3) := by decide +kernel
theorem dX11_begin_5 : decode cX11_begin 5 = .ok (.aload_n 0, 1) := by decide +kernel
theorem dX11_begin_6 : decode cX11_begin 6 = .ok (.iconst 0, 1) := by decide +kernel
theorem dX11_begin_7 : decode cX11_begin 7 = .ok (.putfield 84, 3) := by decide +kernel
theorem dX11_begin_10 : decode cX11_begin 10 = .ok (.aload_n 0, 1) := by decide +kernel
theorem dX11_begin_11 : decode cX11_begin 11 = .ok (.invokevirtual 115, 3) := by decide +kernel
theorem dX11_begin_14 : decode cX11_begin 14 = .ok (.return_, 1) := by decide +kernel
def Sp_X11_begin (av : List AV) (m : AM) (Φ : Option AV → AM → Prop) : Prop := av = [vr 11 110] ∧ ∃ T n, TapM m T n ∧ ∀ m2, Fm [] rdL m m2 → RdS m2 T n (.ok 0) → Φ none m2
set_option maxRecDepth 20000 in
set_option maxHeartbeats 4000000 in
theorem S_X11_begin : Snd yX11_begin e_X11_begin Sp_X11_begin := by
  refine Snd.of (by decide +kernel) rfl ?_ ?_
  · rintro av m Φ ⟨rfl, _⟩; exact Nat.le_of_ble_eq_true rfl
  rintro av m Φ ⟨rfl, T, n, hT, h⟩ hav hty
  show B e_X11_begin Φ 0 [some (vr 11 110)] [] m (0, 0)
  refine b_aloadN (pc := 0) 0 dX11_begin_0 rfl rfl ?_
  refine b_iconst (pc := 1) (nI 0) dX11_begin_1 (by decide) ?_
  refine pf11_11 (pc := 2) k1053 dX11_begin_2 ?_
  refine b_aloadN (pc := 5) 0 dX11_begin_5 rfl rfl ?_
  refine b_iconst (pc := 6) (nI 0) dX11_begin_6 (by decide) ?_
  refine pf11_15 (pc := 7) k1057 dX11_begin_7 ?_
  refine b_aloadN (pc := 10) 0 dX11_begin_10 rfl rfl ?_
  refine call_X11_nextToken (pc := 11) k1176 (by decide) ⟨Nat.le_of_ble_eq_true rfl, Nat.le_of_ble_eq_true rfl⟩ (Nat.le_of_ble_eq_true rfl) dX11_begin_11 ?_
  refine ⟨rfl, T, n, 0, ?_, ?_, Nat.zero_le _, ?_, fun m11 fm11 rd11 => ?_⟩
  rotate_left -- leaf 0: tape of X11_nextToken at 11
  rotate_left -- leaf 1: cursor of X11_nextToken at 11
  rotate_left -- leaf 2: fault of X11_nextToken at 11
  refine b_vret (pc := 14) rfl dX11_begin_14 ⟨Nat.le_of_ble_eq_true rfl, Nat.le_of_ble_eq_true rfl⟩ ?_
  rotate_left -- leaf 3: return at 14
  -- leaves: 0 tape of X11_nextToken at 11; 1 cursor of X11_nextToken at 11; 2 fault of X11_nextToken at 11; 3 return at 14
  · exact hT.fm (ls := rdL) (((Fm.rf [] rdL m).m0 (by simp)).m0 (by simp)) (by decide) (by decide)
  · rw [ms_o (by decide), ms_e]
  · rw [ms_e]
  · exact h m11 (((((Fm.rf [] rdL m).m0 (by simp)).m0 (by simp))).tr (fm11.mono (fun a z => z) (fun a z => by simp at z; simp; omega))) rd11
theorem call_X11_begin {E : ME} {Φ : Option AV → AM → Prop} {pc : Nat} {L : List (Option AV)} {st : List AV} {m : AM} {a : Nat × Nat} {idx : Nat} {i : Nat} (hl : Cond.methodLink E.2.1 idx yX11_begin ∈ TB) (hdep : 4 + 1 ≤ E.2.2.2.2.2.2) (hroom : a.1 + 0 ≤ E.2.2.2.2.1 ∧ a.2 + 0 ≤ E.2.2.2.2.2.1) (hsr : st.length ≤ 4) (hd : decode E.1 pc = .ok (.invokevirtual idx, 3)) (hsp : Sp_X11_begin [vr 11 i] m (fun r m2 => B E Φ (pc + 3) L (r.toList ++ st) m2 a)) : B E Φ pc L (vr 11 i :: st) m a := b_callV S_X11_begin [] (RX11, TX11, 28) rfl rfl (by decide) (Or.inl hl) k1174 k31 k80 k1175 (show _ ∧ _ ∧ Option.map (fun d => d.parameters.length) (parseMethodDescriptor yX11_begin.desc) = some 0 from by decide +kernel) ⟨hdep, by decide⟩ hroom hsr hd hsp
def GM (m : AM) (G : Nat → Nat) : Prop := ∀ k, k < 50 → m.1 115 k = nI (G k)
theorem cmp_eq (x y : Int64) : lg_cmp x y = 0 ↔ x = y := by
  unfold lg_cmp
  by_cases h1 : x > y
  · rw [if_pos h1]
    constructor
    · intro h; exact absurd h (by decide)
    · intro h
      have h2 : y < x := h1
      rw [l_lt, h] at h2
      omega
  · rw [if_neg h1]
    by_cases h3 : x = y
    · rw [if_pos h3]
      exact ⟨fun _ => h3, fun _ => rfl⟩
    · rw [if_neg h3]
      exact ⟨fun h => absurd h (by decide), fun h => absurd h h3⟩
theorem cmp_n {a b : Nat} (ha : a < 2147483648) (hb : b < 2147483648) : lg_cmp (nI a).toInt64 (nI b).toInt64 = 0 ↔ a = b := by
  rw [cmp_eq]
  constructor
  · intro h
    have t := congrArg Int64.toInt h
    rw [Int32.toInt_toInt64, Int32.toInt_toInt64, nI_toInt ha, nI_toInt hb] at t
    omega
  · intro h; rw [h]
abbrev e_X11_isTold : ME := (cX11_isTold, (RX11, (8, ((some .boolean), (0, (0, 1))))))
theorem dX11_isTold_0 : decode cX11_isTold 0 = .ok (.iconst 0, 1) := by decide +kernel
theorem dX11_isTold_1 : decode cX11_isTold 1 = .ok (.istore 5, 2) := by decide +kernel
theorem dX11_isTold_3 : decode cX11_isTold 3 = .ok (.iconst 0, 1) := by decide +kernel
theorem dX11_isTold_4 : decode cX11_isTold 4 = .ok (.istore 6, 2) := by decide +kernel
theorem dX11_isTold_6 : decode cX11_isTold 6 = .ok (.iload 6, 2) := by decide +kernel
theorem dX11_isTold_8 : decode cX11_isTold 8 = .ok (.aload_n 0, 1) := by decide +kernel
theorem dX11_isTold_9 : decode cX11_isTold 9 = .ok (.getfield 22, 3) := by decide +kernel
theorem dX11_isTold_12 : decode cX11_isTold 12 = .ok (.iconst 3, 1) := by decide +kernel
theorem dX11_isTold_13 : decode cX11_isTold 13 = .ok (.iaload, 1) := by decide +kernel
theorem dX11_isTold_14 : decode cX11_isTold 14 = .ok (.if_icmp .ge 69, 3) := by decide +kernel
theorem dX11_isTold_17 : decode cX11_isTold 17 = .ok (.bipush 8, 2) := by decide +kernel
theorem dX11_isTold_19 : decode cX11_isTold 19 = .ok (.iconst 4, 1) := by decide +kernel
theorem dX11_isTold_20 : decode cX11_isTold 20 = .ok (.iload 6, 2) := by decide +kernel
theorem dX11_isTold_22 : decode cX11_isTold 22 = .ok (.imul, 1) := by decide +kernel
theorem dX11_isTold_23 : decode cX11_isTold 23 = .ok (.iadd, 1) := by decide +kernel
theorem dX11_isTold_24 : decode cX11_isTold 24 = .ok (.istore 7, 2) := by decide +kernel
theorem dX11_isTold_26 : decode cX11_isTold 26 = .ok (.iload 5, 2) := by decide +kernel
theorem dX11_isTold_28 : decode cX11_isTold 28 = .ok (.ifCond .ne 42, 3) := by decide +kernel
theorem dX11_isTold_31 : decode cX11_isTold 31 = .ok (.aload_n 0, 1) := by decide +kernel
theorem dX11_isTold_32 : decode cX11_isTold 32 = .ok (.getfield 22, 3) := by decide +kernel
theorem dX11_isTold_35 : decode cX11_isTold 35 = .ok (.iload 7, 2) := by decide +kernel
theorem dX11_isTold_37 : decode cX11_isTold 37 = .ok (.iaload, 1) := by decide +kernel
theorem dX11_isTold_38 : decode cX11_isTold 38 = .ok (.iload_n 1, 1) := by decide +kernel
theorem dX11_isTold_39 : decode cX11_isTold 39 = .ok (.if_icmp .ne 35, 3) := by decide +kernel
theorem dX11_isTold_42 : decode cX11_isTold 42 = .ok (.aload_n 0, 1) := by decide +kernel
theorem dX11_isTold_43 : decode cX11_isTold 43 = .ok (.getfield 22, 3) := by decide +kernel
theorem dX11_isTold_46 : decode cX11_isTold 46 = .ok (.iload 7, 2) := by decide +kernel
theorem dX11_isTold_48 : decode cX11_isTold 48 = .ok (.iconst 1, 1) := by decide +kernel
theorem dX11_isTold_49 : decode cX11_isTold 49 = .ok (.iadd, 1) := by decide +kernel
theorem dX11_isTold_50 : decode cX11_isTold 50 = .ok (.iaload, 1) := by decide +kernel
theorem dX11_isTold_51 : decode cX11_isTold 51 = .ok (.iload_n 2, 1) := by decide +kernel
theorem dX11_isTold_52 : decode cX11_isTold 52 = .ok (.if_icmp .ne 22, 3) := by decide +kernel
theorem dX11_isTold_55 : decode cX11_isTold 55 = .ok (.aload_n 0, 1) := by decide +kernel
theorem dX11_isTold_56 : decode cX11_isTold 56 = .ok (.getfield 22, 3) := by decide +kernel
theorem dX11_isTold_59 : decode cX11_isTold 59 = .ok (.iload 7, 2) := by decide +kernel
theorem dX11_isTold_61 : decode cX11_isTold 61 = .ok (.iconst 2, 1) := by decide +kernel
theorem dX11_isTold_62 : decode cX11_isTold 62 = .ok (.iadd, 1) := by decide +kernel
theorem dX11_isTold_63 : decode cX11_isTold 63 = .ok (.iaload, 1) := by decide +kernel
theorem dX11_isTold_64 : decode cX11_isTold 64 = .ok (.i2l, 1) := by decide +kernel
theorem dX11_isTold_65 : decode cX11_isTold 65 = .ok (.lload_n 3, 1) := by decide +kernel
theorem dX11_isTold_66 : decode cX11_isTold 66 = .ok (.lcmp, 1) := by decide +kernel
theorem dX11_isTold_67 : decode cX11_isTold 67 = .ok (.ifCond .ne 7, 3) := by decide +kernel
theorem dX11_isTold_70 : decode cX11_isTold 70 = .ok (.iconst 1, 1) := by decide +kernel
theorem dX11_isTold_71 : decode cX11_isTold 71 = .ok (.goto 4, 3) := by decide +kernel
theorem dX11_isTold_74 : decode cX11_isTold 74 = .ok (.iconst 0, 1) := by decide +kernel
theorem dX11_isTold_75 : decode cX11_isTold 75 = .ok (.istore 5, 2) := by decide +kernel
theorem dX11_isTold_77 : decode cX11_isTold 77 = .ok (.iinc 6 1, 3) := by decide +kernel
theorem dX11_isTold_80 : decode cX11_isTold 80 = .ok (.goto (-74), 3) := by decide +kernel
theorem dX11_isTold_83 : decode cX11_isTold 83 = .ok (.iload 5, 2) := by decide +kernel
theorem dX11_isTold_85 : decode cX11_isTold 85 = .ok (.ireturn, 1) := by decide +kernel
def Sp_X11_isTold (av : List AV) (m : AM) (Φ : Option AV → AM → Prop) : Prop := ∃ x y z, av = [vr 11 110, vi x, vi y, vl z] ∧ ∃ G s a b, GM m G ∧ PV G ∧ x = nI s ∧ y = nI a ∧ z = (nI b).toInt64 ∧ s < 256 ∧ a < 256 ∧ b < 256 ∧ Φ (some (vi (nI (b2 (hasR G s a b (G 3)))))) m
set_option maxRecDepth 20000 in
set_option maxHeartbeats 4000000 in
theorem S_X11_isTold : Snd yX11_isTold e_X11_isTold Sp_X11_isTold := by
  refine Snd.of (by decide +kernel) rfl ?_ ?_
  · rintro av m Φ ⟨x, y, z, rfl, _⟩; exact Nat.le_of_ble_eq_true rfl
  rintro av m Φ ⟨x, y, z, rfl, G, s, a, b, hG, hp, rfl, rfl, rfl, hs, ha, hb, h⟩ hav hty
  show B e_X11_isTold Φ 0 [some (vr 11 110), some (vi (nI s)), some (vi (nI a)), some (vl ((nI b).toInt64)), none, none, none, none] [] m (0, 0)
  have h3 := hp.2.2.2.1
  have p0 := hp.1
  have loop : ∀ e k o7, G 3 + 1 ≤ k + e → k ≤ G 3 → B e_X11_isTold Φ 6 [some (vr 11 110), some (vi (nI s)), some (vi (nI a)), some (vl (nI b).toInt64), none, some (vi (nI (b2 (hasR G s a b k)))), some (vi (nI k)), o7] [] m (0, 0) := by
    intro e
    induction e with
    | zero => intro k o7 z1 z2; omega
    | succ e ih =>
      intro k o7 z1 z2
      by_cases q : k < G 3
      · have pv := hp.2.2.2.2.2.1 k q
        have g8 := hG (8 + 4 * k) (by omega)
        have g9 := hG (9 + 4 * k) (by omega)
        have g10 := hG (10 + 4 * k) (by omega)
        have s75 : ∀ v : Bool, v = hasR G s a b (k + 1) → B e_X11_isTold Φ 75 [some (vr 11 110), some (vi (nI s)), some (vi (nI a)), some (vl (nI b).toInt64), none, some (vi (nI (b2 (hasR G s a b k)))), some (vi (nI k)), some (vi (nI 8 + nI 4 * nI k))] [vi (nI (b2 v))] m (0, 0) := by
          intro v hv
          refine siG5 (pc := 75) notL_n (by decide) dX11_isTold_75 ?_
          refine inc6 (pc := 77) notL_i (by decide) dX11_isTold_77 ?_
          refine b_goto (pc := 80) 6 dX11_isTold_80 (by decide) ?_
          rotate_left -- leaf 0: at 6
          -- leaves: 0 at 6
          subst hv
          rw [n_inc]
          exact ih (k + 1) _ (by omega) (by omega)
        refine b_iloadG (pc := 6) 6 dX11_isTold_6 rfl ?_
        refine b_aloadN (pc := 8) 0 dX11_isTold_8 rfl rfl ?_
        refine gf11_6 (pc := 9) 115 rfl k1048 dX11_isTold_9 ?_
        refine b_iconst (pc := 12) (nI 3) dX11_isTold_12 (by decide) ?_
        refine b_iald (pc := 13) (by decide) ?_ dX11_isTold_13 ?_
        rotate_left -- leaf 0: index at 13
        refine b_icmp_ge (pc := 14) 83 dX11_isTold_14 (by decide) (fun c14 => ?_) (fun c14 => ?_)
        rotate_left -- leaf 1: at 83
        refine b_bipush (pc := 17) (nI 8) dX11_isTold_17 (by decide) ?_
        refine b_iconst (pc := 19) (nI 4) dX11_isTold_19 (by decide) ?_
        refine b_iloadG (pc := 20) 6 dX11_isTold_20 rfl ?_
        refine b_imul (pc := 22) dX11_isTold_22 ?_
        refine b_iadd (pc := 23) dX11_isTold_23 ?_
        refine siG7 (pc := 24) notL_i (by decide) dX11_isTold_24 ?_
        refine b_iloadG (pc := 26) 5 dX11_isTold_26 rfl ?_
        refine b_if_ne (pc := 28) 70 dX11_isTold_28 (by decide) (fun c28 => ?_) (fun c28 => ?_)
        refine b_iconst (pc := 70) (nI 1) dX11_isTold_70 (by decide) ?_
        refine b_goto (pc := 71) 75 dX11_isTold_71 (by decide) ?_
        rotate_left -- leaf 2: at 75
        refine b_aloadN (pc := 31) 0 dX11_isTold_31 rfl rfl ?_
        refine gf11_6 (pc := 32) 115 rfl k1048 dX11_isTold_32 ?_
        refine b_iloadG (pc := 35) 7 dX11_isTold_35 rfl ?_
        refine b_iald (pc := 37) (by decide) ?_ dX11_isTold_37 ?_
        rotate_left -- leaf 3: index at 37
        refine b_iloadN (pc := 38) 1 dX11_isTold_38 rfl rfl ?_
        refine b_icmp_ne (pc := 39) 74 dX11_isTold_39 (by decide) (fun c39 => ?_) (fun c39 => ?_)
        refine b_iconst (pc := 74) (nI 0) dX11_isTold_74 (by decide) ?_
        rotate_left -- leaf 4: at 75
        refine b_aloadN (pc := 42) 0 dX11_isTold_42 rfl rfl ?_
        refine gf11_6 (pc := 43) 115 rfl k1048 dX11_isTold_43 ?_
        refine b_iloadG (pc := 46) 7 dX11_isTold_46 rfl ?_
        refine b_iconst (pc := 48) (nI 1) dX11_isTold_48 (by decide) ?_
        refine b_iadd (pc := 49) dX11_isTold_49 ?_
        refine b_iald (pc := 50) (by decide) ?_ dX11_isTold_50 ?_
        rotate_left -- leaf 5: index at 50
        refine b_iloadN (pc := 51) 2 dX11_isTold_51 rfl rfl ?_
        refine b_icmp_ne (pc := 52) 74 dX11_isTold_52 (by decide) (fun c52 => ?_) (fun c52 => ?_)
        refine b_iconst (pc := 74) (nI 0) dX11_isTold_74 (by decide) ?_
        rotate_left -- leaf 6: at 75
        refine b_aloadN (pc := 55) 0 dX11_isTold_55 rfl rfl ?_
        refine gf11_6 (pc := 56) 115 rfl k1048 dX11_isTold_56 ?_
        refine b_iloadG (pc := 59) 7 dX11_isTold_59 rfl ?_
        refine b_iconst (pc := 61) (nI 2) dX11_isTold_61 (by decide) ?_
        refine b_iadd (pc := 62) dX11_isTold_62 ?_
        refine b_iald (pc := 63) (by decide) ?_ dX11_isTold_63 ?_
        rotate_left -- leaf 7: index at 63
        refine b_i2l (pc := 64) dX11_isTold_64 ?_
        refine b_lloadN (pc := 65) 3 dX11_isTold_65 rfl rfl ?_
        refine b_lcmp (pc := 66) dX11_isTold_66 ?_
        refine b_if_ne (pc := 67) 74 dX11_isTold_67 (by decide) (fun c67 => ?_) (fun c67 => ?_)
        refine b_iconst (pc := 74) (nI 0) dX11_isTold_74 (by decide) ?_
        rotate_left -- leaf 8: at 75
        refine b_iconst (pc := 70) (nI 1) dX11_isTold_70 (by decide) ?_
        refine b_goto (pc := 71) 75 dX11_isTold_71 (by decide) ?_
        rotate_left -- leaf 9: at 75
        -- leaves: 0 index at 13; 1 at 83; 2 at 75; 3 index at 37; 4 at 75; 5 index at 50; 6 at 75; 7 index at 63; 8 at 75; 9 at 75
        · exact n_in (by omega) (by omega)
        · rw [n_cl (by omega), hG 3 (by omega), n_le (by omega) (by omega)] at c14
          omega
        · refine s75 true ?_
          show true = (hasR G s a b k || _)
          rw [bT c28, Bool.true_or]
        · rw [n_mul, n_add]; exact n_in (by omega) (by omega)
        · rw [n_mul, n_add, n_cl (by omega), g8, n_eq (by omega) (by omega)] at c39
          refine s75 false ?_
          show false = (hasR G s a b k || (decide (G (8 + 4 * k) = s) && _))
          rw [bF c28, decide_eq_false c39]
          rfl
        · rw [n_mul, n_add, n_add]; exact n_in (by omega) (by omega)
        · rw [n_mul, n_add, n_add, n_cl (by omega), show 8 + 4 * k + 1 = 9 + 4 * k by omega, g9, n_eq (by omega) (by omega)] at c52
          refine s75 false ?_
          show false = (hasR G s a b k || (decide (G (8 + 4 * k) = s) && (decide (G (9 + 4 * k) = a) && _)))
          rw [bF c28, decide_eq_false c52, Bool.false_and, Bool.and_false]
          rfl
        · rw [n_mul, n_add, n_add]; exact n_in (by omega) (by omega)
        · rw [n_mul, n_add, n_add, n_cl (by omega), show 8 + 4 * k + 2 = 10 + 4 * k by omega, g10, cmp_n (by omega) (by omega)] at c67
          refine s75 false ?_
          show false = (hasR G s a b k || (decide (G (8 + 4 * k) = s) && (decide (G (9 + 4 * k) = a) && decide (G (10 + 4 * k) = b))))
          rw [bF c28, decide_eq_false c67, Bool.and_false, Bool.and_false]
          rfl
        · rw [n_mul, n_add, n_cl (by omega), g8, n_eq (by omega) (by omega)] at c39
          rw [n_mul, n_add, n_add, n_cl (by omega), show 8 + 4 * k + 1 = 9 + 4 * k by omega, g9, n_eq (by omega) (by omega)] at c52
          rw [n_mul, n_add, n_add, n_cl (by omega), show 8 + 4 * k + 2 = 10 + 4 * k by omega, g10, cmp_n (by omega) (by omega)] at c67
          refine s75 true ?_
          show true = (hasR G s a b k || (decide (G (8 + 4 * k) = s) && (decide (G (9 + 4 * k) = a) && decide (G (10 + 4 * k) = b))))
          rw [decide_eq_true c39, decide_eq_true c52, decide_eq_true c67, Bool.true_and, Bool.true_and, Bool.or_true]
      · have ek : k = G 3 := by omega
        rw [← ek] at h
        refine b_iloadG (pc := 6) 6 dX11_isTold_6 rfl ?_
        refine b_aloadN (pc := 8) 0 dX11_isTold_8 rfl rfl ?_
        refine gf11_6 (pc := 9) 115 rfl k1048 dX11_isTold_9 ?_
        refine b_iconst (pc := 12) (nI 3) dX11_isTold_12 (by decide) ?_
        refine b_iald (pc := 13) (by decide) ?_ dX11_isTold_13 ?_
        rotate_left -- leaf 0: index at 13
        refine b_icmp_ge (pc := 14) 83 dX11_isTold_14 (by decide) (fun c14 => ?_) (fun c14 => ?_)
        refine b_iloadG (pc := 83) 5 dX11_isTold_83 rfl ?_
        refine b_zret (pc := 85) rfl ?_ dX11_isTold_85 ⟨Nat.le_of_ble_eq_true rfl, Nat.le_of_ble_eq_true rfl⟩ ?_
        rotate_left -- leaf 1: bool at 85
        rotate_left -- leaf 2: return at 85
        rotate_left -- leaf 3: at 17
        -- leaves: 0 index at 13; 1 bool at 85; 2 return at 85; 3 at 17
        · exact n_in (by omega) (by omega)
        · cases hasR G s a b k
          · exact Or.inl rfl
          · exact Or.inr rfl
        · exact h
        · rw [n_cl (by omega), hG 3 (by omega), n_le (by omega) (by omega)] at c14
          omega
  refine b_iconst (pc := 0) (nI 0) dX11_isTold_0 (by decide) ?_
  refine siG5 (pc := 1) notL_n (by decide) dX11_isTold_1 ?_
  refine b_iconst (pc := 3) (nI 0) dX11_isTold_3 (by decide) ?_
  refine siG6 (pc := 4) notL_i (by decide) dX11_isTold_4 ?_
  rotate_left -- leaf 0: at 6
  -- leaves: 0 at 6
  exact loop (G 3 + 1) 0 _ (by omega) (Nat.zero_le _)
theorem call_X11_isTold {E : ME} {Φ : Option AV → AM → Prop} {pc : Nat} {L : List (Option AV)} {st : List AV} {m : AM} {a : Nat × Nat} {idx : Nat} {x0 x1 x2 : AV} {i : Nat} (hl : Cond.methodLink E.2.1 idx yX11_isTold ∈ TB) (hdep : 1 + 1 ≤ E.2.2.2.2.2.2) (hroom : a.1 + 0 ≤ E.2.2.2.2.1 ∧ a.2 + 0 ≤ E.2.2.2.2.2.1) (hsr : st.length ≤ 4) (hd : decode E.1 pc = .ok (.invokevirtual idx, 3)) (hsp : Sp_X11_isTold [vr 11 i, x0, x1, x2] m (fun r m2 => B E Φ (pc + 3) L (r.toList ++ st) m2 a)) : B E Φ pc L (x2 :: x1 :: x0 :: vr 11 i :: st) m a := b_callV S_X11_isTold [x0, x1, x2] (RX11, TX11, 28) rfl rfl (by decide) (Or.inl hl) k1211 k39 k80 k1212 (show _ ∧ _ ∧ Option.map (fun d => d.parameters.length) (parseMethodDescriptor yX11_isTold.desc) = some 3 from by decide +kernel) ⟨hdep, by decide⟩ hroom hsr hd hsp
