/-! FORESIGHT: idle, leftOut, firstFree, inOrder -/
theorem oI_eq {o : Option Nat} {v : Nat} (ho : ∀ w, o = some w → w < 64) (hv : v < 64) : oI o = nI v ↔ o = some v := by
  cases o with
  | none =>
    constructor
    · intro h; exact absurd h.symm (n_ne_none (by omega))
    · intro h; cases h
  | some w =>
    have := ho w rfl
    show nI w = nI v ↔ _
    rw [n_eq (by omega) (by omega)]
    constructor
    · intro h; rw [h]
    · intro h; cases h; rfl
theorem outN_lt {C : Nat → Nat} (hv : VC C) {q s d k w : Nat} (hs : s < 64) (hk : k < 2 * C 0) (h : outN C q s d k = some w) : w < 64 := setN_lt hv (belN_lt hv q d hs hk) h
def idleN (C : Nat → Nat) (q : Nat) : Nat → Nat
  | 0 => 0
  | k + 1 => if outN C q (C 1) (C 5) k = some (C 1) then idleN C q k ||| 2 ^ k else idleN C q k
abbrev e_X3_idleSayings : ME := (cX3_idleSayings, (RX3, (5, ((some .int), (0, (0, 4))))))
theorem dX3_idleSayings_0 : decode cX3_idleSayings 0 = .ok (.iconst 0, 1) := by decide +kernel
theorem dX3_idleSayings_1 : decode cX3_idleSayings 1 = .ok (.istore_n 3, 1) := by decide +kernel
theorem dX3_idleSayings_2 : decode cX3_idleSayings 2 = .ok (.iconst 0, 1) := by decide +kernel
theorem dX3_idleSayings_3 : decode cX3_idleSayings 3 = .ok (.istore 4, 2) := by decide +kernel
theorem dX3_idleSayings_5 : decode cX3_idleSayings 5 = .ok (.iload 4, 2) := by decide +kernel
theorem dX3_idleSayings_7 : decode cX3_idleSayings 7 = .ok (.iconst 2, 1) := by decide +kernel
theorem dX3_idleSayings_8 : decode cX3_idleSayings 8 = .ok (.aload_n 1, 1) := by decide +kernel
theorem dX3_idleSayings_9 : decode cX3_idleSayings 9 = .ok (.getfield 24, 3) := by decide +kernel
theorem dX3_idleSayings_12 : decode cX3_idleSayings 12 = .ok (.getfield 30, 3) := by decide +kernel
theorem dX3_idleSayings_15 : decode cX3_idleSayings 15 = .ok (.imul, 1) := by decide +kernel
theorem dX3_idleSayings_16 : decode cX3_idleSayings 16 = .ok (.if_icmp .ge 47, 3) := by decide +kernel
theorem dX3_idleSayings_19 : decode cX3_idleSayings 19 = .ok (.aload_n 1, 1) := by decide +kernel
theorem dX3_idleSayings_20 : decode cX3_idleSayings 20 = .ok (.iload_n 2, 1) := by decide +kernel
theorem dX3_idleSayings_21 : decode cX3_idleSayings 21 = .ok (.iload 4, 2) := by decide +kernel
theorem dX3_idleSayings_23 : decode cX3_idleSayings 23 = .ok (.aload_n 1, 1) := by decide +kernel
theorem dX3_idleSayings_24 : decode cX3_idleSayings 24 = .ok (.getfield 36, 3) := by decide +kernel
theorem dX3_idleSayings_27 : decode cX3_idleSayings 27 = .ok (.getfield 40, 3) := by decide +kernel
theorem dX3_idleSayings_30 : decode cX3_idleSayings 30 = .ok (.aload_n 1, 1) := by decide +kernel
theorem dX3_idleSayings_31 : decode cX3_idleSayings 31 = .ok (.getfield 36, 3) := by decide +kernel
theorem dX3_idleSayings_34 : decode cX3_idleSayings 34 = .ok (.getfield 45, 3) := by decide +kernel
theorem dX3_idleSayings_37 : decode cX3_idleSayings 37 = .ok (.invokevirtual 48, 3) := by decide +kernel
theorem dX3_idleSayings_40 : decode cX3_idleSayings 40 = .ok (.aload_n 1, 1) := by decide +kernel
theorem dX3_idleSayings_41 : decode cX3_idleSayings 41 = .ok (.getfield 36, 3) := by decide +kernel
theorem dX3_idleSayings_44 : decode cX3_idleSayings 44 = .ok (.getfield 40, 3) := by decide +kernel
theorem dX3_idleSayings_47 : decode cX3_idleSayings 47 = .ok (.if_icmp .ne 10, 3) := by decide +kernel
theorem dX3_idleSayings_50 : decode cX3_idleSayings 50 = .ok (.iload_n 3, 1) := by decide +kernel
theorem dX3_idleSayings_51 : decode cX3_idleSayings 51 = .ok (.iconst 1, 1) := by decide +kernel
theorem dX3_idleSayings_52 : decode cX3_idleSayings 52 = .ok (.iload 4, 2) := by decide +kernel
theorem dX3_idleSayings_54 : decode cX3_idleSayings 54 = .ok (.ishl, 1) := by decide +kernel
theorem dX3_idleSayings_55 : decode cX3_idleSayings 55 = .ok (.ior, 1) := by decide +kernel
theorem dX3_idleSayings_56 : decode cX3_idleSayings 56 = .ok (.istore_n 3, 1) := by decide +kernel
theorem dX3_idleSayings_57 : decode cX3_idleSayings 57 = .ok (.iinc 4 1, 3) := by decide +kernel
theorem dX3_idleSayings_60 : decode cX3_idleSayings 60 = .ok (.goto (-55), 3) := by decide +kernel
theorem dX3_idleSayings_63 : decode cX3_idleSayings 63 = .ok (.iload_n 3, 1) := by decide +kernel
theorem dX3_idleSayings_64 : decode cX3_idleSayings 64 = .ok (.ireturn, 1) := by decide +kernel
def Sp_X3_idleSayings (av : List AV) (m : AM) (Φ : Option AV → AM → Prop) : Prop := ∃ x, av = [vr 3 103, vr 2 20, vi x] ∧ ∃ C q, BR m C ∧ x = nI q ∧ (1 ≤ q ∧ q ≤ 5) ∧ ∀ m2, CU C m m2 → Φ (some (vi (nI (idleN C q (2 * C 0))))) m2
set_option maxRecDepth 20000 in
set_option maxHeartbeats 4000000 in
theorem S_X3_idleSayings : Snd yX3_idleSayings e_X3_idleSayings Sp_X3_idleSayings := by
  refine Snd.of (by decide +kernel) rfl ?_ ?_
  · rintro av m Φ ⟨x, rfl, _⟩; exact Nat.le_of_ble_eq_true rfl
  rintro av m Φ ⟨x, rfl, C, q, hB0, rfl, hq, h⟩ hav hty
  show B e_X3_idleSayings Φ 0 [some (vr 3 103), some (vr 2 20), some (vi (nI q)), none, none] [] m (0, 0)
  have hv := hB0.1
  have h06 := hv.1.2
  have loop : ∀ n k m2, 2 * C 0 + 1 ≤ k + n → k ≤ 2 * C 0 → CU C m m2 → B e_X3_idleSayings Φ 5 [some (vr 3 103), some (vr 2 20), some (vi (nI q)), some (vi (nI (idleN C q k))), some (vi (nI k))] [] m2 (0, 0) := by
    intro n
    induction n with
    | zero => intro k m2 h1 h2; omega
    | succ n ih =>
      intro k m2 h1 h2 hu
      have hB := hB0.cu hu
      refine b_iloadG (pc := 5) 4 dX3_idleSayings_5 rfl ?_
      refine b_iconst (pc := 7) (nI 2) dX3_idleSayings_7 (by decide) ?_
      refine b_aloadN (pc := 8) 1 dX3_idleSayings_8 rfl rfl ?_
      refine gf2_0 (pc := 9) 21 rfl k267 dX3_idleSayings_9 ?_
      refine gf5_4 (pc := 12) k144 dX3_idleSayings_12 ?_
      refine b_imul (pc := 15) dX3_idleSayings_15 ?_
      refine b_icmp_ge (pc := 16) 63 dX3_idleSayings_16 (by decide) (fun c16 => ?_) (fun c16 => ?_)
      refine b_iloadN (pc := 63) 3 dX3_idleSayings_63 rfl rfl ?_
      refine b_iret (pc := 64) rfl dX3_idleSayings_64 ⟨Nat.le_of_ble_eq_true rfl, Nat.le_of_ble_eq_true rfl⟩ ?_
      rotate_left -- leaf 0: return at 64
      refine b_aloadN (pc := 19) 1 dX3_idleSayings_19 rfl rfl ?_
      refine b_iloadN (pc := 20) 2 dX3_idleSayings_20 rfl rfl ?_
      refine b_iloadG (pc := 21) 4 dX3_idleSayings_21 rfl ?_
      refine b_aloadN (pc := 23) 1 dX3_idleSayings_23 rfl rfl ?_
      refine gf2_1 (pc := 24) 26 rfl k273 dX3_idleSayings_24 ?_
      refine gf8_1 (pc := 27) k233 dX3_idleSayings_27 ?_
      refine b_aloadN (pc := 30) 1 dX3_idleSayings_30 rfl rfl ?_
      refine gf2_1 (pc := 31) 26 rfl k273 dX3_idleSayings_31 ?_
      refine gf8_2 (pc := 34) k238 dX3_idleSayings_34 ?_
      refine call_X2_outcome (pc := 37) k816 (by decide) ⟨Nat.le_of_ble_eq_true rfl, Nat.le_of_ble_eq_true rfl⟩ (Nat.le_of_ble_eq_true rfl) dX3_idleSayings_37 ?_
      refine ⟨_, _, _, _, rfl, C, q, k, C 1, C 5, hB, rfl, rfl, ?_, ?_, ?_, ?_, ?_, ?_, fun m37 h37 => ?_⟩
      rotate_left -- leaf 1: so of X2_outcome at 37
      rotate_left -- leaf 2: sd of X2_outcome at 37
      rotate_left -- leaf 3: kind of X2_outcome at 37
      rotate_left -- leaf 4: saying of X2_outcome at 37
      rotate_left -- leaf 5: so64 of X2_outcome at 37
      rotate_left -- leaf 6: sd64 of X2_outcome at 37
      refine b_aloadN (pc := 40) 1 dX3_idleSayings_40 rfl rfl ?_
      refine gf2_1 (pc := 41) 26 rfl k273 dX3_idleSayings_41 ?_
      refine gf8_1 (pc := 44) k233 dX3_idleSayings_44 ?_
      refine b_icmp_ne (pc := 47) 57 dX3_idleSayings_47 (by decide) (fun c47 => ?_) (fun c47 => ?_)
      refine inc4 (pc := 57) notL_i (by decide) dX3_idleSayings_57 ?_
      refine b_goto (pc := 60) 5 dX3_idleSayings_60 (by decide) ?_
      rotate_left -- leaf 7: at 5
      refine b_iloadN (pc := 50) 3 dX3_idleSayings_50 rfl rfl ?_
      refine b_iconst (pc := 51) (nI 1) dX3_idleSayings_51 (by decide) ?_
      refine b_iloadG (pc := 52) 4 dX3_idleSayings_52 rfl ?_
      refine b_ishl (pc := 54) dX3_idleSayings_54 ?_
      refine b_ior (pc := 55) dX3_idleSayings_55 ?_
      refine siN3 (pc := 56) rfl notL_i (by decide) dX3_idleSayings_56 ?_
      refine inc4 (pc := 57) notL_i (by decide) dX3_idleSayings_57 ?_
      refine b_goto (pc := 60) 5 dX3_idleSayings_60 (by decide) ?_
      rotate_left -- leaf 8: at 5
      -- leaves: 0 return at 64; 1 so of X2_outcome at 37; 2 sd of X2_outcome at 37; 3 kind of X2_outcome at 37; 4 saying of X2_outcome at 37; 5 so64 of X2_outcome at 37; 6 sd64 of X2_outcome at 37; 7 at 5; 8 at 5
      · rw [hB.2.1.1, n_mul, n_le (by omega) (by omega)] at c16
        rw [show k = 2 * C 0 by omega]
        exact h m2 hu
      · exact hB.2.2.1.1
      · exact hB.2.2.1.2.1
      · exact hq
      · rw [hB.2.1.1, n_mul, n_le (by omega) (by omega)] at c16
        omega
      · exact hv.c1
      · exact hv.c5
      · rw [hB.2.1.1, n_mul, n_le (by omega) (by omega)] at c16
        rw [h37.ne (by decide), hB.2.2.1.1, oI_eq (fun w hw => outN_lt hv hv.c1 (by omega) hw) hv.c1] at c47
        rw [n_inc]
        have e : idleN C q (k + 1) = idleN C q k := by
          show (if _ then _ else _) = _
          rw [if_neg c47]
        rw [← e]
        exact ih (k + 1) m37 (by omega) (by omega) (hu.tr h37)
      · rw [hB.2.1.1, n_mul, n_le (by omega) (by omega)] at c16
        rw [h37.ne (by decide), hB.2.2.1.1, oI_eq (fun w hw => outN_lt hv hv.c1 (by omega) hw) hv.c1] at c47
        rw [n_inc, n_pow (by omega), n_or]
        have e : idleN C q (k + 1) = idleN C q k ||| 2 ^ k := by
          show (if _ then _ else _) = _
          rw [if_pos c47]
        rw [← e]
        exact ih (k + 1) m37 (by omega) (by omega) (hu.tr h37)
  refine b_iconst (pc := 0) (nI 0) dX3_idleSayings_0 (by decide) ?_
  refine siN3 (pc := 1) rfl notL_i (by decide) dX3_idleSayings_1 ?_
  refine b_iconst (pc := 2) (nI 0) dX3_idleSayings_2 (by decide) ?_
  refine siG4 (pc := 3) notL_i (by decide) dX3_idleSayings_3 ?_
  rotate_left -- leaf 0: at 5
  -- leaves: 0 at 5
  exact loop (2 * C 0 + 1) 0 m (by omega) (by omega) (CU.rf C m)
theorem call_X3_idleSayings {E : ME} {Φ : Option AV → AM → Prop} {pc : Nat} {L : List (Option AV)} {st : List AV} {m : AM} {a : Nat × Nat} {idx : Nat} {x0 x1 : AV} {i : Nat} (hl : Cond.methodLink E.2.1 idx yX3_idleSayings ∈ TB) (hdep : 4 + 1 ≤ E.2.2.2.2.2.2) (hroom : a.1 + 0 ≤ E.2.2.2.2.1 ∧ a.2 + 0 ≤ E.2.2.2.2.2.1) (hsr : st.length ≤ 4) (hd : decode E.1 pc = .ok (.invokevirtual idx, 3)) (hsp : Sp_X3_idleSayings [vr 3 i, x0, x1] m (fun r m2 => B E Φ (pc + 3) L (r.toList ++ st) m2 a)) : B E Φ pc L (x1 :: x0 :: vr 3 i :: st) m a := b_callV S_X3_idleSayings [x0, x1] (RX3, TX3, 4) rfl rfl (by decide) (Or.inl hl) k813 k814 k77 k815 (show _ ∧ _ ∧ Option.map (fun d => d.parameters.length) (parseMethodDescriptor yX3_idleSayings.desc) = some 2 from by decide +kernel) ⟨hdep, by decide⟩ hroom hsr hd hsp
/-- the least number of facts to be left out, of F, among the sets below x -/
def gvN (C : Nat → Nat) (F : Nat) : Nat → Nat
  | 0 => F
  | x + 1 => if (nDel x F = 0 ∧ pc6 x < pc6 (gvN C F x)) ∧ setN C (nDel F x) ≠ none then x else gvN C F x
theorem gvN_lt {C : Nat → Nat} {F : Nat} (hF : F < 64) : ∀ x, x ≤ F → gvN C F x < 64
  | 0, _ => hF
  | x + 1, hx => by
    unfold gvN
    split
    · omega
    · exact gvN_lt hF x (by omega)
abbrev e_X3_leftOut : ME := (cX3_leftOut, (RX3, (6, ((some .int), (0, (0, 4))))))
theorem dX3_leftOut_0 : decode cX3_leftOut 0 = .ok (.iload_n 2, 1) := by decide +kernel
theorem dX3_leftOut_1 : decode cX3_leftOut 1 = .ok (.istore_n 3, 1) := by decide +kernel
theorem dX3_leftOut_2 : decode cX3_leftOut 2 = .ok (.iconst 0, 1) := by decide +kernel
theorem dX3_leftOut_3 : decode cX3_leftOut 3 = .ok (.istore 4, 2) := by decide +kernel
theorem dX3_leftOut_5 : decode cX3_leftOut 5 = .ok (.iload 4, 2) := by decide +kernel
theorem dX3_leftOut_7 : decode cX3_leftOut 7 = .ok (.iload_n 2, 1) := by decide +kernel
theorem dX3_leftOut_8 : decode cX3_leftOut 8 = .ok (.if_icmp .ge 60, 3) := by decide +kernel
theorem dX3_leftOut_11 : decode cX3_leftOut 11 = .ok (.iload 4, 2) := by decide +kernel
theorem dX3_leftOut_13 : decode cX3_leftOut 13 = .ok (.iload_n 2, 1) := by decide +kernel
theorem dX3_leftOut_14 : decode cX3_leftOut 14 = .ok (.iconst (-1), 1) := by decide +kernel
theorem dX3_leftOut_15 : decode cX3_leftOut 15 = .ok (.ixor, 1) := by decide +kernel
theorem dX3_leftOut_16 : decode cX3_leftOut 16 = .ok (.iand, 1) := by decide +kernel
theorem dX3_leftOut_17 : decode cX3_leftOut 17 = .ok (.ifCond .ne 19, 3) := by decide +kernel
theorem dX3_leftOut_20 : decode cX3_leftOut 20 = .ok (.iload 4, 2) := by decide +kernel
theorem dX3_leftOut_22 : decode cX3_leftOut 22 = .ok (.invokestatic 52, 3) := by decide +kernel
theorem dX3_leftOut_25 : decode cX3_leftOut 25 = .ok (.iload_n 3, 1) := by decide +kernel
theorem dX3_leftOut_26 : decode cX3_leftOut 26 = .ok (.invokestatic 52, 3) := by decide +kernel
theorem dX3_leftOut_29 : decode cX3_leftOut 29 = .ok (.if_icmp .ge 7, 3) := by decide +kernel
theorem dX3_leftOut_32 : decode cX3_leftOut 32 = .ok (.iconst 1, 1) := by decide +kernel
theorem dX3_leftOut_33 : decode cX3_leftOut 33 = .ok (.goto 4, 3) := by decide +kernel
theorem dX3_leftOut_36 : decode cX3_leftOut 36 = .ok (.iconst 0, 1) := by decide +kernel
theorem dX3_leftOut_37 : decode cX3_leftOut 37 = .ok (.istore 5, 2) := by decide +kernel
theorem dX3_leftOut_39 : decode cX3_leftOut 39 = .ok (.iload 5, 2) := by decide +kernel
theorem dX3_leftOut_41 : decode cX3_leftOut 41 = .ok (.ifCond .eq 21, 3) := by decide +kernel
theorem dX3_leftOut_44 : decode cX3_leftOut 44 = .ok (.aload_n 1, 1) := by decide +kernel
theorem dX3_leftOut_45 : decode cX3_leftOut 45 = .ok (.iload_n 2, 1) := by decide +kernel
theorem dX3_leftOut_46 : decode cX3_leftOut 46 = .ok (.iload 4, 2) := by decide +kernel
theorem dX3_leftOut_48 : decode cX3_leftOut 48 = .ok (.iconst (-1), 1) := by decide +kernel
theorem dX3_leftOut_49 : decode cX3_leftOut 49 = .ok (.ixor, 1) := by decide +kernel
theorem dX3_leftOut_50 : decode cX3_leftOut 50 = .ok (.iand, 1) := by decide +kernel
theorem dX3_leftOut_51 : decode cX3_leftOut 51 = .ok (.invokevirtual 58, 3) := by decide +kernel
theorem dX3_leftOut_54 : decode cX3_leftOut 54 = .ok (.ldc 61, 2) := by decide +kernel
theorem dX3_leftOut_56 : decode cX3_leftOut 56 = .ok (.if_icmp .eq 6, 3) := by decide +kernel
theorem dX3_leftOut_59 : decode cX3_leftOut 59 = .ok (.iload 4, 2) := by decide +kernel
theorem dX3_leftOut_61 : decode cX3_leftOut 61 = .ok (.istore_n 3, 1) := by decide +kernel
theorem dX3_leftOut_62 : decode cX3_leftOut 62 = .ok (.iinc 4 1, 3) := by decide +kernel
theorem dX3_leftOut_65 : decode cX3_leftOut 65 = .ok (.goto (-60), 3) := by decide +kernel
theorem dX3_leftOut_68 : decode cX3_leftOut 68 = .ok (.iload_n 3, 1) := by decide +kernel
theorem dX3_leftOut_69 : decode cX3_leftOut 69 = .ok (.ireturn, 1) := by decide +kernel
def Sp_X3_leftOut (av : List AV) (m : AM) (Φ : Option AV → AM → Prop) : Prop := ∃ x, av = [vr 3 103, vr 2 20, vi x] ∧ ∃ C F, BR m C ∧ x = nI F ∧ F < 64 ∧ ∀ m2, CU C m m2 → Φ (some (vi (nI (gvN C F F)))) m2
set_option maxRecDepth 20000 in
set_option maxHeartbeats 4000000 in
theorem S_X3_leftOut : Snd yX3_leftOut e_X3_leftOut Sp_X3_leftOut := by
  refine Snd.of (by decide +kernel) rfl ?_ ?_
  · rintro av m Φ ⟨x, rfl, _⟩; exact Nat.le_of_ble_eq_true rfl
  rintro av m Φ ⟨x, rfl, C, F, hB0, rfl, hF, h⟩ hav hty
  show B e_X3_leftOut Φ 0 [some (vr 3 103), some (vr 2 20), some (vi (nI F)), none, none, none] [] m (0, 0)
  have hv := hB0.1
  have loop : ∀ n x o m2, F + 1 ≤ x + n → x ≤ F → CU C m m2 → B e_X3_leftOut Φ 5 [some (vr 3 103), some (vr 2 20), some (vi (nI F)), some (vi (nI (gvN C F x))), some (vi (nI x)), o] [] m2 (0, 0) := by
    intro n
    induction n with
    | zero => intro x o m2 h1 h2; omega
    | succ n ih =>
      intro x o m2 h1 h2 hu
      have hB := hB0.cu hu
      have hg := gvN_lt (C := C) hF x h2
      have skip : ¬ ((nDel x F = 0 ∧ pc6 x < pc6 (gvN C F x)) ∧ setN C (nDel F x) ≠ none) → x < F → ∀ m3 o2, CU C m m3 → B e_X3_leftOut Φ 5 [some (vr 3 103), some (vr 2 20), some (vi (nI F)), some (vi (nI (gvN C F x))), some (vi (nI (x + 1))), o2] [] m3 (0, 0) := fun a b m3 o2 hu3 => by
        have e : gvN C F (x + 1) = gvN C F x := by
          show (if _ then _ else _) = _
          rw [if_neg a]
        have := ih (x + 1) o2 m3 (by omega) (by omega) hu3
        rw [e] at this
        exact this
      have hp1 := pc6_le _ hg
      have hnx : nDel x F < 64 := nDel_lt (by omega)
      have hnf : nDel F x < 64 := nDel_lt hF
      have mid : x < F → ∀ e o2, e ≤ 1 → (e = 1 ↔ nDel x F = 0 ∧ pc6 x < pc6 (gvN C F x)) → B e_X3_leftOut Φ 37 [some (vr 3 103), some (vr 2 20), some (vi (nI F)), some (vi (nI (gvN C F x))), some (vi (nI x)), o2] [vi (nI e)] m2 (0, 0) := by
        intro hx e o2 he hie
        refine siG5 (pc := 37) notL_i (by decide) dX3_leftOut_37 ?_
        refine b_iloadG (pc := 39) 5 dX3_leftOut_39 rfl ?_
        refine b_if_eq (pc := 41) 62 dX3_leftOut_41 (by decide) (fun c41 => ?_) (fun c41 => ?_)
        refine inc4 (pc := 62) notL_i (by decide) dX3_leftOut_62 ?_
        refine b_goto (pc := 65) 5 dX3_leftOut_65 (by decide) ?_
        rotate_left -- leaf 0: at 5
        refine b_aloadN (pc := 44) 1 dX3_leftOut_44 rfl rfl ?_
        refine b_iloadN (pc := 45) 2 dX3_leftOut_45 rfl rfl ?_
        refine b_iloadG (pc := 46) 4 dX3_leftOut_46 rfl ?_
        refine b_iconst (pc := 48) (-1) dX3_leftOut_48 (by decide) ?_
        refine b_ixor (pc := 49) dX3_leftOut_49 ?_
        refine b_iand (pc := 50) dX3_leftOut_50 ?_
        refine call_X2_settle (pc := 51) k826 (by decide) ⟨Nat.le_of_ble_eq_true rfl, Nat.le_of_ble_eq_true rfl⟩ (Nat.le_of_ble_eq_true rfl) dX3_leftOut_51 ?_
        refine ⟨_, rfl, C, _, hB, n_del _ _, ?_, fun m51 h51 => ?_⟩
        rotate_left -- leaf 1: bound of X2_settle at 51
        refine b_ldc (pc := 54) k827 dX3_leftOut_54 ?_
        refine b_icmp_eq (pc := 56) 62 dX3_leftOut_56 (by decide) (fun c56 => ?_) (fun c56 => ?_)
        refine inc4 (pc := 62) notL_i (by decide) dX3_leftOut_62 ?_
        refine b_goto (pc := 65) 5 dX3_leftOut_65 (by decide) ?_
        rotate_left -- leaf 2: at 5
        refine b_iloadG (pc := 59) 4 dX3_leftOut_59 rfl ?_
        refine siN3 (pc := 61) rfl notL_i (by decide) dX3_leftOut_61 ?_
        refine inc4 (pc := 62) notL_i (by decide) dX3_leftOut_62 ?_
        refine b_goto (pc := 65) 5 dX3_leftOut_65 (by decide) ?_
        rotate_left -- leaf 3: at 5
        -- leaves: 0 at 5; 1 bound of X2_settle at 51; 2 at 5; 3 at 5
        · rw [n_eq0 (by omega)] at c41
          rw [n_inc]
          refine skip (fun z => ?_) hx _ _ hu
          have := hie.mpr z.1
          omega
        · exact hnf
        · rw [oI_none hv hnf] at c56
          rw [n_inc]
          exact skip (fun z => z.2 c56) hx _ _ (hu.tr h51)
        · rw [oI_none hv hnf] at c56
          rw [n_eq0 (by omega)] at c41
          have z := hie.mp (by omega)
          rw [n_inc]
          have e2 : gvN C F (x + 1) = x := by
            show (if _ then _ else _) = _
            rw [if_pos ⟨z, c56⟩]
          have := ih (x + 1) (some (vi (nI e))) m51 (by omega) (by omega) (hu.tr h51)
          rw [e2] at this
          exact this
      refine b_iloadG (pc := 5) 4 dX3_leftOut_5 rfl ?_
      refine b_iloadN (pc := 7) 2 dX3_leftOut_7 rfl rfl ?_
      refine b_icmp_ge (pc := 8) 68 dX3_leftOut_8 (by decide) (fun c8 => ?_) (fun c8 => ?_)
      refine b_iloadN (pc := 68) 3 dX3_leftOut_68 rfl rfl ?_
      refine b_iret (pc := 69) rfl dX3_leftOut_69 ⟨Nat.le_of_ble_eq_true rfl, Nat.le_of_ble_eq_true rfl⟩ ?_
      rotate_left -- leaf 0: return at 69
      refine b_iloadG (pc := 11) 4 dX3_leftOut_11 rfl ?_
      refine b_iloadN (pc := 13) 2 dX3_leftOut_13 rfl rfl ?_
      refine b_iconst (pc := 14) (-1) dX3_leftOut_14 (by decide) ?_
      refine b_ixor (pc := 15) dX3_leftOut_15 ?_
      refine b_iand (pc := 16) dX3_leftOut_16 ?_
      refine b_if_ne (pc := 17) 36 dX3_leftOut_17 (by decide) (fun c17 => ?_) (fun c17 => ?_)
      refine b_iconst (pc := 36) (nI 0) dX3_leftOut_36 (by decide) ?_
      rotate_left -- leaf 1: at 37
      refine b_iloadG (pc := 20) 4 dX3_leftOut_20 rfl ?_
      refine call_J6_bitCount_0f7a4 (pc := 22) k825 (by decide) ⟨Nat.le_of_ble_eq_true rfl, Nat.le_of_ble_eq_true rfl⟩ (Nat.le_of_ble_eq_true rfl) dX3_leftOut_22 ?_
      refine ⟨_, rfl, _, rfl, ?_, ?_⟩
      rotate_left -- leaf 2: bound of J6_bitCount_0f7a4 at 22
      refine b_iloadN (pc := 25) 3 dX3_leftOut_25 rfl rfl ?_
      refine call_J6_bitCount_0f7a4 (pc := 26) k825 (by decide) ⟨Nat.le_of_ble_eq_true rfl, Nat.le_of_ble_eq_true rfl⟩ (Nat.le_of_ble_eq_true rfl) dX3_leftOut_26 ?_
      refine ⟨_, rfl, _, rfl, ?_, ?_⟩
      rotate_left -- leaf 3: bound of J6_bitCount_0f7a4 at 26
      refine b_icmp_ge (pc := 29) 36 dX3_leftOut_29 (by decide) (fun c29 => ?_) (fun c29 => ?_)
      refine b_iconst (pc := 36) (nI 0) dX3_leftOut_36 (by decide) ?_
      rotate_left -- leaf 4: at 37
      refine b_iconst (pc := 32) (nI 1) dX3_leftOut_32 (by decide) ?_
      refine b_goto (pc := 33) 37 dX3_leftOut_33 (by decide) ?_
      rotate_left -- leaf 5: at 37
      -- leaves: 0 return at 69; 1 at 37; 2 bound of J6_bitCount_0f7a4 at 22; 3 bound of J6_bitCount_0f7a4 at 26; 4 at 37; 5 at 37
      · rw [n_le (by omega) (by omega)] at c8
        have e : x = F := by omega
        rw [e]
        exact h m2 hu
      · rw [n_le (by omega) (by omega)] at c8
        rw [n_del, n_eq0 (by omega)] at c17
        exact mid (by omega) 0 _ (by omega) ⟨fun z => by omega, fun z => absurd z.1 c17⟩
      · omega
      · omega
      · rw [n_le (by omega) (by omega)] at c8
        rw [pc8_6 (by omega), pc8_6 (by omega), n_le (by omega) (by have := pc6_le x (by omega); omega)] at c29
        exact mid (by omega) 0 _ (by omega) ⟨fun z => by omega, fun z => by omega⟩
      · rw [n_le (by omega) (by omega)] at c8
        rw [n_del, n_eq0 (by omega)] at c17
        rw [pc8_6 (by omega), pc8_6 (by omega), n_le (by omega) (by have := pc6_le x (by omega); omega)] at c29
        exact mid (by omega) 1 _ (by omega) ⟨fun _ => ⟨c17, by omega⟩, fun _ => rfl⟩
  refine b_iloadN (pc := 0) 2 dX3_leftOut_0 rfl rfl ?_
  refine siN3 (pc := 1) rfl notL_i (by decide) dX3_leftOut_1 ?_
  refine b_iconst (pc := 2) (nI 0) dX3_leftOut_2 (by decide) ?_
  refine siG4 (pc := 3) notL_i (by decide) dX3_leftOut_3 ?_
  rotate_left -- leaf 0: at 5
  -- leaves: 0 at 5
  exact loop (F + 1) 0 none m (by omega) (by omega) (CU.rf C m)
theorem call_X3_leftOut {E : ME} {Φ : Option AV → AM → Prop} {pc : Nat} {L : List (Option AV)} {st : List AV} {m : AM} {a : Nat × Nat} {idx : Nat} {x0 x1 : AV} {i : Nat} (hl : Cond.methodLink E.2.1 idx yX3_leftOut ∈ TB) (hdep : 4 + 1 ≤ E.2.2.2.2.2.2) (hroom : a.1 + 0 ≤ E.2.2.2.2.1 ∧ a.2 + 0 ≤ E.2.2.2.2.2.1) (hsr : st.length ≤ 4) (hd : decode E.1 pc = .ok (.invokevirtual idx, 3)) (hsp : Sp_X3_leftOut [vr 3 i, x0, x1] m (fun r m2 => B E Φ (pc + 3) L (r.toList ++ st) m2 a)) : B E Φ pc L (x1 :: x0 :: vr 3 i :: st) m a := b_callV S_X3_leftOut [x0, x1] (RX3, TX3, 4) rfl rfl (by decide) (Or.inl hl) k822 k823 k77 k824 (show _ ∧ _ ∧ Option.map (fun d => d.parameters.length) (parseMethodDescriptor yX3_leftOut.desc) = some 2 from by decide +kernel) ⟨hdep, by decide⟩ hroom hsr hd hsp
/-! the order -/
def freeB (C : Nat → Nat) (L f : Nat) : Bool := L.testBit f && decide (madeF C 0 f (C 3) &&& L = 0)
def ffN (C : Nat → Nat) (L : Nat) : Nat → Option Nat
  | 0 => none
  | n + 1 => match ffN C L n with
    | some f => some f
    | none => if freeB C L n = true then some n else none
theorem ffN_some {C : Nat → Nat} {L f : Nat} : ∀ n, (∀ g, g < f → freeB C L g = false) → freeB C L f = true → f < n → ffN C L n = some f
  | 0, _, _, h => by omega
  | n + 1, h1, h2, h3 => by
    show (match ffN C L n with | some f => some f | none => if freeB C L n = true then some n else none) = _
    rcases Nat.lt_or_ge f n with q | q
    · rw [ffN_some n h1 h2 q]
    · have e : f = n := by omega
      subst e
      have : ∀ k, k ≤ f → ffN C L k = none := by
        intro k
        induction k with
        | zero => intro _; rfl
        | succ k ih =>
          intro hk
          show (match ffN C L k with | some f => some f | none => if freeB C L k = true then some k else none) = _
          rw [ih (by omega), h1 k (by omega)]
          rfl
      rw [this f (Nat.le_refl f), h2]
      rfl
theorem ffN_none {C : Nat → Nat} {L : Nat} : ∀ n, (∀ g, g < n → freeB C L g = false) → ffN C L n = none
  | 0, _ => rfl
  | n + 1, h => by
    show (match ffN C L n with | some f => some f | none => if freeB C L n = true then some n else none) = _
    rw [ffN_none n (fun g hg => h g (by omega)), h n (by omega)]
    rfl
abbrev e_X3_firstFree : ME := (cX3_firstFree, (RX3, (3, ((some .int), (0, (0, 3))))))
theorem dX3_firstFree_0 : decode cX3_firstFree 0 = .ok (.iconst 0, 1) := by decide +kernel
theorem dX3_firstFree_1 : decode cX3_firstFree 1 = .ok (.istore_n 2, 1) := by decide +kernel
theorem dX3_firstFree_2 : decode cX3_firstFree 2 = .ok (.iload_n 2, 1) := by decide +kernel
theorem dX3_firstFree_3 : decode cX3_firstFree 3 = .ok (.aload_n 0, 1) := by decide +kernel
theorem dX3_firstFree_4 : decode cX3_firstFree 4 = .ok (.getfield 24, 3) := by decide +kernel
theorem dX3_firstFree_7 : decode cX3_firstFree 7 = .ok (.getfield 30, 3) := by decide +kernel
theorem dX3_firstFree_10 : decode cX3_firstFree 10 = .ok (.if_icmp .ge 29, 3) := by decide +kernel
theorem dX3_firstFree_13 : decode cX3_firstFree 13 = .ok (.iload_n 1, 1) := by decide +kernel
theorem dX3_firstFree_14 : decode cX3_firstFree 14 = .ok (.iload_n 2, 1) := by decide +kernel
theorem dX3_firstFree_15 : decode cX3_firstFree 15 = .ok (.ishr, 1) := by decide +kernel
theorem dX3_firstFree_16 : decode cX3_firstFree 16 = .ok (.iconst 1, 1) := by decide +kernel
theorem dX3_firstFree_17 : decode cX3_firstFree 17 = .ok (.iand, 1) := by decide +kernel
theorem dX3_firstFree_18 : decode cX3_firstFree 18 = .ok (.iconst 1, 1) := by decide +kernel
theorem dX3_firstFree_19 : decode cX3_firstFree 19 = .ok (.if_icmp .ne 14, 3) := by decide +kernel
theorem dX3_firstFree_22 : decode cX3_firstFree 22 = .ok (.aload_n 0, 1) := by decide +kernel
theorem dX3_firstFree_23 : decode cX3_firstFree 23 = .ok (.iload_n 2, 1) := by decide +kernel
theorem dX3_firstFree_24 : decode cX3_firstFree 24 = .ok (.iload_n 1, 1) := by decide +kernel
theorem dX3_firstFree_25 : decode cX3_firstFree 25 = .ok (.invokevirtual 66, 3) := by decide +kernel
theorem dX3_firstFree_28 : decode cX3_firstFree 28 = .ok (.ifCond .ne 5, 3) := by decide +kernel
theorem dX3_firstFree_31 : decode cX3_firstFree 31 = .ok (.iload_n 2, 1) := by decide +kernel
theorem dX3_firstFree_32 : decode cX3_firstFree 32 = .ok (.ireturn, 1) := by decide +kernel
theorem dX3_firstFree_33 : decode cX3_firstFree 33 = .ok (.iinc 2 1, 3) := by decide +kernel
theorem dX3_firstFree_36 : decode cX3_firstFree 36 = .ok (.goto (-34), 3) := by decide +kernel
theorem dX3_firstFree_39 : decode cX3_firstFree 39 = .ok (.ldc 61, 2) := by decide +kernel
theorem dX3_firstFree_41 : decode cX3_firstFree 41 = .ok (.ireturn, 1) := by decide +kernel
def Sp_X3_firstFree (av : List AV) (m : AM) (Φ : Option AV → AM → Prop) : Prop := ∃ x, av = [vr 2 20, vi x] ∧ ∃ C L, BR m C ∧ x = nI L ∧ L < 64 ∧ Φ (some (vi (oI (ffN C L (C 0))))) m
set_option maxRecDepth 20000 in
set_option maxHeartbeats 4000000 in
theorem S_X3_firstFree : Snd yX3_firstFree e_X3_firstFree Sp_X3_firstFree := by
  refine Snd.of (by decide +kernel) rfl ?_ ?_
  · rintro av m Φ ⟨x, rfl, _⟩; exact Nat.le_of_ble_eq_true rfl
  rintro av m Φ ⟨x, rfl, C, L, hB, rfl, hL, h⟩ hav hty
  show B e_X3_firstFree Φ 0 [some (vr 2 20), some (vi (nI L)), none] [] m (0, 0)
  have hv := hB.1
  have h06 := hv.1.2
  have loop : ∀ n f, C 0 + 1 ≤ f + n → f ≤ C 0 → (∀ g, g < f → freeB C L g = false) → B e_X3_firstFree Φ 2 [some (vr 2 20), some (vi (nI L)), some (vi (nI f))] [] m (0, 0) := by
    intro n
    induction n with
    | zero => intro f h1 h2; omega
    | succ n ih =>
      intro f h1 h2 h3
      have nxt : f < C 0 → freeB C L f = false → B e_X3_firstFree Φ 2 [some (vr 2 20), some (vi (nI L)), some (vi (nI f + Int32.ofInt 1))] [] m (0, 0) := fun a b => by
        rw [n_inc]
        refine ih (f + 1) (by omega) (by omega) (fun g hg => ?_)
        rcases Nat.lt_or_ge g f with q | q
        · exact h3 g q
        · rw [show g = f by omega]; exact b
      refine b_iloadN (pc := 2) 2 dX3_firstFree_2 rfl rfl ?_
      refine b_aloadN (pc := 3) 0 dX3_firstFree_3 rfl rfl ?_
      refine gf2_0 (pc := 4) 21 rfl k267 dX3_firstFree_4 ?_
      refine gf5_4 (pc := 7) k144 dX3_firstFree_7 ?_
      refine b_icmp_ge (pc := 10) 39 dX3_firstFree_10 (by decide) (fun c10 => ?_) (fun c10 => ?_)
      refine b_ldc (pc := 39) k827 dX3_firstFree_39 ?_
      refine b_iret (pc := 41) rfl dX3_firstFree_41 ⟨Nat.le_of_ble_eq_true rfl, Nat.le_of_ble_eq_true rfl⟩ ?_
      rotate_left -- leaf 0: return at 41
      refine b_iloadN (pc := 13) 1 dX3_firstFree_13 rfl rfl ?_
      refine b_iloadN (pc := 14) 2 dX3_firstFree_14 rfl rfl ?_
      refine b_ishr (pc := 15) dX3_firstFree_15 ?_
      refine b_iconst (pc := 16) (nI 1) dX3_firstFree_16 (by decide) ?_
      refine b_iand (pc := 17) dX3_firstFree_17 ?_
      refine b_iconst (pc := 18) (nI 1) dX3_firstFree_18 (by decide) ?_
      refine b_icmp_ne (pc := 19) 33 dX3_firstFree_19 (by decide) (fun c19 => ?_) (fun c19 => ?_)
      refine inc2 (pc := 33) notL_i (by decide) dX3_firstFree_33 ?_
      refine b_goto (pc := 36) 2 dX3_firstFree_36 (by decide) ?_
      rotate_left -- leaf 1: at 2
      refine b_aloadN (pc := 22) 0 dX3_firstFree_22 rfl rfl ?_
      refine b_iloadN (pc := 23) 2 dX3_firstFree_23 rfl rfl ?_
      refine b_iloadN (pc := 24) 1 dX3_firstFree_24 rfl rfl ?_
      refine call_X2_makesAny (pc := 25) k840 (by decide) ⟨Nat.le_of_ble_eq_true rfl, Nat.le_of_ble_eq_true rfl⟩ (Nat.le_of_ble_eq_true rfl) dX3_firstFree_25 ?_
      refine ⟨_, _, rfl, C, _, _, hB, rfl, rfl, ?_, ?_, ?_⟩
      rotate_left -- leaf 2: fact of X2_makesAny at 25
      rotate_left -- leaf 3: facts of X2_makesAny at 25
      refine b_if_ne (pc := 28) 33 dX3_firstFree_28 (by decide) (fun c28 => ?_) (fun c28 => ?_)
      refine inc2 (pc := 33) notL_i (by decide) dX3_firstFree_33 ?_
      refine b_goto (pc := 36) 2 dX3_firstFree_36 (by decide) ?_
      rotate_left -- leaf 4: at 2
      refine b_iloadN (pc := 31) 2 dX3_firstFree_31 rfl rfl ?_
      refine b_iret (pc := 32) rfl dX3_firstFree_32 ⟨Nat.le_of_ble_eq_true rfl, Nat.le_of_ble_eq_true rfl⟩ ?_
      rotate_left -- leaf 5: return at 32
      -- leaves: 0 return at 41; 1 at 2; 2 fact of X2_makesAny at 25; 3 facts of X2_makesAny at 25; 4 at 2; 5 return at 32
      · rw [hB.2.1.1, n_le (by omega) (by omega)] at c10
        rw [show f = C 0 by omega] at h3
        rw [ffN_none _ h3] at h
        exact h
      · rw [hB.2.1.1, n_le (by omega) (by omega)] at c10
        rw [tbit_and1 _ _ (by omega) (by omega)] at c19
        refine nxt (by omega) ?_
        unfold freeB
        cases q : L.testBit f
        · rfl
        · rw [if_pos q] at c19; exact absurd rfl c19
      · rw [hB.2.1.1, n_le (by omega) (by omega)] at c10
        omega
      · exact hL
      · rw [hB.2.1.1, n_le (by omega) (by omega)] at c10
        refine nxt (by omega) ?_
        unfold freeB
        rw [decide_eq_false (fun z => by rw [if_pos z] at c28; exact c28 rfl), Bool.and_false]
      · rw [hB.2.1.1, n_le (by omega) (by omega)] at c10
        rw [tbit_and1 _ _ (by omega) (by omega)] at c19
        have e1 : L.testBit f = true := by
          by_cases q : L.testBit f = true
          · exact q
          · rw [if_neg q] at c19; exact absurd c19 (by decide)
        have e2 : madeF C 0 f (C 3) &&& L = 0 := by
          by_cases q : madeF C 0 f (C 3) &&& L = 0
          · exact q
          · rw [if_neg q] at c28; exact absurd c28 (by decide)
        rw [ffN_some (C 0) h3 (by unfold freeB; rw [e1, decide_eq_true e2]; rfl) (by omega)] at h
        exact h
  refine b_iconst (pc := 0) (nI 0) dX3_firstFree_0 (by decide) ?_
  refine siN2 (pc := 1) rfl notL_i (by decide) dX3_firstFree_1 ?_
  rotate_left -- leaf 0: at 2
  -- leaves: 0 at 2
  exact loop (C 0 + 1) 0 (by omega) (by omega) (fun g hg => absurd hg (Nat.not_lt_zero g))
theorem call_X3_firstFree {E : ME} {Φ : Option AV → AM → Prop} {pc : Nat} {L : List (Option AV)} {st : List AV} {m : AM} {a : Nat × Nat} {idx : Nat} {x0 x1 : AV} (hl : Cond.methodLink E.2.1 idx yX3_firstFree ∈ TB) (hdep : 3 + 1 ≤ E.2.2.2.2.2.2) (hroom : a.1 + 0 ≤ E.2.2.2.2.1 ∧ a.2 + 0 ≤ E.2.2.2.2.2.1) (hsr : st.length ≤ 4) (hd : decode E.1 pc = .ok (.invokestatic idx, 3)) (hsp : Sp_X3_firstFree [x0, x1] m (fun r m2 => B E Φ (pc + 3) L (r.toList ++ st) m2 a)) : B E Φ pc L (x1 :: x0 :: st) m a := b_callS S_X3_firstFree [x0, x1] (Or.inl hl) k838 k77 k839 (show _ ∧ _ ∧ Option.map (fun d => d.parameters.length) (parseMethodDescriptor yX3_firstFree.desc) = some 2 from by decide +kernel) ⟨hdep, by decide⟩ hroom hsr hd hsp
