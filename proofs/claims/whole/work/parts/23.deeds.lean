/-! say, pardon, strike, undo, image, restore -/
theorem BR.fr {m m2 : AM} {C : Nat → Nat} (hB : BR m C) (hf : ∀ a, 21 ≤ a → a ≤ 30 → m2.1 a = m.1 a) : BR m2 C := by
  obtain ⟨hv, hL, hS, hM, hC⟩ := hB
  refine ⟨hv, hL.cg (hf _ (by omega) (by omega)) (hf _ (by omega) (by omega)) (hf _ (by omega) (by omega)) (hf _ (by omega) (by omega)) (hf _ (by omega) (by omega)), hS.cg (hf _ (by omega) (by omega)) (hf _ (by omega) (by omega)), ?_, ?_⟩
  · intro f q
    rw [hf 28 (by omega) (by omega), hf 29 (by omega) (by omega)]
    exact hM f q
  · intro s q
    rw [hf 30 (by omega) (by omega)]
    exact hC s q
theorem CR.fr {m m2 : AM} {C : Nat → Nat} (h : CR m C) (hf : ∀ a, 21 ≤ a → a ≤ 30 → m2.1 a = m.1 a) : CR m2 C := by
  rcases h with h | ⟨h0, h1, h2, h3, h4, h5⟩
  · exact Or.inl (h.fr hf)
  · right
    refine ⟨h0, ?_⟩
    rw [hf 21 (by omega) (by omega), hf 26 (by omega) (by omega)]
    exact ⟨h1, h2, h3, h4, h5⟩
theorem actL_out : ∀ a, 21 ≤ a → a ≤ 30 → a ∉ actL := fun a h1 h2 => by
  simp [actL]
  refine ⟨by omega, fun x hx => by omega⟩
theorem Fr.bench {m m2 : AM} (h : Fr actL m m2) : ∀ a, 21 ≤ a → a ≤ 30 → m2.1 a = m.1 a := fun a h1 h2 => h.2 a (actL_out a h1 h2)
theorem actL_out2 : ∀ a, a ∈ [26, 27, 28, 29, 30] → a ∉ actL := fun a h => actL_out a (by simp at h; omega) (by simp at h; omega)
abbrev e_X10_say : ME := (cX10_say, (RX10, (3, ((some .int), (0, (0, 8))))))
theorem dX10_say_0 : decode cX10_say 0 = .ok (.aload_n 0, 1) := by decide +kernel
theorem dX10_say_1 : decode cX10_say 1 = .ok (.getfield 26, 3) := by decide +kernel
theorem dX10_say_4 : decode cX10_say 4 = .ok (.getfield 127, 3) := by decide +kernel
theorem dX10_say_7 : decode cX10_say 7 = .ok (.iload_n 1, 1) := by decide +kernel
theorem dX10_say_8 : decode cX10_say 8 = .ok (.invokevirtual 147, 3) := by decide +kernel
theorem dX10_say_11 : decode cX10_say 11 = .ok (.ifCond .eq 17, 3) := by decide +kernel
theorem dX10_say_14 : decode cX10_say 14 = .ok (.aload_n 0, 1) := by decide +kernel
theorem dX10_say_15 : decode cX10_say 15 = .ok (.getfield 26, 3) := by decide +kernel
theorem dX10_say_18 : decode cX10_say 18 = .ok (.getfield 127, 3) := by decide +kernel
theorem dX10_say_21 : decode cX10_say 21 = .ok (.iload_n 2, 1) := by decide +kernel
theorem dX10_say_22 : decode cX10_say 22 = .ok (.invokevirtual 150, 3) := by decide +kernel
theorem dX10_say_25 : decode cX10_say 25 = .ok (.ifCond .ne 6, 3) := by decide +kernel
theorem dX10_say_28 : decode cX10_say 28 = .ok (.ldc 69, 2) := by decide +kernel
theorem dX10_say_30 : decode cX10_say 30 = .ok (.ireturn, 1) := by decide +kernel
theorem dX10_say_31 : decode cX10_say 31 = .ok (.aload_n 0, 1) := by decide +kernel
theorem dX10_say_32 : decode cX10_say 32 = .ok (.getfield 26, 3) := by decide +kernel
theorem dX10_say_35 : decode cX10_say 35 = .ok (.getfield 153, 3) := by decide +kernel
theorem dX10_say_38 : decode cX10_say 38 = .ok (.getfield 157, 3) := by decide +kernel
theorem dX10_say_41 : decode cX10_say 41 = .ok (.sipush 999, 3) := by decide +kernel
theorem dX10_say_44 : decode cX10_say 44 = .ok (.if_icmp .lt 6, 3) := by decide +kernel
theorem dX10_say_47 : decode cX10_say 47 = .ok (.ldc 162, 2) := by decide +kernel
theorem dX10_say_49 : decode cX10_say 49 = .ok (.ireturn, 1) := by decide +kernel
theorem dX10_say_50 : decode cX10_say 50 = .ok (.aload_n 0, 1) := by decide +kernel
theorem dX10_say_51 : decode cX10_say 51 = .ok (.getfield 33, 3) := by decide +kernel
theorem dX10_say_54 : decode cX10_say 54 = .ok (.aload_n 0, 1) := by decide +kernel
theorem dX10_say_55 : decode cX10_say 55 = .ok (.getfield 26, 3) := by decide +kernel
theorem dX10_say_58 : decode cX10_say 58 = .ok (.getfield 153, 3) := by decide +kernel
theorem dX10_say_61 : decode cX10_say 61 = .ok (.invokevirtual 163, 3) := by decide +kernel
theorem dX10_say_64 : decode cX10_say 64 = .ok (.aload_n 0, 1) := by decide +kernel
theorem dX10_say_65 : decode cX10_say 65 = .ok (.getfield 26, 3) := by decide +kernel
theorem dX10_say_68 : decode cX10_say 68 = .ok (.iload_n 1, 1) := by decide +kernel
theorem dX10_say_69 : decode cX10_say 69 = .ok (.iload_n 2, 1) := by decide +kernel
theorem dX10_say_70 : decode cX10_say 70 = .ok (.invokevirtual 167, 3) := by decide +kernel
theorem dX10_say_73 : decode cX10_say 73 = .ok (.ireturn, 1) := by decide +kernel
def Sp_X10_say (av : List AV) (m : AM) (Φ : Option AV → AM → Prop) : Prop := ∃ p s, av = [vr 10 0, vi p, vi s] ∧ ∃ C a nx W, CR m C ∧ ActR m C a nx W ∧ ((inB p (C 4) && inB s (2 * C 0)) = false → Φ (some (vi (-1000001))) m) ∧ ((inB p (C 4) && inB s (2 * C 0)) = true → 999 ≤ C 7 → Φ (some (vi (-1000003))) m) ∧ ((inB p (C 4) && inB s (2 * C 0)) = true → C 7 ≤ 998 → ∀ m2, Fr ([26, 27, 30] ++ actL) m m2 → BR m2 (sayC C p.toNatClampNeg s.toNatClampNeg) → ActR m2 (sayC C p.toNatClampNeg s.toNatClampNeg) (keepA a) ((nx + 1) % 24) (keepW a W C) → Φ (some (vi (sayO C p.toNatClampNeg s.toNatClampNeg))) m2)
set_option maxRecDepth 20000 in
set_option maxHeartbeats 4000000 in
theorem S_X10_say : Snd yX10_say e_X10_say Sp_X10_say := by
  refine Snd.of (by decide +kernel) rfl ?_ ?_
  · rintro av m Φ ⟨p, s, rfl, _⟩; exact Nat.le_of_ble_eq_true rfl
  rintro av m Φ ⟨p, s, rfl, C, a, nx, W, hC, hA, h1, h2, h3⟩ hav hty
  show B e_X10_say Φ 0 [some (vr 10 0), some (vi p), some (vi s)] [] m (0, 0)
  have hle := hC.le
  have op : ∀ {b : Bool}, inB p (C 4) = true → BR m C := fun {b} q => by
    obtain ⟨j, hj, rfl⟩ := (inB_iff (by omega)).mp q
    exact hC.op (Or.inr (Or.inr (by omega)))
  have hs7 : inB p (C 4) = true → m.1 26 3 = nI (C 7) ∧ C 7 ≤ 999 := fun q => ⟨(op (b := true) q).2.2.1.2.2.1, (op (b := true) q).1.2.2.2.2.2.2.1⟩
  refine b_aloadN (pc := 0) 0 dX10_say_0 rfl rfl ?_
  refine gf10_2 (pc := 1) 20 rfl k417 dX10_say_1 ?_
  refine gf2_0 (pc := 4) 21 rfl k269 dX10_say_4 ?_
  refine b_iloadN (pc := 7) 1 dX10_say_7 rfl rfl ?_
  refine call_X5_isPerson (pc := 8) k642 (by decide) ⟨Nat.le_of_ble_eq_true rfl, Nat.le_of_ble_eq_true rfl⟩ (Nat.le_of_ble_eq_true rfl) dX10_say_8 ?_
  refine ⟨_, rfl, _, hC.num.2.2.2.1, ?_⟩
  refine b_if_eq (pc := 11) 28 dX10_say_11 (by decide) (fun c11 => ?_) (fun c11 => ?_)
  refine b_ldc (pc := 28) k450 dX10_say_28 ?_
  refine b_iret (pc := 30) rfl dX10_say_30 ⟨Nat.le_of_ble_eq_true rfl, Nat.le_of_ble_eq_true rfl⟩ ?_
  rotate_left -- leaf 0: return at 30
  refine b_aloadN (pc := 14) 0 dX10_say_14 rfl rfl ?_
  refine gf10_2 (pc := 15) 20 rfl k417 dX10_say_15 ?_
  refine gf2_0 (pc := 18) 21 rfl k269 dX10_say_18 ?_
  refine b_iloadN (pc := 21) 2 dX10_say_21 rfl rfl ?_
  refine call_X5_isSaying (pc := 22) k646 (by decide) ⟨Nat.le_of_ble_eq_true rfl, Nat.le_of_ble_eq_true rfl⟩ (Nat.le_of_ble_eq_true rfl) dX10_say_22 ?_
  refine ⟨_, rfl, _, hC.num.1, ?_⟩
  refine b_if_ne (pc := 25) 31 dX10_say_25 (by decide) (fun c25 => ?_) (fun c25 => ?_)
  refine b_aloadN (pc := 31) 0 dX10_say_31 rfl rfl ?_
  refine gf10_2 (pc := 32) 20 rfl k417 dX10_say_32 ?_
  refine gf2_1 (pc := 35) 26 rfl k275 dX10_say_35 ?_
  refine gf8_3 (pc := 38) k244 dX10_say_38 ?_
  refine b_sipush (pc := 41) (nI 999) dX10_say_41 (by decide) ?_
  refine b_icmp_lt (pc := 44) 50 dX10_say_44 (by decide) (fun c44 => ?_) (fun c44 => ?_)
  refine b_aloadN (pc := 50) 0 dX10_say_50 rfl rfl ?_
  refine gf10_3 (pc := 51) 31 rfl k418 dX10_say_51 ?_
  refine b_aloadN (pc := 54) 0 dX10_say_54 rfl rfl ?_
  refine gf10_2 (pc := 55) 20 rfl k417 dX10_say_55 ?_
  refine gf2_1 (pc := 58) 26 rfl k275 dX10_say_58 ?_
  refine call_X0_keep (pc := 61) k651 (by decide) ⟨Nat.le_of_ble_eq_true rfl, Nat.le_of_ble_eq_true rfl⟩ (Nat.le_of_ble_eq_true rfl) dX10_say_61 ?_
  refine ⟨rfl, C, a, nx, W, ?_, ?_, ?_, fun m61 fr61 ac61 => ?_⟩
  rotate_left -- leaf 1: valid of X0_keep at 61
  rotate_left -- leaf 2: standing of X0_keep at 61
  rotate_left -- leaf 3: acts of X0_keep at 61
  refine b_aloadN (pc := 64) 0 dX10_say_64 rfl rfl ?_
  refine gf10_2 (pc := 65) 20 rfl k417 dX10_say_65 ?_
  refine b_iloadN (pc := 68) 1 dX10_say_68 rfl rfl ?_
  refine b_iloadN (pc := 69) 2 dX10_say_69 rfl rfl ?_
  refine call_X2_utter (pc := 70) k659 (by decide) ⟨Nat.le_of_ble_eq_true rfl, Nat.le_of_ble_eq_true rfl⟩ (Nat.le_of_ble_eq_true rfl) dX10_say_70 ?_
  refine ⟨_, _, rfl, C, p.toNatClampNeg, s.toNatClampNeg, ?_, ?_, ?_, ?_, ?_, ?_, fun m70 fr70 hB70 => ?_⟩
  rotate_left -- leaf 4: bench of X2_utter at 70
  rotate_left -- leaf 5: x of X2_utter at 70
  rotate_left -- leaf 6: y of X2_utter at 70
  rotate_left -- leaf 7: person of X2_utter at 70
  rotate_left -- leaf 8: saying of X2_utter at 70
  rotate_left -- leaf 9: room of X2_utter at 70
  refine b_iret (pc := 73) rfl dX10_say_73 ⟨Nat.le_of_ble_eq_true rfl, Nat.le_of_ble_eq_true rfl⟩ ?_
  rotate_left -- leaf 10: return at 73
  refine b_ldc (pc := 47) k650 dX10_say_47 ?_
  refine b_iret (pc := 49) rfl dX10_say_49 ⟨Nat.le_of_ble_eq_true rfl, Nat.le_of_ble_eq_true rfl⟩ ?_
  rotate_left -- leaf 11: return at 49
  refine b_ldc (pc := 28) k450 dX10_say_28 ?_
  refine b_iret (pc := 30) rfl dX10_say_30 ⟨Nat.le_of_ble_eq_true rfl, Nat.le_of_ble_eq_true rfl⟩ ?_
  rotate_left -- leaf 12: return at 30
  -- leaves: 0 return at 30; 1 valid of X0_keep at 61; 2 standing of X0_keep at 61; 3 acts of X0_keep at 61; 4 bench of X2_utter at 70; 5 x of X2_utter at 70; 6 y of X2_utter at 70; 7 person of X2_utter at 70; 8 saying of X2_utter at 70; 9 room of X2_utter at 70; 10 return at 73; 11 return at 49; 12 return at 30
  · exact h1 (by rw [bF c11]; rfl)
  · exact (op (b := true) (bT c11)).1
  · exact (op (b := true) (bT c11)).2.2.1
  · exact hA
  · exact (op (b := true) (bT c11)).fr fr61.bench
  · obtain ⟨j, hj, rfl⟩ := (inB_iff (by omega)).mp (bT c11)
    rw [n_cl (by omega)]
  · obtain ⟨j, hj, rfl⟩ := (inB_iff (by omega)).mp (bT c25)
    rw [n_cl (by omega)]
  · obtain ⟨j, hj, rfl⟩ := (inB_iff (by omega)).mp (bT c11)
    rw [n_cl (by omega)]; exact hj
  · obtain ⟨j, hj, rfl⟩ := (inB_iff (by omega)).mp (bT c25)
    rw [n_cl (by omega)]; exact hj
  · have q := hs7 (bT c11)
    rw [q.1, n_lt (by omega) (by omega)] at c44
    omega
  · have q := hs7 (bT c11)
    rw [q.1, n_lt (by omega) (by omega)] at c44
    refine h3 (by rw [bT c11, bT c25]; rfl) (by omega) m70 ((fr61.tr fr70).mono (fun z hz => ?_)) hB70 ?_
    · rcases List.mem_append.mp hz with e | e
      · exact List.mem_append_right _ e
      · exact List.mem_append_left _ e
    · refine (ac61.fr (fun i hi => fr70.2 i (fun z => ?_))).law (sayC_law C hle.2.1 _ _)
      exact actL_out2 i (by simp at z ⊢; omega) hi
  · have q := hs7 (bT c11)
    rw [q.1, n_lt (by omega) (by omega)] at c44
    exact h2 (by rw [bT c11, bT c25]; rfl) (by omega)
  · exact h1 (by rw [bF c25, Bool.and_false])
theorem call_X10_say {E : ME} {Φ : Option AV → AM → Prop} {pc : Nat} {L : List (Option AV)} {st : List AV} {m : AM} {a : Nat × Nat} {idx : Nat} {x0 x1 : AV} {i : Nat} (hl : Cond.methodLink E.2.1 idx yX10_say ∈ TB) (hdep : 8 + 1 ≤ E.2.2.2.2.2.2) (hroom : a.1 + 0 ≤ E.2.2.2.2.1 ∧ a.2 + 0 ≤ E.2.2.2.2.2.1) (hsr : st.length ≤ 4) (hd : decode E.1 pc = .ok (.invokevirtual idx, 3)) (hsp : Sp_X10_say [vr 10 i, x0, x1] m (fun r m2 => B E Φ (pc + 3) L (r.toList ++ st) m2 a)) : B E Φ pc L (x1 :: x0 :: vr 10 i :: st) m a := b_callV S_X10_say [x0, x1] (RX10, TX10, 9) rfl rfl (by decide) (Or.inl hl) k639 k640 k68 k641 (show _ ∧ _ ∧ Option.map (fun d => d.parameters.length) (parseMethodDescriptor yX10_say.desc) = some 2 from by decide +kernel) ⟨hdep, by decide⟩ hroom hsr hd hsp
def parN (C : Nat → Nat) (f : Nat) : Nat → Nat := upC C 5 (nDel (C 5) (2 ^ f))
theorem VC.par {C : Nat → Nat} (hv : VC C) (f : Nat) : VC (parN C f) := by
  have e : ∀ j, j ≠ 5 → parN C f j = C j := fun j hj => upC_ne C _ hj
  have e5 : parN C f 5 = nDel (C 5) (2 ^ f) := upC_at C _ _
  obtain ⟨h0, h1, h2, h3, h4, h5, h7, h6, hr1, hp⟩ := hv
  unfold VC
  rw [e5, e 0 (by omega), e 1 (by omega), e 2 (by omega), e 3 (by omega), e 4 (by omega), e 6 (by omega), e 7 (by omega)]
  refine ⟨h0, h1, h2, h3, h4, below_lt (fun i hi => ?_), h7, h6, fun k hk => ?_, fun p hp1 => ?_⟩
  · rw [nDel_bit] at hi
    refine lt_below h5 i ?_
    cases q : (C 5).testBit i
    · rw [q] at hi; cases hi
    · rfl
  · rw [e (8 + 4 * k) (by omega), e (9 + 4 * k) (by omega), e (10 + 4 * k) (by omega), e (11 + 4 * k) (by omega)]
    exact hr1 k hk
  · rw [e (40 + 2 * p) (by omega), e (41 + 2 * p) (by omega)]
    exact hp p hp1
theorem parN_same (C : Nat → Nat) (f : Nat) : sameR C (parN C f) ∧ parN C f 0 = C 0 ∧ parN C f 2 = C 2 ∧ parN C f 4 = C 4 ∧ ∀ j, parN C f (40 + 2 * j) = C (40 + 2 * j) := by
  have e : ∀ j, j ≠ 5 → parN C f j = C j := fun j hj => upC_ne C _ hj
  exact ⟨⟨e _ (by omega), fun j h1 h2 => e _ (by omega)⟩, e _ (by omega), e _ (by omega), e _ (by omega), fun j => e _ (by omega)⟩
abbrev e_X10_pardon : ME := (cX10_pardon, (RX10, (2, ((some .int), (0, (0, 8))))))
theorem dX10_pardon_0 : decode cX10_pardon 0 = .ok (.iload_n 1, 1) := by decide +kernel
theorem dX10_pardon_1 : decode cX10_pardon 1 = .ok (.ifCond .lt 17, 3) := by decide +kernel
theorem dX10_pardon_4 : decode cX10_pardon 4 = .ok (.iload_n 1, 1) := by decide +kernel
theorem dX10_pardon_5 : decode cX10_pardon 5 = .ok (.aload_n 0, 1) := by decide +kernel
theorem dX10_pardon_6 : decode cX10_pardon 6 = .ok (.getfield 26, 3) := by decide +kernel
theorem dX10_pardon_9 : decode cX10_pardon 9 = .ok (.getfield 127, 3) := by decide +kernel
theorem dX10_pardon_12 : decode cX10_pardon 12 = .ok (.getfield 171, 3) := by decide +kernel
theorem dX10_pardon_15 : decode cX10_pardon 15 = .ok (.if_icmp .lt 6, 3) := by decide +kernel
theorem dX10_pardon_18 : decode cX10_pardon 18 = .ok (.ldc 69, 2) := by decide +kernel
theorem dX10_pardon_20 : decode cX10_pardon 20 = .ok (.ireturn, 1) := by decide +kernel
theorem dX10_pardon_21 : decode cX10_pardon 21 = .ok (.aload_n 0, 1) := by decide +kernel
theorem dX10_pardon_22 : decode cX10_pardon 22 = .ok (.getfield 26, 3) := by decide +kernel
theorem dX10_pardon_25 : decode cX10_pardon 25 = .ok (.getfield 153, 3) := by decide +kernel
theorem dX10_pardon_28 : decode cX10_pardon 28 = .ok (.getfield 174, 3) := by decide +kernel
theorem dX10_pardon_31 : decode cX10_pardon 31 = .ok (.iload_n 1, 1) := by decide +kernel
theorem dX10_pardon_32 : decode cX10_pardon 32 = .ok (.ishr, 1) := by decide +kernel
theorem dX10_pardon_33 : decode cX10_pardon 33 = .ok (.iconst 1, 1) := by decide +kernel
theorem dX10_pardon_34 : decode cX10_pardon 34 = .ok (.iand, 1) := by decide +kernel
theorem dX10_pardon_35 : decode cX10_pardon 35 = .ok (.ifCond .ne 6, 3) := by decide +kernel
theorem dX10_pardon_38 : decode cX10_pardon 38 = .ok (.ldc 142, 2) := by decide +kernel
theorem dX10_pardon_40 : decode cX10_pardon 40 = .ok (.ireturn, 1) := by decide +kernel
theorem dX10_pardon_41 : decode cX10_pardon 41 = .ok (.aload_n 0, 1) := by decide +kernel
theorem dX10_pardon_42 : decode cX10_pardon 42 = .ok (.getfield 33, 3) := by decide +kernel
theorem dX10_pardon_45 : decode cX10_pardon 45 = .ok (.aload_n 0, 1) := by decide +kernel
theorem dX10_pardon_46 : decode cX10_pardon 46 = .ok (.getfield 26, 3) := by decide +kernel
theorem dX10_pardon_49 : decode cX10_pardon 49 = .ok (.getfield 153, 3) := by decide +kernel
theorem dX10_pardon_52 : decode cX10_pardon 52 = .ok (.invokevirtual 163, 3) := by decide +kernel
theorem dX10_pardon_55 : decode cX10_pardon 55 = .ok (.aload_n 0, 1) := by decide +kernel
theorem dX10_pardon_56 : decode cX10_pardon 56 = .ok (.getfield 26, 3) := by decide +kernel
theorem dX10_pardon_59 : decode cX10_pardon 59 = .ok (.getfield 153, 3) := by decide +kernel
theorem dX10_pardon_62 : decode cX10_pardon 62 = .ok (.dup, 1) := by decide +kernel
theorem dX10_pardon_63 : decode cX10_pardon 63 = .ok (.getfield 174, 3) := by decide +kernel
theorem dX10_pardon_66 : decode cX10_pardon 66 = .ok (.iconst 1, 1) := by decide +kernel
theorem dX10_pardon_67 : decode cX10_pardon 67 = .ok (.iload_n 1, 1) := by decide +kernel
theorem dX10_pardon_68 : decode cX10_pardon 68 = .ok (.ishl, 1) := by decide +kernel
theorem dX10_pardon_69 : decode cX10_pardon 69 = .ok (.iconst (-1), 1) := by decide +kernel
theorem dX10_pardon_70 : decode cX10_pardon 70 = .ok (.ixor, 1) := by decide +kernel
theorem dX10_pardon_71 : decode cX10_pardon 71 = .ok (.iand, 1) := by decide +kernel
theorem dX10_pardon_72 : decode cX10_pardon 72 = .ok (.putfield 174, 3) := by decide +kernel
theorem dX10_pardon_75 : decode cX10_pardon 75 = .ok (.aload_n 0, 1) := by decide +kernel
theorem dX10_pardon_76 : decode cX10_pardon 76 = .ok (.getfield 26, 3) := by decide +kernel
theorem dX10_pardon_79 : decode cX10_pardon 79 = .ok (.getfield 153, 3) := by decide +kernel
theorem dX10_pardon_82 : decode cX10_pardon 82 = .ok (.getfield 174, 3) := by decide +kernel
theorem dX10_pardon_85 : decode cX10_pardon 85 = .ok (.ireturn, 1) := by decide +kernel
def Sp_X10_pardon (av : List AV) (m : AM) (Φ : Option AV → AM → Prop) : Prop := ∃ f, av = [vr 10 0, vi f] ∧ ∃ C a nx W, CR m C ∧ ActR m C a nx W ∧ (inB f (C 0) = false → Φ (some (vi (-1000001))) m) ∧ (inB f (C 0) = true → (C 5).testBit f.toNatClampNeg = false → Φ (some (vi (-1000002))) m) ∧ (inB f (C 0) = true → (C 5).testBit f.toNatClampNeg = true → ∀ m2, Fr ([26] ++ actL) m m2 → BR m2 (parN C f.toNatClampNeg) → ActR m2 (parN C f.toNatClampNeg) (keepA a) ((nx + 1) % 24) (keepW a W C) → Φ (some (vi (nI (parN C f.toNatClampNeg 5)))) m2)
set_option maxRecDepth 20000 in
set_option maxHeartbeats 4000000 in
theorem S_X10_pardon : Snd yX10_pardon e_X10_pardon Sp_X10_pardon := by
  refine Snd.of (by decide +kernel) rfl ?_ ?_
  · rintro av m Φ ⟨f, rfl, _⟩; exact Nat.le_of_ble_eq_true rfl
  rintro av m Φ ⟨f, rfl, C, a, nx, W, hC, hA, h1, h2, h3⟩ hav hty
  show B e_X10_pardon Φ 0 [some (vr 10 0), some (vi f)] [] m (0, 0)
  have hle := hC.le
  have op : inB f (C 0) = true → BR m C := fun q => by
    obtain ⟨j, hj, rfl⟩ := (inB_iff (by omega)).mp q
    exact hC.op (Or.inl (by omega))
  have hin : ¬ f < 0 → f < m.1 21 4 → inB f (C 0) = true := fun a b => by
    rw [hC.num.1] at b
    unfold inB
    rw [decide_eq_true a, decide_eq_true b]; rfl
  have bit : inB f (C 0) = true → (m.1 26 2 >>> (f &&& 31)) &&& nI 1 = nI (if (C 5).testBit f.toNatClampNeg = true then 1 else 0) := fun q => by
    have hB := op q
    obtain ⟨j, hj, rfl⟩ := (inB_iff (by omega)).mp q
    have := hB.1.c5
    rw [hB.2.2.1.2.1, n_cl (by omega), tbit_and1 _ _ (by omega) (by omega)]
  refine b_iloadN (pc := 0) 1 dX10_pardon_0 rfl rfl ?_
  refine b_if_lt (pc := 1) 18 dX10_pardon_1 (by decide) (fun c1 => ?_) (fun c1 => ?_)
  refine b_ldc (pc := 18) k450 dX10_pardon_18 ?_
  refine b_iret (pc := 20) rfl dX10_pardon_20 ⟨Nat.le_of_ble_eq_true rfl, Nat.le_of_ble_eq_true rfl⟩ ?_
  rotate_left -- leaf 0: return at 20
  refine b_iloadN (pc := 4) 1 dX10_pardon_4 rfl rfl ?_
  refine b_aloadN (pc := 5) 0 dX10_pardon_5 rfl rfl ?_
  refine gf10_2 (pc := 6) 20 rfl k417 dX10_pardon_6 ?_
  refine gf2_0 (pc := 9) 21 rfl k269 dX10_pardon_9 ?_
  refine gf5_4 (pc := 12) k147 dX10_pardon_12 ?_
  refine b_icmp_lt (pc := 15) 21 dX10_pardon_15 (by decide) (fun c15 => ?_) (fun c15 => ?_)
  refine b_aloadN (pc := 21) 0 dX10_pardon_21 rfl rfl ?_
  refine gf10_2 (pc := 22) 20 rfl k417 dX10_pardon_22 ?_
  refine gf2_1 (pc := 25) 26 rfl k275 dX10_pardon_25 ?_
  refine gf8_2 (pc := 28) k241 dX10_pardon_28 ?_
  refine b_iloadN (pc := 31) 1 dX10_pardon_31 rfl rfl ?_
  refine b_ishr (pc := 32) dX10_pardon_32 ?_
  refine b_iconst (pc := 33) (nI 1) dX10_pardon_33 (by decide) ?_
  refine b_iand (pc := 34) dX10_pardon_34 ?_
  refine b_if_ne (pc := 35) 41 dX10_pardon_35 (by decide) (fun c35 => ?_) (fun c35 => ?_)
  refine b_aloadN (pc := 41) 0 dX10_pardon_41 rfl rfl ?_
  refine gf10_3 (pc := 42) 31 rfl k418 dX10_pardon_42 ?_
  refine b_aloadN (pc := 45) 0 dX10_pardon_45 rfl rfl ?_
  refine gf10_2 (pc := 46) 20 rfl k417 dX10_pardon_46 ?_
  refine gf2_1 (pc := 49) 26 rfl k275 dX10_pardon_49 ?_
  refine call_X0_keep (pc := 52) k651 (by decide) ⟨Nat.le_of_ble_eq_true rfl, Nat.le_of_ble_eq_true rfl⟩ (Nat.le_of_ble_eq_true rfl) dX10_pardon_52 ?_
  refine ⟨rfl, C, a, nx, W, ?_, ?_, ?_, fun m52 fr52 ac52 => ?_⟩
  rotate_left -- leaf 1: valid of X0_keep at 52
  rotate_left -- leaf 2: standing of X0_keep at 52
  rotate_left -- leaf 3: acts of X0_keep at 52
  refine b_aloadN (pc := 55) 0 dX10_pardon_55 rfl rfl ?_
  refine gf10_2 (pc := 56) 20 rfl k417 dX10_pardon_56 ?_
  refine gf2_1 (pc := 59) 26 rfl k275 dX10_pardon_59 ?_
  refine b_dup_r (pc := 62) dX10_pardon_62 ?_
  refine gf8_2 (pc := 63) k241 dX10_pardon_63 ?_
  refine b_iconst (pc := 66) (nI 1) dX10_pardon_66 (by decide) ?_
  refine b_iloadN (pc := 67) 1 dX10_pardon_67 rfl rfl ?_
  refine b_ishl (pc := 68) dX10_pardon_68 ?_
  refine b_iconst (pc := 69) (-1) dX10_pardon_69 (by decide) ?_
  refine b_ixor (pc := 70) dX10_pardon_70 ?_
  refine b_iand (pc := 71) dX10_pardon_71 ?_
  refine pf8_2 (pc := 72) k241 dX10_pardon_72 ?_
  refine b_aloadN (pc := 75) 0 dX10_pardon_75 rfl rfl ?_
  refine gf10_2 (pc := 76) 20 rfl k417 dX10_pardon_76 ?_
  refine gf2_1 (pc := 79) 26 rfl k275 dX10_pardon_79 ?_
  refine gf8_2 (pc := 82) k241 dX10_pardon_82 ?_
  refine b_iret (pc := 85) rfl dX10_pardon_85 ⟨Nat.le_of_ble_eq_true rfl, Nat.le_of_ble_eq_true rfl⟩ ?_
  rotate_left -- leaf 4: return at 85
  refine b_ldc (pc := 38) k624 dX10_pardon_38 ?_
  refine b_iret (pc := 40) rfl dX10_pardon_40 ⟨Nat.le_of_ble_eq_true rfl, Nat.le_of_ble_eq_true rfl⟩ ?_
  rotate_left -- leaf 5: return at 40
  refine b_ldc (pc := 18) k450 dX10_pardon_18 ?_
  refine b_iret (pc := 20) rfl dX10_pardon_20 ⟨Nat.le_of_ble_eq_true rfl, Nat.le_of_ble_eq_true rfl⟩ ?_
  rotate_left -- leaf 6: return at 20
  -- leaves: 0 return at 20; 1 valid of X0_keep at 52; 2 standing of X0_keep at 52; 3 acts of X0_keep at 52; 4 return at 85; 5 return at 40; 6 return at 20
  · exact h1 (inB_f1 c1)
  · exact (op (hin c1 c15)).1
  · exact (op (hin c1 c15)).2.2.1
  · exact hA
  · have q := hin c1 c15
    have hB := op q
    have c35 := c35
    rw [bit q] at c35
    have tb := bT c35
    have h5 := hB.1.c5
    obtain ⟨j, hj, rfl⟩ := (inB_iff (by omega)).mp q
    rw [n_cl (show j < 2147483648 by omega)] at h3 tb
    have f26 : m52.1 26 = m.1 26 := fr52.bench 26 (by omega) (by omega)
    have e5 : parN C j 5 = nDel (C 5) (2 ^ j) := upC_at C _ _
    rw [mset_at, if_pos rfl, f26, hB.2.2.1.2.1, n_pow (by omega), n_del, ← e5]
    have hp := parN_same C j
    refine h3 q tb _ ((fr52.mono (fun z hz => List.mem_append_right _ hz)).ms (by simp)) ?_ ?_
    · refine hB.re hp.1 hp.2.1 hp.2.2.1 hp.2.2.2.1 hp.2.2.2.2 (hB.1.par j) (fun z hz => ?_) ?_ ?_
      · rw [mset_ne _ _ _ (by omega)]; exact fr52.bench z (by omega) (by omega)
      · intro z hz; rw [mset_ne _ _ _ (by decide), fr52.bench 30 (by omega) (by omega)]; exact hB.2.2.2.2 z hz
      · have e : ∀ j2, j2 ≠ 5 → parN C j j2 = C j2 := fun j2 hj2 => upC_ne C _ hj2
        have hS := hB.2.2.1
        have h45 := hB.1.2.2.2.2.1.2
        unfold StR
        rw [mset_at, if_neg (by decide), mset_at, if_pos rfl, mset_at, if_neg (by decide), mset_at, if_neg (by decide), mset_at, if_neg (by decide), f26, e 1 (by omega), e 7 (by omega), e 6 (by omega), e 4 (by omega)]
        refine ⟨hS.1, rfl, hS.2.2.1, hS.2.2.2.1, hS.2.2.2.2.1.cg hp.1 hle.2.1, fun p hp1 => ?_⟩
        rw [mset_ne _ _ _ (by decide), fr52.bench 27 (by omega) (by omega), e _ (by omega)]
        exact hS.2.2.2.2.2 p hp1
    · refine (ac52.fr (fun i hi => mset_ne _ _ _ (fun z => ?_))).law ⟨hp.2.1, hp.2.2.1, hp.1.1, hp.2.2.2.1, fun k hk => ⟨hp.1.2 _ (by omega) (by omega), hp.1.2 _ (by omega) (by omega), hp.1.2 _ (by omega) (by omega)⟩, fun p hp1 => hp.2.2.2.2 p⟩
      rw [z] at hi
      exact absurd hi (by decide)
  · have q := hin c1 c15
    have c35 := c35
    rw [bit q] at c35
    exact h2 q (bF c35)
  · refine h1 (inB_f2 ?_)
    rw [hC.num.1] at c15
    exact Int32.not_lt.mp c15
theorem call_X10_pardon {E : ME} {Φ : Option AV → AM → Prop} {pc : Nat} {L : List (Option AV)} {st : List AV} {m : AM} {a : Nat × Nat} {idx : Nat} {x0 : AV} {i : Nat} (hl : Cond.methodLink E.2.1 idx yX10_pardon ∈ TB) (hdep : 8 + 1 ≤ E.2.2.2.2.2.2) (hroom : a.1 + 0 ≤ E.2.2.2.2.1 ∧ a.2 + 0 ≤ E.2.2.2.2.2.1) (hsr : st.length ≤ 4) (hd : decode E.1 pc = .ok (.invokevirtual idx, 3)) (hsp : Sp_X10_pardon [vr 10 i, x0] m (fun r m2 => B E Φ (pc + 3) L (r.toList ++ st) m2 a)) : B E Φ pc L (x0 :: vr 10 i :: st) m a := b_callV S_X10_pardon [x0] (RX10, TX10, 9) rfl rfl (by decide) (Or.inl hl) k698 k699 k68 k700 (show _ ∧ _ ∧ Option.map (fun d => d.parameters.length) (parseMethodDescriptor yX10_pardon.desc) = some 1 from by decide +kernel) ⟨hdep, by decide⟩ hroom hsr hd hsp
