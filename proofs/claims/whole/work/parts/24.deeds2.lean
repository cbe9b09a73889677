/-! strike, undo, image, restore, feed, found, fine, fault, status -/
abbrev e_X10_strike : ME := (cX10_strike, (RX10, (3, ((some .int), (0, (0, 8))))))
theorem dX10_strike_0 : decode cX10_strike 0 = .ok (.aload_n 0, 1) := by decide +kernel
theorem dX10_strike_1 : decode cX10_strike 1 = .ok (.getfield 26, 3) := by decide +kernel
theorem dX10_strike_4 : decode cX10_strike 4 = .ok (.getfield 127, 3) := by decide +kernel
theorem dX10_strike_7 : decode cX10_strike 7 = .ok (.iload_n 1, 1) := by decide +kernel
theorem dX10_strike_8 : decode cX10_strike 8 = .ok (.invokevirtual 177, 3) := by decide +kernel
theorem dX10_strike_11 : decode cX10_strike 11 = .ok (.ifCond .eq 10, 3) := by decide +kernel
theorem dX10_strike_14 : decode cX10_strike 14 = .ok (.iload_n 2, 1) := by decide +kernel
theorem dX10_strike_15 : decode cX10_strike 15 = .ok (.invokestatic 180, 3) := by decide +kernel
theorem dX10_strike_18 : decode cX10_strike 18 = .ok (.ifCond .eq 6, 3) := by decide +kernel
theorem dX10_strike_21 : decode cX10_strike 21 = .ok (.ldc 69, 2) := by decide +kernel
theorem dX10_strike_23 : decode cX10_strike 23 = .ok (.ireturn, 1) := by decide +kernel
theorem dX10_strike_24 : decode cX10_strike 24 = .ok (.aload_n 0, 1) := by decide +kernel
theorem dX10_strike_25 : decode cX10_strike 25 = .ok (.getfield 26, 3) := by decide +kernel
theorem dX10_strike_28 : decode cX10_strike 28 = .ok (.getfield 153, 3) := by decide +kernel
theorem dX10_strike_31 : decode cX10_strike 31 = .ok (.getfield 183, 3) := by decide +kernel
theorem dX10_strike_34 : decode cX10_strike 34 = .ok (.iload_n 1, 1) := by decide +kernel
theorem dX10_strike_35 : decode cX10_strike 35 = .ok (.ishr, 1) := by decide +kernel
theorem dX10_strike_36 : decode cX10_strike 36 = .ok (.iconst 1, 1) := by decide +kernel
theorem dX10_strike_37 : decode cX10_strike 37 = .ok (.iand, 1) := by decide +kernel
theorem dX10_strike_38 : decode cX10_strike 38 = .ok (.iload_n 2, 1) := by decide +kernel
theorem dX10_strike_39 : decode cX10_strike 39 = .ok (.if_icmp .ne 6, 3) := by decide +kernel
theorem dX10_strike_42 : decode cX10_strike 42 = .ok (.ldc 142, 2) := by decide +kernel
theorem dX10_strike_44 : decode cX10_strike 44 = .ok (.ireturn, 1) := by decide +kernel
theorem dX10_strike_45 : decode cX10_strike 45 = .ok (.aload_n 0, 1) := by decide +kernel
theorem dX10_strike_46 : decode cX10_strike 46 = .ok (.getfield 33, 3) := by decide +kernel
theorem dX10_strike_49 : decode cX10_strike 49 = .ok (.aload_n 0, 1) := by decide +kernel
theorem dX10_strike_50 : decode cX10_strike 50 = .ok (.getfield 26, 3) := by decide +kernel
theorem dX10_strike_53 : decode cX10_strike 53 = .ok (.getfield 153, 3) := by decide +kernel
theorem dX10_strike_56 : decode cX10_strike 56 = .ok (.invokevirtual 163, 3) := by decide +kernel
theorem dX10_strike_59 : decode cX10_strike 59 = .ok (.aload_n 0, 1) := by decide +kernel
theorem dX10_strike_60 : decode cX10_strike 60 = .ok (.getfield 26, 3) := by decide +kernel
theorem dX10_strike_63 : decode cX10_strike 63 = .ok (.iload_n 1, 1) := by decide +kernel
theorem dX10_strike_64 : decode cX10_strike 64 = .ok (.invokevirtual 186, 3) := by decide +kernel
theorem dX10_strike_67 : decode cX10_strike 67 = .ok (.ireturn, 1) := by decide +kernel
def Sp_X10_strike (av : List AV) (m : AM) (Φ : Option AV → AM → Prop) : Prop := ∃ r o, av = [vr 10 0, vi r, vi o] ∧ ∃ C a nx W, CR m C ∧ ActR m C a nx W ∧ ((inB r (C 3) && inB o 2) = false → Φ (some (vi (-1000001))) m) ∧ ((inB r (C 3) && inB o 2) = true → nI (C (11 + 4 * r.toNatClampNeg)) = o → Φ (some (vi (-1000002))) m) ∧ ((inB r (C 3) && inB o 2) = true → ¬ nI (C (11 + 4 * r.toNatClampNeg)) = o → ∀ m2, Fr ([26, 28, 29, 30] ++ actL) m m2 → BR m2 (strN C r.toNatClampNeg o.toNatClampNeg) → ActR m2 (strN C r.toNatClampNeg o.toNatClampNeg) (keepA a) ((nx + 1) % 24) (keepW a W C) → Φ (some (vi (nI (sumS (strN C r.toNatClampNeg o.toNatClampNeg) (C 3))))) m2)
set_option maxRecDepth 20000 in
set_option maxHeartbeats 4000000 in
theorem S_X10_strike : Snd yX10_strike e_X10_strike Sp_X10_strike := by
  refine Snd.of (by decide +kernel) rfl ?_ ?_
  · rintro av m Φ ⟨r, o, rfl, _⟩; exact Nat.le_of_ble_eq_true rfl
  rintro av m Φ ⟨r, o, rfl, C, a, nx, W, hC, hA, h1, h2, h3⟩ hav hty
  show B e_X10_strike Φ 0 [some (vr 10 0), some (vi r), some (vi o)] [] m (0, 0)
  have hle := hC.le
  have op : inB r (C 3) = true → BR m C := fun q => by
    obtain ⟨j, hj, rfl⟩ := (inB_iff (by omega)).mp q
    exact hC.op (Or.inr (Or.inl (by omega)))
  have bit : inB r (C 3) = true → (m.1 26 5 >>> (r &&& 31)) &&& nI 1 = nI (C (11 + 4 * r.toNatClampNeg)) := fun q => by
    have hB := op q
    obtain ⟨j, hj, rfl⟩ := (inB_iff (by omega)).mp q
    have h01 := (hB.1.2.2.2.2.2.2.2.2.1 j hj).2.2.2
    rw [hB.2.2.1.2.2.2.2.1.bit (by omega), n_cl (by omega)]
    rcases h01 with z | z
    · rw [z]; simp
    · rw [z]; simp [hj]
  refine b_aloadN (pc := 0) 0 dX10_strike_0 rfl rfl ?_
  refine gf10_2 (pc := 1) 20 rfl k417 dX10_strike_1 ?_
  refine gf2_0 (pc := 4) 21 rfl k269 dX10_strike_4 ?_
  refine b_iloadN (pc := 7) 1 dX10_strike_7 rfl rfl ?_
  refine call_X5_isRule (pc := 8) k705 (by decide) ⟨Nat.le_of_ble_eq_true rfl, Nat.le_of_ble_eq_true rfl⟩ (Nat.le_of_ble_eq_true rfl) dX10_strike_8 ?_
  refine ⟨_, rfl, _, hC.num.2.2.1, ?_⟩
  refine b_if_eq (pc := 11) 21 dX10_strike_11 (by decide) (fun c11 => ?_) (fun c11 => ?_)
  refine b_ldc (pc := 21) k450 dX10_strike_21 ?_
  refine b_iret (pc := 23) rfl dX10_strike_23 ⟨Nat.le_of_ble_eq_true rfl, Nat.le_of_ble_eq_true rfl⟩ ?_
  rotate_left -- leaf 0: return at 23
  refine b_iloadN (pc := 14) 2 dX10_strike_14 rfl rfl ?_
  refine call_X10_isNoBit (pc := 15) k709 (by decide) ⟨Nat.le_of_ble_eq_true rfl, Nat.le_of_ble_eq_true rfl⟩ (Nat.le_of_ble_eq_true rfl) dX10_strike_15 ?_
  refine ⟨_, rfl, ?_⟩
  refine b_if_eq (pc := 18) 24 dX10_strike_18 (by decide) (fun c18 => ?_) (fun c18 => ?_)
  refine b_aloadN (pc := 24) 0 dX10_strike_24 rfl rfl ?_
  refine gf10_2 (pc := 25) 20 rfl k417 dX10_strike_25 ?_
  refine gf2_1 (pc := 28) 26 rfl k275 dX10_strike_28 ?_
  refine gf8_5 (pc := 31) k250 dX10_strike_31 ?_
  refine b_iloadN (pc := 34) 1 dX10_strike_34 rfl rfl ?_
  refine b_ishr (pc := 35) dX10_strike_35 ?_
  refine b_iconst (pc := 36) (nI 1) dX10_strike_36 (by decide) ?_
  refine b_iand (pc := 37) dX10_strike_37 ?_
  refine b_iloadN (pc := 38) 2 dX10_strike_38 rfl rfl ?_
  refine b_icmp_ne (pc := 39) 45 dX10_strike_39 (by decide) (fun c39 => ?_) (fun c39 => ?_)
  refine b_aloadN (pc := 45) 0 dX10_strike_45 rfl rfl ?_
  refine gf10_3 (pc := 46) 31 rfl k418 dX10_strike_46 ?_
  refine b_aloadN (pc := 49) 0 dX10_strike_49 rfl rfl ?_
  refine gf10_2 (pc := 50) 20 rfl k417 dX10_strike_50 ?_
  refine gf2_1 (pc := 53) 26 rfl k275 dX10_strike_53 ?_
  refine call_X0_keep (pc := 56) k651 (by decide) ⟨Nat.le_of_ble_eq_true rfl, Nat.le_of_ble_eq_true rfl⟩ (Nat.le_of_ble_eq_true rfl) dX10_strike_56 ?_
  refine ⟨rfl, C, a, nx, W, ?_, ?_, ?_, fun m56 fr56 ac56 => ?_⟩
  rotate_left -- leaf 1: valid of X0_keep at 56
  rotate_left -- leaf 2: standing of X0_keep at 56
  rotate_left -- leaf 3: acts of X0_keep at 56
  refine b_aloadN (pc := 59) 0 dX10_strike_59 rfl rfl ?_
  refine gf10_2 (pc := 60) 20 rfl k417 dX10_strike_60 ?_
  refine b_iloadN (pc := 63) 1 dX10_strike_63 rfl rfl ?_
  refine call_X2_turnRule (pc := 64) k712 (by decide) ⟨Nat.le_of_ble_eq_true rfl, Nat.le_of_ble_eq_true rfl⟩ (Nat.le_of_ble_eq_true rfl) dX10_strike_64 ?_
  refine ⟨_, rfl, C, r.toNatClampNeg, ?_, ?_, ?_, fun m64 fr64 hB64 => ?_⟩
  rotate_left -- leaf 4: bench of X2_turnRule at 64
  rotate_left -- leaf 5: x of X2_turnRule at 64
  rotate_left -- leaf 6: rule of X2_turnRule at 64
  refine b_iret (pc := 67) rfl dX10_strike_67 ⟨Nat.le_of_ble_eq_true rfl, Nat.le_of_ble_eq_true rfl⟩ ?_
  rotate_left -- leaf 7: return at 67
  refine b_ldc (pc := 42) k624 dX10_strike_42 ?_
  refine b_iret (pc := 44) rfl dX10_strike_44 ⟨Nat.le_of_ble_eq_true rfl, Nat.le_of_ble_eq_true rfl⟩ ?_
  rotate_left -- leaf 8: return at 44
  refine b_ldc (pc := 21) k450 dX10_strike_21 ?_
  refine b_iret (pc := 23) rfl dX10_strike_23 ⟨Nat.le_of_ble_eq_true rfl, Nat.le_of_ble_eq_true rfl⟩ ?_
  rotate_left -- leaf 9: return at 23
  -- leaves: 0 return at 23; 1 valid of X0_keep at 56; 2 standing of X0_keep at 56; 3 acts of X0_keep at 56; 4 bench of X2_turnRule at 64; 5 x of X2_turnRule at 64; 6 rule of X2_turnRule at 64; 7 return at 67; 8 return at 44; 9 return at 23
  · exact h1 (by rw [bF c11]; rfl)
  · exact (op (bT c11)).1
  · exact (op (bT c11)).2.2.1
  · exact hA
  · exact (op (bT c11)).fr fr56.bench
  · obtain ⟨j, hj, rfl⟩ := (inB_iff (by omega)).mp (bT c11)
    rw [n_cl (by omega)]
  · obtain ⟨j, hj, rfl⟩ := (inB_iff (by omega)).mp (bT c11)
    rw [n_cl (by omega)]; exact hj
  · have c39 := c39
    rw [bit (bT c11)] at c39
    have hB := op (bT c11)
    have e : 1 - C (11 + 4 * r.toNatClampNeg) = o.toNatClampNeg := by
      obtain ⟨j, hj, rfl⟩ := (inB_iff (by omega)).mp (bT c11)
      rw [n_cl (by omega)] at c39 ⊢
      have h01 := (hB.1.2.2.2.2.2.2.2.2.1 j hj).2.2.2
      rcases (inB2 o).mp (dT c18) with rfl | rfl
      · rw [n_cl (by omega)]
        rcases h01 with z | z
        · rw [z] at c39; exact absurd rfl c39
        · omega
      · rw [n_cl (by omega)]
        rcases h01 with z | z
        · omega
        · rw [z] at c39; exact absurd rfl c39
    rw [e] at hB64 ⊢
    refine h3 (by rw [bT c11, dT c18]; rfl) c39 m64 ((fr56.tr fr64).mono (fun z hz => ?_)) hB64 ?_
    · rcases List.mem_append.mp hz with e | e
      · exact List.mem_append_right _ e
      · exact List.mem_append_left _ e
    · refine (ac56.fr (fun i hi => fr64.2 i (fun z => ?_))).law (strN_law C hle.2.1 _ _ ?_)
      · exact actL_out2 i (by simp at z ⊢; omega) hi
      · obtain ⟨j, hj, rfl⟩ := (inB_iff (by omega)).mp (bT c11)
        rw [n_cl (by omega)]; omega
  · have c39 := c39
    rw [bit (bT c11)] at c39
    exact h2 (by rw [bT c11, dT c18]; rfl) c39
  · exact h1 (by rw [dF c18, Bool.and_false])
theorem call_X10_strike {E : ME} {Φ : Option AV → AM → Prop} {pc : Nat} {L : List (Option AV)} {st : List AV} {m : AM} {a : Nat × Nat} {idx : Nat} {x0 x1 : AV} {i : Nat} (hl : Cond.methodLink E.2.1 idx yX10_strike ∈ TB) (hdep : 8 + 1 ≤ E.2.2.2.2.2.2) (hroom : a.1 + 0 ≤ E.2.2.2.2.1 ∧ a.2 + 0 ≤ E.2.2.2.2.2.1) (hsr : st.length ≤ 4) (hd : decode E.1 pc = .ok (.invokevirtual idx, 3)) (hsp : Sp_X10_strike [vr 10 i, x0, x1] m (fun r m2 => B E Φ (pc + 3) L (r.toList ++ st) m2 a)) : B E Φ pc L (x1 :: x0 :: vr 10 i :: st) m a := b_callV S_X10_strike [x0, x1] (RX10, TX10, 9) rfl rfl (by decide) (Or.inl hl) k702 k703 k68 k704 (show _ ∧ _ ∧ Option.map (fun d => d.parameters.length) (parseMethodDescriptor yX10_strike.desc) = some 2 from by decide +kernel) ⟨hdep, by decide⟩ hroom hsr hd hsp
theorem ActR.op {m : AM} {C : Nat → Nat} {a nx : Nat} {W : Nat → Nat → Nat} (hC : CR m C) (h : ActR m C a nx W) (ha : 0 < a) : BR m C := by
  have q := (h.2.2.2.2 0 ha).2
  have := q.1.1.1
  have := q.2.1
  exact hC.op (Or.inl (by omega))
abbrev e_X10_undo : ME := (cX10_undo, (RX10, (1, ((some .int), (0, (0, 8))))))
theorem dX10_undo_0 : decode cX10_undo 0 = .ok (.aload_n 0, 1) := by decide +kernel
theorem dX10_undo_1 : decode cX10_undo 1 = .ok (.getfield 33, 3) := by decide +kernel
theorem dX10_undo_4 : decode cX10_undo 4 = .ok (.invokevirtual 139, 3) := by decide +kernel
theorem dX10_undo_7 : decode cX10_undo 7 = .ok (.ifCond .eq 8, 3) := by decide +kernel
theorem dX10_undo_10 : decode cX10_undo 10 = .ok (.ldc 142, 2) := by decide +kernel
theorem dX10_undo_12 : decode cX10_undo 12 = .ok (.goto 14, 3) := by decide +kernel
theorem dX10_undo_15 : decode cX10_undo 15 = .ok (.aload_n 0, 1) := by decide +kernel
theorem dX10_undo_16 : decode cX10_undo 16 = .ok (.getfield 33, 3) := by decide +kernel
theorem dX10_undo_19 : decode cX10_undo 19 = .ok (.aload_n 0, 1) := by decide +kernel
theorem dX10_undo_20 : decode cX10_undo 20 = .ok (.getfield 26, 3) := by decide +kernel
theorem dX10_undo_23 : decode cX10_undo 23 = .ok (.invokevirtual 143, 3) := by decide +kernel
theorem dX10_undo_26 : decode cX10_undo 26 = .ok (.ireturn, 1) := by decide +kernel
def Sp_X10_undo (av : List AV) (m : AM) (Φ : Option AV → AM → Prop) : Prop := av = [vr 10 0] ∧ ∃ C a nx W, CR m C ∧ ActR m C a nx W ∧ (a = 0 → Φ (some (vi (-1000002))) m) ∧ (0 < a → ∀ m2, Fr [26, 27, 28, 29, 30, 31] m m2 → BR m2 (W (a - 1)) → ActR m2 (W (a - 1)) (a - 1) ((nx + 23) % 24) W → Φ (some (vi (nI (a - 1)))) m2)
set_option maxRecDepth 20000 in
set_option maxHeartbeats 4000000 in
theorem S_X10_undo : Snd yX10_undo e_X10_undo Sp_X10_undo := by
  refine Snd.of (by decide +kernel) rfl ?_ ?_
  · rintro av m Φ ⟨rfl, _⟩; exact Nat.le_of_ble_eq_true rfl
  rintro av m Φ ⟨rfl, C, a, nx, W, hC, hA, h1, h2⟩ hav hty
  show B e_X10_undo Φ 0 [some (vr 10 0)] [] m (0, 0)
  have q1 : nI (if a = 0 then 1 else 0) = 0 → 0 < a := fun z => by
    by_cases q : a = 0
    · rw [if_pos q] at z; exact absurd z (by decide)
    · omega
  refine b_aloadN (pc := 0) 0 dX10_undo_0 rfl rfl ?_
  refine gf10_3 (pc := 1) 31 rfl k418 dX10_undo_1 ?_
  refine call_X0_isEmpty (pc := 4) k620 (by decide) ⟨Nat.le_of_ble_eq_true rfl, Nat.le_of_ble_eq_true rfl⟩ (Nat.le_of_ble_eq_true rfl) dX10_undo_4 ?_
  refine ⟨rfl, a, hA.2.2.1, hA.2.2.2.1, ?_⟩
  refine b_if_eq (pc := 7) 15 dX10_undo_7 (by decide) (fun c7 => ?_) (fun c7 => ?_)
  refine b_aloadN (pc := 15) 0 dX10_undo_15 rfl rfl ?_
  refine gf10_3 (pc := 16) 31 rfl k418 dX10_undo_16 ?_
  refine b_aloadN (pc := 19) 0 dX10_undo_19 rfl rfl ?_
  refine gf10_2 (pc := 20) 20 rfl k417 dX10_undo_20 ?_
  refine call_X0_takeBack (pc := 23) k625 (by decide) ⟨Nat.le_of_ble_eq_true rfl, Nat.le_of_ble_eq_true rfl⟩ (Nat.le_of_ble_eq_true rfl) dX10_undo_23 ?_
  refine ⟨rfl, C, a - 1, nx, W, ?_, ?_, fun m23 fr23 hB23 ac23 => ?_⟩
  rotate_left -- leaf 0: bench of X0_takeBack at 23
  rotate_left -- leaf 1: acts of X0_takeBack at 23
  refine b_iret (pc := 26) rfl dX10_undo_26 ⟨Nat.le_of_ble_eq_true rfl, Nat.le_of_ble_eq_true rfl⟩ ?_
  rotate_left -- leaf 2: return at 26
  refine b_ldc (pc := 10) k624 dX10_undo_10 ?_
  refine b_goto (pc := 12) 26 dX10_undo_12 (by decide) ?_
  refine b_iret (pc := 26) rfl dX10_undo_26 ⟨Nat.le_of_ble_eq_true rfl, Nat.le_of_ble_eq_true rfl⟩ ?_
  rotate_left -- leaf 3: return at 26
  -- leaves: 0 bench of X0_takeBack at 23; 1 acts of X0_takeBack at 23; 2 return at 26; 3 return at 26
  · exact ActR.op hC hA (q1 c7)
  · rw [show a - 1 + 1 = a by have := q1 c7; omega]; exact hA
  · exact h2 (q1 c7) m23 fr23 hB23 ac23
  · refine h1 ?_
    by_cases q : a = 0
    · exact q
    · rw [if_neg q] at c7; exact absurd rfl c7
theorem call_X10_undo {E : ME} {Φ : Option AV → AM → Prop} {pc : Nat} {L : List (Option AV)} {st : List AV} {m : AM} {a : Nat × Nat} {idx : Nat} {i : Nat} (hl : Cond.methodLink E.2.1 idx yX10_undo ∈ TB) (hdep : 8 + 1 ≤ E.2.2.2.2.2.2) (hroom : a.1 + 0 ≤ E.2.2.2.2.1 ∧ a.2 + 0 ≤ E.2.2.2.2.2.1) (hsr : st.length ≤ 4) (hd : decode E.1 pc = .ok (.invokevirtual idx, 3)) (hsp : Sp_X10_undo [vr 10 i] m (fun r m2 => B E Φ (pc + 3) L (r.toList ++ st) m2 a)) : B E Φ pc L (vr 10 i :: st) m a := b_callV S_X10_undo [] (RX10, TX10, 9) rfl rfl (by decide) (Or.inl hl) k617 k618 k68 k619 (show _ ∧ _ ∧ Option.map (fun d => d.parameters.length) (parseMethodDescriptor yX10_undo.desc) = some 0 from by decide +kernel) ⟨hdep, by decide⟩ hroom hsr hd hsp
abbrev e_X10_image : ME := (cX10_image, (RX10, (2, ((some .int), (0, (0, 8))))))
theorem dX10_image_0 : decode cX10_image 0 = .ok (.iload_n 1, 1) := by decide +kernel
theorem dX10_image_1 : decode cX10_image 1 = .ok (.invokestatic 283, 3) := by decide +kernel
theorem dX10_image_4 : decode cX10_image 4 = .ok (.ifCond .ne 6, 3) := by decide +kernel
theorem dX10_image_7 : decode cX10_image 7 = .ok (.ldc 69, 2) := by decide +kernel
theorem dX10_image_9 : decode cX10_image 9 = .ok (.ireturn, 1) := by decide +kernel
theorem dX10_image_10 : decode cX10_image 10 = .ok (.aload_n 0, 1) := by decide +kernel
theorem dX10_image_11 : decode cX10_image 11 = .ok (.getfield 26, 3) := by decide +kernel
theorem dX10_image_14 : decode cX10_image 14 = .ok (.invokevirtual 189, 3) := by decide +kernel
theorem dX10_image_17 : decode cX10_image 17 = .ok (.ifCond .ne 6, 3) := by decide +kernel
theorem dX10_image_20 : decode cX10_image 20 = .ok (.ldc 142, 2) := by decide +kernel
theorem dX10_image_22 : decode cX10_image 22 = .ok (.ireturn, 1) := by decide +kernel
theorem dX10_image_23 : decode cX10_image 23 = .ok (.aload_n 0, 1) := by decide +kernel
theorem dX10_image_24 : decode cX10_image 24 = .ok (.getfield 39, 3) := by decide +kernel
theorem dX10_image_27 : decode cX10_image 27 = .ok (.iload_n 1, 1) := by decide +kernel
theorem dX10_image_28 : decode cX10_image 28 = .ok (.aaload, 1) := by decide +kernel
theorem dX10_image_29 : decode cX10_image 29 = .ok (.aload_n 0, 1) := by decide +kernel
theorem dX10_image_30 : decode cX10_image 30 = .ok (.getfield 26, 3) := by decide +kernel
theorem dX10_image_33 : decode cX10_image 33 = .ok (.invokevirtual 286, 3) := by decide +kernel
theorem dX10_image_36 : decode cX10_image 36 = .ok (.iconst 1, 1) := by decide +kernel
theorem dX10_image_37 : decode cX10_image 37 = .ok (.ireturn, 1) := by decide +kernel
def Sp_X10_image (av : List AV) (m : AM) (Φ : Option AV → AM → Prop) : Prop := ∃ k, av = [vr 10 0, vi k] ∧ ∃ C, CR m C ∧ (inB k 2 = false → Φ (some (vi (-1000001))) m) ∧ (inB k 2 = true → C 0 = 0 → Φ (some (vi (-1000002))) m) ∧ (inB k 2 = true → 0 < C 0 → ∀ i m2, i = 82 + 8 * k.toNatClampNeg → Fr [i, i + 1, i + 2, i + 3, i + 4, i + 5, i + 6, i + 7] m m2 → ImR m2 i C → m2.1 i 2 = nI 1 → Φ (some (vi (nI 1))) m2)
set_option maxRecDepth 20000 in
set_option maxHeartbeats 4000000 in
theorem S_X10_image : Snd yX10_image e_X10_image Sp_X10_image := by
  refine Snd.of (by decide +kernel) rfl ?_ ?_
  · rintro av m Φ ⟨k, rfl, _⟩; exact Nat.le_of_ble_eq_true rfl
  rintro av m Φ ⟨k, rfl, C, hC, h1, h2, h3⟩ hav hty
  show B e_X10_image Φ 0 [some (vr 10 0), some (vi k)] [] m (0, 0)
  refine b_iloadN (pc := 0) 1 dX10_image_0 rfl rfl ?_
  refine call_X10_isImage (pc := 1) k960 (by decide) ⟨Nat.le_of_ble_eq_true rfl, Nat.le_of_ble_eq_true rfl⟩ (Nat.le_of_ble_eq_true rfl) dX10_image_1 ?_
  refine ⟨_, rfl, ?_⟩
  refine b_if_ne (pc := 4) 10 dX10_image_4 (by decide) (fun c4 => ?_) (fun c4 => ?_)
  refine b_aloadN (pc := 10) 0 dX10_image_10 rfl rfl ?_
  refine gf10_2 (pc := 11) 20 rfl k417 dX10_image_11 ?_
  refine call_X2_isOpen (pc := 14) k720 (by decide) ⟨Nat.le_of_ble_eq_true rfl, Nat.le_of_ble_eq_true rfl⟩ (Nat.le_of_ble_eq_true rfl) dX10_image_14 ?_
  refine ⟨rfl, _, hC.num.1, hC.le.1, ?_⟩
  refine b_if_ne (pc := 17) 23 dX10_image_17 (by decide) (fun c17 => ?_) (fun c17 => ?_)
  refine b_aloadN (pc := 23) 0 dX10_image_23 rfl rfl ?_
  refine gf10_4 (pc := 24) 81 rfl k419 dX10_image_24 ?_
  refine b_iloadN (pc := 27) 1 dX10_image_27 rfl rfl ?_
  refine b_aldR (pc := 28) (n := 2) (w := 8) (t' := 4) (Or.inr ⟨rfl, rfl, rfl, rfl⟩) ?_ dX10_image_28 ?_
  rotate_left -- leaf 0: index at 28
  refine b_aloadN (pc := 29) 0 dX10_image_29 rfl rfl ?_
  refine gf10_2 (pc := 30) 20 rfl k417 dX10_image_30 ?_
  refine call_X4_take (pc := 33) k963 (by decide) ⟨Nat.le_of_ble_eq_true rfl, Nat.le_of_ble_eq_true rfl⟩ (Nat.le_of_ble_eq_true rfl) dX10_image_33 ?_
  refine ⟨_, rfl, ?_, C, ?_, fun m33 fr33 im33 kp33 => ?_⟩
  rotate_left -- leaf 1: image of X4_take at 33
  rotate_left -- leaf 2: bench of X4_take at 33
  refine b_iconst (pc := 36) (nI 1) dX10_image_36 (by decide) ?_
  refine b_iret (pc := 37) rfl dX10_image_37 ⟨Nat.le_of_ble_eq_true rfl, Nat.le_of_ble_eq_true rfl⟩ ?_
  rotate_left -- leaf 3: return at 37
  refine b_ldc (pc := 20) k624 dX10_image_20 ?_
  refine b_iret (pc := 22) rfl dX10_image_22 ⟨Nat.le_of_ble_eq_true rfl, Nat.le_of_ble_eq_true rfl⟩ ?_
  rotate_left -- leaf 4: return at 22
  refine b_ldc (pc := 7) k450 dX10_image_7 ?_
  refine b_iret (pc := 9) rfl dX10_image_9 ⟨Nat.le_of_ble_eq_true rfl, Nat.le_of_ble_eq_true rfl⟩ ?_
  rotate_left -- leaf 5: return at 9
  -- leaves: 0 index at 28; 1 image of X4_take at 33; 2 bench of X4_take at 33; 3 return at 37; 4 return at 22; 5 return at 9
  · obtain ⟨j, hj, rfl⟩ := (inB_iff (by omega)).mp (bT c4)
    exact n_in (by omega) (by omega)
  · obtain ⟨j, hj, rfl⟩ := (inB_iff (by omega)).mp (bT c4)
    rw [n_cl (by omega)]; omega
  · exact hC.op (Or.inl (zF c17))
  · refine h3 (bT c4) (zF c17) (81 + 1 + 8 * k.toNatClampNeg) m33 rfl fr33 im33 kp33
  · exact h2 (bT c4) (zT c17)
  · exact h1 (bF c4)
theorem call_X10_image {E : ME} {Φ : Option AV → AM → Prop} {pc : Nat} {L : List (Option AV)} {st : List AV} {m : AM} {a : Nat × Nat} {idx : Nat} {x0 : AV} {i : Nat} (hl : Cond.methodLink E.2.1 idx yX10_image ∈ TB) (hdep : 8 + 1 ≤ E.2.2.2.2.2.2) (hroom : a.1 + 0 ≤ E.2.2.2.2.1 ∧ a.2 + 0 ≤ E.2.2.2.2.2.1) (hsr : st.length ≤ 4) (hd : decode E.1 pc = .ok (.invokevirtual idx, 3)) (hsp : Sp_X10_image [vr 10 i, x0] m (fun r m2 => B E Φ (pc + 3) L (r.toList ++ st) m2 a)) : B E Φ pc L (x0 :: vr 10 i :: st) m a := b_callV S_X10_image [x0] (RX10, TX10, 9) rfl rfl (by decide) (Or.inl hl) k957 k958 k68 k959 (show _ ∧ _ ∧ Option.map (fun d => d.parameters.length) (parseMethodDescriptor yX10_image.desc) = some 1 from by decide +kernel) ⟨hdep, by decide⟩ hroom hsr hd hsp
abbrev e_X10_restore : ME := (cX10_restore, (RX10, (2, ((some .int), (0, (0, 8))))))
theorem dX10_restore_0 : decode cX10_restore 0 = .ok (.iload_n 1, 1) := by decide +kernel
theorem dX10_restore_1 : decode cX10_restore 1 = .ok (.invokestatic 283, 3) := by decide +kernel
theorem dX10_restore_4 : decode cX10_restore 4 = .ok (.ifCond .ne 6, 3) := by decide +kernel
theorem dX10_restore_7 : decode cX10_restore 7 = .ok (.ldc 69, 2) := by decide +kernel
theorem dX10_restore_9 : decode cX10_restore 9 = .ok (.ireturn, 1) := by decide +kernel
theorem dX10_restore_10 : decode cX10_restore 10 = .ok (.aload_n 0, 1) := by decide +kernel
theorem dX10_restore_11 : decode cX10_restore 11 = .ok (.getfield 39, 3) := by decide +kernel
theorem dX10_restore_14 : decode cX10_restore 14 = .ok (.iload_n 1, 1) := by decide +kernel
theorem dX10_restore_15 : decode cX10_restore 15 = .ok (.aaload, 1) := by decide +kernel
theorem dX10_restore_16 : decode cX10_restore 16 = .ok (.getfield 290, 3) := by decide +kernel
theorem dX10_restore_19 : decode cX10_restore 19 = .ok (.ifCond .ne 6, 3) := by decide +kernel
theorem dX10_restore_22 : decode cX10_restore 22 = .ok (.ldc 142, 2) := by decide +kernel
theorem dX10_restore_24 : decode cX10_restore 24 = .ok (.ireturn, 1) := by decide +kernel
theorem dX10_restore_25 : decode cX10_restore 25 = .ok (.aload_n 0, 1) := by decide +kernel
theorem dX10_restore_26 : decode cX10_restore 26 = .ok (.getfield 26, 3) := by decide +kernel
theorem dX10_restore_29 : decode cX10_restore 29 = .ok (.aload_n 0, 1) := by decide +kernel
theorem dX10_restore_30 : decode cX10_restore 30 = .ok (.getfield 39, 3) := by decide +kernel
theorem dX10_restore_33 : decode cX10_restore 33 = .ok (.iload_n 1, 1) := by decide +kernel
theorem dX10_restore_34 : decode cX10_restore 34 = .ok (.aaload, 1) := by decide +kernel
theorem dX10_restore_35 : decode cX10_restore 35 = .ok (.getfield 294, 3) := by decide +kernel
theorem dX10_restore_38 : decode cX10_restore 38 = .ok (.aload_n 0, 1) := by decide +kernel
theorem dX10_restore_39 : decode cX10_restore 39 = .ok (.getfield 39, 3) := by decide +kernel
theorem dX10_restore_42 : decode cX10_restore 42 = .ok (.iload_n 1, 1) := by decide +kernel
theorem dX10_restore_43 : decode cX10_restore 43 = .ok (.aaload, 1) := by decide +kernel
theorem dX10_restore_44 : decode cX10_restore 44 = .ok (.getfield 295, 3) := by decide +kernel
theorem dX10_restore_47 : decode cX10_restore 47 = .ok (.invokevirtual 298, 3) := by decide +kernel
theorem dX10_restore_50 : decode cX10_restore 50 = .ok (.aload_n 0, 1) := by decide +kernel
theorem dX10_restore_51 : decode cX10_restore 51 = .ok (.getfield 33, 3) := by decide +kernel
theorem dX10_restore_54 : decode cX10_restore 54 = .ok (.invokevirtual 124, 3) := by decide +kernel
theorem dX10_restore_57 : decode cX10_restore 57 = .ok (.iconst 1, 1) := by decide +kernel
theorem dX10_restore_58 : decode cX10_restore 58 = .ok (.ireturn, 1) := by decide +kernel
def Sp_X10_restore (av : List AV) (m : AM) (Φ : Option AV → AM → Prop) : Prop := ∃ k, av = [vr 10 0, vi k] ∧ ∃ K fl nx W, m.1 31 1 = nI nx ∧ nx < 24 ∧ (inB k 2 = false → Φ (some (vi (-1000001))) m) ∧ (inB k 2 = true → m.1 (82 + 8 * k.toNatClampNeg) 2 = nI fl ∧ fl ≤ 1 ∧ (fl = 1 → ImR m (82 + 8 * k.toNatClampNeg) K)) ∧ (inB k 2 = true → fl = 0 → Φ (some (vi (-1000002))) m) ∧ (inB k 2 = true → fl = 1 → ∀ m2, Fr [21, 22, 23, 24, 25, 26, 27, 28, 29, 30, 31] m m2 → BR m2 K → ActR m2 K 0 nx W → Φ (some (vi (nI 1))) m2)
set_option maxRecDepth 20000 in
set_option maxHeartbeats 4000000 in
theorem S_X10_restore : Snd yX10_restore e_X10_restore Sp_X10_restore := by
  refine Snd.of (by decide +kernel) rfl ?_ ?_
  · rintro av m Φ ⟨k, rfl, _⟩; exact Nat.le_of_ble_eq_true rfl
  rintro av m Φ ⟨k, rfl, K, fl, nx, W, hn, hnl, h1, hk, h2, h3⟩ hav hty
  show B e_X10_restore Φ 0 [some (vr 10 0), some (vi k)] [] m (0, 0)
  have fl1 : inB k 2 = true → ¬ m.1 (81 + 1 + 8 * k.toNatClampNeg) 2 = 0 → fl = 1 := fun q z => by
    have w := hk q
    rw [show 81 + 1 + 8 * k.toNatClampNeg = 82 + 8 * k.toNatClampNeg from rfl, w.1, n_eq0 (by omega)] at z
    omega
  refine b_iloadN (pc := 0) 1 dX10_restore_0 rfl rfl ?_
  refine call_X10_isImage (pc := 1) k960 (by decide) ⟨Nat.le_of_ble_eq_true rfl, Nat.le_of_ble_eq_true rfl⟩ (Nat.le_of_ble_eq_true rfl) dX10_restore_1 ?_
  refine ⟨_, rfl, ?_⟩
  refine b_if_ne (pc := 4) 10 dX10_restore_4 (by decide) (fun c4 => ?_) (fun c4 => ?_)
  refine b_aloadN (pc := 10) 0 dX10_restore_10 rfl rfl ?_
  refine gf10_4 (pc := 11) 81 rfl k419 dX10_restore_11 ?_
  refine b_iloadN (pc := 14) 1 dX10_restore_14 rfl rfl ?_
  refine b_aldR (pc := 15) (n := 2) (w := 8) (t' := 4) (Or.inr ⟨rfl, rfl, rfl, rfl⟩) ?_ dX10_restore_15 ?_
  rotate_left -- leaf 0: index at 15
  refine gf4_2 (pc := 16) k407 dX10_restore_16 ?_
  refine b_if_ne (pc := 19) 25 dX10_restore_19 (by decide) (fun c19 => ?_) (fun c19 => ?_)
  refine b_aloadN (pc := 25) 0 dX10_restore_25 rfl rfl ?_
  refine gf10_2 (pc := 26) 20 rfl k417 dX10_restore_26 ?_
  refine b_aloadN (pc := 29) 0 dX10_restore_29 rfl rfl ?_
  refine gf10_4 (pc := 30) 81 rfl k419 dX10_restore_30 ?_
  refine b_iloadN (pc := 33) 1 dX10_restore_33 rfl rfl ?_
  refine b_aldR (pc := 34) (n := 2) (w := 8) (t' := 4) (Or.inr ⟨rfl, rfl, rfl, rfl⟩) ?_ dX10_restore_34 ?_
  rotate_left -- leaf 1: index at 34
  refine gf4_0 (pc := 35) _ rfl k403 dX10_restore_35 ?_
  refine b_aloadN (pc := 38) 0 dX10_restore_38 rfl rfl ?_
  refine gf10_4 (pc := 39) 81 rfl k419 dX10_restore_39 ?_
  refine b_iloadN (pc := 42) 1 dX10_restore_42 rfl rfl ?_
  refine b_aldR (pc := 43) (n := 2) (w := 8) (t' := 4) (Or.inr ⟨rfl, rfl, rfl, rfl⟩) ?_ dX10_restore_43 ?_
  rotate_left -- leaf 2: index at 43
  refine gf4_1 (pc := 44) _ rfl k405 dX10_restore_44 ?_
  refine call_X2_resume (pc := 47) k973 (by decide) ⟨Nat.le_of_ble_eq_true rfl, Nat.le_of_ble_eq_true rfl⟩ (Nat.le_of_ble_eq_true rfl) dX10_restore_47 ?_
  refine ⟨_, _, rfl, ?_, K, ?_, ?_, ?_, fun m47 fr47 hB47 => ?_⟩
  rotate_left -- leaf 3: apart of X2_resume at 47
  rotate_left -- leaf 4: valid of X2_resume at 47
  rotate_left -- leaf 5: law of X2_resume at 47
  rotate_left -- leaf 6: standing of X2_resume at 47
  refine b_aloadN (pc := 50) 0 dX10_restore_50 rfl rfl ?_
  refine gf10_3 (pc := 51) 31 rfl k418 dX10_restore_51 ?_
  refine call_X0_forget (pc := 54) k604 (by decide) ⟨Nat.le_of_ble_eq_true rfl, Nat.le_of_ble_eq_true rfl⟩ (Nat.le_of_ble_eq_true rfl) dX10_restore_54 ?_
  refine ⟨rfl, ?_⟩
  refine b_iconst (pc := 57) (nI 1) dX10_restore_57 (by decide) ?_
  refine b_iret (pc := 58) rfl dX10_restore_58 ⟨Nat.le_of_ble_eq_true rfl, Nat.le_of_ble_eq_true rfl⟩ ?_
  rotate_left -- leaf 7: return at 58
  refine b_ldc (pc := 22) k624 dX10_restore_22 ?_
  refine b_iret (pc := 24) rfl dX10_restore_24 ⟨Nat.le_of_ble_eq_true rfl, Nat.le_of_ble_eq_true rfl⟩ ?_
  rotate_left -- leaf 8: return at 24
  refine b_ldc (pc := 7) k450 dX10_restore_7 ?_
  refine b_iret (pc := 9) rfl dX10_restore_9 ⟨Nat.le_of_ble_eq_true rfl, Nat.le_of_ble_eq_true rfl⟩ ?_
  rotate_left -- leaf 9: return at 9
  -- leaves: 0 index at 15; 1 index at 34; 2 index at 43; 3 apart of X2_resume at 47; 4 valid of X2_resume at 47; 5 law of X2_resume at 47; 6 standing of X2_resume at 47; 7 return at 58; 8 return at 24; 9 return at 9
  · obtain ⟨j, hj, rfl⟩ := (inB_iff (by omega)).mp (bT c4)
    exact n_in (by omega) (by omega)
  · obtain ⟨j, hj, rfl⟩ := (inB_iff (by omega)).mp (bT c4)
    exact n_in (by omega) (by omega)
  · obtain ⟨j, hj, rfl⟩ := (inB_iff (by omega)).mp (bT c4)
    exact n_in (by omega) (by omega)
  · omega
  · exact ((hk (bT c4)).2.2 (fl1 (bT c4) c19)).1
  · exact ((hk (bT c4)).2.2 (fl1 (bT c4) c19)).2.1
  · exact ((hk (bT c4)).2.2 (fl1 (bT c4) c19)).2.2
  · refine h3 (bT c4) (fl1 (bT c4) c19) _ ((fr47.mono (fun z hz => ?_)).ms (by simp)) (hB47.fr (fun z z1 z2 => mset_ne _ _ _ (by omega))) ⟨?_, hnl, ?_, by omega, fun i hi => absurd hi (Nat.not_lt_zero i)⟩
    · simp at hz ⊢; omega
    · rw [mset_at, if_neg (by decide), fr47.2 31 (by decide)]; exact hn
    · rw [mset_at, if_pos rfl]
  · refine h2 (bT c4) ?_
    have w := hk (bT c4)
    rw [show 81 + 1 + 8 * k.toNatClampNeg = 82 + 8 * k.toNatClampNeg from rfl, w.1, n_eq0 (by omega)] at c19
    exact c19
  · exact h1 (bF c4)
theorem call_X10_restore {E : ME} {Φ : Option AV → AM → Prop} {pc : Nat} {L : List (Option AV)} {st : List AV} {m : AM} {a : Nat × Nat} {idx : Nat} {x0 : AV} {i : Nat} (hl : Cond.methodLink E.2.1 idx yX10_restore ∈ TB) (hdep : 8 + 1 ≤ E.2.2.2.2.2.2) (hroom : a.1 + 0 ≤ E.2.2.2.2.1 ∧ a.2 + 0 ≤ E.2.2.2.2.2.1) (hsr : st.length ≤ 4) (hd : decode E.1 pc = .ok (.invokevirtual idx, 3)) (hsp : Sp_X10_restore [vr 10 i, x0] m (fun r m2 => B E Φ (pc + 3) L (r.toList ++ st) m2 a)) : B E Φ pc L (x0 :: vr 10 i :: st) m a := b_callV S_X10_restore [x0] (RX10, TX10, 9) rfl rfl (by decide) (Or.inl hl) k970 k971 k68 k972 (show _ ∧ _ ∧ Option.map (fun d => d.parameters.length) (parseMethodDescriptor yX10_restore.desc) = some 1 from by decide +kernel) ⟨hdep, by decide⟩ hroom hsr hd hsp
abbrev e_X10_found : ME := (cX10_found, (RX10, (2, ((some .int), (0, (0, 1))))))
theorem dX10_found_0 : decode cX10_found 0 = .ok (.aload_n 0, 1) := by decide +kernel
theorem dX10_found_1 : decode cX10_found 1 = .ok (.iload_n 1, 1) := by decide +kernel
theorem dX10_found_2 : decode cX10_found 2 = .ok (.putfield 272, 3) := by decide +kernel
theorem dX10_found_5 : decode cX10_found 5 = .ok (.ldc_w 326, 3) := by decide +kernel
theorem dX10_found_8 : decode cX10_found 8 = .ok (.iload_n 1, 1) := by decide +kernel
theorem dX10_found_9 : decode cX10_found 9 = .ok (.isub, 1) := by decide +kernel
theorem dX10_found_10 : decode cX10_found 10 = .ok (.ireturn, 1) := by decide +kernel
def Sp_X10_found (av : List AV) (m : AM) (Φ : Option AV → AM → Prop) : Prop := ∃ n, av = [vr 10 0, vi n] ∧ Φ (some (vi (-1000010 - n))) (mset m 0 8 n)
set_option maxRecDepth 20000 in
set_option maxHeartbeats 4000000 in
theorem S_X10_found : Snd yX10_found e_X10_found Sp_X10_found := by
  refine Snd.of (by decide +kernel) rfl ?_ ?_
  · rintro av m Φ ⟨n, rfl, _⟩; exact Nat.le_of_ble_eq_true rfl
  rintro av m Φ ⟨n, rfl, h⟩ hav hty
  show B e_X10_found Φ 0 [some (vr 10 0), some (vi n)] [] m (0, 0)
  refine b_aloadN (pc := 0) 0 dX10_found_0 rfl rfl ?_
  refine b_iloadN (pc := 1) 1 dX10_found_1 rfl rfl ?_
  refine pf10_8 (pc := 2) k423 dX10_found_2 ?_
  refine b_ldcw (pc := 5) k455 dX10_found_5 ?_
  refine b_iloadN (pc := 8) 1 dX10_found_8 rfl rfl ?_
  refine b_isub (pc := 9) dX10_found_9 ?_
  refine b_iret (pc := 10) rfl dX10_found_10 ⟨Nat.le_of_ble_eq_true rfl, Nat.le_of_ble_eq_true rfl⟩ ?_
  rotate_left -- leaf 0: return at 10
  -- leaves: 0 return at 10
  exact h
theorem call_X10_found {E : ME} {Φ : Option AV → AM → Prop} {pc : Nat} {L : List (Option AV)} {st : List AV} {m : AM} {a : Nat × Nat} {idx : Nat} {x0 : AV} {i : Nat} (hl : Cond.methodLink E.2.1 idx yX10_found ∈ TB) (hdep : 1 + 1 ≤ E.2.2.2.2.2.2) (hroom : a.1 + 0 ≤ E.2.2.2.2.1 ∧ a.2 + 0 ≤ E.2.2.2.2.2.1) (hsr : st.length ≤ 4) (hd : decode E.1 pc = .ok (.invokevirtual idx, 3)) (hsp : Sp_X10_found [vr 10 i, x0] m (fun r m2 => B E Φ (pc + 3) L (r.toList ++ st) m2 a)) : B E Φ pc L (x0 :: vr 10 i :: st) m a := b_callV S_X10_found [x0] (RX10, TX10, 9) rfl rfl (by decide) (Or.inl hl) k453 k0 k68 k454 (show _ ∧ _ ∧ Option.map (fun d => d.parameters.length) (parseMethodDescriptor yX10_found.desc) = some 1 from by decide +kernel) ⟨hdep, by decide⟩ hroom hsr hd hsp
abbrev e_X10_fine : ME := (cX10_fine, (RX10, (2, ((some .int), (0, (0, 1))))))
theorem dX10_fine_0 : decode cX10_fine 0 = .ok (.aload_n 0, 1) := by decide +kernel
theorem dX10_fine_1 : decode cX10_fine 1 = .ok (.iconst 0, 1) := by decide +kernel
theorem dX10_fine_2 : decode cX10_fine 2 = .ok (.putfield 272, 3) := by decide +kernel
theorem dX10_fine_5 : decode cX10_fine 5 = .ok (.iload_n 1, 1) := by decide +kernel
theorem dX10_fine_6 : decode cX10_fine 6 = .ok (.ireturn, 1) := by decide +kernel
def Sp_X10_fine (av : List AV) (m : AM) (Φ : Option AV → AM → Prop) : Prop := ∃ n, av = [vr 10 0, vi n] ∧ Φ (some (vi n)) (mset m 0 8 (nI 0))
set_option maxRecDepth 20000 in
set_option maxHeartbeats 4000000 in
theorem S_X10_fine : Snd yX10_fine e_X10_fine Sp_X10_fine := by
  refine Snd.of (by decide +kernel) rfl ?_ ?_
  · rintro av m Φ ⟨n, rfl, _⟩; exact Nat.le_of_ble_eq_true rfl
  rintro av m Φ ⟨n, rfl, h⟩ hav hty
  show B e_X10_fine Φ 0 [some (vr 10 0), some (vi n)] [] m (0, 0)
  refine b_aloadN (pc := 0) 0 dX10_fine_0 rfl rfl ?_
  refine b_iconst (pc := 1) (nI 0) dX10_fine_1 (by decide) ?_
  refine pf10_8 (pc := 2) k423 dX10_fine_2 ?_
  refine b_iloadN (pc := 5) 1 dX10_fine_5 rfl rfl ?_
  refine b_iret (pc := 6) rfl dX10_fine_6 ⟨Nat.le_of_ble_eq_true rfl, Nat.le_of_ble_eq_true rfl⟩ ?_
  rotate_left -- leaf 0: return at 6
  -- leaves: 0 return at 6
  exact h
theorem call_X10_fine {E : ME} {Φ : Option AV → AM → Prop} {pc : Nat} {L : List (Option AV)} {st : List AV} {m : AM} {a : Nat × Nat} {idx : Nat} {x0 : AV} {i : Nat} (hl : Cond.methodLink E.2.1 idx yX10_fine ∈ TB) (hdep : 1 + 1 ≤ E.2.2.2.2.2.2) (hroom : a.1 + 0 ≤ E.2.2.2.2.1 ∧ a.2 + 0 ≤ E.2.2.2.2.2.1) (hsr : st.length ≤ 4) (hd : decode E.1 pc = .ok (.invokevirtual idx, 3)) (hsp : Sp_X10_fine [vr 10 i, x0] m (fun r m2 => B E Φ (pc + 3) L (r.toList ++ st) m2 a)) : B E Φ pc L (x0 :: vr 10 i :: st) m a := b_callV S_X10_fine [x0] (RX10, TX10, 9) rfl rfl (by decide) (Or.inl hl) k462 k1 k68 k463 (show _ ∧ _ ∧ Option.map (fun d => d.parameters.length) (parseMethodDescriptor yX10_fine.desc) = some 1 from by decide +kernel) ⟨hdep, by decide⟩ hroom hsr hd hsp
abbrev e_X10_status : ME := (cX10_status, (RX10, (1, ((some .int), (0, (0, 8))))))
theorem dX10_status_0 : decode cX10_status 0 = .ok (.aload_n 0, 1) := by decide +kernel
theorem dX10_status_1 : decode cX10_status 1 = .ok (.getfield 272, 3) := by decide +kernel
theorem dX10_status_4 : decode cX10_status 4 = .ok (.ireturn, 1) := by decide +kernel
def Sp_X10_status (av : List AV) (m : AM) (Φ : Option AV → AM → Prop) : Prop := av = [vr 10 0] ∧ Φ (some (vi (m.1 0 8))) m
set_option maxRecDepth 20000 in
set_option maxHeartbeats 4000000 in
theorem S_X10_status : Snd yX10_status e_X10_status Sp_X10_status := by
  refine Snd.of (by decide +kernel) rfl ?_ ?_
  · rintro av m Φ ⟨rfl, _⟩; exact Nat.le_of_ble_eq_true rfl
  rintro av m Φ ⟨rfl, h⟩ hav hty
  show B e_X10_status Φ 0 [some (vr 10 0)] [] m (0, 0)
  refine b_aloadN (pc := 0) 0 dX10_status_0 rfl rfl ?_
  refine gf10_8 (pc := 1) k423 dX10_status_1 ?_
  refine b_iret (pc := 4) rfl dX10_status_4 ⟨Nat.le_of_ble_eq_true rfl, Nat.le_of_ble_eq_true rfl⟩ ?_
  rotate_left -- leaf 0: return at 4
  -- leaves: 0 return at 4
  exact h
theorem call_X10_status {E : ME} {Φ : Option AV → AM → Prop} {pc : Nat} {L : List (Option AV)} {st : List AV} {m : AM} {a : Nat × Nat} {idx : Nat} {i : Nat} (hl : Cond.methodLink E.2.1 idx yX10_status ∈ TB) (hdep : 8 + 1 ≤ E.2.2.2.2.2.2) (hroom : a.1 + 0 ≤ E.2.2.2.2.1 ∧ a.2 + 0 ≤ E.2.2.2.2.2.1) (hsr : st.length ≤ 4) (hd : decode E.1 pc = .ok (.invokevirtual idx, 3)) (hsp : Sp_X10_status [vr 10 i] m (fun r m2 => B E Φ (pc + 3) L (r.toList ++ st) m2 a)) : B E Φ pc L (vr 10 i :: st) m a := b_callV S_X10_status [] (RX10, TX10, 9) rfl rfl (by decide) (Or.inl hl) k1033 k1034 k68 k1035 (show _ ∧ _ ∧ Option.map (fun d => d.parameters.length) (parseMethodDescriptor yX10_status.desc) = some 0 from by decide +kernel) ⟨hdep, by decide⟩ hroom hsr hd hsp
abbrev e_X9_faultNumber : ME := (cX9_faultNumber, (RX9, (1, ((some .int), (0, (0, 1))))))
theorem dX9_faultNumber_0 : decode cX9_faultNumber 0 = .ok (.aload_n 0, 1) := by decide +kernel
theorem dX9_faultNumber_1 : decode cX9_faultNumber 1 = .ok (.getfield 27, 3) := by decide +kernel
theorem dX9_faultNumber_4 : decode cX9_faultNumber 4 = .ok (.ireturn, 1) := by decide +kernel
def Sp_X9_faultNumber (av : List AV) (m : AM) (Φ : Option AV → AM → Prop) : Prop := av = [vr 9 13] ∧ Φ (some (vi (m.1 13 7))) m
set_option maxRecDepth 20000 in
set_option maxHeartbeats 4000000 in
theorem S_X9_faultNumber : Snd yX9_faultNumber e_X9_faultNumber Sp_X9_faultNumber := by
  refine Snd.of (by decide +kernel) rfl ?_ ?_
  · rintro av m Φ ⟨rfl, _⟩; exact Nat.le_of_ble_eq_true rfl
  rintro av m Φ ⟨rfl, h⟩ hav hty
  show B e_X9_faultNumber Φ 0 [some (vr 9 13)] [] m (0, 0)
  refine b_aloadN (pc := 0) 0 dX9_faultNumber_0 rfl rfl ?_
  refine gf9_7 (pc := 1) k192 dX9_faultNumber_1 ?_
  refine b_iret (pc := 4) rfl dX9_faultNumber_4 ⟨Nat.le_of_ble_eq_true rfl, Nat.le_of_ble_eq_true rfl⟩ ?_
  rotate_left -- leaf 0: return at 4
  -- leaves: 0 return at 4
  exact h
theorem call_X9_faultNumber {E : ME} {Φ : Option AV → AM → Prop} {pc : Nat} {L : List (Option AV)} {st : List AV} {m : AM} {a : Nat × Nat} {idx : Nat} {i : Nat} (hl : Cond.methodLink E.2.1 idx yX9_faultNumber ∈ TB) (hdep : 1 + 1 ≤ E.2.2.2.2.2.2) (hroom : a.1 + 0 ≤ E.2.2.2.2.1 ∧ a.2 + 0 ≤ E.2.2.2.2.2.1) (hsr : st.length ≤ 4) (hd : decode E.1 pc = .ok (.invokevirtual idx, 3)) (hsp : Sp_X9_faultNumber [vr 9 i] m (fun r m2 => B E Φ (pc + 3) L (r.toList ++ st) m2 a)) : B E Φ pc L (vr 9 i :: st) m a := b_callV S_X9_faultNumber [] (RX9, TX9, 9) rfl rfl (by decide) (Or.inl hl) k613 k614 k71 k615 (show _ ∧ _ ∧ Option.map (fun d => d.parameters.length) (parseMethodDescriptor yX9_faultNumber.desc) = some 0 from by decide +kernel) ⟨hdep, by decide⟩ hroom hsr hd hsp
abbrev e_X9_faultPlace : ME := (cX9_faultPlace, (RX9, (1, ((some .int), (0, (0, 1))))))
theorem dX9_faultPlace_0 : decode cX9_faultPlace 0 = .ok (.aload_n 0, 1) := by decide +kernel
theorem dX9_faultPlace_1 : decode cX9_faultPlace 1 = .ok (.getfield 30, 3) := by decide +kernel
theorem dX9_faultPlace_4 : decode cX9_faultPlace 4 = .ok (.ireturn, 1) := by decide +kernel
def Sp_X9_faultPlace (av : List AV) (m : AM) (Φ : Option AV → AM → Prop) : Prop := av = [vr 9 13] ∧ Φ (some (vi (m.1 13 8))) m
set_option maxRecDepth 20000 in
set_option maxHeartbeats 4000000 in
theorem S_X9_faultPlace : Snd yX9_faultPlace e_X9_faultPlace Sp_X9_faultPlace := by
  refine Snd.of (by decide +kernel) rfl ?_ ?_
  · rintro av m Φ ⟨rfl, _⟩; exact Nat.le_of_ble_eq_true rfl
  rintro av m Φ ⟨rfl, h⟩ hav hty
  show B e_X9_faultPlace Φ 0 [some (vr 9 13)] [] m (0, 0)
  refine b_aloadN (pc := 0) 0 dX9_faultPlace_0 rfl rfl ?_
  refine gf9_8 (pc := 1) k193 dX9_faultPlace_1 ?_
  refine b_iret (pc := 4) rfl dX9_faultPlace_4 ⟨Nat.le_of_ble_eq_true rfl, Nat.le_of_ble_eq_true rfl⟩ ?_
  rotate_left -- leaf 0: return at 4
  -- leaves: 0 return at 4
  exact h
theorem call_X9_faultPlace {E : ME} {Φ : Option AV → AM → Prop} {pc : Nat} {L : List (Option AV)} {st : List AV} {m : AM} {a : Nat × Nat} {idx : Nat} {i : Nat} (hl : Cond.methodLink E.2.1 idx yX9_faultPlace ∈ TB) (hdep : 1 + 1 ≤ E.2.2.2.2.2.2) (hroom : a.1 + 0 ≤ E.2.2.2.2.1 ∧ a.2 + 0 ≤ E.2.2.2.2.2.1) (hsr : st.length ≤ 4) (hd : decode E.1 pc = .ok (.invokevirtual idx, 3)) (hsp : Sp_X9_faultPlace [vr 9 i] m (fun r m2 => B E Φ (pc + 3) L (r.toList ++ st) m2 a)) : B E Φ pc L (vr 9 i :: st) m a := b_callV S_X9_faultPlace [] (RX9, TX9, 9) rfl rfl (by decide) (Or.inl hl) k582 k583 k71 k584 (show _ ∧ _ ∧ Option.map (fun d => d.parameters.length) (parseMethodDescriptor yX9_faultPlace.desc) = some 0 from by decide +kernel) ⟨hdep, by decide⟩ hroom hsr hd hsp
abbrev e_X10_fault : ME := (cX10_fault, (RX10, (1, ((some .int), (0, (0, 8))))))
theorem dX10_fault_0 : decode cX10_fault 0 = .ok (.aload_n 0, 1) := by decide +kernel
theorem dX10_fault_1 : decode cX10_fault 1 = .ok (.getfield 19, 3) := by decide +kernel
theorem dX10_fault_4 : decode cX10_fault 4 = .ok (.invokevirtual 136, 3) := by decide +kernel
theorem dX10_fault_7 : decode cX10_fault 7 = .ok (.ireturn, 1) := by decide +kernel
def Sp_X10_fault (av : List AV) (m : AM) (Φ : Option AV → AM → Prop) : Prop := av = [vr 10 0] ∧ Φ (some (vi (m.1 13 7))) m
set_option maxRecDepth 20000 in
set_option maxHeartbeats 4000000 in
theorem S_X10_fault : Snd yX10_fault e_X10_fault Sp_X10_fault := by
  refine Snd.of (by decide +kernel) rfl ?_ ?_
  · rintro av m Φ ⟨rfl, _⟩; exact Nat.le_of_ble_eq_true rfl
  rintro av m Φ ⟨rfl, h⟩ hav hty
  show B e_X10_fault Φ 0 [some (vr 10 0)] [] m (0, 0)
  refine b_aloadN (pc := 0) 0 dX10_fault_0 rfl rfl ?_
  refine gf10_1 (pc := 1) 13 rfl k416 dX10_fault_1 ?_
  refine call_X9_faultNumber (pc := 4) k612 (by decide) ⟨Nat.le_of_ble_eq_true rfl, Nat.le_of_ble_eq_true rfl⟩ (Nat.le_of_ble_eq_true rfl) dX10_fault_4 ?_
  refine ⟨rfl, ?_⟩
  refine b_iret (pc := 7) rfl dX10_fault_7 ⟨Nat.le_of_ble_eq_true rfl, Nat.le_of_ble_eq_true rfl⟩ ?_
  rotate_left -- leaf 0: return at 7
  -- leaves: 0 return at 7
  exact h
theorem call_X10_fault {E : ME} {Φ : Option AV → AM → Prop} {pc : Nat} {L : List (Option AV)} {st : List AV} {m : AM} {a : Nat × Nat} {idx : Nat} {i : Nat} (hl : Cond.methodLink E.2.1 idx yX10_fault ∈ TB) (hdep : 8 + 1 ≤ E.2.2.2.2.2.2) (hroom : a.1 + 0 ≤ E.2.2.2.2.1 ∧ a.2 + 0 ≤ E.2.2.2.2.2.1) (hsr : st.length ≤ 4) (hd : decode E.1 pc = .ok (.invokevirtual idx, 3)) (hsp : Sp_X10_fault [vr 10 i] m (fun r m2 => B E Φ (pc + 3) L (r.toList ++ st) m2 a)) : B E Φ pc L (vr 10 i :: st) m a := b_callV S_X10_fault [] (RX10, TX10, 9) rfl rfl (by decide) (Or.inl hl) k609 k610 k68 k611 (show _ ∧ _ ∧ Option.map (fun d => d.parameters.length) (parseMethodDescriptor yX10_fault.desc) = some 0 from by decide +kernel) ⟨hdep, by decide⟩ hroom hsr hd hsp
abbrev e_X9_wipe : ME := (cX9_wipe, (RX9, (1, (none, (0, (0, 1))))))
theorem dX9_wipe_0 : decode cX9_wipe 0 = .ok (.aload_n 0, 1) := by decide +kernel
theorem dX9_wipe_1 : decode cX9_wipe 1 = .ok (.iconst 0, 1) := by decide +kernel
theorem dX9_wipe_2 : decode cX9_wipe 2 = .ok (.putfield 22, 3) := by decide +kernel
theorem dX9_wipe_5 : decode cX9_wipe 5 = .ok (.return_, 1) := by decide +kernel
def Sp_X9_wipe (av : List AV) (m : AM) (Φ : Option AV → AM → Prop) : Prop := av = [vr 9 13] ∧ Φ none (mset m 13 2 (nI 0))
set_option maxRecDepth 20000 in
set_option maxHeartbeats 4000000 in
theorem S_X9_wipe : Snd yX9_wipe e_X9_wipe Sp_X9_wipe := by
  refine Snd.of (by decide +kernel) rfl ?_ ?_
  · rintro av m Φ ⟨rfl, _⟩; exact Nat.le_of_ble_eq_true rfl
  rintro av m Φ ⟨rfl, h⟩ hav hty
  show B e_X9_wipe Φ 0 [some (vr 9 13)] [] m (0, 0)
  refine b_aloadN (pc := 0) 0 dX9_wipe_0 rfl rfl ?_
  refine b_iconst (pc := 1) (nI 0) dX9_wipe_1 (by decide) ?_
  refine pf9_2 (pc := 2) k186 dX9_wipe_2 ?_
  refine b_vret (pc := 5) rfl dX9_wipe_5 ⟨Nat.le_of_ble_eq_true rfl, Nat.le_of_ble_eq_true rfl⟩ ?_
  rotate_left -- leaf 0: return at 5
  -- leaves: 0 return at 5
  exact h
theorem call_X9_wipe {E : ME} {Φ : Option AV → AM → Prop} {pc : Nat} {L : List (Option AV)} {st : List AV} {m : AM} {a : Nat × Nat} {idx : Nat} {i : Nat} (hl : Cond.methodLink E.2.1 idx yX9_wipe ∈ TB) (hdep : 1 + 1 ≤ E.2.2.2.2.2.2) (hroom : a.1 + 0 ≤ E.2.2.2.2.1 ∧ a.2 + 0 ≤ E.2.2.2.2.2.1) (hsr : st.length ≤ 4) (hd : decode E.1 pc = .ok (.invokevirtual idx, 3)) (hsp : Sp_X9_wipe [vr 9 i] m (fun r m2 => B E Φ (pc + 3) L (r.toList ++ st) m2 a)) : B E Φ pc L (vr 9 i :: st) m a := b_callV S_X9_wipe [] (RX9, TX9, 9) rfl rfl (by decide) (Or.inl hl) k577 k578 k71 k579 (show _ ∧ _ ∧ Option.map (fun d => d.parameters.length) (parseMethodDescriptor yX9_wipe.desc) = some 0 from by decide +kernel) ⟨hdep, by decide⟩ hroom hsr hd hsp
abbrev e_X9_add : ME := (cX9_add, (RX9, (2, ((some .int), (0, (0, 1))))))
theorem dX9_add_0 : decode cX9_add 0 = .ok (.aload_n 0, 1) := by decide +kernel
theorem dX9_add_1 : decode cX9_add 1 = .ok (.getfield 22, 3) := by decide +kernel
theorem dX9_add_4 : decode cX9_add 4 = .ok (.bipush 120, 2) := by decide +kernel
theorem dX9_add_6 : decode cX9_add 6 = .ok (.if_icmp .lt 6, 3) := by decide +kernel
theorem dX9_add_9 : decode cX9_add 9 = .ok (.ldc 26, 2) := by decide +kernel
theorem dX9_add_11 : decode cX9_add 11 = .ok (.ireturn, 1) := by decide +kernel
theorem dX9_add_12 : decode cX9_add 12 = .ok (.aload_n 0, 1) := by decide +kernel
theorem dX9_add_13 : decode cX9_add 13 = .ok (.getfield 18, 3) := by decide +kernel
theorem dX9_add_16 : decode cX9_add 16 = .ok (.aload_n 0, 1) := by decide +kernel
theorem dX9_add_17 : decode cX9_add 17 = .ok (.getfield 22, 3) := by decide +kernel
theorem dX9_add_20 : decode cX9_add 20 = .ok (.iload_n 1, 1) := by decide +kernel
theorem dX9_add_21 : decode cX9_add 21 = .ok (.iastore, 1) := by decide +kernel
theorem dX9_add_22 : decode cX9_add 22 = .ok (.aload_n 0, 1) := by decide +kernel
theorem dX9_add_23 : decode cX9_add 23 = .ok (.dup, 1) := by decide +kernel
theorem dX9_add_24 : decode cX9_add 24 = .ok (.getfield 22, 3) := by decide +kernel
theorem dX9_add_27 : decode cX9_add 27 = .ok (.iconst 1, 1) := by decide +kernel
theorem dX9_add_28 : decode cX9_add 28 = .ok (.iadd, 1) := by decide +kernel
theorem dX9_add_29 : decode cX9_add 29 = .ok (.putfield 22, 3) := by decide +kernel
theorem dX9_add_32 : decode cX9_add 32 = .ok (.aload_n 0, 1) := by decide +kernel
theorem dX9_add_33 : decode cX9_add 33 = .ok (.getfield 22, 3) := by decide +kernel
theorem dX9_add_36 : decode cX9_add 36 = .ok (.ireturn, 1) := by decide +kernel
def Sp_X9_add (av : List AV) (m : AM) (Φ : Option AV → AM → Prop) : Prop := ∃ x, av = [vr 9 13, vi x] ∧ ∃ n, m.1 13 2 = nI n ∧ n ≤ 120 ∧ (n = 120 → Φ (some (vi (-1000003))) m) ∧ (n < 120 → Φ (some (vi (nI (n + 1)))) (mset (mset m 19 n x) 13 2 (nI (n + 1))))
set_option maxRecDepth 20000 in
set_option maxHeartbeats 4000000 in
theorem S_X9_add : Snd yX9_add e_X9_add Sp_X9_add := by
  refine Snd.of (by decide +kernel) rfl ?_ ?_
  · rintro av m Φ ⟨x, rfl, _⟩; exact Nat.le_of_ble_eq_true rfl
  rintro av m Φ ⟨x, rfl, n, hn, hl, h1, h2⟩ hav hty
  show B e_X9_add Φ 0 [some (vr 9 13), some (vi x)] [] m (0, 0)
  refine b_aloadN (pc := 0) 0 dX9_add_0 rfl rfl ?_
  refine gf9_2 (pc := 1) k186 dX9_add_1 ?_
  refine b_bipush (pc := 4) (nI 120) dX9_add_4 (by decide) ?_
  refine b_icmp_lt (pc := 6) 12 dX9_add_6 (by decide) (fun c6 => ?_) (fun c6 => ?_)
  refine b_aloadN (pc := 12) 0 dX9_add_12 rfl rfl ?_
  refine gf9_1 (pc := 13) 19 rfl k185 dX9_add_13 ?_
  refine b_aloadN (pc := 16) 0 dX9_add_16 rfl rfl ?_
  refine gf9_2 (pc := 17) k186 dX9_add_17 ?_
  refine b_iloadN (pc := 20) 1 dX9_add_20 rfl rfl ?_
  refine b_iast (pc := 21) (by decide) ?_ dX9_add_21 ?_
  rotate_left -- leaf 0: index at 21
  refine b_aloadN (pc := 22) 0 dX9_add_22 rfl rfl ?_
  refine b_dup_r (pc := 23) dX9_add_23 ?_
  refine gf9_2 (pc := 24) k186 dX9_add_24 ?_
  refine b_iconst (pc := 27) (nI 1) dX9_add_27 (by decide) ?_
  refine b_iadd (pc := 28) dX9_add_28 ?_
  refine pf9_2 (pc := 29) k186 dX9_add_29 ?_
  refine b_aloadN (pc := 32) 0 dX9_add_32 rfl rfl ?_
  refine gf9_2 (pc := 33) k186 dX9_add_33 ?_
  refine b_iret (pc := 36) rfl dX9_add_36 ⟨Nat.le_of_ble_eq_true rfl, Nat.le_of_ble_eq_true rfl⟩ ?_
  rotate_left -- leaf 1: return at 36
  refine b_ldc (pc := 9) k512 dX9_add_9 ?_
  refine b_iret (pc := 11) rfl dX9_add_11 ⟨Nat.le_of_ble_eq_true rfl, Nat.le_of_ble_eq_true rfl⟩ ?_
  rotate_left -- leaf 2: return at 11
  -- leaves: 0 index at 21; 1 return at 36; 2 return at 11
  · rw [hn, n_lt (by omega) (by omega)] at c6
    rw [hn]; exact n_in (by omega) (by omega)
  · rw [hn, n_lt (by omega) (by omega)] at c6
    rw [mset_at, if_pos rfl, mset_ne _ _ _ (by decide), hn, n_cl (by omega), n_add]
    exact h2 c6
  · rw [hn, n_lt (by omega) (by omega)] at c6
    exact h1 (by omega)
theorem call_X9_add {E : ME} {Φ : Option AV → AM → Prop} {pc : Nat} {L : List (Option AV)} {st : List AV} {m : AM} {a : Nat × Nat} {idx : Nat} {x0 : AV} {i : Nat} (hl : Cond.methodLink E.2.1 idx yX9_add ∈ TB) (hdep : 1 + 1 ≤ E.2.2.2.2.2.2) (hroom : a.1 + 0 ≤ E.2.2.2.2.1 ∧ a.2 + 0 ≤ E.2.2.2.2.2.1) (hsr : st.length ≤ 4) (hd : decode E.1 pc = .ok (.invokevirtual idx, 3)) (hsp : Sp_X9_add [vr 9 i, x0] m (fun r m2 => B E Φ (pc + 3) L (r.toList ++ st) m2 a)) : B E Φ pc L (x0 :: vr 9 i :: st) m a := b_callV S_X9_add [x0] (RX9, TX9, 9) rfl rfl (by decide) (Or.inl hl) k509 k510 k71 k511 (show _ ∧ _ ∧ Option.map (fun d => d.parameters.length) (parseMethodDescriptor yX9_add.desc) = some 1 from by decide +kernel) ⟨hdep, by decide⟩ hroom hsr hd hsp
abbrev e_X10_feed : ME := (cX10_feed, (RX10, (2, ((some .int), (0, (0, 8))))))
theorem dX10_feed_0 : decode cX10_feed 0 = .ok (.iload_n 1, 1) := by decide +kernel
theorem dX10_feed_1 : decode cX10_feed 1 = .ok (.ifCond .lt 10, 3) := by decide +kernel
theorem dX10_feed_4 : decode cX10_feed 4 = .ok (.iload_n 1, 1) := by decide +kernel
theorem dX10_feed_5 : decode cX10_feed 5 = .ok (.sipush 255, 3) := by decide +kernel
theorem dX10_feed_8 : decode cX10_feed 8 = .ok (.if_icmp .le 6, 3) := by decide +kernel
theorem dX10_feed_11 : decode cX10_feed 11 = .ok (.ldc 69, 2) := by decide +kernel
theorem dX10_feed_13 : decode cX10_feed 13 = .ok (.ireturn, 1) := by decide +kernel
theorem dX10_feed_14 : decode cX10_feed 14 = .ok (.aload_n 0, 1) := by decide +kernel
theorem dX10_feed_15 : decode cX10_feed 15 = .ok (.getfield 19, 3) := by decide +kernel
theorem dX10_feed_18 : decode cX10_feed 18 = .ok (.iload_n 1, 1) := by decide +kernel
theorem dX10_feed_19 : decode cX10_feed 19 = .ok (.invokevirtual 101, 3) := by decide +kernel
theorem dX10_feed_22 : decode cX10_feed 22 = .ok (.ireturn, 1) := by decide +kernel
def Sp_X10_feed (av : List AV) (m : AM) (Φ : Option AV → AM → Prop) : Prop := ∃ x, av = [vr 10 0, vi x] ∧ ∃ n, m.1 13 2 = nI n ∧ n ≤ 120 ∧ (inB x 256 = false → Φ (some (vi (-1000001))) m) ∧ (inB x 256 = true → n = 120 → Φ (some (vi (-1000003))) m) ∧ (inB x 256 = true → n < 120 → Φ (some (vi (nI (n + 1)))) (mset (mset m 19 n x) 13 2 (nI (n + 1))))
set_option maxRecDepth 20000 in
set_option maxHeartbeats 4000000 in
theorem S_X10_feed : Snd yX10_feed e_X10_feed Sp_X10_feed := by
  refine Snd.of (by decide +kernel) rfl ?_ ?_
  · rintro av m Φ ⟨x, rfl, _⟩; exact Nat.le_of_ble_eq_true rfl
  rintro av m Φ ⟨x, rfl, n, hn, hl, h1, h2, h3⟩ hav hty
  show B e_X10_feed Φ 0 [some (vr 10 0), some (vi x)] [] m (0, 0)
  have le : ¬ x < 0 → x ≤ nI 255 → inB x 256 = true := fun a b => by
    refine inB_t a (fun c => ?_)
    obtain ⟨j, hj, rfl⟩ := nI_of a
    rw [n_le (by omega) (by omega)] at b c
    omega
  have gt : ¬ x < 0 → ¬ x ≤ nI 255 → inB x 256 = false := fun a b => by
    refine inB_f2 ?_
    obtain ⟨j, hj, rfl⟩ := nI_of a
    rw [n_le (by omega) (by omega)] at b ⊢
    omega
  refine b_iloadN (pc := 0) 1 dX10_feed_0 rfl rfl ?_
  refine b_if_lt (pc := 1) 11 dX10_feed_1 (by decide) (fun c1 => ?_) (fun c1 => ?_)
  refine b_ldc (pc := 11) k450 dX10_feed_11 ?_
  refine b_iret (pc := 13) rfl dX10_feed_13 ⟨Nat.le_of_ble_eq_true rfl, Nat.le_of_ble_eq_true rfl⟩ ?_
  rotate_left -- leaf 0: return at 13
  refine b_iloadN (pc := 4) 1 dX10_feed_4 rfl rfl ?_
  refine b_sipush (pc := 5) (nI 255) dX10_feed_5 (by decide) ?_
  refine b_icmp_le (pc := 8) 14 dX10_feed_8 (by decide) (fun c8 => ?_) (fun c8 => ?_)
  refine b_aloadN (pc := 14) 0 dX10_feed_14 rfl rfl ?_
  refine gf10_1 (pc := 15) 13 rfl k416 dX10_feed_15 ?_
  refine b_iloadN (pc := 18) 1 dX10_feed_18 rfl rfl ?_
  rotate_left -- leaf 1: at 19
  refine b_ldc (pc := 11) k450 dX10_feed_11 ?_
  refine b_iret (pc := 13) rfl dX10_feed_13 ⟨Nat.le_of_ble_eq_true rfl, Nat.le_of_ble_eq_true rfl⟩ ?_
  rotate_left -- leaf 2: return at 13
  -- leaves: 0 return at 13; 1 at 19; 2 return at 13
  · exact h1 (inB_f1 c1)
  · refine call_X9_add (pc := 19) k508 (by decide) ⟨Nat.le_of_ble_eq_true rfl, Nat.le_of_ble_eq_true rfl⟩ (Nat.le_of_ble_eq_true rfl) dX10_feed_19 ?_
    refine ⟨_, rfl, n, hn, hl, fun e => ?_, fun e => ?_⟩
    · refine b_iret (pc := 22) rfl dX10_feed_22 ⟨Nat.le_of_ble_eq_true rfl, Nat.le_of_ble_eq_true rfl⟩ ?_
      exact h2 (le c1 c8) e
    · refine b_iret (pc := 22) rfl dX10_feed_22 ⟨Nat.le_of_ble_eq_true rfl, Nat.le_of_ble_eq_true rfl⟩ ?_
      exact h3 (le c1 c8) e
  · exact h1 (gt c1 c8)
theorem call_X10_feed {E : ME} {Φ : Option AV → AM → Prop} {pc : Nat} {L : List (Option AV)} {st : List AV} {m : AM} {a : Nat × Nat} {idx : Nat} {x0 : AV} {i : Nat} (hl : Cond.methodLink E.2.1 idx yX10_feed ∈ TB) (hdep : 8 + 1 ≤ E.2.2.2.2.2.2) (hroom : a.1 + 0 ≤ E.2.2.2.2.1 ∧ a.2 + 0 ≤ E.2.2.2.2.2.1) (hsr : st.length ≤ 4) (hd : decode E.1 pc = .ok (.invokevirtual idx, 3)) (hsp : Sp_X10_feed [vr 10 i, x0] m (fun r m2 => B E Φ (pc + 3) L (r.toList ++ st) m2 a)) : B E Φ pc L (x0 :: vr 10 i :: st) m a := b_callV S_X10_feed [x0] (RX10, TX10, 9) rfl rfl (by decide) (Or.inl hl) k505 k506 k68 k507 (show _ ∧ _ ∧ Option.map (fun d => d.parameters.length) (parseMethodDescriptor yX10_feed.desc) = some 1 from by decide +kernel) ⟨hdep, by decide⟩ hroom hsr hd hsp
