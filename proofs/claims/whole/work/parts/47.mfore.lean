/-! the reference: idle, giveUp, madeBy, order -/
theorem dec_s (k : Nat) : nI (k + 1) + Int32.ofInt (-1) = nI k := by
  rw [← nI_add k 1, Int32.add_assoc, show nI 1 + Int32.ofInt (-1) = 0 by decide, Int32.add_zero]
theorem dec_0 : nI 0 + Int32.ofInt (-1) = -1 := by decide
abbrev e_X11_idle : ME := (cX11_idle, (RX11, (4, ((some .int), (0, (0, 8))))))
theorem dX11_idle_0 : decode cX11_idle 0 = .ok (.aload_n 0, 1) := by decide +kernel
theorem dX11_idle_1 : decode cX11_idle 1 = .ok (.iconst 0, 1) := by decide +kernel
theorem dX11_idle_2 : decode cX11_idle 2 = .ok (.putfield 53, 3) := by decide +kernel
theorem dX11_idle_5 : decode cX11_idle 5 = .ok (.aload_n 0, 1) := by decide +kernel
theorem dX11_idle_6 : decode cX11_idle 6 = .ok (.iload_n 1, 1) := by decide +kernel
theorem dX11_idle_7 : decode cX11_idle 7 = .ok (.invokevirtual 176, 3) := by decide +kernel
theorem dX11_idle_10 : decode cX11_idle 10 = .ok (.ifCond .ne 6, 3) := by decide +kernel
theorem dX11_idle_13 : decode cX11_idle 13 = .ok (.ldc 73, 2) := by decide +kernel
theorem dX11_idle_15 : decode cX11_idle 15 = .ok (.ireturn, 1) := by decide +kernel
theorem dX11_idle_16 : decode cX11_idle 16 = .ok (.iconst 0, 1) := by decide +kernel
theorem dX11_idle_17 : decode cX11_idle 17 = .ok (.istore_n 2, 1) := by decide +kernel
theorem dX11_idle_18 : decode cX11_idle 18 = .ok (.iconst 0, 1) := by decide +kernel
theorem dX11_idle_19 : decode cX11_idle 19 = .ok (.istore_n 3, 1) := by decide +kernel
theorem dX11_idle_20 : decode cX11_idle 20 = .ok (.iload_n 3, 1) := by decide +kernel
theorem dX11_idle_21 : decode cX11_idle 21 = .ok (.iconst 2, 1) := by decide +kernel
theorem dX11_idle_22 : decode cX11_idle 22 = .ok (.aload_n 0, 1) := by decide +kernel
theorem dX11_idle_23 : decode cX11_idle 23 = .ok (.getfield 19, 3) := by decide +kernel
theorem dX11_idle_26 : decode cX11_idle 26 = .ok (.iconst 0, 1) := by decide +kernel
theorem dX11_idle_27 : decode cX11_idle 27 = .ok (.iaload, 1) := by decide +kernel
theorem dX11_idle_28 : decode cX11_idle 28 = .ok (.imul, 1) := by decide +kernel
theorem dX11_idle_29 : decode cX11_idle 29 = .ok (.if_icmp .ge 46, 3) := by decide +kernel
theorem dX11_idle_32 : decode cX11_idle 32 = .ok (.iload_n 2, 1) := by decide +kernel
theorem dX11_idle_33 : decode cX11_idle 33 = .ok (.aload_n 0, 1) := by decide +kernel
theorem dX11_idle_34 : decode cX11_idle 34 = .ok (.iload_n 1, 1) := by decide +kernel
theorem dX11_idle_35 : decode cX11_idle 35 = .ok (.aload_n 0, 1) := by decide +kernel
theorem dX11_idle_36 : decode cX11_idle 36 = .ok (.getfield 19, 3) := by decide +kernel
theorem dX11_idle_39 : decode cX11_idle 39 = .ok (.iconst 1, 1) := by decide +kernel
theorem dX11_idle_40 : decode cX11_idle 40 = .ok (.iaload, 1) := by decide +kernel
theorem dX11_idle_41 : decode cX11_idle 41 = .ok (.aload_n 0, 1) := by decide +kernel
theorem dX11_idle_42 : decode cX11_idle 42 = .ok (.getfield 19, 3) := by decide +kernel
theorem dX11_idle_45 : decode cX11_idle 45 = .ok (.iconst 5, 1) := by decide +kernel
theorem dX11_idle_46 : decode cX11_idle 46 = .ok (.iaload, 1) := by decide +kernel
theorem dX11_idle_47 : decode cX11_idle 47 = .ok (.iload_n 3, 1) := by decide +kernel
theorem dX11_idle_48 : decode cX11_idle 48 = .ok (.invokevirtual 186, 3) := by decide +kernel
theorem dX11_idle_51 : decode cX11_idle 51 = .ok (.aload_n 0, 1) := by decide +kernel
theorem dX11_idle_52 : decode cX11_idle 52 = .ok (.getfield 19, 3) := by decide +kernel
theorem dX11_idle_55 : decode cX11_idle 55 = .ok (.iconst 1, 1) := by decide +kernel
theorem dX11_idle_56 : decode cX11_idle 56 = .ok (.iaload, 1) := by decide +kernel
theorem dX11_idle_57 : decode cX11_idle 57 = .ok (.if_icmp .ne 9, 3) := by decide +kernel
theorem dX11_idle_60 : decode cX11_idle 60 = .ok (.iconst 1, 1) := by decide +kernel
theorem dX11_idle_61 : decode cX11_idle 61 = .ok (.iload_n 3, 1) := by decide +kernel
theorem dX11_idle_62 : decode cX11_idle 62 = .ok (.ishl, 1) := by decide +kernel
theorem dX11_idle_63 : decode cX11_idle 63 = .ok (.goto 4, 3) := by decide +kernel
theorem dX11_idle_66 : decode cX11_idle 66 = .ok (.iconst 0, 1) := by decide +kernel
theorem dX11_idle_67 : decode cX11_idle 67 = .ok (.ior, 1) := by decide +kernel
theorem dX11_idle_68 : decode cX11_idle 68 = .ok (.istore_n 2, 1) := by decide +kernel
theorem dX11_idle_69 : decode cX11_idle 69 = .ok (.iinc 3 1, 3) := by decide +kernel
theorem dX11_idle_72 : decode cX11_idle 72 = .ok (.goto (-52), 3) := by decide +kernel
theorem dX11_idle_75 : decode cX11_idle 75 = .ok (.iload_n 2, 1) := by decide +kernel
theorem dX11_idle_76 : decode cX11_idle 76 = .ok (.ireturn, 1) := by decide +kernel
def Sp_X11_idle (av : List AV) (m : AM) (Φ : Option AV → AM → Prop) : Prop := ∃ p, av = [vr 11 110, vi p] ∧ ∃ C, MCo m C ∧ Φ (some (vi (idleV C p))) (mset m 110 0 (nI 0))
set_option maxRecDepth 20000 in
set_option maxHeartbeats 4000000 in
theorem S_X11_idle : Snd yX11_idle e_X11_idle Sp_X11_idle := by
  refine Snd.of (by decide +kernel) rfl ?_ ?_
  · rintro av m Φ ⟨p, rfl, _⟩; exact Nat.le_of_ble_eq_true rfl
  rintro av m Φ ⟨p, rfl, C, hC0, h⟩ hav hty
  show B e_X11_idle Φ 0 [some (vr 11 110), some (vi p), none, none] [] m (0, 0)
  have hC : MCo (mset m 110 0 (nI 0)) C := hC0.ms (by decide)
  have hle := hC.le
  unfold idleV at h
  by_cases hp : inB p (C 4) = true
  · rw [if_pos hp] at h
    obtain ⟨j, hj, rfl⟩ := (inB_iff (by omega)).mp hp
    rw [n_cl (by omega)] at h
    have hv := hC.op (Or.inr (Or.inr (by omega)))
    have hc1 := hv.c1
    have loop : ∀ n k, 2 * C 0 + 1 ≤ k + n → k ≤ 2 * C 0 → B e_X11_idle Φ 20 [some (vr 11 110), some (vi (nI j)), some (vi (nI (idleN C (C (40 + 2 * j)) k))), some (vi (nI k))] [] (mset m 110 0 (nI 0)) (0, 0) := by
      intro n
      induction n with
      | zero => intro k h1 h2; omega
      | succ n ih =>
        intro k h1 h2
        have eC1 : (mset m 110 0 (nI 0)).1 114 (nI 1).toNatClampNeg = nI (C 1) := by rw [n_cl (by omega)]; exact hC.1 1 (by omega)
        have eC5 : (mset m 110 0 (nI 0)).1 114 (nI 5).toNatClampNeg = nI (C 5) := by rw [n_cl (by omega)]; exact hC.1 5 (by omega)
        have eC0 : (mset m 110 0 (nI 0)).1 114 (nI 0).toNatClampNeg = nI (C 0) := by rw [n_cl (by omega)]; exact hC.1 0 (by omega)
        have un : idleN C (C (40 + 2 * j)) (k + 1) = if outN C (C (40 + 2 * j)) (C 1) (C 5) k = some (C 1) then idleN C (C (40 + 2 * j)) k ||| 2 ^ k else idleN C (C (40 + 2 * j)) k := rfl
        refine b_iloadN (pc := 20) 3 dX11_idle_20 rfl rfl ?_
        refine b_iconst (pc := 21) (nI 2) dX11_idle_21 (by decide) ?_
        refine b_aloadN (pc := 22) 0 dX11_idle_22 rfl rfl ?_
        refine gf11_5 (pc := 23) 114 rfl k1047 dX11_idle_23 ?_
        refine b_iconst (pc := 26) (nI 0) dX11_idle_26 (by decide) ?_
        refine b_iald (pc := 27) (by decide) ?_ dX11_idle_27 ?_
        rotate_left -- leaf 0: index at 27
        refine b_imul (pc := 28) dX11_idle_28 ?_
        refine b_icmp_ge (pc := 29) 75 dX11_idle_29 (by decide) (fun c29 => ?_) (fun c29 => ?_)
        refine b_iloadN (pc := 75) 2 dX11_idle_75 rfl rfl ?_
        refine b_iret (pc := 76) rfl dX11_idle_76 ⟨Nat.le_of_ble_eq_true rfl, Nat.le_of_ble_eq_true rfl⟩ ?_
        rotate_left -- leaf 1: return at 76
        refine b_iloadN (pc := 32) 2 dX11_idle_32 rfl rfl ?_
        refine b_aloadN (pc := 33) 0 dX11_idle_33 rfl rfl ?_
        refine b_iloadN (pc := 34) 1 dX11_idle_34 rfl rfl ?_
        refine b_aloadN (pc := 35) 0 dX11_idle_35 rfl rfl ?_
        refine gf11_5 (pc := 36) 114 rfl k1047 dX11_idle_36 ?_
        refine b_iconst (pc := 39) (nI 1) dX11_idle_39 (by decide) ?_
        refine b_iald (pc := 40) (by decide) ?_ dX11_idle_40 ?_
        rotate_left -- leaf 2: index at 40
        refine b_aloadN (pc := 41) 0 dX11_idle_41 rfl rfl ?_
        refine gf11_5 (pc := 42) 114 rfl k1047 dX11_idle_42 ?_
        refine b_iconst (pc := 45) (nI 5) dX11_idle_45 (by decide) ?_
        refine b_iald (pc := 46) (by decide) ?_ dX11_idle_46 ?_
        rotate_left -- leaf 3: index at 46
        refine b_iloadN (pc := 47) 3 dX11_idle_47 rfl rfl ?_
        refine call_X11_after (pc := 48) k1241 (by decide) ⟨Nat.le_of_ble_eq_true rfl, Nat.le_of_ble_eq_true rfl⟩ (Nat.le_of_ble_eq_true rfl) dX11_idle_48 ?_
        refine ⟨_, _, _, _, rfl, C, j, C 1, C 5, _, hv, hC.1, rfl, ?_, ?_, rfl, hj, hv.c1, hv.c5, ?_, ?_⟩
        rotate_left -- leaf 4: s1 of X11_after at 48
        rotate_left -- leaf 5: s5 of X11_after at 48
        rotate_left -- leaf 6: saying of X11_after at 48
        refine b_aloadN (pc := 51) 0 dX11_idle_51 rfl rfl ?_
        refine gf11_5 (pc := 52) 114 rfl k1047 dX11_idle_52 ?_
        refine b_iconst (pc := 55) (nI 1) dX11_idle_55 (by decide) ?_
        refine b_iald (pc := 56) (by decide) ?_ dX11_idle_56 ?_
        rotate_left -- leaf 7: index at 56
        refine b_icmp_ne (pc := 57) 66 dX11_idle_57 (by decide) (fun c57 => ?_) (fun c57 => ?_)
        refine b_iconst (pc := 66) (nI 0) dX11_idle_66 (by decide) ?_
        refine b_ior (pc := 67) dX11_idle_67 ?_
        refine siN2 (pc := 68) rfl notL_i (by decide) dX11_idle_68 ?_
        refine inc3 (pc := 69) notL_i (by decide) dX11_idle_69 ?_
        refine b_goto (pc := 72) 20 dX11_idle_72 (by decide) ?_
        rotate_left -- leaf 8: at 20
        refine b_iconst (pc := 60) (nI 1) dX11_idle_60 (by decide) ?_
        refine b_iloadN (pc := 61) 3 dX11_idle_61 rfl rfl ?_
        refine b_ishl (pc := 62) dX11_idle_62 ?_
        refine b_goto (pc := 63) 67 dX11_idle_63 (by decide) ?_
        refine b_ior (pc := 67) dX11_idle_67 ?_
        refine siN2 (pc := 68) rfl notL_i (by decide) dX11_idle_68 ?_
        refine inc3 (pc := 69) notL_i (by decide) dX11_idle_69 ?_
        refine b_goto (pc := 72) 20 dX11_idle_72 (by decide) ?_
        rotate_left -- leaf 9: at 20
        -- leaves: 0 index at 27; 1 return at 76; 2 index at 40; 3 index at 46; 4 s1 of X11_after at 48; 5 s5 of X11_after at 48; 6 saying of X11_after at 48; 7 index at 56; 8 at 20; 9 at 20
        · exact n_in (by omega) (by omega)
        · rw [eC0, n_mul, n_le (by omega) (by omega)] at c29
          rw [show k = 2 * C 0 by omega]
          exact h
        all_goals rw [eC0, n_mul, n_le (by omega) (by omega)] at c29
        · exact n_in (by omega) (by omega)
        · exact n_in (by omega) (by omega)
        · exact eC1
        · exact eC5
        · omega
        · exact n_in (by omega) (by omega)
        · rw [eC1, oI_eq (fun w hw => outN_lt hv hc1 (show k < 2 * C 0 by omega) hw) hc1] at c57
          rw [if_neg c57] at un
          have := ih (k + 1) (by omega) (by omega)
          rw [un] at this
          rw [n_or, Nat.or_zero, n_inc]
          exact this
        · rw [eC1, oI_eq (fun w hw => outN_lt hv hc1 (show k < 2 * C 0 by omega) hw) hc1] at c57
          rw [if_pos c57] at un
          have := ih (k + 1) (by omega) (by omega)
          rw [un] at this
          rw [n_pow (by omega), n_or, n_inc]
          exact this
    refine b_aloadN (pc := 0) 0 dX11_idle_0 rfl rfl ?_
    refine b_iconst (pc := 1) (nI 0) dX11_idle_1 (by decide) ?_
    refine pf11_0 (pc := 2) k1042 dX11_idle_2 ?_
    refine b_aloadN (pc := 5) 0 dX11_idle_5 rfl rfl ?_
    refine b_iloadN (pc := 6) 1 dX11_idle_6 rfl rfl ?_
    refine call_X11_isPerson (pc := 7) k1229 (by decide) ⟨Nat.le_of_ble_eq_true rfl, Nat.le_of_ble_eq_true rfl⟩ (Nat.le_of_ble_eq_true rfl) dX11_idle_7 ?_
    refine ⟨_, rfl, _, hC.1 4 (by omega), ?_, ?_⟩
    rotate_left -- leaf 0: small of X11_isPerson at 7
    refine b_if_ne (pc := 10) 16 dX11_idle_10 (by decide) (fun c10 => ?_) (fun c10 => ?_)
    refine b_iconst (pc := 16) (nI 0) dX11_idle_16 (by decide) ?_
    refine siN2 (pc := 17) rfl notL_i (by decide) dX11_idle_17 ?_
    refine b_iconst (pc := 18) (nI 0) dX11_idle_18 (by decide) ?_
    refine siN3 (pc := 19) rfl notL_i (by decide) dX11_idle_19 ?_
    rotate_left -- leaf 1: at 20
    refine b_ldc (pc := 13) k1140 dX11_idle_13 ?_
    refine b_iret (pc := 15) rfl dX11_idle_15 ⟨Nat.le_of_ble_eq_true rfl, Nat.le_of_ble_eq_true rfl⟩ ?_
    rotate_left -- leaf 2: return at 15
    -- leaves: 0 small of X11_isPerson at 7; 1 at 20; 2 return at 15
    · omega
    · exact loop (2 * C 0 + 1) 0 (by omega) (by omega)
    · rw [hp] at c10; exact absurd c10 (by decide)
  · rw [if_neg hp] at h
    refine b_aloadN (pc := 0) 0 dX11_idle_0 rfl rfl ?_
    refine b_iconst (pc := 1) (nI 0) dX11_idle_1 (by decide) ?_
    refine pf11_0 (pc := 2) k1042 dX11_idle_2 ?_
    refine b_aloadN (pc := 5) 0 dX11_idle_5 rfl rfl ?_
    refine b_iloadN (pc := 6) 1 dX11_idle_6 rfl rfl ?_
    refine call_X11_isPerson (pc := 7) k1229 (by decide) ⟨Nat.le_of_ble_eq_true rfl, Nat.le_of_ble_eq_true rfl⟩ (Nat.le_of_ble_eq_true rfl) dX11_idle_7 ?_
    refine ⟨_, rfl, _, hC.1 4 (by omega), ?_, ?_⟩
    rotate_left -- leaf 0: small of X11_isPerson at 7
    refine b_if_ne (pc := 10) 16 dX11_idle_10 (by decide) (fun c10 => ?_) (fun c10 => ?_)
    rotate_left -- leaf 1: at 16
    refine b_ldc (pc := 13) k1140 dX11_idle_13 ?_
    refine b_iret (pc := 15) rfl dX11_idle_15 ⟨Nat.le_of_ble_eq_true rfl, Nat.le_of_ble_eq_true rfl⟩ ?_
    rotate_left -- leaf 2: return at 15
    -- leaves: 0 small of X11_isPerson at 7; 1 at 16; 2 return at 15
    · omega
    · exact absurd (bT c10) hp
    · exact h
theorem call_X11_idle {E : ME} {Φ : Option AV → AM → Prop} {pc : Nat} {L : List (Option AV)} {st : List AV} {m : AM} {a : Nat × Nat} {idx : Nat} {x0 : AV} {i : Nat} (hl : Cond.methodLink E.2.1 idx yX11_idle ∈ TB) (hdep : 8 + 1 ≤ E.2.2.2.2.2.2) (hroom : a.1 + 0 ≤ E.2.2.2.2.1 ∧ a.2 + 0 ≤ E.2.2.2.2.2.1) (hsr : st.length ≤ 4) (hd : decode E.1 pc = .ok (.invokevirtual idx, 3)) (hsp : Sp_X11_idle [vr 11 i, x0] m (fun r m2 => B E Φ (pc + 3) L (r.toList ++ st) m2 a)) : B E Φ pc L (x0 :: vr 11 i :: st) m a := b_callV S_X11_idle [x0] (RX11, TX11, 28) rfl rfl (by decide) (Or.inl hl) k1346 k1347 k80 k1348 (show _ ∧ _ ∧ Option.map (fun d => d.parameters.length) (parseMethodDescriptor yX11_idle.desc) = some 1 from by decide +kernel) ⟨hdep, by decide⟩ hroom hsr hd hsp
/-! giveUp -/
def candG (C : Nat → Nat) (F s : Nat) : Prop := nDel s F = 0 ∧ setN C (nDel F s) ≠ none
def lexG (a b : Nat) : Prop := pc6 a < pc6 b ∨ (pc6 a = pc6 b ∧ a ≤ b)
theorem subG {s F : Nat} (hs : s < 64) (hF : F < 64) (h : nDel s F = 0) : s ≤ F ∧ (pc6 s < pc6 F ∨ s = F) := by
  have q : ∀ s, s < 64 → ∀ F, F < 64 → nDel s F = 0 → s ≤ F ∧ (pc6 s < pc6 F ∨ s = F) := by decide +kernel
  exact q s hs F hF h
theorem nDel_self (F : Nat) : nDel F F = 0 := by
  unfold nDel
  rw [Nat.and_self, Nat.xor_self]
theorem setN_zero (C : Nat → Nat) : setN C 0 ≠ none := by
  have hc : closedN C 0 = 0 := closedN_of (fun k _ _ h => by rw [Nat.zero_testBit] at h; cases h) 6
  have hb : canBe C 0 = true := (canB_iff C 0 (C 3)).mpr (fun k _ => Or.inr (Or.inr (fun z => by rw [Nat.zero_testBit] at z; cases z.1)))
  unfold setN
  rw [hc, if_pos hb]
  exact fun z => by cases z
theorem candG_F (C : Nat → Nat) (F : Nat) : candG C F F := ⟨nDel_self F, by rw [nDel_self]; exact setN_zero C⟩
theorem gvN_spec {C : Nat → Nat} {F : Nat} (hF : F < 64) : ∀ x, x ≤ F → candG C F (gvN C F x) ∧ (∀ s, s < x → candG C F s → lexG (gvN C F x) s) ∧ (gvN C F x = F ∨ (gvN C F x < x ∧ pc6 (gvN C F x) < pc6 F))
  | 0, _ => ⟨candG_F C F, fun s hs => by omega, Or.inl rfl⟩
  | x + 1, hx => by
    obtain ⟨h1, h2, h3⟩ := gvN_spec hF x (by omega)
    have hle : pc6 (gvN C F x) ≤ pc6 F := by
      rcases h3 with e | e
      · rw [e]
        exact Nat.le_refl _
      · omega
    unfold gvN
    split
    · next q =>
      refine ⟨⟨q.1.1, q.2⟩, fun s hs hc => ?_, Or.inr ⟨by omega, by omega⟩⟩
      by_cases e : s = x
      · subst e; exact Or.inr ⟨rfl, Nat.le_refl _⟩
      · rcases h2 s (by omega) hc with w | w
        · exact Or.inl (by omega)
        · exact Or.inl (by omega)
    · next q =>
      refine ⟨h1, fun s hs hc => ?_, ?_⟩
      · by_cases e : s = x
        · subst e
          have q2 : ¬ pc6 s < pc6 (gvN C F s) := fun z => q ⟨⟨hc.1, z⟩, hc.2⟩
          have hsF := (subG (by omega) hF hc.1).2
          rcases h3 with e | e
          · rw [e] at q2 ⊢
            rcases hsF with z | z
            · omega
            · omega
          · unfold lexG; omega
        · exact h2 s (by omega) hc
      · rcases h3 with e | e
        · exact Or.inl e
        · exact Or.inr ⟨by omega, e.2⟩
theorem gvN_is {C : Nat → Nat} {F b : Nat} (hF : F < 64) (hb : b < 64) (h1 : candG C F b) (h2 : ∀ s, s ≤ F → candG C F s → lexG b s) : b = gvN C F F := by
  obtain ⟨g1, g2, g3⟩ := gvN_spec (C := C) hF F (Nat.le_refl F)
  have hg : gvN C F F ≤ F := by
    rcases g3 with e | e
    · omega
    · omega
  have b1 := h2 _ hg g1
  have hbF := (subG hb hF h1.1).1
  have b2 : lexG (gvN C F F) b := by
    rcases Nat.lt_or_ge b F with z | z
    · exact g2 b z h1
    · have e : b = F := by omega
      subst e
      rcases g3 with e | e
      · rw [e]; exact Or.inr ⟨rfl, Nat.le_refl _⟩
      · exact Or.inl e.2
  unfold lexG at b1 b2
  omega
abbrev e_X11_giveUp : ME := (cX11_giveUp, (RX11, (6, ((some .int), (0, (0, 8))))))
theorem dX11_giveUp_0 : decode cX11_giveUp 0 = .ok (.aload_n 0, 1) := by decide +kernel
theorem dX11_giveUp_1 : decode cX11_giveUp 1 = .ok (.iconst 0, 1) := by decide +kernel
theorem dX11_giveUp_2 : decode cX11_giveUp 2 = .ok (.putfield 53, 3) := by decide +kernel
theorem dX11_giveUp_5 : decode cX11_giveUp 5 = .ok (.aload_n 0, 1) := by decide +kernel
theorem dX11_giveUp_6 : decode cX11_giveUp 6 = .ok (.invokevirtual 199, 3) := by decide +kernel
theorem dX11_giveUp_9 : decode cX11_giveUp 9 = .ok (.ifCond .ne 6, 3) := by decide +kernel
theorem dX11_giveUp_12 : decode cX11_giveUp 12 = .ok (.ldc 195, 2) := by decide +kernel
theorem dX11_giveUp_14 : decode cX11_giveUp 14 = .ok (.ireturn, 1) := by decide +kernel
theorem dX11_giveUp_15 : decode cX11_giveUp 15 = .ok (.aload_n 0, 1) := by decide +kernel
theorem dX11_giveUp_16 : decode cX11_giveUp 16 = .ok (.iload_n 1, 1) := by decide +kernel
theorem dX11_giveUp_17 : decode cX11_giveUp 17 = .ok (.invokevirtual 217, 3) := by decide +kernel
theorem dX11_giveUp_20 : decode cX11_giveUp 20 = .ok (.ifCond .eq 13, 3) := by decide +kernel
theorem dX11_giveUp_23 : decode cX11_giveUp 23 = .ok (.iload_n 2, 1) := by decide +kernel
theorem dX11_giveUp_24 : decode cX11_giveUp 24 = .ok (.i2l, 1) := by decide +kernel
theorem dX11_giveUp_25 : decode cX11_giveUp 25 = .ok (.lconst 0, 1) := by decide +kernel
theorem dX11_giveUp_26 : decode cX11_giveUp 26 = .ok (.lconst 1, 1) := by decide +kernel
theorem dX11_giveUp_27 : decode cX11_giveUp 27 = .ok (.invokestatic 63, 3) := by decide +kernel
theorem dX11_giveUp_30 : decode cX11_giveUp 30 = .ok (.ifCond .ne 6, 3) := by decide +kernel
theorem dX11_giveUp_33 : decode cX11_giveUp 33 = .ok (.ldc 73, 2) := by decide +kernel
theorem dX11_giveUp_35 : decode cX11_giveUp 35 = .ok (.ireturn, 1) := by decide +kernel
theorem dX11_giveUp_36 : decode cX11_giveUp 36 = .ok (.iload_n 1, 1) := by decide +kernel
theorem dX11_giveUp_37 : decode cX11_giveUp 37 = .ok (.istore_n 3, 1) := by decide +kernel
theorem dX11_giveUp_38 : decode cX11_giveUp 38 = .ok (.iload_n 1, 1) := by decide +kernel
theorem dX11_giveUp_39 : decode cX11_giveUp 39 = .ok (.istore 4, 2) := by decide +kernel
theorem dX11_giveUp_41 : decode cX11_giveUp 41 = .ok (.iload 4, 2) := by decide +kernel
theorem dX11_giveUp_43 : decode cX11_giveUp 43 = .ok (.ifCond .lt 66, 3) := by decide +kernel
theorem dX11_giveUp_46 : decode cX11_giveUp 46 = .ok (.iload 4, 2) := by decide +kernel
theorem dX11_giveUp_48 : decode cX11_giveUp 48 = .ok (.iload_n 1, 1) := by decide +kernel
theorem dX11_giveUp_49 : decode cX11_giveUp 49 = .ok (.iconst (-1), 1) := by decide +kernel
theorem dX11_giveUp_50 : decode cX11_giveUp 50 = .ok (.ixor, 1) := by decide +kernel
theorem dX11_giveUp_51 : decode cX11_giveUp 51 = .ok (.iand, 1) := by decide +kernel
theorem dX11_giveUp_52 : decode cX11_giveUp 52 = .ok (.ifCond .ne 19, 3) := by decide +kernel
theorem dX11_giveUp_55 : decode cX11_giveUp 55 = .ok (.iload 4, 2) := by decide +kernel
theorem dX11_giveUp_57 : decode cX11_giveUp 57 = .ok (.invokestatic 189, 3) := by decide +kernel
theorem dX11_giveUp_60 : decode cX11_giveUp 60 = .ok (.iload_n 3, 1) := by decide +kernel
theorem dX11_giveUp_61 : decode cX11_giveUp 61 = .ok (.invokestatic 189, 3) := by decide +kernel
theorem dX11_giveUp_64 : decode cX11_giveUp 64 = .ok (.if_icmp .gt 7, 3) := by decide +kernel
theorem dX11_giveUp_67 : decode cX11_giveUp 67 = .ok (.iconst 1, 1) := by decide +kernel
theorem dX11_giveUp_68 : decode cX11_giveUp 68 = .ok (.goto 4, 3) := by decide +kernel
theorem dX11_giveUp_71 : decode cX11_giveUp 71 = .ok (.iconst 0, 1) := by decide +kernel
theorem dX11_giveUp_72 : decode cX11_giveUp 72 = .ok (.istore 5, 2) := by decide +kernel
theorem dX11_giveUp_74 : decode cX11_giveUp 74 = .ok (.iload 5, 2) := by decide +kernel
theorem dX11_giveUp_76 : decode cX11_giveUp 76 = .ok (.ifCond .eq 25, 3) := by decide +kernel
theorem dX11_giveUp_79 : decode cX11_giveUp 79 = .ok (.aload_n 0, 1) := by decide +kernel
theorem dX11_giveUp_80 : decode cX11_giveUp 80 = .ok (.aload_n 0, 1) := by decide +kernel
theorem dX11_giveUp_81 : decode cX11_giveUp 81 = .ok (.iload_n 1, 1) := by decide +kernel
theorem dX11_giveUp_82 : decode cX11_giveUp 82 = .ok (.iload 4, 2) := by decide +kernel
theorem dX11_giveUp_84 : decode cX11_giveUp 84 = .ok (.iconst (-1), 1) := by decide +kernel
theorem dX11_giveUp_85 : decode cX11_giveUp 85 = .ok (.ixor, 1) := by decide +kernel
theorem dX11_giveUp_86 : decode cX11_giveUp 86 = .ok (.iand, 1) := by decide +kernel
theorem dX11_giveUp_87 : decode cX11_giveUp 87 = .ok (.invokevirtual 163, 3) := by decide +kernel
theorem dX11_giveUp_90 : decode cX11_giveUp 90 = .ok (.invokevirtual 166, 3) := by decide +kernel
theorem dX11_giveUp_93 : decode cX11_giveUp 93 = .ok (.ifCond .eq 8, 3) := by decide +kernel
theorem dX11_giveUp_96 : decode cX11_giveUp 96 = .ok (.iload 4, 2) := by decide +kernel
theorem dX11_giveUp_98 : decode cX11_giveUp 98 = .ok (.goto 4, 3) := by decide +kernel
theorem dX11_giveUp_101 : decode cX11_giveUp 101 = .ok (.iload_n 3, 1) := by decide +kernel
theorem dX11_giveUp_102 : decode cX11_giveUp 102 = .ok (.istore_n 3, 1) := by decide +kernel
theorem dX11_giveUp_103 : decode cX11_giveUp 103 = .ok (.iinc 4 (-1), 3) := by decide +kernel
theorem dX11_giveUp_106 : decode cX11_giveUp 106 = .ok (.goto (-65), 3) := by decide +kernel
theorem dX11_giveUp_109 : decode cX11_giveUp 109 = .ok (.iload_n 2, 1) := by decide +kernel
theorem dX11_giveUp_110 : decode cX11_giveUp 110 = .ok (.ifCond .ne 10, 3) := by decide +kernel
theorem dX11_giveUp_113 : decode cX11_giveUp 113 = .ok (.iload_n 3, 1) := by decide +kernel
theorem dX11_giveUp_114 : decode cX11_giveUp 114 = .ok (.invokestatic 189, 3) := by decide +kernel
theorem dX11_giveUp_117 : decode cX11_giveUp 117 = .ok (.goto 4, 3) := by decide +kernel
theorem dX11_giveUp_120 : decode cX11_giveUp 120 = .ok (.iload_n 3, 1) := by decide +kernel
theorem dX11_giveUp_121 : decode cX11_giveUp 121 = .ok (.ireturn, 1) := by decide +kernel
def Sp_X11_giveUp (av : List AV) (m : AM) (Φ : Option AV → AM → Prop) : Prop := ∃ f w, av = [vr 11 110, vi f, vi w] ∧ ∃ C, MCo m C ∧ Φ (some (vi (giveV C f w))) (mset m 110 0 (nI 0))
theorem MCo.pow {m : AM} {C : Nat → Nat} (h : MCo m C) : 2 ^ C 0 ≤ 64 := by
  have : 2 ^ C 0 ≤ 2 ^ 6 := Nat.pow_le_pow_right (by omega) h.le.1
  omega
theorem setN_can (C : Nat → Nat) (s : Nat) : setN C s ≠ none ↔ canBe C (closedN C s) = true := by
  unfold setN
  split
  · next h => exact ⟨fun _ => h, fun _ => fun z => by cases z⟩
  · next h => exact ⟨fun z => absurd rfl z, fun z => absurd z h⟩
set_option maxRecDepth 20000 in
set_option maxHeartbeats 4000000 in
theorem S_X11_giveUp : Snd yX11_giveUp e_X11_giveUp Sp_X11_giveUp := by
  refine Snd.of (by decide +kernel) rfl ?_ ?_
  · rintro av m Φ ⟨f, w, rfl, _⟩; exact Nat.le_of_ble_eq_true rfl
  rintro av m Φ ⟨f, w, rfl, C, hC0, h⟩ hav hty
  show B e_X11_giveUp Φ 0 [some (vr 11 110), some (vi f), some (vi w), none, none, none] [] m (0, 0)
  have hC : MCo (mset m 110 0 (nI 0)) C := hC0.ms (by decide)
  have hle := hC.le
  have hpw := hC.pow
  unfold giveV at h
  by_cases hcz : C 0 = 0
  · rw [if_pos hcz] at h
    refine b_aloadN (pc := 0) 0 dX11_giveUp_0 rfl rfl ?_
    refine b_iconst (pc := 1) (nI 0) dX11_giveUp_1 (by decide) ?_
    refine pf11_0 (pc := 2) k1042 dX11_giveUp_2 ?_
    refine b_aloadN (pc := 5) 0 dX11_giveUp_5 rfl rfl ?_
    refine call_X11_isThere (pc := 6) k1292 (by decide) ⟨Nat.le_of_ble_eq_true rfl, Nat.le_of_ble_eq_true rfl⟩ (Nat.le_of_ble_eq_true rfl) dX11_giveUp_6 ?_
    refine ⟨rfl, _, hC.1 0 (by omega), ?_, ?_⟩
    rotate_left -- leaf 0: six of X11_isThere at 6
    refine b_if_ne (pc := 9) 15 dX11_giveUp_9 (by decide) (fun c9 => ?_) (fun c9 => ?_)
    rotate_left -- leaf 1: at 15
    refine b_ldc (pc := 12) k1275 dX11_giveUp_12 ?_
    refine b_iret (pc := 14) rfl dX11_giveUp_14 ⟨Nat.le_of_ble_eq_true rfl, Nat.le_of_ble_eq_true rfl⟩ ?_
    rotate_left -- leaf 2: return at 14
    -- leaves: 0 six of X11_isThere at 6; 1 at 15; 2 return at 14
    · omega
    · have := zF c9; omega
    · exact h
  · rw [if_neg hcz] at h
    have hv := hC.op (Or.inl (by omega))
    by_cases hf : inB f (2 ^ C 0) = true
    · by_cases hw : inB w 2 = true
      · rw [hf, hw, if_pos (show (true && true) = true from rfl)] at h
        obtain ⟨F, hF0, rfl⟩ := (inB_iff (by omega)).mp hf
        rw [n_cl (by omega)] at h
        have hF : F < 64 := by omega
        have loop : ∀ k b o5 (x : Int32), (k = 0 ∧ x = -1 ∨ ∃ j, k = j + 1 ∧ x = nI j) → k ≤ F + 1 → b < 64 → candG C F b → (∀ s, k ≤ s → s ≤ F → candG C F s → lexG b s) → B e_X11_giveUp Φ 41 [some (vr 11 110), some (vi (nI F)), some (vi w), some (vi (nI b)), some (vi x), o5] [] (mset m 110 0 (nI 0)) (0, 0) := by
          intro k
          induction k with
          | zero =>
            intro b o5 x hx hk hb hc hl
            have ex : x = -1 := by
              rcases hx with z | ⟨j, z, -⟩
              · exact z.2
              · omega
            subst ex
            have e := gvN_is hF hb hc (fun s h1 h2 => hl s (by omega) h1 h2)
            rw [← e] at h
            refine b_iloadG (pc := 41) 4 dX11_giveUp_41 rfl ?_
            refine b_if_lt (pc := 43) 109 dX11_giveUp_43 (by decide) (fun c43 => ?_) (fun c43 => ?_)
            refine b_iloadN (pc := 109) 2 dX11_giveUp_109 rfl rfl ?_
            refine b_if_ne (pc := 110) 120 dX11_giveUp_110 (by decide) (fun c110 => ?_) (fun c110 => ?_)
            refine b_iloadN (pc := 120) 3 dX11_giveUp_120 rfl rfl ?_
            refine b_iret (pc := 121) rfl dX11_giveUp_121 ⟨Nat.le_of_ble_eq_true rfl, Nat.le_of_ble_eq_true rfl⟩ ?_
            rotate_left -- leaf 0: return at 121
            refine b_iloadN (pc := 113) 3 dX11_giveUp_113 rfl rfl ?_
            refine call_X11_bits (pc := 114) k1264 (by decide) ⟨Nat.le_of_ble_eq_true rfl, Nat.le_of_ble_eq_true rfl⟩ (Nat.le_of_ble_eq_true rfl) dX11_giveUp_114 ?_
            refine ⟨_, rfl, _, rfl, ?_, ?_⟩
            rotate_left -- leaf 1: bound of X11_bits at 114
            refine b_goto (pc := 117) 121 dX11_giveUp_117 (by decide) ?_
            refine b_iret (pc := 121) rfl dX11_giveUp_121 ⟨Nat.le_of_ble_eq_true rfl, Nat.le_of_ble_eq_true rfl⟩ ?_
            rotate_left -- leaf 2: return at 121
            rotate_left -- leaf 3: at 46
            -- leaves: 0 return at 121; 1 bound of X11_bits at 114; 2 return at 121; 3 at 46
            · rw [if_neg (show ¬ w = nI 0 from c110)] at h; exact h
            · exact hb
            · rw [if_pos (show w = nI 0 from c110)] at h; exact h
            · exact absurd c43 (by decide)
          | succ k ih =>
            intro b o5 x hx hk hb hc hl
            have ex : x = nI k := by
              rcases hx with z | ⟨j, z, w⟩
              · omega
              · rw [w, show j = k by omega]
            subst ex
            have nx : ∀ o5, B e_X11_giveUp Φ 102 [some (vr 11 110), some (vi (nI F)), some (vi w), some (vi (nI b)), some (vi (nI k)), o5] [vi (nI (if (nDel k F = 0 ∧ pc6 k ≤ pc6 b) ∧ setN C (nDel F k) ≠ none then k else b))] (mset m 110 0 (nI 0)) (0, 0) := by
              intro o5
              refine siN3 (pc := 102) rfl notL_i (by decide) dX11_giveUp_102 ?_
              refine inc4 (pc := 103) notL_i (by decide) dX11_giveUp_103 ?_
              refine b_goto (pc := 106) 41 dX11_giveUp_106 (by decide) ?_
              rotate_left -- leaf 0: at 41
              -- leaves: 0 at 41
              refine ih _ _ _ (by
                cases k with
                | zero => exact Or.inl ⟨rfl, dec_0⟩
                | succ k => exact Or.inr ⟨k, rfl, dec_s k⟩) (by omega) ?_ ?_ ?_
              · split
                · omega
                · exact hb
              · split
                · next q => exact ⟨q.1.1, q.2⟩
                · exact hc
              · intro s h1 h2 h3
                by_cases e : s = k
                · subst e
                  split
                  · exact Or.inr ⟨rfl, Nat.le_refl _⟩
                  · next q =>
                    have : ¬ pc6 s ≤ pc6 b := fun z => q ⟨⟨h3.1, z⟩, h3.2⟩
                    exact Or.inl (by omega)
                · have q1 := hl s (by omega) h2 h3
                  split
                  · next q =>
                    unfold lexG at q1 ⊢
                    omega
                  · exact q1
            have mid : ∀ e : Nat, (e = 1 ↔ (nDel k F = 0 ∧ pc6 k ≤ pc6 b)) → e ≤ 1 → B e_X11_giveUp Φ 72 [some (vr 11 110), some (vi (nI F)), some (vi w), some (vi (nI b)), some (vi (nI k)), o5] [vi (nI e)] (mset m 110 0 (nI 0)) (0, 0) := by
              intro e he he1
              have hcl := closedN_lt hv.hv (show nDel F k < 64 from nDel_lt hF)
              refine siG5 (pc := 72) notL_i (by decide) dX11_giveUp_72 ?_
              refine b_iloadG (pc := 74) 5 dX11_giveUp_74 rfl ?_
              refine b_if_eq (pc := 76) 101 dX11_giveUp_76 (by decide) (fun c76 => ?_) (fun c76 => ?_)
              refine b_iloadN (pc := 101) 3 dX11_giveUp_101 rfl rfl ?_
              rotate_left -- leaf 0: at 102
              refine b_aloadN (pc := 79) 0 dX11_giveUp_79 rfl rfl ?_
              refine b_aloadN (pc := 80) 0 dX11_giveUp_80 rfl rfl ?_
              refine b_iloadN (pc := 81) 1 dX11_giveUp_81 rfl rfl ?_
              refine b_iloadG (pc := 82) 4 dX11_giveUp_82 rfl ?_
              refine b_iconst (pc := 84) (-1) dX11_giveUp_84 (by decide) ?_
              refine b_ixor (pc := 85) dX11_giveUp_85 ?_
              refine b_iand (pc := 86) dX11_giveUp_86 ?_
              refine call_X11_closed (pc := 87) k1256 (by decide) ⟨Nat.le_of_ble_eq_true rfl, Nat.le_of_ble_eq_true rfl⟩ (Nat.le_of_ble_eq_true rfl) dX11_giveUp_87 ?_
              refine ⟨_, rfl, C, _, hv, hC.1, n_del _ _, ?_, ?_⟩
              rotate_left -- leaf 1: bound of X11_closed at 87
              refine call_X11_canBe (pc := 90) k1260 (by decide) ⟨Nat.le_of_ble_eq_true rfl, Nat.le_of_ble_eq_true rfl⟩ (Nat.le_of_ble_eq_true rfl) dX11_giveUp_90 ?_
              refine ⟨_, rfl, C, _, hv, hC.1, rfl, ?_, ?_⟩
              rotate_left -- leaf 2: bound of X11_canBe at 90
              refine b_if_eq (pc := 93) 101 dX11_giveUp_93 (by decide) (fun c93 => ?_) (fun c93 => ?_)
              refine b_iloadN (pc := 101) 3 dX11_giveUp_101 rfl rfl ?_
              rotate_left -- leaf 3: at 102
              refine b_iloadG (pc := 96) 4 dX11_giveUp_96 rfl ?_
              refine b_goto (pc := 98) 102 dX11_giveUp_98 (by decide) ?_
              rotate_left -- leaf 4: at 102
              -- leaves: 0 at 102; 1 bound of X11_closed at 87; 2 bound of X11_canBe at 90; 3 at 102; 4 at 102
              · rw [n_eq0 (by omega)] at c76
                have := nx (some (vi (nI e)))
                rw [if_neg (fun z => by have := he.mpr z.1; omega)] at this
                exact this
              · exact nDel_lt hF
              · exact hcl
              · have := nx (some (vi (nI e)))
                rw [if_neg (fun z => by rw [setN_can, bF c93] at z; exact absurd z.2 (by decide))] at this
                exact this
              · rw [n_eq0 (by omega)] at c76
                have := nx (some (vi (nI e)))
                rw [if_pos ⟨he.mp (by omega), by rw [setN_can]; exact bT c93⟩] at this
                exact this
            have hdl : nDel k F < 64 := nDel_lt (by omega)
            have hpk := pc6_le k (by omega)
            have hpb := pc6_le b hb
            have edl : nI k &&& (nI F ^^^ -1) = nI (nDel k F) := n_del k F
            refine b_iloadG (pc := 41) 4 dX11_giveUp_41 rfl ?_
            refine b_if_lt (pc := 43) 109 dX11_giveUp_43 (by decide) (fun c43 => ?_) (fun c43 => ?_)
            refine b_iloadN (pc := 109) 2 dX11_giveUp_109 rfl rfl ?_
            refine b_if_ne (pc := 110) 120 dX11_giveUp_110 (by decide) (fun c110 => ?_) (fun c110 => ?_)
            refine b_iloadN (pc := 120) 3 dX11_giveUp_120 rfl rfl ?_
            refine b_iret (pc := 121) rfl dX11_giveUp_121 ⟨Nat.le_of_ble_eq_true rfl, Nat.le_of_ble_eq_true rfl⟩ ?_
            rotate_left -- leaf 0: return at 121
            refine b_iloadN (pc := 113) 3 dX11_giveUp_113 rfl rfl ?_
            refine call_X11_bits (pc := 114) k1264 (by decide) ⟨Nat.le_of_ble_eq_true rfl, Nat.le_of_ble_eq_true rfl⟩ (Nat.le_of_ble_eq_true rfl) dX11_giveUp_114 ?_
            refine ⟨_, rfl, _, rfl, ?_, ?_⟩
            rotate_left -- leaf 1: bound of X11_bits at 114
            refine b_goto (pc := 117) 121 dX11_giveUp_117 (by decide) ?_
            refine b_iret (pc := 121) rfl dX11_giveUp_121 ⟨Nat.le_of_ble_eq_true rfl, Nat.le_of_ble_eq_true rfl⟩ ?_
            rotate_left -- leaf 2: return at 121
            refine b_iloadG (pc := 46) 4 dX11_giveUp_46 rfl ?_
            refine b_iloadN (pc := 48) 1 dX11_giveUp_48 rfl rfl ?_
            refine b_iconst (pc := 49) (-1) dX11_giveUp_49 (by decide) ?_
            refine b_ixor (pc := 50) dX11_giveUp_50 ?_
            refine b_iand (pc := 51) dX11_giveUp_51 ?_
            refine b_if_ne (pc := 52) 71 dX11_giveUp_52 (by decide) (fun c52 => ?_) (fun c52 => ?_)
            refine b_iconst (pc := 71) (nI 0) dX11_giveUp_71 (by decide) ?_
            rotate_left -- leaf 3: at 72
            refine b_iloadG (pc := 55) 4 dX11_giveUp_55 rfl ?_
            refine call_X11_bits (pc := 57) k1264 (by decide) ⟨Nat.le_of_ble_eq_true rfl, Nat.le_of_ble_eq_true rfl⟩ (Nat.le_of_ble_eq_true rfl) dX11_giveUp_57 ?_
            refine ⟨_, rfl, _, rfl, ?_, ?_⟩
            rotate_left -- leaf 4: bound of X11_bits at 57
            refine b_iloadN (pc := 60) 3 dX11_giveUp_60 rfl rfl ?_
            refine call_X11_bits (pc := 61) k1264 (by decide) ⟨Nat.le_of_ble_eq_true rfl, Nat.le_of_ble_eq_true rfl⟩ (Nat.le_of_ble_eq_true rfl) dX11_giveUp_61 ?_
            refine ⟨_, rfl, _, rfl, ?_, ?_⟩
            rotate_left -- leaf 5: bound of X11_bits at 61
            refine b_icmp_gt (pc := 64) 71 dX11_giveUp_64 (by decide) (fun c64 => ?_) (fun c64 => ?_)
            refine b_iconst (pc := 71) (nI 0) dX11_giveUp_71 (by decide) ?_
            rotate_left -- leaf 6: at 72
            refine b_iconst (pc := 67) (nI 1) dX11_giveUp_67 (by decide) ?_
            refine b_goto (pc := 68) 72 dX11_giveUp_68 (by decide) ?_
            rotate_left -- leaf 7: at 72
            -- leaves: 0 return at 121; 1 bound of X11_bits at 114; 2 return at 121; 3 at 72; 4 bound of X11_bits at 57; 5 bound of X11_bits at 61; 6 at 72; 7 at 72
            · rw [n_lt0 (by omega)] at c43; exact c43.elim
            · rw [n_lt0 (by omega)] at c43; exact c43.elim
            · rw [n_lt0 (by omega)] at c43; exact c43.elim
            · rw [edl, n_eq0 (by omega)] at c52
              exact mid 0 ⟨fun z => by omega, fun z => absurd z.1 c52⟩ (by omega)
            · omega
            · exact hb
            · rw [n_lt (by omega) (by omega)] at c64
              exact mid 0 ⟨fun z => by omega, fun z => by omega⟩ (by omega)
            · rw [edl, n_eq0 (by omega)] at c52
              rw [n_lt (by omega) (by omega)] at c64
              exact mid 1 ⟨fun _ => ⟨c52, by omega⟩, fun _ => rfl⟩ (by omega)
        refine b_aloadN (pc := 0) 0 dX11_giveUp_0 rfl rfl ?_
        refine b_iconst (pc := 1) (nI 0) dX11_giveUp_1 (by decide) ?_
        refine pf11_0 (pc := 2) k1042 dX11_giveUp_2 ?_
        refine b_aloadN (pc := 5) 0 dX11_giveUp_5 rfl rfl ?_
        refine call_X11_isThere (pc := 6) k1292 (by decide) ⟨Nat.le_of_ble_eq_true rfl, Nat.le_of_ble_eq_true rfl⟩ (Nat.le_of_ble_eq_true rfl) dX11_giveUp_6 ?_
        refine ⟨rfl, _, hC.1 0 (by omega), ?_, ?_⟩
        rotate_left -- leaf 0: six of X11_isThere at 6
        refine b_if_ne (pc := 9) 15 dX11_giveUp_9 (by decide) (fun c9 => ?_) (fun c9 => ?_)
        refine b_aloadN (pc := 15) 0 dX11_giveUp_15 rfl rfl ?_
        refine b_iloadN (pc := 16) 1 dX11_giveUp_16 rfl rfl ?_
        refine call_X11_areFacts (pc := 17) k1317 (by decide) ⟨Nat.le_of_ble_eq_true rfl, Nat.le_of_ble_eq_true rfl⟩ (Nat.le_of_ble_eq_true rfl) dX11_giveUp_17 ?_
        refine ⟨_, rfl, _, hC.1 0 (by omega), ?_, ?_⟩
        rotate_left -- leaf 1: six2 of X11_areFacts at 17
        refine b_if_eq (pc := 20) 33 dX11_giveUp_20 (by decide) (fun c20 => ?_) (fun c20 => ?_)
        refine b_ldc (pc := 33) k1140 dX11_giveUp_33 ?_
        refine b_iret (pc := 35) rfl dX11_giveUp_35 ⟨Nat.le_of_ble_eq_true rfl, Nat.le_of_ble_eq_true rfl⟩ ?_
        rotate_left -- leaf 2: return at 35
        refine b_iloadN (pc := 23) 2 dX11_giveUp_23 rfl rfl ?_
        refine b_i2l (pc := 24) dX11_giveUp_24 ?_
        refine b_lconst (pc := 25) 0 dX11_giveUp_25 (by decide) ?_
        refine b_lconst (pc := 26) 1 dX11_giveUp_26 (by decide) ?_
        refine call_X11_in (pc := 27) k1136 (by decide) ⟨Nat.le_of_ble_eq_true rfl, Nat.le_of_ble_eq_true rfl⟩ (Nat.le_of_ble_eq_true rfl) dX11_giveUp_27 ?_
        refine ⟨_, _, _, rfl, ?_⟩
        refine b_if_ne (pc := 30) 36 dX11_giveUp_30 (by decide) (fun c30 => ?_) (fun c30 => ?_)
        refine b_iloadN (pc := 36) 1 dX11_giveUp_36 rfl rfl ?_
        refine siN3 (pc := 37) rfl notL_i (by decide) dX11_giveUp_37 ?_
        refine b_iloadN (pc := 38) 1 dX11_giveUp_38 rfl rfl ?_
        refine siG4 (pc := 39) notL_i (by decide) dX11_giveUp_39 ?_
        rotate_left -- leaf 3: at 41
        refine b_ldc (pc := 33) k1140 dX11_giveUp_33 ?_
        refine b_iret (pc := 35) rfl dX11_giveUp_35 ⟨Nat.le_of_ble_eq_true rfl, Nat.le_of_ble_eq_true rfl⟩ ?_
        rotate_left -- leaf 4: return at 35
        refine b_ldc (pc := 12) k1275 dX11_giveUp_12 ?_
        refine b_iret (pc := 14) rfl dX11_giveUp_14 ⟨Nat.le_of_ble_eq_true rfl, Nat.le_of_ble_eq_true rfl⟩ ?_
        rotate_left -- leaf 5: return at 14
        -- leaves: 0 six of X11_isThere at 6; 1 six2 of X11_areFacts at 17; 2 return at 35; 3 at 41; 4 return at 35; 5 return at 14
        · omega
        · omega
        · rw [hf] at c20; exact absurd c20 (by decide)
        · exact loop (F + 1) F none (nI F) (Or.inr ⟨F, rfl, rfl⟩) (Nat.le_refl _) hF (candG_F C F) (fun s h1 h2 => by omega)
        · rw [inLc 2 rfl (by omega), hw] at c30; exact absurd c30 (by decide)
        · have := zT c9; omega
      · have e : inB w 2 = false := by
          cases q : inB w 2
          · rfl
          · exact absurd q hw
        rw [e, Bool.and_false] at h
        refine b_aloadN (pc := 0) 0 dX11_giveUp_0 rfl rfl ?_
        refine b_iconst (pc := 1) (nI 0) dX11_giveUp_1 (by decide) ?_
        refine pf11_0 (pc := 2) k1042 dX11_giveUp_2 ?_
        refine b_aloadN (pc := 5) 0 dX11_giveUp_5 rfl rfl ?_
        refine call_X11_isThere (pc := 6) k1292 (by decide) ⟨Nat.le_of_ble_eq_true rfl, Nat.le_of_ble_eq_true rfl⟩ (Nat.le_of_ble_eq_true rfl) dX11_giveUp_6 ?_
        refine ⟨rfl, _, hC.1 0 (by omega), ?_, ?_⟩
        rotate_left -- leaf 0: six of X11_isThere at 6
        refine b_if_ne (pc := 9) 15 dX11_giveUp_9 (by decide) (fun c9 => ?_) (fun c9 => ?_)
        refine b_aloadN (pc := 15) 0 dX11_giveUp_15 rfl rfl ?_
        refine b_iloadN (pc := 16) 1 dX11_giveUp_16 rfl rfl ?_
        refine call_X11_areFacts (pc := 17) k1317 (by decide) ⟨Nat.le_of_ble_eq_true rfl, Nat.le_of_ble_eq_true rfl⟩ (Nat.le_of_ble_eq_true rfl) dX11_giveUp_17 ?_
        refine ⟨_, rfl, _, hC.1 0 (by omega), ?_, ?_⟩
        rotate_left -- leaf 1: six2 of X11_areFacts at 17
        refine b_if_eq (pc := 20) 33 dX11_giveUp_20 (by decide) (fun c20 => ?_) (fun c20 => ?_)
        refine b_ldc (pc := 33) k1140 dX11_giveUp_33 ?_
        refine b_iret (pc := 35) rfl dX11_giveUp_35 ⟨Nat.le_of_ble_eq_true rfl, Nat.le_of_ble_eq_true rfl⟩ ?_
        rotate_left -- leaf 2: return at 35
        refine b_iloadN (pc := 23) 2 dX11_giveUp_23 rfl rfl ?_
        refine b_i2l (pc := 24) dX11_giveUp_24 ?_
        refine b_lconst (pc := 25) 0 dX11_giveUp_25 (by decide) ?_
        refine b_lconst (pc := 26) 1 dX11_giveUp_26 (by decide) ?_
        refine call_X11_in (pc := 27) k1136 (by decide) ⟨Nat.le_of_ble_eq_true rfl, Nat.le_of_ble_eq_true rfl⟩ (Nat.le_of_ble_eq_true rfl) dX11_giveUp_27 ?_
        refine ⟨_, _, _, rfl, ?_⟩
        refine b_if_ne (pc := 30) 36 dX11_giveUp_30 (by decide) (fun c30 => ?_) (fun c30 => ?_)
        rotate_left -- leaf 3: at 36
        refine b_ldc (pc := 33) k1140 dX11_giveUp_33 ?_
        refine b_iret (pc := 35) rfl dX11_giveUp_35 ⟨Nat.le_of_ble_eq_true rfl, Nat.le_of_ble_eq_true rfl⟩ ?_
        rotate_left -- leaf 4: return at 35
        refine b_ldc (pc := 12) k1275 dX11_giveUp_12 ?_
        refine b_iret (pc := 14) rfl dX11_giveUp_14 ⟨Nat.le_of_ble_eq_true rfl, Nat.le_of_ble_eq_true rfl⟩ ?_
        rotate_left -- leaf 5: return at 14
        -- leaves: 0 six of X11_isThere at 6; 1 six2 of X11_areFacts at 17; 2 return at 35; 3 at 36; 4 return at 35; 5 return at 14
        · omega
        · omega
        · exact h
        · rw [inLc 2 rfl (by omega)] at c30; exact absurd (bT c30) hw
        · exact h
        · have := zT c9; omega
    · have e : inB f (2 ^ C 0) = false := by
        cases q : inB f (2 ^ C 0)
        · rfl
        · exact absurd q hf
      rw [e, Bool.false_and] at h
      refine b_aloadN (pc := 0) 0 dX11_giveUp_0 rfl rfl ?_
      refine b_iconst (pc := 1) (nI 0) dX11_giveUp_1 (by decide) ?_
      refine pf11_0 (pc := 2) k1042 dX11_giveUp_2 ?_
      refine b_aloadN (pc := 5) 0 dX11_giveUp_5 rfl rfl ?_
      refine call_X11_isThere (pc := 6) k1292 (by decide) ⟨Nat.le_of_ble_eq_true rfl, Nat.le_of_ble_eq_true rfl⟩ (Nat.le_of_ble_eq_true rfl) dX11_giveUp_6 ?_
      refine ⟨rfl, _, hC.1 0 (by omega), ?_, ?_⟩
      rotate_left -- leaf 0: six of X11_isThere at 6
      refine b_if_ne (pc := 9) 15 dX11_giveUp_9 (by decide) (fun c9 => ?_) (fun c9 => ?_)
      refine b_aloadN (pc := 15) 0 dX11_giveUp_15 rfl rfl ?_
      refine b_iloadN (pc := 16) 1 dX11_giveUp_16 rfl rfl ?_
      refine call_X11_areFacts (pc := 17) k1317 (by decide) ⟨Nat.le_of_ble_eq_true rfl, Nat.le_of_ble_eq_true rfl⟩ (Nat.le_of_ble_eq_true rfl) dX11_giveUp_17 ?_
      refine ⟨_, rfl, _, hC.1 0 (by omega), ?_, ?_⟩
      rotate_left -- leaf 1: six2 of X11_areFacts at 17
      refine b_if_eq (pc := 20) 33 dX11_giveUp_20 (by decide) (fun c20 => ?_) (fun c20 => ?_)
      refine b_ldc (pc := 33) k1140 dX11_giveUp_33 ?_
      refine b_iret (pc := 35) rfl dX11_giveUp_35 ⟨Nat.le_of_ble_eq_true rfl, Nat.le_of_ble_eq_true rfl⟩ ?_
      rotate_left -- leaf 2: return at 35
      refine b_iloadN (pc := 23) 2 dX11_giveUp_23 rfl rfl ?_
      refine b_i2l (pc := 24) dX11_giveUp_24 ?_
      refine b_lconst (pc := 25) 0 dX11_giveUp_25 (by decide) ?_
      refine b_lconst (pc := 26) 1 dX11_giveUp_26 (by decide) ?_
      refine call_X11_in (pc := 27) k1136 (by decide) ⟨Nat.le_of_ble_eq_true rfl, Nat.le_of_ble_eq_true rfl⟩ (Nat.le_of_ble_eq_true rfl) dX11_giveUp_27 ?_
      refine ⟨_, _, _, rfl, ?_⟩
      refine b_if_ne (pc := 30) 36 dX11_giveUp_30 (by decide) (fun c30 => ?_) (fun c30 => ?_)
      rotate_left -- leaf 3: at 36
      refine b_ldc (pc := 33) k1140 dX11_giveUp_33 ?_
      refine b_iret (pc := 35) rfl dX11_giveUp_35 ⟨Nat.le_of_ble_eq_true rfl, Nat.le_of_ble_eq_true rfl⟩ ?_
      rotate_left -- leaf 4: return at 35
      refine b_ldc (pc := 12) k1275 dX11_giveUp_12 ?_
      refine b_iret (pc := 14) rfl dX11_giveUp_14 ⟨Nat.le_of_ble_eq_true rfl, Nat.le_of_ble_eq_true rfl⟩ ?_
      rotate_left -- leaf 5: return at 14
      -- leaves: 0 six of X11_isThere at 6; 1 six2 of X11_areFacts at 17; 2 return at 35; 3 at 36; 4 return at 35; 5 return at 14
      · omega
      · omega
      · exact h
      · exact absurd (bT c20) hf
      · exact absurd (bT c20) hf
      · have := zT c9; omega
theorem call_X11_giveUp {E : ME} {Φ : Option AV → AM → Prop} {pc : Nat} {L : List (Option AV)} {st : List AV} {m : AM} {a : Nat × Nat} {idx : Nat} {x0 x1 : AV} {i : Nat} (hl : Cond.methodLink E.2.1 idx yX11_giveUp ∈ TB) (hdep : 8 + 1 ≤ E.2.2.2.2.2.2) (hroom : a.1 + 0 ≤ E.2.2.2.2.1 ∧ a.2 + 0 ≤ E.2.2.2.2.2.1) (hsr : st.length ≤ 4) (hd : decode E.1 pc = .ok (.invokevirtual idx, 3)) (hsp : Sp_X11_giveUp [vr 11 i, x0, x1] m (fun r m2 => B E Φ (pc + 3) L (r.toList ++ st) m2 a)) : B E Φ pc L (x1 :: x0 :: vr 11 i :: st) m a := b_callV S_X11_giveUp [x0, x1] (RX11, TX11, 28) rfl rfl (by decide) (Or.inl hl) k1350 k1351 k80 k1352 (show _ ∧ _ ∧ Option.map (fun d => d.parameters.length) (parseMethodDescriptor yX11_giveUp.desc) = some 2 from by decide +kernel) ⟨hdep, by decide⟩ hroom hsr hd hsp
