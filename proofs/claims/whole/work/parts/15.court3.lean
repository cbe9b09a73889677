/-! gatherRules, goBack, turnRule, resume, open, utter -/
theorem StkR.bit {x : Int32} {C : Nat → Nat} (h : StkR x C) {r : Nat} (hr : r < 8) : (x >>> (nI r &&& 31)) &&& nI 1 = nI (if r < C 3 ∧ C (11 + 4 * r) = 1 then 1 else 0) := by
  obtain ⟨k, hk, rfl, hb⟩ := h
  rw [tbit_and1 _ _ (by omega) (by omega), hb r hr]
  simp
/-- what gatherRules has laid by the first n rules -/
def gaF (C : Nat → Nat) (sort n : Nat) : Nat → Int32 := fun f => if f < 6 then nI (madeF C sort f n) else 0
theorem gaF_step {C : Nat → Nat} {sort n : Nat} (hA : C (9 + 4 * n) < 6) (h1 : C (8 + 4 * n) = sort) (h2 : C (11 + 4 * n) = 0) : upd (gaF C sort n) (C (9 + 4 * n)) (gaF C sort n (C (9 + 4 * n)) ||| nI (2 ^ C (10 + 4 * n))) = gaF C sort (n + 1) := by
  funext f
  unfold upd gaF
  by_cases e : f = C (9 + 4 * n)
  · subst e
    rw [if_pos rfl, if_pos hA, if_pos hA, n_or]
    show _ = nI (if _ then _ else _)
    rw [if_pos ⟨⟨h1, h2⟩, rfl⟩]
  · rw [if_neg e]
    by_cases q : f < 6
    · rw [if_pos q, if_pos q]
      show _ = nI (if _ then _ else _)
      rw [if_neg (fun z => e z.2.symm)]
    · rw [if_neg q, if_neg q]
theorem gaF_skip {C : Nat → Nat} {sort n : Nat} (h : ¬ (C (8 + 4 * n) = sort ∧ C (11 + 4 * n) = 0)) : gaF C sort (n + 1) = gaF C sort n := by
  funext f
  unfold gaF
  by_cases q : f < 6
  · rw [if_pos q, if_pos q]
    show nI (if _ then _ else _) = _
    rw [if_neg (fun z => h z.1)]
  · rw [if_neg q, if_neg q]
theorem n_pow {k : Nat} (hk : k < 31) : nI 1 <<< (nI k &&& 31) = nI (2 ^ k) := by
  have h : 2 ^ k < 2 ^ 31 := Nat.pow_lt_pow_right (by omega) hk
  rw [n_shl (by omega) (by omega), Nat.shiftLeft_eq, Nat.one_mul]
abbrev e_X2_gatherRules : ME := (cX2_gatherRules, (RX2, (3, (none, (0, (0, 2))))))
theorem dX2_gatherRules_0 : decode cX2_gatherRules 0 = .ok (.aload_n 0, 1) := by decide +kernel
theorem dX2_gatherRules_1 : decode cX2_gatherRules 1 = .ok (.getfield 25, 3) := by decide +kernel
theorem dX2_gatherRules_4 : decode cX2_gatherRules 4 = .ok (.iconst 0, 1) := by decide +kernel
theorem dX2_gatherRules_5 : decode cX2_gatherRules 5 = .ok (.invokestatic 59, 3) := by decide +kernel
theorem dX2_gatherRules_8 : decode cX2_gatherRules 8 = .ok (.aload_n 0, 1) := by decide +kernel
theorem dX2_gatherRules_9 : decode cX2_gatherRules 9 = .ok (.getfield 29, 3) := by decide +kernel
theorem dX2_gatherRules_12 : decode cX2_gatherRules 12 = .ok (.iconst 0, 1) := by decide +kernel
theorem dX2_gatherRules_13 : decode cX2_gatherRules 13 = .ok (.invokestatic 59, 3) := by decide +kernel
theorem dX2_gatherRules_16 : decode cX2_gatherRules 16 = .ok (.aload_n 0, 1) := by decide +kernel
theorem dX2_gatherRules_17 : decode cX2_gatherRules 17 = .ok (.getfield 32, 3) := by decide +kernel
theorem dX2_gatherRules_20 : decode cX2_gatherRules 20 = .ok (.iconst (-1), 1) := by decide +kernel
theorem dX2_gatherRules_21 : decode cX2_gatherRules 21 = .ok (.invokestatic 59, 3) := by decide +kernel
theorem dX2_gatherRules_24 : decode cX2_gatherRules 24 = .ok (.iconst 0, 1) := by decide +kernel
theorem dX2_gatherRules_25 : decode cX2_gatherRules 25 = .ok (.istore_n 1, 1) := by decide +kernel
theorem dX2_gatherRules_26 : decode cX2_gatherRules 26 = .ok (.iload_n 1, 1) := by decide +kernel
theorem dX2_gatherRules_27 : decode cX2_gatherRules 27 = .ok (.aload_n 0, 1) := by decide +kernel
theorem dX2_gatherRules_28 : decode cX2_gatherRules 28 = .ok (.getfield 12, 3) := by decide +kernel
theorem dX2_gatherRules_31 : decode cX2_gatherRules 31 = .ok (.getfield 65, 3) := by decide +kernel
theorem dX2_gatherRules_34 : decode cX2_gatherRules 34 = .ok (.if_icmp .ge 76, 3) := by decide +kernel
theorem dX2_gatherRules_37 : decode cX2_gatherRules 37 = .ok (.aload_n 0, 1) := by decide +kernel
theorem dX2_gatherRules_38 : decode cX2_gatherRules 38 = .ok (.getfield 21, 3) := by decide +kernel
theorem dX2_gatherRules_41 : decode cX2_gatherRules 41 = .ok (.getfield 68, 3) := by decide +kernel
theorem dX2_gatherRules_44 : decode cX2_gatherRules 44 = .ok (.iload_n 1, 1) := by decide +kernel
theorem dX2_gatherRules_45 : decode cX2_gatherRules 45 = .ok (.ishr, 1) := by decide +kernel
theorem dX2_gatherRules_46 : decode cX2_gatherRules 46 = .ok (.iconst 1, 1) := by decide +kernel
theorem dX2_gatherRules_47 : decode cX2_gatherRules 47 = .ok (.iand, 1) := by decide +kernel
theorem dX2_gatherRules_48 : decode cX2_gatherRules 48 = .ok (.iconst 1, 1) := by decide +kernel
theorem dX2_gatherRules_49 : decode cX2_gatherRules 49 = .ok (.if_icmp .ne 6, 3) := by decide +kernel
theorem dX2_gatherRules_52 : decode cX2_gatherRules 52 = .ok (.goto 52, 3) := by decide +kernel
theorem dX2_gatherRules_55 : decode cX2_gatherRules 55 = .ok (.aload_n 0, 1) := by decide +kernel
theorem dX2_gatherRules_56 : decode cX2_gatherRules 56 = .ok (.getfield 12, 3) := by decide +kernel
theorem dX2_gatherRules_59 : decode cX2_gatherRules 59 = .ok (.getfield 71, 3) := by decide +kernel
theorem dX2_gatherRules_62 : decode cX2_gatherRules 62 = .ok (.iload_n 1, 1) := by decide +kernel
theorem dX2_gatherRules_63 : decode cX2_gatherRules 63 = .ok (.iaload, 1) := by decide +kernel
theorem dX2_gatherRules_64 : decode cX2_gatherRules 64 = .ok (.ifCond .ne 10, 3) := by decide +kernel
theorem dX2_gatherRules_67 : decode cX2_gatherRules 67 = .ok (.aload_n 0, 1) := by decide +kernel
theorem dX2_gatherRules_68 : decode cX2_gatherRules 68 = .ok (.getfield 25, 3) := by decide +kernel
theorem dX2_gatherRules_71 : decode cX2_gatherRules 71 = .ok (.goto 7, 3) := by decide +kernel
theorem dX2_gatherRules_74 : decode cX2_gatherRules 74 = .ok (.aload_n 0, 1) := by decide +kernel
theorem dX2_gatherRules_75 : decode cX2_gatherRules 75 = .ok (.getfield 29, 3) := by decide +kernel
theorem dX2_gatherRules_78 : decode cX2_gatherRules 78 = .ok (.astore_n 2, 1) := by decide +kernel
theorem dX2_gatherRules_79 : decode cX2_gatherRules 79 = .ok (.aload_n 2, 1) := by decide +kernel
theorem dX2_gatherRules_80 : decode cX2_gatherRules 80 = .ok (.aload_n 0, 1) := by decide +kernel
theorem dX2_gatherRules_81 : decode cX2_gatherRules 81 = .ok (.getfield 12, 3) := by decide +kernel
theorem dX2_gatherRules_84 : decode cX2_gatherRules 84 = .ok (.getfield 74, 3) := by decide +kernel
theorem dX2_gatherRules_87 : decode cX2_gatherRules 87 = .ok (.iload_n 1, 1) := by decide +kernel
theorem dX2_gatherRules_88 : decode cX2_gatherRules 88 = .ok (.iaload, 1) := by decide +kernel
theorem dX2_gatherRules_89 : decode cX2_gatherRules 89 = .ok (.dup2, 1) := by decide +kernel
theorem dX2_gatherRules_90 : decode cX2_gatherRules 90 = .ok (.iaload, 1) := by decide +kernel
theorem dX2_gatherRules_91 : decode cX2_gatherRules 91 = .ok (.iconst 1, 1) := by decide +kernel
theorem dX2_gatherRules_92 : decode cX2_gatherRules 92 = .ok (.aload_n 0, 1) := by decide +kernel
theorem dX2_gatherRules_93 : decode cX2_gatherRules 93 = .ok (.getfield 12, 3) := by decide +kernel
theorem dX2_gatherRules_96 : decode cX2_gatherRules 96 = .ok (.getfield 77, 3) := by decide +kernel
theorem dX2_gatherRules_99 : decode cX2_gatherRules 99 = .ok (.iload_n 1, 1) := by decide +kernel
theorem dX2_gatherRules_100 : decode cX2_gatherRules 100 = .ok (.iaload, 1) := by decide +kernel
theorem dX2_gatherRules_101 : decode cX2_gatherRules 101 = .ok (.ishl, 1) := by decide +kernel
theorem dX2_gatherRules_102 : decode cX2_gatherRules 102 = .ok (.ior, 1) := by decide +kernel
theorem dX2_gatherRules_103 : decode cX2_gatherRules 103 = .ok (.iastore, 1) := by decide +kernel
theorem dX2_gatherRules_104 : decode cX2_gatherRules 104 = .ok (.iinc 1 1, 3) := by decide +kernel
theorem dX2_gatherRules_107 : decode cX2_gatherRules 107 = .ok (.goto (-81), 3) := by decide +kernel
theorem dX2_gatherRules_110 : decode cX2_gatherRules 110 = .ok (.return_, 1) := by decide +kernel
def Sp_X2_gatherRules (av : List AV) (m : AM) (Φ : Option AV → AM → Prop) : Prop := av = [vr 2 20] ∧ ∃ C, VC C ∧ LawR m 21 C ∧ StkR (m.1 26 5) C ∧ ∀ m2, Fr [28, 29, 30] m m2 → MadR m2 C → CacR m2 C → Φ none m2
set_option maxRecDepth 20000 in
set_option maxHeartbeats 4000000 in
theorem S_X2_gatherRules : Snd yX2_gatherRules e_X2_gatherRules Sp_X2_gatherRules := by
  refine Snd.of (by decide +kernel) rfl ?_ ?_
  · rintro av m Φ ⟨rfl, _⟩; exact Nat.le_of_ble_eq_true rfl
  rintro av m Φ ⟨rfl, C, hv, hL, hS, h⟩ hav hty
  show B e_X2_gatherRules Φ 0 [some (vr 2 20), none, none] [] m (0, 0)
  have hr := hv.2.2.2.2.2.2.2.2.1
  have h8 := hv.2.2.2.1
  have h06 := hv.1.2
  have loop : ∀ n r o m2, C 3 + 1 ≤ r + n → r ≤ C 3 → Fr [28, 29, 30] m m2 → (∀ f, f < 6 → m2.1 28 f = gaF C 0 r f) → (∀ f, f < 6 → m2.1 29 f = gaF C 1 r f) → (∀ s, s < 64 → m2.1 30 s = -1) → B e_X2_gatherRules Φ 26 [some (vr 2 20), some (vi (nI r)), o] [] m2 (0, 0) := by
    intro n
    induction n with
    | zero => intro r o m2 h1 h2; omega
    | succ n ih =>
      intro r o m2 h1 h2 hf h28 h29 h30
      have f21 : m2.1 21 = m.1 21 := hf.2 21 (by decide)
      have f22 : m2.1 22 = m.1 22 := hf.2 22 (by decide)
      have f23 : m2.1 23 = m.1 23 := hf.2 23 (by decide)
      have f24 : m2.1 24 = m.1 24 := hf.2 24 (by decide)
      have f26 : m2.1 26 = m.1 26 := hf.2 26 (by decide)
      have skip : ¬ (C (8 + 4 * r) = 0 ∧ C (11 + 4 * r) = 0) → ¬ (C (8 + 4 * r) = 1 ∧ C (11 + 4 * r) = 0) → r < C 3 → ∀ o, B e_X2_gatherRules Φ 26 [some (vr 2 20), some (vi (nI (r + 1))), o] [] m2 (0, 0) := fun e1 e2 e3 o => ih (r + 1) o m2 (by omega) (by omega) hf (fun f q => by rw [gaF_skip e1]; exact h28 f q) (fun f q => by rw [gaF_skip e2]; exact h29 f q) h30
      have st79 : ∀ a sort, (a = 28 ∧ sort = 0 ∨ a = 29 ∧ sort = 1) → C (8 + 4 * r) = sort → C (11 + 4 * r) = 0 → r < C 3 → B e_X2_gatherRules Φ 79 [some (vr 2 20), some (vi (nI r)), some (vr 106 a)] [] m2 (0, 0) := by
        intro a sort ha hs hx hr3
        have hr1 := hr r hr3
        have ea : ∀ f, f < 6 → m2.1 a f = gaF C sort r f := by
          rcases ha with ⟨rfl, rfl⟩ | ⟨rfl, rfl⟩
          · exact h28
          · exact h29
        refine b_aloadN (pc := 79) 2 dX2_gatherRules_79 rfl rfl ?_
        refine b_aloadN (pc := 80) 0 dX2_gatherRules_80 rfl rfl ?_
        refine gf2_0 (pc := 81) 21 rfl k264 dX2_gatherRules_81 ?_
        refine gf5_1 (pc := 84) 23 rfl k131 dX2_gatherRules_84 ?_
        refine b_iloadN (pc := 87) 1 dX2_gatherRules_87 rfl rfl ?_
        refine b_iald (pc := 88) (by decide) ?_ dX2_gatherRules_88 ?_
        rotate_left -- leaf 0: index at 88
        refine b_dup2 (pc := 89) dX2_gatherRules_89 ?_
        refine b_iald (pc := 90) (by decide) ?_ dX2_gatherRules_90 ?_
        rotate_left -- leaf 1: index at 90
        refine b_iconst (pc := 91) (nI 1) dX2_gatherRules_91 (by decide) ?_
        refine b_aloadN (pc := 92) 0 dX2_gatherRules_92 rfl rfl ?_
        refine gf2_0 (pc := 93) 21 rfl k264 dX2_gatherRules_93 ?_
        refine gf5_2 (pc := 96) 24 rfl k134 dX2_gatherRules_96 ?_
        refine b_iloadN (pc := 99) 1 dX2_gatherRules_99 rfl rfl ?_
        refine b_iald (pc := 100) (by decide) ?_ dX2_gatherRules_100 ?_
        rotate_left -- leaf 2: index at 100
        refine b_ishl (pc := 101) dX2_gatherRules_101 ?_
        refine b_ior (pc := 102) dX2_gatherRules_102 ?_
        refine b_iast (pc := 103) (by decide) ?_ dX2_gatherRules_103 ?_
        rotate_left -- leaf 3: index at 103
        refine inc1 (pc := 104) notL_r (by decide) dX2_gatherRules_104 ?_
        refine b_goto (pc := 107) 26 dX2_gatherRules_107 (by decide) ?_
        rotate_left -- leaf 4: at 26
        -- leaves: 0 index at 88; 1 index at 90; 2 index at 100; 3 index at 103; 4 at 26
        · exact n_in (by omega) (by omega)
        · rw [n_cl (by omega), f23, (hL.2.2.2.2.1 r hr3).2.1]
          exact n_in (by omega) (by omega)
        · exact n_in (by omega) (by omega)
        · rw [n_cl (by omega), f23, (hL.2.2.2.2.1 r hr3).2.1]
          exact n_in (by omega) (by omega)
        · rw [n_cl (by omega), f23, (hL.2.2.2.2.1 r hr3).2.1, n_cl (by omega), f24, (hL.2.2.2.2.1 r hr3).2.2, n_pow (by omega), n_inc, ea _ (by omega)]
          have hst := gaF_step (C := C) (sort := sort) (n := r) (by omega) hs hx
          have key : ∀ f, f < 6 → (mset m2 a (C (9 + 4 * r)) (gaF C sort r (C (9 + 4 * r)) ||| nI (2 ^ C (10 + 4 * r)))).1 a f = gaF C sort (r + 1) f := by
            intro f q
            rw [mset_at, ← hst]
            unfold upd
            by_cases e : f = C (9 + 4 * r)
            · rw [if_pos e, if_pos e]
            · rw [if_neg e, if_neg e]; exact ea f q
          rcases ha with ⟨rfl, rfl⟩ | ⟨rfl, rfl⟩
          · refine ih (r + 1) _ _ (by omega) (by omega) (hf.ms (by simp)) key (fun f q => ?_) (fun s q => ?_)
            · rw [mset_ne _ _ _ (by decide), gaF_skip (by omega)]; exact h29 f q
            · rw [mset_ne _ _ _ (by decide)]; exact h30 s q
          · refine ih (r + 1) _ _ (by omega) (by omega) (hf.ms (by simp)) (fun f q => ?_) key (fun s q => ?_)
            · rw [mset_ne _ _ _ (by decide), gaF_skip (by omega)]; exact h28 f q
            · rw [mset_ne _ _ _ (by decide)]; exact h30 s q
      refine b_iloadN (pc := 26) 1 dX2_gatherRules_26 rfl rfl ?_
      refine b_aloadN (pc := 27) 0 dX2_gatherRules_27 rfl rfl ?_
      refine gf2_0 (pc := 28) 21 rfl k264 dX2_gatherRules_28 ?_
      refine gf5_7 (pc := 31) k157 dX2_gatherRules_31 ?_
      refine b_icmp_ge (pc := 34) 110 dX2_gatherRules_34 (by decide) (fun c34 => ?_) (fun c34 => ?_)
      refine b_vret (pc := 110) rfl dX2_gatherRules_110 ⟨Nat.le_of_ble_eq_true rfl, Nat.le_of_ble_eq_true rfl⟩ ?_
      rotate_left -- leaf 0: return at 110
      refine b_aloadN (pc := 37) 0 dX2_gatherRules_37 rfl rfl ?_
      refine gf2_1 (pc := 38) 26 rfl k270 dX2_gatherRules_38 ?_
      refine gf8_5 (pc := 41) k249 dX2_gatherRules_41 ?_
      refine b_iloadN (pc := 44) 1 dX2_gatherRules_44 rfl rfl ?_
      refine b_ishr (pc := 45) dX2_gatherRules_45 ?_
      refine b_iconst (pc := 46) (nI 1) dX2_gatherRules_46 (by decide) ?_
      refine b_iand (pc := 47) dX2_gatherRules_47 ?_
      refine b_iconst (pc := 48) (nI 1) dX2_gatherRules_48 (by decide) ?_
      refine b_icmp_ne (pc := 49) 55 dX2_gatherRules_49 (by decide) (fun c49 => ?_) (fun c49 => ?_)
      refine b_aloadN (pc := 55) 0 dX2_gatherRules_55 rfl rfl ?_
      refine gf2_0 (pc := 56) 21 rfl k264 dX2_gatherRules_56 ?_
      refine gf5_0 (pc := 59) 22 rfl k128 dX2_gatherRules_59 ?_
      refine b_iloadN (pc := 62) 1 dX2_gatherRules_62 rfl rfl ?_
      refine b_iald (pc := 63) (by decide) ?_ dX2_gatherRules_63 ?_
      rotate_left -- leaf 1: index at 63
      refine b_if_ne (pc := 64) 74 dX2_gatherRules_64 (by decide) (fun c64 => ?_) (fun c64 => ?_)
      refine b_aloadN (pc := 74) 0 dX2_gatherRules_74 rfl rfl ?_
      refine gf2_3 (pc := 75) 29 rfl k277 dX2_gatherRules_75 ?_
      refine saN2 (pc := 78) rfl notL_i (by decide) dX2_gatherRules_78 ?_
      rotate_left -- leaf 2: at 79
      refine b_aloadN (pc := 67) 0 dX2_gatherRules_67 rfl rfl ?_
      refine gf2_2 (pc := 68) 28 rfl k276 dX2_gatherRules_68 ?_
      refine b_goto (pc := 71) 78 dX2_gatherRules_71 (by decide) ?_
      refine saN2 (pc := 78) rfl notL_i (by decide) dX2_gatherRules_78 ?_
      rotate_left -- leaf 3: at 79
      refine b_goto (pc := 52) 104 dX2_gatherRules_52 (by decide) ?_
      refine inc1 (pc := 104) notL_r (by decide) dX2_gatherRules_104 ?_
      refine b_goto (pc := 107) 26 dX2_gatherRules_107 (by decide) ?_
      rotate_left -- leaf 4: at 26
      -- leaves: 0 return at 110; 1 index at 63; 2 at 79; 3 at 79; 4 at 26
      · rw [f21, hL.2.2.1, n_le (by omega) (by omega)] at c34
        have e : r = C 3 := by omega
        subst e
        refine h m2 hf (fun f q => ⟨?_, ?_⟩) (fun s q => Or.inl (h30 s q))
        · rw [h28 f q]; unfold gaF; rw [if_pos q]
        · rw [h29 f q]; unfold gaF; rw [if_pos q]
      · rw [f21, hL.2.2.1, n_le (by omega) (by omega)] at c34
        exact n_in (by omega) (by omega)
      · rw [f21, hL.2.2.1, n_le (by omega) (by omega)] at c34
        rw [f26, hS.bit (by omega)] at c49
        have hr1 := hr r (by omega)
        have h0 : C (11 + 4 * r) = 0 := by
          rcases hr1.2.2.2 with q | q
          · exact q
          · rw [if_pos ⟨by omega, q⟩] at c49; exact absurd rfl c49
        rw [n_cl (by omega), f22, (hL.2.2.2.2.1 r (by omega)).1, n_eq0 (by omega)] at c64
        exact st79 29 1 (Or.inr ⟨rfl, rfl⟩) (by omega) h0 (by omega)
      · rw [f21, hL.2.2.1, n_le (by omega) (by omega)] at c34
        rw [f26, hS.bit (by omega)] at c49
        have hr1 := hr r (by omega)
        have h0 : C (11 + 4 * r) = 0 := by
          rcases hr1.2.2.2 with q | q
          · exact q
          · rw [if_pos ⟨by omega, q⟩] at c49; exact absurd rfl c49
        rw [n_cl (by omega), f22, (hL.2.2.2.2.1 r (by omega)).1, n_eq0 (by omega)] at c64
        exact st79 28 0 (Or.inl ⟨rfl, rfl⟩) (by omega) h0 (by omega)
      · rw [f21, hL.2.2.1, n_le (by omega) (by omega)] at c34
        rw [f26, hS.bit (by omega)] at c49
        have h1 : C (11 + 4 * r) = 1 := by
          by_cases q : r < C 3 ∧ C (11 + 4 * r) = 1
          · exact q.2
          · rw [if_neg q] at c49; exact absurd c49 (by decide)
        rw [n_inc]
        exact skip (by omega) (by omega) (by omega) _
  refine b_aloadN (pc := 0) 0 dX2_gatherRules_0 rfl rfl ?_
  refine gf2_2 (pc := 1) 28 rfl k276 dX2_gatherRules_1 ?_
  refine b_iconst (pc := 4) (nI 0) dX2_gatherRules_4 (by decide) ?_
  refine call_J7_fill_53178 (pc := 5) k603 (by decide) ⟨Nat.le_of_ble_eq_true rfl, Nat.le_of_ble_eq_true rfl⟩ (Nat.le_of_ble_eq_true rfl) dX2_gatherRules_5 ?_
  refine ⟨_, _, _, rfl, ?_, ?_, ?_⟩
  exact Or.inr ⟨by decide, by decide⟩
  exact (Nat.le_of_ble_eq_true rfl)
  refine b_aloadN (pc := 8) 0 dX2_gatherRules_8 rfl rfl ?_
  refine gf2_3 (pc := 9) 29 rfl k277 dX2_gatherRules_9 ?_
  refine b_iconst (pc := 12) (nI 0) dX2_gatherRules_12 (by decide) ?_
  refine call_J7_fill_53178 (pc := 13) k603 (by decide) ⟨Nat.le_of_ble_eq_true rfl, Nat.le_of_ble_eq_true rfl⟩ (Nat.le_of_ble_eq_true rfl) dX2_gatherRules_13 ?_
  refine ⟨_, _, _, rfl, ?_, ?_, ?_⟩
  exact Or.inr ⟨by decide, by decide⟩
  exact (Nat.le_of_ble_eq_true rfl)
  refine b_aloadN (pc := 16) 0 dX2_gatherRules_16 rfl rfl ?_
  refine gf2_4 (pc := 17) 30 rfl k278 dX2_gatherRules_17 ?_
  refine b_iconst (pc := 20) (-1) dX2_gatherRules_20 (by decide) ?_
  refine call_J7_fill_53178 (pc := 21) k603 (by decide) ⟨Nat.le_of_ble_eq_true rfl, Nat.le_of_ble_eq_true rfl⟩ (Nat.le_of_ble_eq_true rfl) dX2_gatherRules_21 ?_
  refine ⟨_, _, _, rfl, ?_, ?_, ?_⟩
  exact Or.inr ⟨by decide, by decide⟩
  exact (Nat.le_of_ble_eq_true rfl)
  refine b_iconst (pc := 24) (nI 0) dX2_gatherRules_24 (by decide) ?_
  refine siN1 (pc := 25) rfl notL_r (by decide) dX2_gatherRules_25 ?_
  rotate_left -- leaf 0: at 26
  -- leaves: 0 at 26
  refine loop (C 3 + 1) 0 none _ (by omega) (by omega) ((((Fr.rf _ m).as (by simp)).as (by simp)).as (by simp)) (fun f q => ?_) (fun f q => ?_) (fun s q => ?_)
  · rw [aset_ne _ _ (by decide), aset_ne _ _ (by decide), aset_at]
    show (if f < 6 then nI 0 else _) = _
    unfold gaF
    rw [if_pos q, if_pos q]
    rfl
  · rw [aset_ne _ _ (by decide), aset_at]
    show (if f < 6 then nI 0 else _) = _
    unfold gaF
    rw [if_pos q, if_pos q]
    rfl
  · rw [aset_at]
    show (if s < 64 then (-1 : Int32) else _) = _
    rw [if_pos q]
theorem call_X2_gatherRules {E : ME} {Φ : Option AV → AM → Prop} {pc : Nat} {L : List (Option AV)} {st : List AV} {m : AM} {a : Nat × Nat} {idx : Nat} {i : Nat} (hl : Cond.methodLink E.2.1 idx yX2_gatherRules ∈ TB) (hdep : 2 + 1 ≤ E.2.2.2.2.2.2) (hroom : a.1 + 0 ≤ E.2.2.2.2.1 ∧ a.2 + 0 ≤ E.2.2.2.2.2.1) (hsr : st.length ≤ 4) (hd : decode E.1 pc = .ok (.invokevirtual idx, 3)) (hsp : Sp_X2_gatherRules [vr 2 i] m (fun r m2 => B E Φ (pc + 3) L (r.toList ++ st) m2 a)) : B E Φ pc L (vr 2 i :: st) m a := b_callV S_X2_gatherRules [] (RX2, TX2, 5) rfl rfl (by decide) (Or.inl hl) k601 k11 k73 k602 (show _ ∧ _ ∧ Option.map (fun d => d.parameters.length) (parseMethodDescriptor yX2_gatherRules.desc) = some 0 from by decide +kernel) ⟨hdep, by decide⟩ hroom hsr hd hsp
