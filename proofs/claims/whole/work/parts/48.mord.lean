/-! the reference: madeBy, order -/
abbrev e_X11_madeBy : ME := (cX11_madeBy, (RX11, (5, ((some .int), (0, (0, 1))))))
theorem dX11_madeBy_0 : decode cX11_madeBy 0 = .ok (.iconst 0, 1) := by decide +kernel
theorem dX11_madeBy_1 : decode cX11_madeBy 1 = .ok (.istore_n 2, 1) := by decide +kernel
theorem dX11_madeBy_2 : decode cX11_madeBy 2 = .ok (.iconst 0, 1) := by decide +kernel
theorem dX11_madeBy_3 : decode cX11_madeBy 3 = .ok (.istore_n 3, 1) := by decide +kernel
theorem dX11_madeBy_4 : decode cX11_madeBy 4 = .ok (.iload_n 3, 1) := by decide +kernel
theorem dX11_madeBy_5 : decode cX11_madeBy 5 = .ok (.aload_n 0, 1) := by decide +kernel
theorem dX11_madeBy_6 : decode cX11_madeBy 6 = .ok (.getfield 19, 3) := by decide +kernel
theorem dX11_madeBy_9 : decode cX11_madeBy 9 = .ok (.iconst 3, 1) := by decide +kernel
theorem dX11_madeBy_10 : decode cX11_madeBy 10 = .ok (.iaload, 1) := by decide +kernel
theorem dX11_madeBy_11 : decode cX11_madeBy 11 = .ok (.if_icmp .ge 70, 3) := by decide +kernel
theorem dX11_madeBy_14 : decode cX11_madeBy 14 = .ok (.bipush 8, 2) := by decide +kernel
theorem dX11_madeBy_16 : decode cX11_madeBy 16 = .ok (.iconst 4, 1) := by decide +kernel
theorem dX11_madeBy_17 : decode cX11_madeBy 17 = .ok (.iload_n 3, 1) := by decide +kernel
theorem dX11_madeBy_18 : decode cX11_madeBy 18 = .ok (.imul, 1) := by decide +kernel
theorem dX11_madeBy_19 : decode cX11_madeBy 19 = .ok (.iadd, 1) := by decide +kernel
theorem dX11_madeBy_20 : decode cX11_madeBy 20 = .ok (.istore 4, 2) := by decide +kernel
theorem dX11_madeBy_22 : decode cX11_madeBy 22 = .ok (.iload_n 2, 1) := by decide +kernel
theorem dX11_madeBy_23 : decode cX11_madeBy 23 = .ok (.aload_n 0, 1) := by decide +kernel
theorem dX11_madeBy_24 : decode cX11_madeBy 24 = .ok (.getfield 19, 3) := by decide +kernel
theorem dX11_madeBy_27 : decode cX11_madeBy 27 = .ok (.iload 4, 2) := by decide +kernel
theorem dX11_madeBy_29 : decode cX11_madeBy 29 = .ok (.iaload, 1) := by decide +kernel
theorem dX11_madeBy_30 : decode cX11_madeBy 30 = .ok (.ifCond .ne 42, 3) := by decide +kernel
theorem dX11_madeBy_33 : decode cX11_madeBy 33 = .ok (.aload_n 0, 1) := by decide +kernel
theorem dX11_madeBy_34 : decode cX11_madeBy 34 = .ok (.getfield 19, 3) := by decide +kernel
theorem dX11_madeBy_37 : decode cX11_madeBy 37 = .ok (.iload 4, 2) := by decide +kernel
theorem dX11_madeBy_39 : decode cX11_madeBy 39 = .ok (.iconst 3, 1) := by decide +kernel
theorem dX11_madeBy_40 : decode cX11_madeBy 40 = .ok (.iadd, 1) := by decide +kernel
theorem dX11_madeBy_41 : decode cX11_madeBy 41 = .ok (.iaload, 1) := by decide +kernel
theorem dX11_madeBy_42 : decode cX11_madeBy 42 = .ok (.ifCond .ne 30, 3) := by decide +kernel
theorem dX11_madeBy_45 : decode cX11_madeBy 45 = .ok (.aload_n 0, 1) := by decide +kernel
theorem dX11_madeBy_46 : decode cX11_madeBy 46 = .ok (.getfield 19, 3) := by decide +kernel
theorem dX11_madeBy_49 : decode cX11_madeBy 49 = .ok (.iload 4, 2) := by decide +kernel
theorem dX11_madeBy_51 : decode cX11_madeBy 51 = .ok (.iconst 1, 1) := by decide +kernel
theorem dX11_madeBy_52 : decode cX11_madeBy 52 = .ok (.iadd, 1) := by decide +kernel
theorem dX11_madeBy_53 : decode cX11_madeBy 53 = .ok (.iaload, 1) := by decide +kernel
theorem dX11_madeBy_54 : decode cX11_madeBy 54 = .ok (.iload_n 1, 1) := by decide +kernel
theorem dX11_madeBy_55 : decode cX11_madeBy 55 = .ok (.if_icmp .ne 17, 3) := by decide +kernel
theorem dX11_madeBy_58 : decode cX11_madeBy 58 = .ok (.iconst 1, 1) := by decide +kernel
theorem dX11_madeBy_59 : decode cX11_madeBy 59 = .ok (.aload_n 0, 1) := by decide +kernel
theorem dX11_madeBy_60 : decode cX11_madeBy 60 = .ok (.getfield 19, 3) := by decide +kernel
theorem dX11_madeBy_63 : decode cX11_madeBy 63 = .ok (.iload 4, 2) := by decide +kernel
theorem dX11_madeBy_65 : decode cX11_madeBy 65 = .ok (.iconst 2, 1) := by decide +kernel
theorem dX11_madeBy_66 : decode cX11_madeBy 66 = .ok (.iadd, 1) := by decide +kernel
theorem dX11_madeBy_67 : decode cX11_madeBy 67 = .ok (.iaload, 1) := by decide +kernel
theorem dX11_madeBy_68 : decode cX11_madeBy 68 = .ok (.ishl, 1) := by decide +kernel
theorem dX11_madeBy_69 : decode cX11_madeBy 69 = .ok (.goto 4, 3) := by decide +kernel
theorem dX11_madeBy_72 : decode cX11_madeBy 72 = .ok (.iconst 0, 1) := by decide +kernel
theorem dX11_madeBy_73 : decode cX11_madeBy 73 = .ok (.ior, 1) := by decide +kernel
theorem dX11_madeBy_74 : decode cX11_madeBy 74 = .ok (.istore_n 2, 1) := by decide +kernel
theorem dX11_madeBy_75 : decode cX11_madeBy 75 = .ok (.iinc 3 1, 3) := by decide +kernel
theorem dX11_madeBy_78 : decode cX11_madeBy 78 = .ok (.goto (-74), 3) := by decide +kernel
theorem dX11_madeBy_81 : decode cX11_madeBy 81 = .ok (.iload_n 2, 1) := by decide +kernel
theorem dX11_madeBy_82 : decode cX11_madeBy 82 = .ok (.ireturn, 1) := by decide +kernel
def Sp_X11_madeBy (av : List AV) (m : AM) (Φ : Option AV → AM → Prop) : Prop := ∃ x, av = [vr 11 110, vi x] ∧ ∃ C f, VC C ∧ MC m C ∧ x = nI f ∧ f < 6 ∧ Φ (some (vi (nI (madeF C 0 f (C 3))))) m
set_option maxRecDepth 20000 in
set_option maxHeartbeats 4000000 in
theorem S_X11_madeBy : Snd yX11_madeBy e_X11_madeBy Sp_X11_madeBy := by
  refine Snd.of (by decide +kernel) rfl ?_ ?_
  · rintro av m Φ ⟨x, rfl, _⟩; exact Nat.le_of_ble_eq_true rfl
  rintro av m Φ ⟨x, rfl, C, f, hv, hM, rfl, hf, h⟩ hav hty
  show B e_X11_madeBy Φ 0 [some (vr 11 110), some (vi (nI f)), none, none, none] [] m (0, 0)
  have h8 := hv.2.2.2.1
  have hr := hv.2.2.2.2.2.2.2.2.1
  have h06 := hv.1.2
  have loop : ∀ n k o4, C 3 + 1 ≤ k + n → k ≤ C 3 → B e_X11_madeBy Φ 4 [some (vr 11 110), some (vi (nI f)), some (vi (nI (madeF C 0 f k))), some (vi (nI k)), o4] [] m (0, 0) := by
    intro n
    induction n with
    | zero => intro k o4 h1 h2; omega
    | succ n ih =>
      intro k o4 h1 h2
      have un : madeF C 0 f (k + 1) = if (C (8 + 4 * k) = 0 ∧ C (11 + 4 * k) = 0) ∧ C (9 + 4 * k) = f then madeF C 0 f k ||| 2 ^ C (10 + 4 * k) else madeF C 0 f k := rfl
      have mid : k < C 3 → ∀ e, madeF C 0 f k ||| e = madeF C 0 f (k + 1) → B e_X11_madeBy Φ 73 [some (vr 11 110), some (vi (nI f)), some (vi (nI (madeF C 0 f k))), some (vi (nI k)), some (vi (nI (8 + 4 * k)))] [vi (nI e), vi (nI (madeF C 0 f k))] m (0, 0) := by
        intro hk e he
        refine b_ior (pc := 73) dX11_madeBy_73 ?_
        refine siN2 (pc := 74) rfl notL_i (by decide) dX11_madeBy_74 ?_
        refine inc3 (pc := 75) notL_i (by decide) dX11_madeBy_75 ?_
        refine b_goto (pc := 78) 4 dX11_madeBy_78 (by decide) ?_
        rotate_left -- leaf 0: at 4
        -- leaves: 0 at 4
        rw [n_or, he, n_inc]
        exact ih (k + 1) _ (by omega) (by omega)
      refine b_iloadN (pc := 4) 3 dX11_madeBy_4 rfl rfl ?_
      refine b_aloadN (pc := 5) 0 dX11_madeBy_5 rfl rfl ?_
      refine gf11_5 (pc := 6) 114 rfl k1047 dX11_madeBy_6 ?_
      refine b_iconst (pc := 9) (nI 3) dX11_madeBy_9 (by decide) ?_
      refine b_iald (pc := 10) (by decide) ?_ dX11_madeBy_10 ?_
      rotate_left -- leaf 0: index at 10
      refine b_icmp_ge (pc := 11) 81 dX11_madeBy_11 (by decide) (fun c11 => ?_) (fun c11 => ?_)
      refine b_iloadN (pc := 81) 2 dX11_madeBy_81 rfl rfl ?_
      refine b_iret (pc := 82) rfl dX11_madeBy_82 ⟨Nat.le_of_ble_eq_true rfl, Nat.le_of_ble_eq_true rfl⟩ ?_
      rotate_left -- leaf 1: return at 82
      refine b_bipush (pc := 14) (nI 8) dX11_madeBy_14 (by decide) ?_
      refine b_iconst (pc := 16) (nI 4) dX11_madeBy_16 (by decide) ?_
      refine b_iloadN (pc := 17) 3 dX11_madeBy_17 rfl rfl ?_
      refine b_imul (pc := 18) dX11_madeBy_18 ?_
      refine b_iadd (pc := 19) dX11_madeBy_19 ?_
      refine siG4 (pc := 20) notL_i (by decide) dX11_madeBy_20 ?_
      refine b_iloadN (pc := 22) 2 dX11_madeBy_22 rfl rfl ?_
      refine b_aloadN (pc := 23) 0 dX11_madeBy_23 rfl rfl ?_
      refine gf11_5 (pc := 24) 114 rfl k1047 dX11_madeBy_24 ?_
      refine b_iloadG (pc := 27) 4 dX11_madeBy_27 rfl ?_
      refine b_iald (pc := 29) (by decide) ?_ dX11_madeBy_29 ?_
      rotate_left -- leaf 2: index at 29
      refine b_if_ne (pc := 30) 72 dX11_madeBy_30 (by decide) (fun c30 => ?_) (fun c30 => ?_)
      refine b_iconst (pc := 72) (nI 0) dX11_madeBy_72 (by decide) ?_
      rotate_left -- leaf 3: at 73
      refine b_aloadN (pc := 33) 0 dX11_madeBy_33 rfl rfl ?_
      refine gf11_5 (pc := 34) 114 rfl k1047 dX11_madeBy_34 ?_
      refine b_iloadG (pc := 37) 4 dX11_madeBy_37 rfl ?_
      refine b_iconst (pc := 39) (nI 3) dX11_madeBy_39 (by decide) ?_
      refine b_iadd (pc := 40) dX11_madeBy_40 ?_
      refine b_iald (pc := 41) (by decide) ?_ dX11_madeBy_41 ?_
      rotate_left -- leaf 4: index at 41
      refine b_if_ne (pc := 42) 72 dX11_madeBy_42 (by decide) (fun c42 => ?_) (fun c42 => ?_)
      refine b_iconst (pc := 72) (nI 0) dX11_madeBy_72 (by decide) ?_
      rotate_left -- leaf 5: at 73
      refine b_aloadN (pc := 45) 0 dX11_madeBy_45 rfl rfl ?_
      refine gf11_5 (pc := 46) 114 rfl k1047 dX11_madeBy_46 ?_
      refine b_iloadG (pc := 49) 4 dX11_madeBy_49 rfl ?_
      refine b_iconst (pc := 51) (nI 1) dX11_madeBy_51 (by decide) ?_
      refine b_iadd (pc := 52) dX11_madeBy_52 ?_
      refine b_iald (pc := 53) (by decide) ?_ dX11_madeBy_53 ?_
      rotate_left -- leaf 6: index at 53
      refine b_iloadN (pc := 54) 1 dX11_madeBy_54 rfl rfl ?_
      refine b_icmp_ne (pc := 55) 72 dX11_madeBy_55 (by decide) (fun c55 => ?_) (fun c55 => ?_)
      refine b_iconst (pc := 72) (nI 0) dX11_madeBy_72 (by decide) ?_
      rotate_left -- leaf 7: at 73
      refine b_iconst (pc := 58) (nI 1) dX11_madeBy_58 (by decide) ?_
      refine b_aloadN (pc := 59) 0 dX11_madeBy_59 rfl rfl ?_
      refine gf11_5 (pc := 60) 114 rfl k1047 dX11_madeBy_60 ?_
      refine b_iloadG (pc := 63) 4 dX11_madeBy_63 rfl ?_
      refine b_iconst (pc := 65) (nI 2) dX11_madeBy_65 (by decide) ?_
      refine b_iadd (pc := 66) dX11_madeBy_66 ?_
      refine b_iald (pc := 67) (by decide) ?_ dX11_madeBy_67 ?_
      rotate_left -- leaf 8: index at 67
      refine b_ishl (pc := 68) dX11_madeBy_68 ?_
      refine b_goto (pc := 69) 73 dX11_madeBy_69 (by decide) ?_
      rotate_left -- leaf 9: at 73
      -- leaves: 0 index at 10; 1 return at 82; 2 index at 29; 3 at 73; 4 index at 41; 5 at 73; 6 index at 53; 7 at 73; 8 index at 67; 9 at 73
      · exact n_in (by omega) (by omega)
      · rw [n_cl (by omega), hM 3 (by omega), n_le (by omega) (by omega)] at c11
        rw [show k = C 3 by omega]
        exact h
      all_goals rw [n_cl (by omega), hM 3 (by omega), n_le (by omega) (by omega)] at c11
      all_goals have hrk := hr k (by omega)
      · rw [n_mul, n_add]; exact n_in (by omega) (by omega)
      · rw [n_mul, n_add, n_cl (by omega), hM _ (by omega), n_eq0 (by omega)] at c30
        rw [n_mul, n_add]
        refine mid (by omega) 0 ?_
        rw [un, if_neg (fun z => c30 z.1.1), Nat.or_zero]
      · rw [n_mul, n_add, n_add]; exact n_in (by omega) (by omega)
      · rw [n_mul, n_add, n_add, n_cl (by omega), hM _ (by omega), show 8 + 4 * k + 3 = 11 + 4 * k by omega, n_eq0 (by omega)] at c42
        rw [n_mul, n_add]
        refine mid (by omega) 0 ?_
        rw [un, if_neg (fun z => c42 z.1.2), Nat.or_zero]
      · rw [n_mul, n_add, n_add]; exact n_in (by omega) (by omega)
      · rw [n_mul, n_add, n_add, n_cl (by omega), hM _ (by omega), show 8 + 4 * k + 1 = 9 + 4 * k by omega, n_eq (by omega) (by omega)] at c55
        rw [n_mul, n_add]
        refine mid (by omega) 0 ?_
        rw [un, if_neg (fun z => c55 z.2), Nat.or_zero]
      · rw [n_mul, n_add, n_add]; exact n_in (by omega) (by omega)
      · rw [n_mul, n_add, n_cl (by omega), hM _ (by omega), n_eq0 (by omega)] at c30
        rw [n_mul, n_add, n_add, n_cl (by omega), hM _ (by omega), show 8 + 4 * k + 3 = 11 + 4 * k by omega, n_eq0 (by omega)] at c42
        rw [n_mul, n_add, n_add, n_cl (by omega), hM _ (by omega), show 8 + 4 * k + 1 = 9 + 4 * k by omega, n_eq (by omega) (by omega)] at c55
        rw [n_mul, n_add, n_add, n_cl (by omega), hM _ (by omega), show 8 + 4 * k + 2 = 10 + 4 * k by omega, n_pow (by omega)]
        refine mid (by omega) _ ?_
        rw [un, if_pos ⟨⟨c30, c42⟩, c55⟩]
  refine b_iconst (pc := 0) (nI 0) dX11_madeBy_0 (by decide) ?_
  refine siN2 (pc := 1) rfl notL_i (by decide) dX11_madeBy_1 ?_
  refine b_iconst (pc := 2) (nI 0) dX11_madeBy_2 (by decide) ?_
  refine siN3 (pc := 3) rfl notL_i (by decide) dX11_madeBy_3 ?_
  rotate_left -- leaf 0: at 4
  -- leaves: 0 at 4
  exact loop (C 3 + 1) 0 none (by omega) (by omega)
theorem call_X11_madeBy {E : ME} {Φ : Option AV → AM → Prop} {pc : Nat} {L : List (Option AV)} {st : List AV} {m : AM} {a : Nat × Nat} {idx : Nat} {x0 : AV} {i : Nat} (hl : Cond.methodLink E.2.1 idx yX11_madeBy ∈ TB) (hdep : 1 + 1 ≤ E.2.2.2.2.2.2) (hroom : a.1 + 0 ≤ E.2.2.2.2.1 ∧ a.2 + 0 ≤ E.2.2.2.2.2.1) (hsr : st.length ≤ 4) (hd : decode E.1 pc = .ok (.invokevirtual idx, 3)) (hsp : Sp_X11_madeBy [vr 11 i, x0] m (fun r m2 => B E Φ (pc + 3) L (r.toList ++ st) m2 a)) : B E Φ pc L (x0 :: vr 11 i :: st) m a := b_callV S_X11_madeBy [x0] (RX11, TX11, 28) rfl rfl (by decide) (Or.inl hl) k1359 k60 k80 k1360 (show _ ∧ _ ∧ Option.map (fun d => d.parameters.length) (parseMethodDescriptor yX11_madeBy.desc) = some 1 from by decide +kernel) ⟨hdep, by decide⟩ hroom hsr hd hsp
theorem pc6_0 {s : Nat} (hs : s < 64) : pc6 s = 0 → s = 0 := by
  have q : ∀ s, s < 64 → pc6 s = 0 → s = 0 := by decide +kernel
  exact q s hs
theorem pc6_del {s f : Nat} (hs : s < 64) (hf : f < 6) (h : s.testBit f = true) : pc6 (nDel s (2 ^ f)) + 1 = pc6 s := by
  have q : ∀ s, s < 64 → ∀ f, f < 6 → s.testBit f = true → pc6 (nDel s (2 ^ f)) + 1 = pc6 s := by decide +kernel
  exact q s hs f hf h
theorem ffN_free {C : Nat → Nat} {L f : Nat} : ∀ n, ffN C L n = some f → freeB C L f = true
  | 0, h => by cases h
  | n + 1, h => by
    have h2 : (match ffN C L n with | some f => some f | none => if freeB C L n = true then some n else none) = some f := h
    cases e : ffN C L n with
    | some g =>
      rw [e] at h2
      cases h2
      exact ffN_free n e
    | none =>
      rw [e] at h2
      by_cases q : freeB C L n = true
      · simp [q] at h2
        rw [← h2]; exact q
      · simp [q] at h2
/-- the least free one from k on -/
def ffR (C : Nat → Nat) (L k : Nat) (v : Int32) : Prop := (v = -1000000 ∧ ∀ g, k ≤ g → g < C 0 → freeB C L g = false) ∨ ∃ f, v = nI f ∧ k ≤ f ∧ f < C 0 ∧ freeB C L f = true ∧ ∀ g, k ≤ g → g < f → freeB C L g = false
theorem ffR_0 {C : Nat → Nat} {L : Nat} {v : Int32} (h : ffR C L 0 v) : v = oI (ffN C L (C 0)) := by
  rcases h with ⟨h1, h2⟩ | ⟨f, h1, h2, h3, h4, h5⟩
  · rw [ffN_none _ (fun g hg => h2 g (Nat.zero_le g) hg), h1]; rfl
  · rw [ffN_some _ (fun g hg => h5 g (Nat.zero_le g) hg) h4 h3, h1]; rfl
abbrev e_X11_order : ME := (cX11_order, (RX11, (8, ((some .int), (0, (0, 8))))))
theorem dX11_order_0 : decode cX11_order 0 = .ok (.aload_n 0, 1) := by decide +kernel
theorem dX11_order_1 : decode cX11_order 1 = .ok (.iconst 0, 1) := by decide +kernel
theorem dX11_order_2 : decode cX11_order 2 = .ok (.putfield 53, 3) := by decide +kernel
theorem dX11_order_5 : decode cX11_order 5 = .ok (.aload_n 0, 1) := by decide +kernel
theorem dX11_order_6 : decode cX11_order 6 = .ok (.invokevirtual 199, 3) := by decide +kernel
theorem dX11_order_9 : decode cX11_order 9 = .ok (.ifCond .ne 6, 3) := by decide +kernel
theorem dX11_order_12 : decode cX11_order 12 = .ok (.ldc 195, 2) := by decide +kernel
theorem dX11_order_14 : decode cX11_order 14 = .ok (.ireturn, 1) := by decide +kernel
theorem dX11_order_15 : decode cX11_order 15 = .ok (.aload_n 0, 1) := by decide +kernel
theorem dX11_order_16 : decode cX11_order 16 = .ok (.iload_n 1, 1) := by decide +kernel
theorem dX11_order_17 : decode cX11_order 17 = .ok (.invokevirtual 217, 3) := by decide +kernel
theorem dX11_order_20 : decode cX11_order 20 = .ok (.ifCond .eq 7, 3) := by decide +kernel
theorem dX11_order_23 : decode cX11_order 23 = .ok (.iload_n 2, 1) := by decide +kernel
theorem dX11_order_24 : decode cX11_order 24 = .ok (.ifCond .ge 6, 3) := by decide +kernel
theorem dX11_order_27 : decode cX11_order 27 = .ok (.ldc 73, 2) := by decide +kernel
theorem dX11_order_29 : decode cX11_order 29 = .ok (.ireturn, 1) := by decide +kernel
theorem dX11_order_30 : decode cX11_order 30 = .ok (.iload_n 1, 1) := by decide +kernel
theorem dX11_order_31 : decode cX11_order 31 = .ok (.istore_n 3, 1) := by decide +kernel
theorem dX11_order_32 : decode cX11_order 32 = .ok (.ldc 96, 2) := by decide +kernel
theorem dX11_order_34 : decode cX11_order 34 = .ok (.istore 4, 2) := by decide +kernel
theorem dX11_order_36 : decode cX11_order 36 = .ok (.iconst 0, 1) := by decide +kernel
theorem dX11_order_37 : decode cX11_order 37 = .ok (.istore 5, 2) := by decide +kernel
theorem dX11_order_39 : decode cX11_order 39 = .ok (.iload_n 3, 1) := by decide +kernel
theorem dX11_order_40 : decode cX11_order 40 = .ok (.ifCond .eq 98, 3) := by decide +kernel
theorem dX11_order_43 : decode cX11_order 43 = .ok (.ldc 96, 2) := by decide +kernel
theorem dX11_order_45 : decode cX11_order 45 = .ok (.istore 6, 2) := by decide +kernel
theorem dX11_order_47 : decode cX11_order 47 = .ok (.aload_n 0, 1) := by decide +kernel
theorem dX11_order_48 : decode cX11_order 48 = .ok (.getfield 19, 3) := by decide +kernel
theorem dX11_order_51 : decode cX11_order 51 = .ok (.iconst 0, 1) := by decide +kernel
theorem dX11_order_52 : decode cX11_order 52 = .ok (.iaload, 1) := by decide +kernel
theorem dX11_order_53 : decode cX11_order 53 = .ok (.iconst 1, 1) := by decide +kernel
theorem dX11_order_54 : decode cX11_order 54 = .ok (.isub, 1) := by decide +kernel
theorem dX11_order_55 : decode cX11_order 55 = .ok (.istore 7, 2) := by decide +kernel
theorem dX11_order_57 : decode cX11_order 57 = .ok (.iload 7, 2) := by decide +kernel
theorem dX11_order_59 : decode cX11_order 59 = .ok (.ifCond .lt 39, 3) := by decide +kernel
theorem dX11_order_62 : decode cX11_order 62 = .ok (.iload_n 3, 1) := by decide +kernel
theorem dX11_order_63 : decode cX11_order 63 = .ok (.iload 7, 2) := by decide +kernel
theorem dX11_order_65 : decode cX11_order 65 = .ok (.ishr, 1) := by decide +kernel
theorem dX11_order_66 : decode cX11_order 66 = .ok (.iconst 1, 1) := by decide +kernel
theorem dX11_order_67 : decode cX11_order 67 = .ok (.iand, 1) := by decide +kernel
theorem dX11_order_68 : decode cX11_order 68 = .ok (.iconst 1, 1) := by decide +kernel
theorem dX11_order_69 : decode cX11_order 69 = .ok (.if_icmp .ne 19, 3) := by decide +kernel
theorem dX11_order_72 : decode cX11_order 72 = .ok (.aload_n 0, 1) := by decide +kernel
theorem dX11_order_73 : decode cX11_order 73 = .ok (.iload 7, 2) := by decide +kernel
theorem dX11_order_75 : decode cX11_order 75 = .ok (.invokevirtual 233, 3) := by decide +kernel
theorem dX11_order_78 : decode cX11_order 78 = .ok (.iload_n 3, 1) := by decide +kernel
theorem dX11_order_79 : decode cX11_order 79 = .ok (.iand, 1) := by decide +kernel
theorem dX11_order_80 : decode cX11_order 80 = .ok (.ifCond .ne 8, 3) := by decide +kernel
theorem dX11_order_83 : decode cX11_order 83 = .ok (.iload 7, 2) := by decide +kernel
theorem dX11_order_85 : decode cX11_order 85 = .ok (.goto 5, 3) := by decide +kernel
theorem dX11_order_88 : decode cX11_order 88 = .ok (.iload 6, 2) := by decide +kernel
theorem dX11_order_90 : decode cX11_order 90 = .ok (.istore 6, 2) := by decide +kernel
theorem dX11_order_92 : decode cX11_order 92 = .ok (.iinc 7 (-1), 3) := by decide +kernel
theorem dX11_order_95 : decode cX11_order 95 = .ok (.goto (-38), 3) := by decide +kernel
theorem dX11_order_98 : decode cX11_order 98 = .ok (.iload 6, 2) := by decide +kernel
theorem dX11_order_100 : decode cX11_order 100 = .ok (.ldc 96, 2) := by decide +kernel
theorem dX11_order_102 : decode cX11_order 102 = .ok (.if_icmp .ne 6, 3) := by decide +kernel
theorem dX11_order_105 : decode cX11_order 105 = .ok (.ldc 96, 2) := by decide +kernel
theorem dX11_order_107 : decode cX11_order 107 = .ok (.ireturn, 1) := by decide +kernel
theorem dX11_order_108 : decode cX11_order 108 = .ok (.iload 5, 2) := by decide +kernel
theorem dX11_order_110 : decode cX11_order 110 = .ok (.iload_n 2, 1) := by decide +kernel
theorem dX11_order_111 : decode cX11_order 111 = .ok (.if_icmp .ne 8, 3) := by decide +kernel
theorem dX11_order_114 : decode cX11_order 114 = .ok (.iload 6, 2) := by decide +kernel
theorem dX11_order_116 : decode cX11_order 116 = .ok (.goto 5, 3) := by decide +kernel
theorem dX11_order_119 : decode cX11_order 119 = .ok (.iload 4, 2) := by decide +kernel
theorem dX11_order_121 : decode cX11_order 121 = .ok (.istore 4, 2) := by decide +kernel
theorem dX11_order_123 : decode cX11_order 123 = .ok (.iload_n 3, 1) := by decide +kernel
theorem dX11_order_124 : decode cX11_order 124 = .ok (.iconst 1, 1) := by decide +kernel
theorem dX11_order_125 : decode cX11_order 125 = .ok (.iload 6, 2) := by decide +kernel
theorem dX11_order_127 : decode cX11_order 127 = .ok (.ishl, 1) := by decide +kernel
theorem dX11_order_128 : decode cX11_order 128 = .ok (.iconst (-1), 1) := by decide +kernel
theorem dX11_order_129 : decode cX11_order 129 = .ok (.ixor, 1) := by decide +kernel
theorem dX11_order_130 : decode cX11_order 130 = .ok (.iand, 1) := by decide +kernel
theorem dX11_order_131 : decode cX11_order 131 = .ok (.istore_n 3, 1) := by decide +kernel
theorem dX11_order_132 : decode cX11_order 132 = .ok (.iinc 5 1, 3) := by decide +kernel
theorem dX11_order_135 : decode cX11_order 135 = .ok (.goto (-96), 3) := by decide +kernel
theorem dX11_order_138 : decode cX11_order 138 = .ok (.iload 4, 2) := by decide +kernel
theorem dX11_order_140 : decode cX11_order 140 = .ok (.ireturn, 1) := by decide +kernel
def Sp_X11_order (av : List AV) (m : AM) (Φ : Option AV → AM → Prop) : Prop := ∃ f k, av = [vr 11 110, vi f, vi k] ∧ ∃ C, MCo m C ∧ Φ (some (vi (orderV C f k))) (mset m 110 0 (nI 0))
set_option maxRecDepth 20000 in
set_option maxHeartbeats 4000000 in
theorem S_X11_order : Snd yX11_order e_X11_order Sp_X11_order := by
  refine Snd.of (by decide +kernel) rfl ?_ ?_
  · rintro av m Φ ⟨f, K, rfl, _⟩; exact Nat.le_of_ble_eq_true rfl
  rintro av m Φ ⟨f, K, rfl, C, hC0, h⟩ hav hty
  show B e_X11_order Φ 0 [some (vr 11 110), some (vi f), some (vi K), none, none, none, none, none] [] m (0, 0)
  have hC : MCo (mset m 110 0 (nI 0)) C := hC0.ms (by decide)
  have hle := hC.le
  have hpw := hC.pow
  unfold orderV at h
  by_cases hcz : C 0 = 0
  · rw [if_pos hcz] at h
    refine b_aloadN (pc := 0) 0 dX11_order_0 rfl rfl ?_
    refine b_iconst (pc := 1) (nI 0) dX11_order_1 (by decide) ?_
    refine pf11_0 (pc := 2) k1042 dX11_order_2 ?_
    refine b_aloadN (pc := 5) 0 dX11_order_5 rfl rfl ?_
    refine call_X11_isThere (pc := 6) k1292 (by decide) ⟨Nat.le_of_ble_eq_true rfl, Nat.le_of_ble_eq_true rfl⟩ (Nat.le_of_ble_eq_true rfl) dX11_order_6 ?_
    refine ⟨rfl, _, hC.1 0 (by omega), ?_, ?_⟩
    rotate_left -- leaf 0: six of X11_isThere at 6
    refine b_if_ne (pc := 9) 15 dX11_order_9 (by decide) (fun c9 => ?_) (fun c9 => ?_)
    rotate_left -- leaf 1: at 15
    refine b_ldc (pc := 12) k1275 dX11_order_12 ?_
    refine b_iret (pc := 14) rfl dX11_order_14 ⟨Nat.le_of_ble_eq_true rfl, Nat.le_of_ble_eq_true rfl⟩ ?_
    rotate_left -- leaf 2: return at 14
    -- leaves: 0 six of X11_isThere at 6; 1 at 15; 2 return at 14
    · omega
    · have := zF c9; omega
    · exact h
  · rw [if_neg hcz] at h
    have hv := hC.op (Or.inl (by omega))
    have hr := hv.2.2.2.2.2.2.2.2.1
    by_cases hf : inB f (2 ^ C 0) = true ∧ ¬ K < 0
    · rw [if_pos hf] at h
      obtain ⟨F, hF0, rfl⟩ := (inB_iff (by omega)).mp hf.1
      rw [n_cl (by omega)] at h
      have hF : F < 64 := by omega
      have e0 : (mset m 110 0 (nI 0)).1 114 (nI 0).toNatClampNeg = nI (C 0) := by rw [n_cl (by omega)]; exact hC.1 0 (by omega)
      have loop : ∀ n p left told o6 o7, p + n = 6 → left < 64 → pc6 left ≤ n → Φ (some (vi (ordG C K n p left told))) (mset m 110 0 (nI 0)) → B e_X11_order Φ 39 [some (vr 11 110), some (vi (nI F)), some (vi K), some (vi (nI left)), some (vi told), some (vi (nI p)), o6, o7] [] (mset m 110 0 (nI 0)) (0, 0) := by
        intro n
        induction n with
        | zero =>
          intro p left told o6 o7 h1 h2 h3 h4
          have z := pc6_0 h2 (by omega)
          subst z
          refine b_iloadN (pc := 39) 3 dX11_order_39 rfl rfl ?_
          refine b_if_eq (pc := 40) 138 dX11_order_40 (by decide) (fun c40 => ?_) (fun c40 => ?_)
          refine b_iloadG (pc := 138) 4 dX11_order_138 rfl ?_
          refine b_iret (pc := 140) rfl dX11_order_140 ⟨Nat.le_of_ble_eq_true rfl, Nat.le_of_ble_eq_true rfl⟩ ?_
          rotate_left -- leaf 0: return at 140
          rotate_left -- leaf 1: at 43
          -- leaves: 0 return at 140; 1 at 43
          · exact h4
          · exact absurd rfl c40
        | succ n ih =>
          intro p left told o6 o7 h1 h2 h3 h4
          have h5 : Φ (some (vi (if left = 0 then told else match ffN C left (C 0) with | none => -1000000 | some f => ordG C K n (p + 1) (nDel left (2 ^ f)) (if nI p = K then nI f else told)))) (mset m 110 0 (nI 0)) := h4
          by_cases hl0 : left = 0
          · rw [if_pos hl0] at h5
            refine b_iloadN (pc := 39) 3 dX11_order_39 rfl rfl ?_
            refine b_if_eq (pc := 40) 138 dX11_order_40 (by decide) (fun c40 => ?_) (fun c40 => ?_)
            refine b_iloadG (pc := 138) 4 dX11_order_138 rfl ?_
            refine b_iret (pc := 140) rfl dX11_order_140 ⟨Nat.le_of_ble_eq_true rfl, Nat.le_of_ble_eq_true rfl⟩ ?_
            rotate_left -- leaf 0: return at 140
            rotate_left -- leaf 1: at 43
            -- leaves: 0 return at 140; 1 at 43
            · exact h5
            · rw [n_eq0 (by omega)] at c40
              exact absurd hl0 c40
          · rw [if_neg hl0] at h5
            have fin : ∀ v o7, v = oI (ffN C left (C 0)) → B e_X11_order Φ 98 [some (vr 11 110), some (vi (nI F)), some (vi K), some (vi (nI left)), some (vi told), some (vi (nI p)), some (vi v), o7] [] (mset m 110 0 (nI 0)) (0, 0) := by
              intro v o7 hvv
              subst hvv
              cases e : ffN C left (C 0) with
              | none =>
                rw [e] at h5
                refine b_iloadG (pc := 98) 6 dX11_order_98 rfl ?_
                refine b_ldc (pc := 100) k1180 dX11_order_100 ?_
                refine b_icmp_ne (pc := 102) 108 dX11_order_102 (by decide) (fun c102 => ?_) (fun c102 => ?_)
                rotate_left -- leaf 0: at 108
                refine b_ldc (pc := 105) k1180 dX11_order_105 ?_
                refine b_iret (pc := 107) rfl dX11_order_107 ⟨Nat.le_of_ble_eq_true rfl, Nat.le_of_ble_eq_true rfl⟩ ?_
                rotate_left -- leaf 1: return at 107
                -- leaves: 0 at 108; 1 return at 107
                · exact absurd rfl c102
                · exact h5
              | some f =>
                rw [e] at h5
                have hf6 := ffN_lt _ e
                have hfb := ffN_free _ e
                have htb : left.testBit f = true := by
                  unfold freeB at hfb
                  rw [Bool.and_eq_true] at hfb
                  exact hfb.1
                have hdl := pc6_del h2 (by omega) htb
                have ef : oI (some f) = nI f := rfl
                rw [ef]
                refine b_iloadG (pc := 98) 6 dX11_order_98 rfl ?_
                refine b_ldc (pc := 100) k1180 dX11_order_100 ?_
                refine b_icmp_ne (pc := 102) 108 dX11_order_102 (by decide) (fun c102 => ?_) (fun c102 => ?_)
                refine b_iloadG (pc := 108) 5 dX11_order_108 rfl ?_
                refine b_iloadN (pc := 110) 2 dX11_order_110 rfl rfl ?_
                refine b_icmp_ne (pc := 111) 119 dX11_order_111 (by decide) (fun c111 => ?_) (fun c111 => ?_)
                refine b_iloadG (pc := 119) 4 dX11_order_119 rfl ?_
                refine siG4 (pc := 121) notL_i (by decide) dX11_order_121 ?_
                refine b_iloadN (pc := 123) 3 dX11_order_123 rfl rfl ?_
                refine b_iconst (pc := 124) (nI 1) dX11_order_124 (by decide) ?_
                refine b_iloadG (pc := 125) 6 dX11_order_125 rfl ?_
                refine b_ishl (pc := 127) dX11_order_127 ?_
                refine b_iconst (pc := 128) (-1) dX11_order_128 (by decide) ?_
                refine b_ixor (pc := 129) dX11_order_129 ?_
                refine b_iand (pc := 130) dX11_order_130 ?_
                refine siN3 (pc := 131) rfl notL_i (by decide) dX11_order_131 ?_
                refine inc5 (pc := 132) notL_i (by decide) dX11_order_132 ?_
                refine b_goto (pc := 135) 39 dX11_order_135 (by decide) ?_
                rotate_left -- leaf 0: at 39
                refine b_iloadG (pc := 114) 6 dX11_order_114 rfl ?_
                refine b_goto (pc := 116) 121 dX11_order_116 (by decide) ?_
                refine siG4 (pc := 121) notL_i (by decide) dX11_order_121 ?_
                refine b_iloadN (pc := 123) 3 dX11_order_123 rfl rfl ?_
                refine b_iconst (pc := 124) (nI 1) dX11_order_124 (by decide) ?_
                refine b_iloadG (pc := 125) 6 dX11_order_125 rfl ?_
                refine b_ishl (pc := 127) dX11_order_127 ?_
                refine b_iconst (pc := 128) (-1) dX11_order_128 (by decide) ?_
                refine b_ixor (pc := 129) dX11_order_129 ?_
                refine b_iand (pc := 130) dX11_order_130 ?_
                refine siN3 (pc := 131) rfl notL_i (by decide) dX11_order_131 ?_
                refine inc5 (pc := 132) notL_i (by decide) dX11_order_132 ?_
                refine b_goto (pc := 135) 39 dX11_order_135 (by decide) ?_
                rotate_left -- leaf 1: at 39
                refine b_ldc (pc := 105) k1180 dX11_order_105 ?_
                refine b_iret (pc := 107) rfl dX11_order_107 ⟨Nat.le_of_ble_eq_true rfl, Nat.le_of_ble_eq_true rfl⟩ ?_
                rotate_left -- leaf 2: return at 107
                -- leaves: 0 at 39; 1 at 39; 2 return at 107
                · have h6 : Φ (some (vi (ordG C K n (p + 1) (nDel left (2 ^ f)) (if nI p = K then nI f else told)))) (mset m 110 0 (nI 0)) := h5
                  rw [if_neg c111] at h6
                  rw [n_pow (by omega), n_del, n_inc]
                  exact ih (p + 1) _ _ _ _ (by omega) (nDel_lt h2) (by omega) h6
                · have h6 : Φ (some (vi (ordG C K n (p + 1) (nDel left (2 ^ f)) (if nI p = K then nI f else told)))) (mset m 110 0 (nI 0)) := h5
                  rw [if_pos c111] at h6
                  rw [n_pow (by omega), n_del, n_inc]
                  exact ih (p + 1) _ _ _ _ (by omega) (nDel_lt h2) (by omega) h6
                · exact absurd c102 (n_ne_none (show f < 2147483648 by omega))
            have inner : ∀ k v (x : Int32), (k = 0 ∧ x = -1 ∨ ∃ j, k = j + 1 ∧ x = nI j) → k ≤ C 0 → ffR C left k v → B e_X11_order Φ 57 [some (vr 11 110), some (vi (nI F)), some (vi K), some (vi (nI left)), some (vi told), some (vi (nI p)), some (vi v), some (vi x)] [] (mset m 110 0 (nI 0)) (0, 0) := by
              intro k
              induction k with
              | zero =>
                intro v x hx hk hR
                have ex : x = -1 := by
                  rcases hx with z | ⟨j, z, -⟩
                  · exact z.2
                  · omega
                subst ex
                refine b_iloadG (pc := 57) 7 dX11_order_57 rfl ?_
                refine b_if_lt (pc := 59) 98 dX11_order_59 (by decide) (fun c59 => ?_) (fun c59 => ?_)
                rotate_left -- leaf 0: at 98
                rotate_left -- leaf 1: at 62
                -- leaves: 0 at 98; 1 at 62
                · exact fin v _ (ffR_0 hR)
                · exact absurd c59 (by decide)
              | succ k ih2 =>
                intro v x hx hk hR
                have ex : x = nI k := by
                  rcases hx with z | ⟨j, z, w⟩
                  · omega
                  · rw [w, show j = k by omega]
                subst ex
                have hmf := madeF_lt hv.hv 0 k (C 3) (Nat.le_refl _)
                have dn : (k = 0 ∧ nI k + Int32.ofInt (-1) = -1 ∨ ∃ j, k = j + 1 ∧ nI k + Int32.ofInt (-1) = nI j) := by
                  cases k with
                  | zero => exact Or.inl ⟨rfl, dec_0⟩
                  | succ k => exact Or.inr ⟨k, rfl, dec_s k⟩
                have no : freeB C left k = false → ffR C left k v := fun e => by
                  rcases hR with ⟨a, b⟩ | ⟨f, a1, a2, a3, a4, a5⟩
                  · refine Or.inl ⟨a, fun g g1 g2 => ?_⟩
                    rcases Nat.lt_or_ge k g with z | z
                    · exact b g (by omega) g2
                    · rw [show g = k by omega]; exact e
                  · refine Or.inr ⟨f, a1, by omega, a3, a4, fun g g1 g2 => ?_⟩
                    rcases Nat.lt_or_ge k g with z | z
                    · exact a5 g (by omega) g2
                    · rw [show g = k by omega]; exact e
                have yes : freeB C left k = true → ffR C left k (nI k) := fun e => Or.inr ⟨k, rfl, Nat.le_refl _, by omega, e, fun g g1 g2 => by omega⟩
                refine b_iloadG (pc := 57) 7 dX11_order_57 rfl ?_
                refine b_if_lt (pc := 59) 98 dX11_order_59 (by decide) (fun c59 => ?_) (fun c59 => ?_)
                rotate_left -- leaf 0: at 98
                refine b_iloadN (pc := 62) 3 dX11_order_62 rfl rfl ?_
                refine b_iloadG (pc := 63) 7 dX11_order_63 rfl ?_
                refine b_ishr (pc := 65) dX11_order_65 ?_
                refine b_iconst (pc := 66) (nI 1) dX11_order_66 (by decide) ?_
                refine b_iand (pc := 67) dX11_order_67 ?_
                refine b_iconst (pc := 68) (nI 1) dX11_order_68 (by decide) ?_
                refine b_icmp_ne (pc := 69) 88 dX11_order_69 (by decide) (fun c69 => ?_) (fun c69 => ?_)
                refine b_iloadG (pc := 88) 6 dX11_order_88 rfl ?_
                refine siG6 (pc := 90) notL_i (by decide) dX11_order_90 ?_
                refine inc7 (pc := 92) notL_i (by decide) dX11_order_92 ?_
                refine b_goto (pc := 95) 57 dX11_order_95 (by decide) ?_
                rotate_left -- leaf 1: at 57
                refine b_aloadN (pc := 72) 0 dX11_order_72 rfl rfl ?_
                refine b_iloadG (pc := 73) 7 dX11_order_73 rfl ?_
                refine call_X11_madeBy (pc := 75) k1357 (by decide) ⟨Nat.le_of_ble_eq_true rfl, Nat.le_of_ble_eq_true rfl⟩ (Nat.le_of_ble_eq_true rfl) dX11_order_75 ?_
                refine ⟨_, rfl, C, _, hv, hC.1, rfl, ?_, ?_⟩
                rotate_left -- leaf 2: six3 of X11_madeBy at 75
                refine b_iloadN (pc := 78) 3 dX11_order_78 rfl rfl ?_
                refine b_iand (pc := 79) dX11_order_79 ?_
                refine b_if_ne (pc := 80) 88 dX11_order_80 (by decide) (fun c80 => ?_) (fun c80 => ?_)
                refine b_iloadG (pc := 88) 6 dX11_order_88 rfl ?_
                refine siG6 (pc := 90) notL_i (by decide) dX11_order_90 ?_
                refine inc7 (pc := 92) notL_i (by decide) dX11_order_92 ?_
                refine b_goto (pc := 95) 57 dX11_order_95 (by decide) ?_
                rotate_left -- leaf 3: at 57
                refine b_iloadG (pc := 83) 7 dX11_order_83 rfl ?_
                refine b_goto (pc := 85) 90 dX11_order_85 (by decide) ?_
                refine siG6 (pc := 90) notL_i (by decide) dX11_order_90 ?_
                refine inc7 (pc := 92) notL_i (by decide) dX11_order_92 ?_
                refine b_goto (pc := 95) 57 dX11_order_95 (by decide) ?_
                rotate_left -- leaf 4: at 57
                -- leaves: 0 at 98; 1 at 57; 2 six3 of X11_madeBy at 75; 3 at 57; 4 at 57
                · rw [n_lt0 (by omega)] at c59; exact c59.elim
                · rw [tbit_and1 _ _ (by omega) (by omega)] at c69
                  refine ih2 _ _ dn (by omega) (no ?_)
                  unfold freeB
                  cases q : left.testBit k
                  · rfl
                  · rw [if_pos q] at c69; exact absurd rfl c69
                · omega
                · rw [n_and, n_eq0 (by have := Nat.and_lt_two_pow (n := 6) left (show madeF C 0 k (C 3) < 2 ^ 6 from hmf); rw [Nat.and_comm] at this; omega)] at c80
                  refine ih2 _ _ dn (by omega) (no ?_)
                  unfold freeB
                  rw [decide_eq_false c80, Bool.and_false]
                · rw [tbit_and1 _ _ (by omega) (by omega)] at c69
                  rw [n_and, n_eq0 (by have := Nat.and_lt_two_pow (n := 6) left (show madeF C 0 k (C 3) < 2 ^ 6 from hmf); rw [Nat.and_comm] at this; omega)] at c80
                  refine ih2 _ _ dn (by omega) (yes ?_)
                  have e1 : left.testBit k = true := by
                    by_cases q : left.testBit k = true
                    · exact q
                    · rw [if_neg q] at c69; exact absurd c69 (by decide)
                  unfold freeB
                  rw [e1, decide_eq_true c80]; rfl
            refine b_iloadN (pc := 39) 3 dX11_order_39 rfl rfl ?_
            refine b_if_eq (pc := 40) 138 dX11_order_40 (by decide) (fun c40 => ?_) (fun c40 => ?_)
            refine b_iloadG (pc := 138) 4 dX11_order_138 rfl ?_
            refine b_iret (pc := 140) rfl dX11_order_140 ⟨Nat.le_of_ble_eq_true rfl, Nat.le_of_ble_eq_true rfl⟩ ?_
            rotate_left -- leaf 0: return at 140
            refine b_ldc (pc := 43) k1180 dX11_order_43 ?_
            refine siG6 (pc := 45) notL_i (by decide) dX11_order_45 ?_
            refine b_aloadN (pc := 47) 0 dX11_order_47 rfl rfl ?_
            refine gf11_5 (pc := 48) 114 rfl k1047 dX11_order_48 ?_
            refine b_iconst (pc := 51) (nI 0) dX11_order_51 (by decide) ?_
            refine b_iald (pc := 52) (by decide) ?_ dX11_order_52 ?_
            rotate_left -- leaf 1: index at 52
            refine b_iconst (pc := 53) (nI 1) dX11_order_53 (by decide) ?_
            refine b_isub (pc := 54) dX11_order_54 ?_
            refine siG7 (pc := 55) notL_i (by decide) dX11_order_55 ?_
            rotate_left -- leaf 2: at 57
            -- leaves: 0 return at 140; 1 index at 52; 2 at 57
            · rw [n_eq0 (by omega)] at c40; exact absurd c40 hl0
            · exact n_in (by omega) (by omega)
            · rw [e0, n_sub (by omega)]
              exact inner (C 0) _ _ (Or.inr ⟨C 0 - 1, by omega, rfl⟩) (Nat.le_refl _) (Or.inl ⟨rfl, fun g g1 g2 => by omega⟩)
      refine b_aloadN (pc := 0) 0 dX11_order_0 rfl rfl ?_
      refine b_iconst (pc := 1) (nI 0) dX11_order_1 (by decide) ?_
      refine pf11_0 (pc := 2) k1042 dX11_order_2 ?_
      refine b_aloadN (pc := 5) 0 dX11_order_5 rfl rfl ?_
      refine call_X11_isThere (pc := 6) k1292 (by decide) ⟨Nat.le_of_ble_eq_true rfl, Nat.le_of_ble_eq_true rfl⟩ (Nat.le_of_ble_eq_true rfl) dX11_order_6 ?_
      refine ⟨rfl, _, hC.1 0 (by omega), ?_, ?_⟩
      rotate_left -- leaf 0: six of X11_isThere at 6
      refine b_if_ne (pc := 9) 15 dX11_order_9 (by decide) (fun c9 => ?_) (fun c9 => ?_)
      refine b_aloadN (pc := 15) 0 dX11_order_15 rfl rfl ?_
      refine b_iloadN (pc := 16) 1 dX11_order_16 rfl rfl ?_
      refine call_X11_areFacts (pc := 17) k1317 (by decide) ⟨Nat.le_of_ble_eq_true rfl, Nat.le_of_ble_eq_true rfl⟩ (Nat.le_of_ble_eq_true rfl) dX11_order_17 ?_
      refine ⟨_, rfl, _, hC.1 0 (by omega), ?_, ?_⟩
      rotate_left -- leaf 1: six2 of X11_areFacts at 17
      refine b_if_eq (pc := 20) 27 dX11_order_20 (by decide) (fun c20 => ?_) (fun c20 => ?_)
      refine b_ldc (pc := 27) k1140 dX11_order_27 ?_
      refine b_iret (pc := 29) rfl dX11_order_29 ⟨Nat.le_of_ble_eq_true rfl, Nat.le_of_ble_eq_true rfl⟩ ?_
      rotate_left -- leaf 2: return at 29
      refine b_iloadN (pc := 23) 2 dX11_order_23 rfl rfl ?_
      refine b_if_ge (pc := 24) 30 dX11_order_24 (by decide) (fun c24 => ?_) (fun c24 => ?_)
      refine b_iloadN (pc := 30) 1 dX11_order_30 rfl rfl ?_
      refine siN3 (pc := 31) rfl notL_i (by decide) dX11_order_31 ?_
      refine b_ldc (pc := 32) k1180 dX11_order_32 ?_
      refine siG4 (pc := 34) notL_i (by decide) dX11_order_34 ?_
      refine b_iconst (pc := 36) (nI 0) dX11_order_36 (by decide) ?_
      refine siG5 (pc := 37) notL_i (by decide) dX11_order_37 ?_
      rotate_left -- leaf 3: at 39
      refine b_ldc (pc := 27) k1140 dX11_order_27 ?_
      refine b_iret (pc := 29) rfl dX11_order_29 ⟨Nat.le_of_ble_eq_true rfl, Nat.le_of_ble_eq_true rfl⟩ ?_
      rotate_left -- leaf 4: return at 29
      refine b_ldc (pc := 12) k1275 dX11_order_12 ?_
      refine b_iret (pc := 14) rfl dX11_order_14 ⟨Nat.le_of_ble_eq_true rfl, Nat.le_of_ble_eq_true rfl⟩ ?_
      rotate_left -- leaf 5: return at 14
      -- leaves: 0 six of X11_isThere at 6; 1 six2 of X11_areFacts at 17; 2 return at 29; 3 at 39; 4 return at 29; 5 return at 14
      · omega
      · omega
      · rw [hf.1] at c20; exact absurd c20 (by decide)
      · exact loop 6 0 F _ none none (by omega) hF (pc6_le F hF) h
      · exact absurd (Int32.not_le.mp c24) hf.2
      · have := zT c9; omega
    · rw [if_neg hf] at h
      refine b_aloadN (pc := 0) 0 dX11_order_0 rfl rfl ?_
      refine b_iconst (pc := 1) (nI 0) dX11_order_1 (by decide) ?_
      refine pf11_0 (pc := 2) k1042 dX11_order_2 ?_
      refine b_aloadN (pc := 5) 0 dX11_order_5 rfl rfl ?_
      refine call_X11_isThere (pc := 6) k1292 (by decide) ⟨Nat.le_of_ble_eq_true rfl, Nat.le_of_ble_eq_true rfl⟩ (Nat.le_of_ble_eq_true rfl) dX11_order_6 ?_
      refine ⟨rfl, _, hC.1 0 (by omega), ?_, ?_⟩
      rotate_left -- leaf 0: six of X11_isThere at 6
      refine b_if_ne (pc := 9) 15 dX11_order_9 (by decide) (fun c9 => ?_) (fun c9 => ?_)
      refine b_aloadN (pc := 15) 0 dX11_order_15 rfl rfl ?_
      refine b_iloadN (pc := 16) 1 dX11_order_16 rfl rfl ?_
      refine call_X11_areFacts (pc := 17) k1317 (by decide) ⟨Nat.le_of_ble_eq_true rfl, Nat.le_of_ble_eq_true rfl⟩ (Nat.le_of_ble_eq_true rfl) dX11_order_17 ?_
      refine ⟨_, rfl, _, hC.1 0 (by omega), ?_, ?_⟩
      rotate_left -- leaf 1: six2 of X11_areFacts at 17
      refine b_if_eq (pc := 20) 27 dX11_order_20 (by decide) (fun c20 => ?_) (fun c20 => ?_)
      refine b_ldc (pc := 27) k1140 dX11_order_27 ?_
      refine b_iret (pc := 29) rfl dX11_order_29 ⟨Nat.le_of_ble_eq_true rfl, Nat.le_of_ble_eq_true rfl⟩ ?_
      rotate_left -- leaf 2: return at 29
      refine b_iloadN (pc := 23) 2 dX11_order_23 rfl rfl ?_
      refine b_if_ge (pc := 24) 30 dX11_order_24 (by decide) (fun c24 => ?_) (fun c24 => ?_)
      rotate_left -- leaf 3: at 30
      refine b_ldc (pc := 27) k1140 dX11_order_27 ?_
      refine b_iret (pc := 29) rfl dX11_order_29 ⟨Nat.le_of_ble_eq_true rfl, Nat.le_of_ble_eq_true rfl⟩ ?_
      rotate_left -- leaf 4: return at 29
      refine b_ldc (pc := 12) k1275 dX11_order_12 ?_
      refine b_iret (pc := 14) rfl dX11_order_14 ⟨Nat.le_of_ble_eq_true rfl, Nat.le_of_ble_eq_true rfl⟩ ?_
      rotate_left -- leaf 5: return at 14
      -- leaves: 0 six of X11_isThere at 6; 1 six2 of X11_areFacts at 17; 2 return at 29; 3 at 30; 4 return at 29; 5 return at 14
      · omega
      · omega
      · exact h
      · exact absurd ⟨bT c20, fun z => by
          have c24 := Int32.le_iff_toInt_le.mp c24
          rw [i_lt, i_0] at z
          rw [i_0] at c24
          omega⟩ hf
      · exact h
      · have := zT c9; omega
theorem call_X11_order {E : ME} {Φ : Option AV → AM → Prop} {pc : Nat} {L : List (Option AV)} {st : List AV} {m : AM} {a : Nat × Nat} {idx : Nat} {x0 x1 : AV} {i : Nat} (hl : Cond.methodLink E.2.1 idx yX11_order ∈ TB) (hdep : 8 + 1 ≤ E.2.2.2.2.2.2) (hroom : a.1 + 0 ≤ E.2.2.2.2.1 ∧ a.2 + 0 ≤ E.2.2.2.2.2.1) (hsr : st.length ≤ 4) (hd : decode E.1 pc = .ok (.invokevirtual idx, 3)) (hsp : Sp_X11_order [vr 11 i, x0, x1] m (fun r m2 => B E Φ (pc + 3) L (r.toList ++ st) m2 a)) : B E Φ pc L (x1 :: x0 :: vr 11 i :: st) m a := b_callV S_X11_order [x0, x1] (RX11, TX11, 28) rfl rfl (by decide) (Or.inl hl) k1354 k1355 k80 k1356 (show _ ∧ _ ∧ Option.map (fun d => d.parameters.length) (parseMethodDescriptor yX11_order.desc) = some 2 from by decide +kernel) ⟨hdep, by decide⟩ hroom hsr hd hsp
