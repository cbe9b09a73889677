/-! the reference: keep, say, pardon, strike, undo -/
def MAct (m : AM) (a : Nat) (W : Nat → Nat → Nat) : Prop := m.1 110 8 = nI a ∧ a ≤ 24 ∧ ∀ i, i < a → ∀ j, j < 50 → m.1 116 (50 * i + j) = nI (W i j)
theorem MC.fm {li ls : List Nat} {m m2 : AM} {C : Nat → Nat} (hf : Fm li ls m m2) (h : MC m C) (hn : 114 ∉ li) : MC m2 C := fun k hk => by
  rw [hf.2.1 114 (by decide) hn]; exact h k hk
theorem MC.up {m : AM} {C : Nat → Nat} (h : MC m C) {k v : Nat} {x : Int32} (hx : x = nI v) : MC (mset m 114 k x) (upC C k v) := fun j hj => by
  subst hx
  rw [mset_at]
  unfold upC
  by_cases e : j = k
  · rw [if_pos e, if_pos e]
  · rw [if_neg e, if_neg e]; exact h j hj
theorem MC.ms {m : AM} {C : Nat → Nat} (h : MC m C) {i j : Nat} {x : Int32} (hi : 114 ≠ i) : MC (mset m i j x) C := fun k hk => by
  rw [mset_ne _ _ _ hi]; exact h k hk
theorem MAct.fm {li ls : List Nat} {m m2 : AM} {a : Nat} {W : Nat → Nat → Nat} (hf : Fm li ls m m2) (h : MAct m a W) (hn : 116 ∉ li) (h8 : 8 ∉ ls) : MAct m2 a W := by
  unfold MAct
  rw [hf.2.2 8 h8, hf.2.1 116 (by decide) hn]
  exact h
theorem cpy_0 (f g : Nat → Int32) (s d : Nat) : va_cpy f g s d 0 = g := by
  funext k
  unfold va_cpy
  rw [if_neg (by omega)]
theorem cpy_s (f g : Nat → Int32) (s d n : Nat) : upd (va_cpy f g s d n) (d + n) (f (s + n)) = va_cpy f g s d (n + 1) := by
  funext k
  by_cases e : k = d + n
  · subst e
    rw [pk_us]
    unfold va_cpy
    rw [if_pos (by omega), show s + (d + n - d) = s + n by omega]
  · rw [pk_un e]
    unfold va_cpy
    by_cases q : d ≤ k ∧ k < d + n
    · rw [if_pos q, if_pos (by omega)]
    · rw [if_neg q, if_neg (by omega)]
def shF (f : Nat → Int32) (k : Nat) : Nat → Int32 := fun j => if j < k then f (j + 50) else f j
theorem shF_0 (f : Nat → Int32) : shF f 0 = f := by
  funext k
  unfold shF
  rw [if_neg (by omega)]
theorem shF_s (f : Nat → Int32) (k : Nat) : upd (shF f k) k (shF f k (k + 50)) = shF f (k + 1) := by
  funext j
  by_cases e : j = k
  · subst e
    rw [pk_us]
    unfold shF
    rw [if_neg (by omega), if_pos (by omega)]
  · rw [pk_un e]
    unfold shF
    by_cases q : j < k
    · rw [if_pos q, if_pos (by omega)]
    · rw [if_neg q, if_neg (by omega)]
abbrev e_X11_keep : ME := (cX11_keep, (RX11, (2, (none, (0, (0, 1))))))
theorem dX11_keep_0 : decode cX11_keep 0 = .ok (.aload_n 0, 1) := by decide +kernel
theorem dX11_keep_1 : decode cX11_keep 1 = .ok (.getfield 156, 3) := by decide +kernel
theorem dX11_keep_4 : decode cX11_keep 4 = .ok (.bipush 24, 2) := by decide +kernel
theorem dX11_keep_6 : decode cX11_keep 6 = .ok (.if_icmp .ne 43, 3) := by decide +kernel
theorem dX11_keep_9 : decode cX11_keep 9 = .ok (.iconst 0, 1) := by decide +kernel
theorem dX11_keep_10 : decode cX11_keep 10 = .ok (.istore_n 1, 1) := by decide +kernel
theorem dX11_keep_11 : decode cX11_keep 11 = .ok (.iload_n 1, 1) := by decide +kernel
theorem dX11_keep_12 : decode cX11_keep 12 = .ok (.sipush 1150, 3) := by decide +kernel
theorem dX11_keep_15 : decode cX11_keep 15 = .ok (.if_icmp .ge 24, 3) := by decide +kernel
theorem dX11_keep_18 : decode cX11_keep 18 = .ok (.aload_n 0, 1) := by decide +kernel
theorem dX11_keep_19 : decode cX11_keep 19 = .ok (.getfield 25, 3) := by decide +kernel
theorem dX11_keep_22 : decode cX11_keep 22 = .ok (.iload_n 1, 1) := by decide +kernel
theorem dX11_keep_23 : decode cX11_keep 23 = .ok (.aload_n 0, 1) := by decide +kernel
theorem dX11_keep_24 : decode cX11_keep 24 = .ok (.getfield 25, 3) := by decide +kernel
theorem dX11_keep_27 : decode cX11_keep 27 = .ok (.iload_n 1, 1) := by decide +kernel
theorem dX11_keep_28 : decode cX11_keep 28 = .ok (.bipush 50, 2) := by decide +kernel
theorem dX11_keep_30 : decode cX11_keep 30 = .ok (.iadd, 1) := by decide +kernel
theorem dX11_keep_31 : decode cX11_keep 31 = .ok (.iaload, 1) := by decide +kernel
theorem dX11_keep_32 : decode cX11_keep 32 = .ok (.iastore, 1) := by decide +kernel
theorem dX11_keep_33 : decode cX11_keep 33 = .ok (.iinc 1 1, 3) := by decide +kernel
theorem dX11_keep_36 : decode cX11_keep 36 = .ok (.goto (-25), 3) := by decide +kernel
theorem dX11_keep_39 : decode cX11_keep 39 = .ok (.aload_n 0, 1) := by decide +kernel
theorem dX11_keep_40 : decode cX11_keep 40 = .ok (.dup, 1) := by decide +kernel
theorem dX11_keep_41 : decode cX11_keep 41 = .ok (.getfield 156, 3) := by decide +kernel
theorem dX11_keep_44 : decode cX11_keep 44 = .ok (.iconst 1, 1) := by decide +kernel
theorem dX11_keep_45 : decode cX11_keep 45 = .ok (.isub, 1) := by decide +kernel
theorem dX11_keep_46 : decode cX11_keep 46 = .ok (.putfield 156, 3) := by decide +kernel
theorem dX11_keep_49 : decode cX11_keep 49 = .ok (.iconst 0, 1) := by decide +kernel
theorem dX11_keep_50 : decode cX11_keep 50 = .ok (.istore_n 1, 1) := by decide +kernel
theorem dX11_keep_51 : decode cX11_keep 51 = .ok (.iload_n 1, 1) := by decide +kernel
theorem dX11_keep_52 : decode cX11_keep 52 = .ok (.bipush 50, 2) := by decide +kernel
theorem dX11_keep_54 : decode cX11_keep 54 = .ok (.if_icmp .ge 29, 3) := by decide +kernel
theorem dX11_keep_57 : decode cX11_keep 57 = .ok (.aload_n 0, 1) := by decide +kernel
theorem dX11_keep_58 : decode cX11_keep 58 = .ok (.getfield 25, 3) := by decide +kernel
theorem dX11_keep_61 : decode cX11_keep 61 = .ok (.bipush 50, 2) := by decide +kernel
theorem dX11_keep_63 : decode cX11_keep 63 = .ok (.aload_n 0, 1) := by decide +kernel
theorem dX11_keep_64 : decode cX11_keep 64 = .ok (.getfield 156, 3) := by decide +kernel
theorem dX11_keep_67 : decode cX11_keep 67 = .ok (.imul, 1) := by decide +kernel
theorem dX11_keep_68 : decode cX11_keep 68 = .ok (.iload_n 1, 1) := by decide +kernel
theorem dX11_keep_69 : decode cX11_keep 69 = .ok (.iadd, 1) := by decide +kernel
theorem dX11_keep_70 : decode cX11_keep 70 = .ok (.aload_n 0, 1) := by decide +kernel
theorem dX11_keep_71 : decode cX11_keep 71 = .ok (.getfield 19, 3) := by decide +kernel
theorem dX11_keep_74 : decode cX11_keep 74 = .ok (.iload_n 1, 1) := by decide +kernel
theorem dX11_keep_75 : decode cX11_keep 75 = .ok (.iaload, 1) := by decide +kernel
theorem dX11_keep_76 : decode cX11_keep 76 = .ok (.iastore, 1) := by decide +kernel
theorem dX11_keep_77 : decode cX11_keep 77 = .ok (.iinc 1 1, 3) := by decide +kernel
theorem dX11_keep_80 : decode cX11_keep 80 = .ok (.goto (-29), 3) := by decide +kernel
theorem dX11_keep_83 : decode cX11_keep 83 = .ok (.aload_n 0, 1) := by decide +kernel
theorem dX11_keep_84 : decode cX11_keep 84 = .ok (.dup, 1) := by decide +kernel
theorem dX11_keep_85 : decode cX11_keep 85 = .ok (.getfield 156, 3) := by decide +kernel
theorem dX11_keep_88 : decode cX11_keep 88 = .ok (.iconst 1, 1) := by decide +kernel
theorem dX11_keep_89 : decode cX11_keep 89 = .ok (.iadd, 1) := by decide +kernel
theorem dX11_keep_90 : decode cX11_keep 90 = .ok (.putfield 156, 3) := by decide +kernel
theorem dX11_keep_93 : decode cX11_keep 93 = .ok (.return_, 1) := by decide +kernel
def Sp_X11_keep (av : List AV) (m : AM) (Φ : Option AV → AM → Prop) : Prop := av = [vr 11 110] ∧ ∃ C a W, MC m C ∧ MAct m a W ∧ ∀ m2, Fm [116] [8] m m2 → MAct m2 (keepA a) (keepW a W C) → Φ none m2
set_option maxRecDepth 20000 in
set_option maxHeartbeats 4000000 in
theorem S_X11_keep : Snd yX11_keep e_X11_keep Sp_X11_keep := by
  refine Snd.of (by decide +kernel) rfl ?_ ?_
  · rintro av m Φ ⟨rfl, _⟩; exact Nat.le_of_ble_eq_true rfl
  rintro av m Φ ⟨rfl, C, a, W, hM, hA, h⟩ hav hty
  show B e_X11_keep Φ 0 [some (vr 11 110), none] [] m (0, 0)
  have copy : ∀ b (m1 : AM) g, b < 24 → m1.1 110 8 = nI b → m1.1 114 = m.1 114 → (∀ m2, m2 = mset (aset m1 116 (va_cpy (m1.1 114) g 0 (50 * b) 50)) 110 8 (nI (b + 1)) → Φ none m2) → ∀ n k, 51 ≤ k + n → k ≤ 50 → B e_X11_keep Φ 51 [some (vr 11 110), some (vi (nI k))] [] (aset m1 116 (va_cpy (m1.1 114) g 0 (50 * b) k)) (0, 0) := by
    intro b m1 g hb h8 h114 hk n
    have e8 : ∀ f, (aset m1 116 f).1 110 8 = nI b := fun f => by rw [aset_ne _ _ (by decide)]; exact h8
    have e114 : ∀ f, (aset m1 116 f).1 114 = m1.1 114 := fun f => aset_ne _ _ (by decide)
    induction n with
    | zero => intro k h1 h2; omega
    | succ n ih =>
      intro k h1 h2
      refine b_iloadN (pc := 51) 1 dX11_keep_51 rfl rfl ?_
      refine b_bipush (pc := 52) (nI 50) dX11_keep_52 (by decide) ?_
      refine b_icmp_ge (pc := 54) 83 dX11_keep_54 (by decide) (fun c54 => ?_) (fun c54 => ?_)
      refine b_aloadN (pc := 83) 0 dX11_keep_83 rfl rfl ?_
      refine b_dup_r (pc := 84) dX11_keep_84 ?_
      refine gf11_8 (pc := 85) k1050 dX11_keep_85 ?_
      refine b_iconst (pc := 88) (nI 1) dX11_keep_88 (by decide) ?_
      refine b_iadd (pc := 89) dX11_keep_89 ?_
      refine pf11_8 (pc := 90) k1050 dX11_keep_90 ?_
      refine b_vret (pc := 93) rfl dX11_keep_93 ⟨Nat.le_of_ble_eq_true rfl, Nat.le_of_ble_eq_true rfl⟩ ?_
      rotate_left -- leaf 0: return at 93
      refine b_aloadN (pc := 57) 0 dX11_keep_57 rfl rfl ?_
      refine gf11_7 (pc := 58) 116 rfl k1049 dX11_keep_58 ?_
      refine b_bipush (pc := 61) (nI 50) dX11_keep_61 (by decide) ?_
      refine b_aloadN (pc := 63) 0 dX11_keep_63 rfl rfl ?_
      refine gf11_8 (pc := 64) k1050 dX11_keep_64 ?_
      refine b_imul (pc := 67) dX11_keep_67 ?_
      refine b_iloadN (pc := 68) 1 dX11_keep_68 rfl rfl ?_
      refine b_iadd (pc := 69) dX11_keep_69 ?_
      refine b_aloadN (pc := 70) 0 dX11_keep_70 rfl rfl ?_
      refine gf11_5 (pc := 71) 114 rfl k1047 dX11_keep_71 ?_
      refine b_iloadN (pc := 74) 1 dX11_keep_74 rfl rfl ?_
      refine b_iald (pc := 75) (by decide) ?_ dX11_keep_75 ?_
      rotate_left -- leaf 1: index at 75
      refine b_iast (pc := 76) (by decide) ?_ dX11_keep_76 ?_
      rotate_left -- leaf 2: index at 76
      refine inc1 (pc := 77) notL_r (by decide) dX11_keep_77 ?_
      refine b_goto (pc := 80) 51 dX11_keep_80 (by decide) ?_
      rotate_left -- leaf 3: at 51
      -- leaves: 0 return at 93; 1 index at 75; 2 index at 76; 3 at 51
      · rw [n_le (by omega) (by omega)] at c54
        have e : k = 50 := by omega
        subst e
        rw [e8, n_add]
        exact hk _ rfl
      · rw [n_le (by omega) (by omega)] at c54
        exact n_in (by omega) (by omega)
      · rw [n_le (by omega) (by omega)] at c54
        rw [e8, n_mul, n_add]; exact n_in (by omega) (by omega)
      · rw [n_le (by omega) (by omega)] at c54
        rw [e8, e114, n_mul, n_add, n_cl (by omega), n_cl (by omega), n_inc, mset_of_aset]
        have := cpy_s (m1.1 114) g 0 (50 * b) k
        rw [Nat.zero_add] at this
        rw [this]
        exact ih (k + 1) (by omega) (by omega)
  have shift : ∀ n k, 1151 ≤ k + n → k ≤ 1150 → B e_X11_keep Φ 39 [some (vr 11 110), some (vi (nI 1150))] [] (aset m 116 (shF (m.1 116) 1150)) (0, 0) → B e_X11_keep Φ 11 [some (vr 11 110), some (vi (nI k))] [] (aset m 116 (shF (m.1 116) k)) (0, 0) := by
    intro n
    induction n with
    | zero => intro k h1 h2; omega
    | succ n ih =>
      intro k h1 h2 hk
      refine b_iloadN (pc := 11) 1 dX11_keep_11 rfl rfl ?_
      refine b_sipush (pc := 12) (nI 1150) dX11_keep_12 (by decide) ?_
      refine b_icmp_ge (pc := 15) 39 dX11_keep_15 (by decide) (fun c15 => ?_) (fun c15 => ?_)
      rotate_left -- leaf 0: at 39
      refine b_aloadN (pc := 18) 0 dX11_keep_18 rfl rfl ?_
      refine gf11_7 (pc := 19) 116 rfl k1049 dX11_keep_19 ?_
      refine b_iloadN (pc := 22) 1 dX11_keep_22 rfl rfl ?_
      refine b_aloadN (pc := 23) 0 dX11_keep_23 rfl rfl ?_
      refine gf11_7 (pc := 24) 116 rfl k1049 dX11_keep_24 ?_
      refine b_iloadN (pc := 27) 1 dX11_keep_27 rfl rfl ?_
      refine b_bipush (pc := 28) (nI 50) dX11_keep_28 (by decide) ?_
      refine b_iadd (pc := 30) dX11_keep_30 ?_
      refine b_iald (pc := 31) (by decide) ?_ dX11_keep_31 ?_
      rotate_left -- leaf 1: index at 31
      refine b_iast (pc := 32) (by decide) ?_ dX11_keep_32 ?_
      rotate_left -- leaf 2: index at 32
      refine inc1 (pc := 33) notL_r (by decide) dX11_keep_33 ?_
      refine b_goto (pc := 36) 11 dX11_keep_36 (by decide) ?_
      rotate_left -- leaf 3: at 11
      -- leaves: 0 at 39; 1 index at 31; 2 index at 32; 3 at 11
      · rw [n_le (by omega) (by omega)] at c15
        have e : k = 1150 := by omega
        subst e
        exact hk
      all_goals rw [n_le (by omega) (by omega)] at c15
      · rw [n_add]; exact n_in (by omega) (by omega)
      · exact n_in (by omega) (by omega)
      · rw [n_add, n_cl (by omega), n_cl (by omega), n_inc, mset_of_aset, aset_at, shF_s]
        exact ih (k + 1) (by omega) (by omega) hk
  have ha := hA.2.1
  have h8 := hA.1
  refine b_aloadN (pc := 0) 0 dX11_keep_0 rfl rfl ?_
  refine gf11_8 (pc := 1) k1050 dX11_keep_1 ?_
  refine b_bipush (pc := 4) (nI 24) dX11_keep_4 (by decide) ?_
  refine b_icmp_ne (pc := 6) 49 dX11_keep_6 (by decide) (fun c6 => ?_) (fun c6 => ?_)
  rotate_left -- leaf 0: at 49
  refine b_iconst (pc := 9) (nI 0) dX11_keep_9 (by decide) ?_
  refine siN1 (pc := 10) rfl notL_r (by decide) dX11_keep_10 ?_
  rotate_left -- leaf 1: at 11
  -- leaves: 0 at 49; 1 at 11
  · rw [h8, n_eq (by omega) (by omega)] at c6
    refine b_iconst (pc := 49) (nI 0) dX11_keep_49 (by decide) ?_
    refine siN1 (pc := 50) rfl notL_r (by decide) dX11_keep_50 ?_
    rotate_left -- leaf 0: at 51
    -- leaves: 0 at 51
    have l := copy a m (m.1 116) (by omega) h8 rfl (fun m2 e => by
      subst e
      refine h _ (((Fm.rf _ _ m).as (by decide) (by simp)).m0 (by simp)) ⟨?_, ?_, fun i hi j hj => ?_⟩
      · unfold keepA
        rw [mset_at, if_pos rfl, if_neg c6]
      · unfold keepA
        split <;> omega
      · rw [mset_ne _ _ _ (by decide), aset_at]
        unfold keepA at hi
        rw [if_neg c6] at hi
        unfold keepW va_cpy
        rw [if_neg c6]
        by_cases e : i = a
        · subst e
          rw [if_pos (by omega), if_pos rfl, show 0 + (50 * i + j - 50 * i) = j by omega]
          exact hM j hj
        · rw [if_neg (by omega), if_neg e]
          exact hA.2.2 i (by omega) j hj) 51 0 (by omega) (by omega)
    rw [cpy_0, aset_self _ _ _ rfl] at l
    exact l
  · rw [h8, n_eq (by omega) (by omega)] at c6
    have s0 := shift 1151 0 (by omega) (by omega)
    rw [shF_0, aset_self _ _ _ rfl] at s0
    refine s0 ?_
    have e8 : ∀ f, (aset m 116 f).1 110 8 = nI a := fun f => by rw [aset_ne _ _ (by decide)]; exact h8
    refine b_aloadN (pc := 39) 0 dX11_keep_39 rfl rfl ?_
    refine b_dup_r (pc := 40) dX11_keep_40 ?_
    refine gf11_8 (pc := 41) k1050 dX11_keep_41 ?_
    refine b_iconst (pc := 44) (nI 1) dX11_keep_44 (by decide) ?_
    refine b_isub (pc := 45) dX11_keep_45 ?_
    refine pf11_8 (pc := 46) k1050 dX11_keep_46 ?_
    refine b_iconst (pc := 49) (nI 0) dX11_keep_49 (by decide) ?_
    refine siN1 (pc := 50) rfl notL_r (by decide) dX11_keep_50 ?_
    rotate_left -- leaf 0: at 51
    -- leaves: 0 at 51
    rw [e8, n_sub (by omega), c6]
    have l := copy 23 (mset (aset m 116 (shF (m.1 116) 1150)) 110 8 (nI (24 - 1))) (shF (m.1 116) 1150) (by omega) (by rw [mset_at, if_pos rfl]) (by rw [mset_ne _ _ _ (by decide), aset_ne _ _ (by decide)]) (fun m2 e => by
      subst e
      refine h _ (((((Fm.rf _ _ m).as (by decide) (by simp)).m0 (by simp)).as (by decide) (by simp)).m0 (by simp)) ⟨?_, ?_, fun i hi j hj => ?_⟩
      · unfold keepA
        rw [mset_at, if_pos rfl, if_pos c6]
      · unfold keepA
        split <;> omega
      · rw [mset_ne _ _ _ (by decide), aset_at]
        unfold keepA at hi
        rw [if_pos c6] at hi
        unfold keepW va_cpy
        rw [if_pos c6]
        by_cases e : i = 23
        · subst e
          rw [if_pos (by omega), if_pos rfl, mset_ne _ _ _ (by decide), aset_ne _ _ (by decide)]
          rw [show 0 + (50 * 23 + j - 50 * 23) = j by omega]
          exact hM j hj
        · rw [if_neg (by omega), if_neg e]
          unfold shF
          rw [if_pos (by omega), show 50 * i + j + 50 = 50 * (i + 1) + j by omega]
          exact hA.2.2 (i + 1) (by omega) j hj) 51 0 (by omega) (by omega)
    rw [cpy_0] at l
    rw [aset_self _ _ _ (by rw [mset_ne _ _ _ (by decide), aset_at])] at l
    exact l
theorem call_X11_keep {E : ME} {Φ : Option AV → AM → Prop} {pc : Nat} {L : List (Option AV)} {st : List AV} {m : AM} {a : Nat × Nat} {idx : Nat} {i : Nat} (hl : Cond.methodLink E.2.1 idx yX11_keep ∈ TB) (hdep : 1 + 1 ≤ E.2.2.2.2.2.2) (hroom : a.1 + 0 ≤ E.2.2.2.2.1 ∧ a.2 + 0 ≤ E.2.2.2.2.2.1) (hsr : st.length ≤ 4) (hd : decode E.1 pc = .ok (.invokevirtual idx, 3)) (hsp : Sp_X11_keep [vr 11 i] m (fun r m2 => B E Φ (pc + 3) L (r.toList ++ st) m2 a)) : B E Φ pc L (vr 11 i :: st) m a := b_callV S_X11_keep [] (RX11, TX11, 28) rfl rfl (by decide) (Or.inl hl) k1239 k44 k80 k1240 (show _ ∧ _ ∧ Option.map (fun d => d.parameters.length) (parseMethodDescriptor yX11_keep.desc) = some 0 from by decide +kernel) ⟨hdep, by decide⟩ hroom hsr hd hsp
theorem Fm.st {li ls : List Nat} {m m2 : AM} {j : Nat} {x : Int32} (hf : Fm li ls (mset m 110 j x) m2) (hj : j ∈ ls) : Fm li ls m m2 := (Fm.m0 (Fm.rf li ls m) hj).tr hf
theorem MAct.m0 {m : AM} {a : Nat} {W : Nat → Nat → Nat} (h : MAct m a W) {j : Nat} {x : Int32} (hj : j ≠ 8) : MAct (mset m 110 j x) a W := by
  unfold MAct
  rw [mset_at, if_neg (Ne.symm hj), mset_ne _ _ _ (show 116 ≠ 110 by decide)]
  exact h
theorem MAct.ms {m : AM} {a : Nat} {W : Nat → Nat → Nat} (h : MAct m a W) {i j : Nat} {x : Int32} (hi : 110 ≠ i) (h2 : 116 ≠ i) : MAct (mset m i j x) a W := by
  unfold MAct
  rw [mset_ne _ _ _ hi, mset_ne _ _ _ h2]
  exact h
abbrev e_X11_pardon : ME := (cX11_pardon, (RX11, (2, ((some .int), (0, (0, 8))))))
theorem dX11_pardon_0 : decode cX11_pardon 0 = .ok (.aload_n 0, 1) := by decide +kernel
theorem dX11_pardon_1 : decode cX11_pardon 1 = .ok (.iconst 0, 1) := by decide +kernel
theorem dX11_pardon_2 : decode cX11_pardon 2 = .ok (.putfield 53, 3) := by decide +kernel
theorem dX11_pardon_5 : decode cX11_pardon 5 = .ok (.aload_n 0, 1) := by decide +kernel
theorem dX11_pardon_6 : decode cX11_pardon 6 = .ok (.iload_n 1, 1) := by decide +kernel
theorem dX11_pardon_7 : decode cX11_pardon 7 = .ok (.invokevirtual 192, 3) := by decide +kernel
theorem dX11_pardon_10 : decode cX11_pardon 10 = .ok (.ifCond .ne 6, 3) := by decide +kernel
theorem dX11_pardon_13 : decode cX11_pardon 13 = .ok (.ldc 73, 2) := by decide +kernel
theorem dX11_pardon_15 : decode cX11_pardon 15 = .ok (.ireturn, 1) := by decide +kernel
theorem dX11_pardon_16 : decode cX11_pardon 16 = .ok (.aload_n 0, 1) := by decide +kernel
theorem dX11_pardon_17 : decode cX11_pardon 17 = .ok (.getfield 19, 3) := by decide +kernel
theorem dX11_pardon_20 : decode cX11_pardon 20 = .ok (.iconst 5, 1) := by decide +kernel
theorem dX11_pardon_21 : decode cX11_pardon 21 = .ok (.iaload, 1) := by decide +kernel
theorem dX11_pardon_22 : decode cX11_pardon 22 = .ok (.iload_n 1, 1) := by decide +kernel
theorem dX11_pardon_23 : decode cX11_pardon 23 = .ok (.ishr, 1) := by decide +kernel
theorem dX11_pardon_24 : decode cX11_pardon 24 = .ok (.iconst 1, 1) := by decide +kernel
theorem dX11_pardon_25 : decode cX11_pardon 25 = .ok (.iand, 1) := by decide +kernel
theorem dX11_pardon_26 : decode cX11_pardon 26 = .ok (.ifCond .ne 6, 3) := by decide +kernel
theorem dX11_pardon_29 : decode cX11_pardon 29 = .ok (.ldc 195, 2) := by decide +kernel
theorem dX11_pardon_31 : decode cX11_pardon 31 = .ok (.ireturn, 1) := by decide +kernel
theorem dX11_pardon_32 : decode cX11_pardon 32 = .ok (.aload_n 0, 1) := by decide +kernel
theorem dX11_pardon_33 : decode cX11_pardon 33 = .ok (.invokevirtual 183, 3) := by decide +kernel
theorem dX11_pardon_36 : decode cX11_pardon 36 = .ok (.aload_n 0, 1) := by decide +kernel
theorem dX11_pardon_37 : decode cX11_pardon 37 = .ok (.getfield 19, 3) := by decide +kernel
theorem dX11_pardon_40 : decode cX11_pardon 40 = .ok (.iconst 5, 1) := by decide +kernel
theorem dX11_pardon_41 : decode cX11_pardon 41 = .ok (.dup2, 1) := by decide +kernel
theorem dX11_pardon_42 : decode cX11_pardon 42 = .ok (.iaload, 1) := by decide +kernel
theorem dX11_pardon_43 : decode cX11_pardon 43 = .ok (.iconst 1, 1) := by decide +kernel
theorem dX11_pardon_44 : decode cX11_pardon 44 = .ok (.iload_n 1, 1) := by decide +kernel
theorem dX11_pardon_45 : decode cX11_pardon 45 = .ok (.ishl, 1) := by decide +kernel
theorem dX11_pardon_46 : decode cX11_pardon 46 = .ok (.iconst (-1), 1) := by decide +kernel
theorem dX11_pardon_47 : decode cX11_pardon 47 = .ok (.ixor, 1) := by decide +kernel
theorem dX11_pardon_48 : decode cX11_pardon 48 = .ok (.iand, 1) := by decide +kernel
theorem dX11_pardon_49 : decode cX11_pardon 49 = .ok (.iastore, 1) := by decide +kernel
theorem dX11_pardon_50 : decode cX11_pardon 50 = .ok (.aload_n 0, 1) := by decide +kernel
theorem dX11_pardon_51 : decode cX11_pardon 51 = .ok (.getfield 19, 3) := by decide +kernel
theorem dX11_pardon_54 : decode cX11_pardon 54 = .ok (.iconst 5, 1) := by decide +kernel
theorem dX11_pardon_55 : decode cX11_pardon 55 = .ok (.iaload, 1) := by decide +kernel
theorem dX11_pardon_56 : decode cX11_pardon 56 = .ok (.ireturn, 1) := by decide +kernel
def Sp_X11_pardon (av : List AV) (m : AM) (Φ : Option AV → AM → Prop) : Prop := ∃ f, av = [vr 11 110, vi f] ∧ ∃ C a W, MCo m C ∧ MAct m a W ∧ (inB f (C 0) = false → ∀ m2, Fm [] [0] m m2 → Φ (some (vi (-1000001))) m2) ∧ (inB f (C 0) = true → (C 5).testBit f.toNatClampNeg = false → ∀ m2, Fm [] [0] m m2 → Φ (some (vi (-1000002))) m2) ∧ (inB f (C 0) = true → (C 5).testBit f.toNatClampNeg = true → ∀ m2, Fm [114, 116] [0, 8] m m2 → MC m2 (parN C f.toNatClampNeg) → MAct m2 (keepA a) (keepW a W C) → Φ (some (vi (nI (parN C f.toNatClampNeg 5)))) m2)
set_option maxRecDepth 20000 in
set_option maxHeartbeats 4000000 in
theorem S_X11_pardon : Snd yX11_pardon e_X11_pardon Sp_X11_pardon := by
  refine Snd.of (by decide +kernel) rfl ?_ ?_
  · rintro av m Φ ⟨f, rfl, _⟩; exact Nat.le_of_ble_eq_true rfl
  rintro av m Φ ⟨f, rfl, C, a, W, hC0, hA, h1, h2, h3⟩ hav hty
  show B e_X11_pardon Φ 0 [some (vr 11 110), some (vi f)] [] m (0, 0)
  have hC : MCo (mset m 110 0 (nI 0)) C := hC0.ms (by decide)
  have hle := hC.le
  by_cases hf : inB f (C 0) = true
  · obtain ⟨j, hj, rfl⟩ := (inB_iff (by omega)).mp hf
    have hv := hC.op (Or.inl (by omega))
    have h5 := hv.c5
    rw [n_cl (by omega)] at h2 h3
    have e5 : ∀ {m2 : AM}, MC m2 C → (m2.1 114 (nI 5).toNatClampNeg >>> (nI j &&& 31)) &&& nI 1 = nI (if (C 5).testBit j = true then 1 else 0) := fun hM => by
      rw [n_cl (by omega), hM 5 (by omega), tbit_and1 _ _ (by omega) (by omega)]
    refine b_aloadN (pc := 0) 0 dX11_pardon_0 rfl rfl ?_
    refine b_iconst (pc := 1) (nI 0) dX11_pardon_1 (by decide) ?_
    refine pf11_0 (pc := 2) k1042 dX11_pardon_2 ?_
    refine b_aloadN (pc := 5) 0 dX11_pardon_5 rfl rfl ?_
    refine b_iloadN (pc := 6) 1 dX11_pardon_6 rfl rfl ?_
    refine call_X11_isFact (pc := 7) k1271 (by decide) ⟨Nat.le_of_ble_eq_true rfl, Nat.le_of_ble_eq_true rfl⟩ (Nat.le_of_ble_eq_true rfl) dX11_pardon_7 ?_
    refine ⟨_, rfl, _, hC.1 0 (by omega), ?_, ?_⟩
    rotate_left -- leaf 0: small of X11_isFact at 7
    refine b_if_ne (pc := 10) 16 dX11_pardon_10 (by decide) (fun c10 => ?_) (fun c10 => ?_)
    refine b_aloadN (pc := 16) 0 dX11_pardon_16 rfl rfl ?_
    refine gf11_5 (pc := 17) 114 rfl k1047 dX11_pardon_17 ?_
    refine b_iconst (pc := 20) (nI 5) dX11_pardon_20 (by decide) ?_
    refine b_iald (pc := 21) (by decide) ?_ dX11_pardon_21 ?_
    rotate_left -- leaf 1: index at 21
    refine b_iloadN (pc := 22) 1 dX11_pardon_22 rfl rfl ?_
    refine b_ishr (pc := 23) dX11_pardon_23 ?_
    refine b_iconst (pc := 24) (nI 1) dX11_pardon_24 (by decide) ?_
    refine b_iand (pc := 25) dX11_pardon_25 ?_
    refine b_if_ne (pc := 26) 32 dX11_pardon_26 (by decide) (fun c26 => ?_) (fun c26 => ?_)
    refine b_aloadN (pc := 32) 0 dX11_pardon_32 rfl rfl ?_
    refine call_X11_keep (pc := 33) k1237 (by decide) ⟨Nat.le_of_ble_eq_true rfl, Nat.le_of_ble_eq_true rfl⟩ (Nat.le_of_ble_eq_true rfl) dX11_pardon_33 ?_
    refine ⟨rfl, C, a, W, hC.1, hA.m0 (by decide), fun m33 fm33 ac33 => ?_⟩
    refine b_aloadN (pc := 36) 0 dX11_pardon_36 rfl rfl ?_
    refine gf11_5 (pc := 37) 114 rfl k1047 dX11_pardon_37 ?_
    refine b_iconst (pc := 40) (nI 5) dX11_pardon_40 (by decide) ?_
    refine b_dup2 (pc := 41) dX11_pardon_41 ?_
    refine b_iald (pc := 42) (by decide) ?_ dX11_pardon_42 ?_
    rotate_left -- leaf 2: index at 42
    refine b_iconst (pc := 43) (nI 1) dX11_pardon_43 (by decide) ?_
    refine b_iloadN (pc := 44) 1 dX11_pardon_44 rfl rfl ?_
    refine b_ishl (pc := 45) dX11_pardon_45 ?_
    refine b_iconst (pc := 46) (-1) dX11_pardon_46 (by decide) ?_
    refine b_ixor (pc := 47) dX11_pardon_47 ?_
    refine b_iand (pc := 48) dX11_pardon_48 ?_
    refine b_iast (pc := 49) (by decide) ?_ dX11_pardon_49 ?_
    rotate_left -- leaf 3: index at 49
    refine b_aloadN (pc := 50) 0 dX11_pardon_50 rfl rfl ?_
    refine gf11_5 (pc := 51) 114 rfl k1047 dX11_pardon_51 ?_
    refine b_iconst (pc := 54) (nI 5) dX11_pardon_54 (by decide) ?_
    refine b_iald (pc := 55) (by decide) ?_ dX11_pardon_55 ?_
    rotate_left -- leaf 4: index at 55
    refine b_iret (pc := 56) rfl dX11_pardon_56 ⟨Nat.le_of_ble_eq_true rfl, Nat.le_of_ble_eq_true rfl⟩ ?_
    rotate_left -- leaf 5: return at 56
    refine b_ldc (pc := 29) k1275 dX11_pardon_29 ?_
    refine b_iret (pc := 31) rfl dX11_pardon_31 ⟨Nat.le_of_ble_eq_true rfl, Nat.le_of_ble_eq_true rfl⟩ ?_
    rotate_left -- leaf 6: return at 31
    refine b_ldc (pc := 13) k1140 dX11_pardon_13 ?_
    refine b_iret (pc := 15) rfl dX11_pardon_15 ⟨Nat.le_of_ble_eq_true rfl, Nat.le_of_ble_eq_true rfl⟩ ?_
    rotate_left -- leaf 7: return at 15
    -- leaves: 0 small of X11_isFact at 7; 1 index at 21; 2 index at 42; 3 index at 49; 4 index at 55; 5 return at 56; 6 return at 31; 7 return at 15
    · omega
    · exact n_in (by omega) (by omega)
    · exact n_in (by omega) (by omega)
    · exact n_in (by omega) (by omega)
    · exact n_in (by omega) (by omega)
    · rw [e5 hC.1] at c26
      have hM := MC.fm fm33 hC.1 (by simp)
      have ev : m33.1 114 (nI 5).toNatClampNeg &&& (nI 1 <<< (nI j &&& 31) ^^^ -1) = nI (nDel (C 5) (2 ^ j)) := by
        rw [n_cl (by omega), hM 5 (by omega), n_pow (by omega)]
        exact n_del _ _
      have e5b : parN C j 5 = nDel (C 5) (2 ^ j) := upC_at C _ _
      rw [n_cl (by omega)] at ev ⊢
      rw [e5b] at h3
      rw [mset_at, if_pos rfl, ev]
      exact h3 hf (bT c26) _ ((((fm33.mono (by simp) (by simp)).st (by simp)).ms (by decide) (by simp))) (hM.up rfl) (ac33.ms (by decide) (by decide))
    · rw [e5 hC.1] at c26
      exact h2 hf (bF c26) _ ((Fm.rf _ _ m).m0 (by simp))
    · rw [hf] at c10; exact absurd c10 (by decide)
  · have q : inB f (C 0) = false := by
      cases e : inB f (C 0)
      · rfl
      · exact absurd e hf
    refine b_aloadN (pc := 0) 0 dX11_pardon_0 rfl rfl ?_
    refine b_iconst (pc := 1) (nI 0) dX11_pardon_1 (by decide) ?_
    refine pf11_0 (pc := 2) k1042 dX11_pardon_2 ?_
    refine b_aloadN (pc := 5) 0 dX11_pardon_5 rfl rfl ?_
    refine b_iloadN (pc := 6) 1 dX11_pardon_6 rfl rfl ?_
    refine call_X11_isFact (pc := 7) k1271 (by decide) ⟨Nat.le_of_ble_eq_true rfl, Nat.le_of_ble_eq_true rfl⟩ (Nat.le_of_ble_eq_true rfl) dX11_pardon_7 ?_
    refine ⟨_, rfl, _, hC.1 0 (by omega), ?_, ?_⟩
    rotate_left -- leaf 0: small of X11_isFact at 7
    refine b_if_ne (pc := 10) 16 dX11_pardon_10 (by decide) (fun c10 => ?_) (fun c10 => ?_)
    rotate_left -- leaf 1: at 16
    refine b_ldc (pc := 13) k1140 dX11_pardon_13 ?_
    refine b_iret (pc := 15) rfl dX11_pardon_15 ⟨Nat.le_of_ble_eq_true rfl, Nat.le_of_ble_eq_true rfl⟩ ?_
    rotate_left -- leaf 2: return at 15
    -- leaves: 0 small of X11_isFact at 7; 1 at 16; 2 return at 15
    · omega
    · rw [q] at c10; exact absurd rfl c10
    · exact h1 q _ ((Fm.rf _ _ m).m0 (by simp))
theorem call_X11_pardon {E : ME} {Φ : Option AV → AM → Prop} {pc : Nat} {L : List (Option AV)} {st : List AV} {m : AM} {a : Nat × Nat} {idx : Nat} {x0 : AV} {i : Nat} (hl : Cond.methodLink E.2.1 idx yX11_pardon ∈ TB) (hdep : 8 + 1 ≤ E.2.2.2.2.2.2) (hroom : a.1 + 0 ≤ E.2.2.2.2.1 ∧ a.2 + 0 ≤ E.2.2.2.2.2.1) (hsr : st.length ≤ 4) (hd : decode E.1 pc = .ok (.invokevirtual idx, 3)) (hsp : Sp_X11_pardon [vr 11 i, x0] m (fun r m2 => B E Φ (pc + 3) L (r.toList ++ st) m2 a)) : B E Φ pc L (x0 :: vr 11 i :: st) m a := b_callV S_X11_pardon [x0] (RX11, TX11, 28) rfl rfl (by decide) (Or.inl hl) k1268 k1269 k80 k1270 (show _ ∧ _ ∧ Option.map (fun d => d.parameters.length) (parseMethodDescriptor yX11_pardon.desc) = some 1 from by decide +kernel) ⟨hdep, by decide⟩ hroom hsr hd hsp
abbrev e_X11_say : ME := (cX11_say, (RX11, (4, ((some .int), (0, (0, 8))))))
theorem dX11_say_0 : decode cX11_say 0 = .ok (.aload_n 0, 1) := by decide +kernel
theorem dX11_say_1 : decode cX11_say 1 = .ok (.iconst 0, 1) := by decide +kernel
theorem dX11_say_2 : decode cX11_say 2 = .ok (.putfield 53, 3) := by decide +kernel
theorem dX11_say_5 : decode cX11_say 5 = .ok (.aload_n 0, 1) := by decide +kernel
theorem dX11_say_6 : decode cX11_say 6 = .ok (.iload_n 1, 1) := by decide +kernel
theorem dX11_say_7 : decode cX11_say 7 = .ok (.invokevirtual 176, 3) := by decide +kernel
theorem dX11_say_10 : decode cX11_say 10 = .ok (.ifCond .eq 12, 3) := by decide +kernel
theorem dX11_say_13 : decode cX11_say 13 = .ok (.aload_n 0, 1) := by decide +kernel
theorem dX11_say_14 : decode cX11_say 14 = .ok (.iload_n 2, 1) := by decide +kernel
theorem dX11_say_15 : decode cX11_say 15 = .ok (.i2l, 1) := by decide +kernel
theorem dX11_say_16 : decode cX11_say 16 = .ok (.invokevirtual 179, 3) := by decide +kernel
theorem dX11_say_19 : decode cX11_say 19 = .ok (.ifCond .ne 6, 3) := by decide +kernel
theorem dX11_say_22 : decode cX11_say 22 = .ok (.ldc 73, 2) := by decide +kernel
theorem dX11_say_24 : decode cX11_say 24 = .ok (.ireturn, 1) := by decide +kernel
theorem dX11_say_25 : decode cX11_say 25 = .ok (.aload_n 0, 1) := by decide +kernel
theorem dX11_say_26 : decode cX11_say 26 = .ok (.getfield 19, 3) := by decide +kernel
theorem dX11_say_29 : decode cX11_say 29 = .ok (.bipush 7, 2) := by decide +kernel
theorem dX11_say_31 : decode cX11_say 31 = .ok (.iaload, 1) := by decide +kernel
theorem dX11_say_32 : decode cX11_say 32 = .ok (.sipush 999, 3) := by decide +kernel
theorem dX11_say_35 : decode cX11_say 35 = .ok (.if_icmp .ne 6, 3) := by decide +kernel
theorem dX11_say_38 : decode cX11_say 38 = .ok (.ldc 83, 2) := by decide +kernel
theorem dX11_say_40 : decode cX11_say 40 = .ok (.ireturn, 1) := by decide +kernel
theorem dX11_say_41 : decode cX11_say 41 = .ok (.aload_n 0, 1) := by decide +kernel
theorem dX11_say_42 : decode cX11_say 42 = .ok (.invokevirtual 183, 3) := by decide +kernel
theorem dX11_say_45 : decode cX11_say 45 = .ok (.aload_n 0, 1) := by decide +kernel
theorem dX11_say_46 : decode cX11_say 46 = .ok (.iload_n 1, 1) := by decide +kernel
theorem dX11_say_47 : decode cX11_say 47 = .ok (.aload_n 0, 1) := by decide +kernel
theorem dX11_say_48 : decode cX11_say 48 = .ok (.getfield 19, 3) := by decide +kernel
theorem dX11_say_51 : decode cX11_say 51 = .ok (.iconst 1, 1) := by decide +kernel
theorem dX11_say_52 : decode cX11_say 52 = .ok (.iaload, 1) := by decide +kernel
theorem dX11_say_53 : decode cX11_say 53 = .ok (.aload_n 0, 1) := by decide +kernel
theorem dX11_say_54 : decode cX11_say 54 = .ok (.getfield 19, 3) := by decide +kernel
theorem dX11_say_57 : decode cX11_say 57 = .ok (.iconst 5, 1) := by decide +kernel
theorem dX11_say_58 : decode cX11_say 58 = .ok (.iaload, 1) := by decide +kernel
theorem dX11_say_59 : decode cX11_say 59 = .ok (.iload_n 2, 1) := by decide +kernel
theorem dX11_say_60 : decode cX11_say 60 = .ok (.invokevirtual 186, 3) := by decide +kernel
theorem dX11_say_63 : decode cX11_say 63 = .ok (.istore_n 3, 1) := by decide +kernel
theorem dX11_say_64 : decode cX11_say 64 = .ok (.aload_n 0, 1) := by decide +kernel
theorem dX11_say_65 : decode cX11_say 65 = .ok (.getfield 19, 3) := by decide +kernel
theorem dX11_say_68 : decode cX11_say 68 = .ok (.iconst 5, 1) := by decide +kernel
theorem dX11_say_69 : decode cX11_say 69 = .ok (.dup2, 1) := by decide +kernel
theorem dX11_say_70 : decode cX11_say 70 = .ok (.iaload, 1) := by decide +kernel
theorem dX11_say_71 : decode cX11_say 71 = .ok (.iconst 1, 1) := by decide +kernel
theorem dX11_say_72 : decode cX11_say 72 = .ok (.iload_n 2, 1) := by decide +kernel
theorem dX11_say_73 : decode cX11_say 73 = .ok (.iconst 2, 1) := by decide +kernel
theorem dX11_say_74 : decode cX11_say 74 = .ok (.idiv, 1) := by decide +kernel
theorem dX11_say_75 : decode cX11_say 75 = .ok (.ishl, 1) := by decide +kernel
theorem dX11_say_76 : decode cX11_say 76 = .ok (.ior, 1) := by decide +kernel
theorem dX11_say_77 : decode cX11_say 77 = .ok (.iastore, 1) := by decide +kernel
theorem dX11_say_78 : decode cX11_say 78 = .ok (.aload_n 0, 1) := by decide +kernel
theorem dX11_say_79 : decode cX11_say 79 = .ok (.getfield 19, 3) := by decide +kernel
theorem dX11_say_82 : decode cX11_say 82 = .ok (.bipush 7, 2) := by decide +kernel
theorem dX11_say_84 : decode cX11_say 84 = .ok (.dup2, 1) := by decide +kernel
theorem dX11_say_85 : decode cX11_say 85 = .ok (.iaload, 1) := by decide +kernel
theorem dX11_say_86 : decode cX11_say 86 = .ok (.iconst 1, 1) := by decide +kernel
theorem dX11_say_87 : decode cX11_say 87 = .ok (.iadd, 1) := by decide +kernel
theorem dX11_say_88 : decode cX11_say 88 = .ok (.iastore, 1) := by decide +kernel
theorem dX11_say_89 : decode cX11_say 89 = .ok (.iload_n 3, 1) := by decide +kernel
theorem dX11_say_90 : decode cX11_say 90 = .ok (.ldc 96, 2) := by decide +kernel
theorem dX11_say_92 : decode cX11_say 92 = .ok (.if_icmp .ne 23, 3) := by decide +kernel
theorem dX11_say_95 : decode cX11_say 95 = .ok (.aload_n 0, 1) := by decide +kernel
theorem dX11_say_96 : decode cX11_say 96 = .ok (.getfield 19, 3) := by decide +kernel
theorem dX11_say_99 : decode cX11_say 99 = .ok (.bipush 40, 2) := by decide +kernel
theorem dX11_say_101 : decode cX11_say 101 = .ok (.iconst 2, 1) := by decide +kernel
theorem dX11_say_102 : decode cX11_say 102 = .ok (.iload_n 1, 1) := by decide +kernel
theorem dX11_say_103 : decode cX11_say 103 = .ok (.imul, 1) := by decide +kernel
theorem dX11_say_104 : decode cX11_say 104 = .ok (.iadd, 1) := by decide +kernel
theorem dX11_say_105 : decode cX11_say 105 = .ok (.iconst 1, 1) := by decide +kernel
theorem dX11_say_106 : decode cX11_say 106 = .ok (.iadd, 1) := by decide +kernel
theorem dX11_say_107 : decode cX11_say 107 = .ok (.dup2, 1) := by decide +kernel
theorem dX11_say_108 : decode cX11_say 108 = .ok (.iaload, 1) := by decide +kernel
theorem dX11_say_109 : decode cX11_say 109 = .ok (.iconst 1, 1) := by decide +kernel
theorem dX11_say_110 : decode cX11_say 110 = .ok (.iadd, 1) := by decide +kernel
theorem dX11_say_111 : decode cX11_say 111 = .ok (.iastore, 1) := by decide +kernel
theorem dX11_say_112 : decode cX11_say 112 = .ok (.ldc 96, 2) := by decide +kernel
theorem dX11_say_114 : decode cX11_say 114 = .ok (.ireturn, 1) := by decide +kernel
theorem dX11_say_115 : decode cX11_say 115 = .ok (.aload_n 0, 1) := by decide +kernel
theorem dX11_say_116 : decode cX11_say 116 = .ok (.getfield 19, 3) := by decide +kernel
theorem dX11_say_119 : decode cX11_say 119 = .ok (.bipush 6, 2) := by decide +kernel
theorem dX11_say_121 : decode cX11_say 121 = .ok (.dup2, 1) := by decide +kernel
theorem dX11_say_122 : decode cX11_say 122 = .ok (.iaload, 1) := by decide +kernel
theorem dX11_say_123 : decode cX11_say 123 = .ok (.aload_n 0, 1) := by decide +kernel
theorem dX11_say_124 : decode cX11_say 124 = .ok (.getfield 19, 3) := by decide +kernel
theorem dX11_say_127 : decode cX11_say 127 = .ok (.iconst 2, 1) := by decide +kernel
theorem dX11_say_128 : decode cX11_say 128 = .ok (.iaload, 1) := by decide +kernel
theorem dX11_say_129 : decode cX11_say 129 = .ok (.iload_n 3, 1) := by decide +kernel
theorem dX11_say_130 : decode cX11_say 130 = .ok (.aload_n 0, 1) := by decide +kernel
theorem dX11_say_131 : decode cX11_say 131 = .ok (.getfield 19, 3) := by decide +kernel
theorem dX11_say_134 : decode cX11_say 134 = .ok (.iconst 1, 1) := by decide +kernel
theorem dX11_say_135 : decode cX11_say 135 = .ok (.iaload, 1) := by decide +kernel
theorem dX11_say_136 : decode cX11_say 136 = .ok (.ixor, 1) := by decide +kernel
theorem dX11_say_137 : decode cX11_say 137 = .ok (.invokestatic 189, 3) := by decide +kernel
theorem dX11_say_140 : decode cX11_say 140 = .ok (.imul, 1) := by decide +kernel
theorem dX11_say_141 : decode cX11_say 141 = .ok (.iadd, 1) := by decide +kernel
theorem dX11_say_142 : decode cX11_say 142 = .ok (.iastore, 1) := by decide +kernel
theorem dX11_say_143 : decode cX11_say 143 = .ok (.aload_n 0, 1) := by decide +kernel
theorem dX11_say_144 : decode cX11_say 144 = .ok (.getfield 19, 3) := by decide +kernel
theorem dX11_say_147 : decode cX11_say 147 = .ok (.iconst 1, 1) := by decide +kernel
theorem dX11_say_148 : decode cX11_say 148 = .ok (.iload_n 3, 1) := by decide +kernel
theorem dX11_say_149 : decode cX11_say 149 = .ok (.iastore, 1) := by decide +kernel
theorem dX11_say_150 : decode cX11_say 150 = .ok (.iload_n 3, 1) := by decide +kernel
theorem dX11_say_151 : decode cX11_say 151 = .ok (.ireturn, 1) := by decide +kernel
def Sp_X11_say (av : List AV) (m : AM) (Φ : Option AV → AM → Prop) : Prop := ∃ p s, av = [vr 11 110, vi p, vi s] ∧ ∃ C a W, MCo m C ∧ MAct m a W ∧ ((inB p (C 4) && inB s (2 * C 0)) = false → ∀ m2, Fm [] [0] m m2 → Φ (some (vi (-1000001))) m2) ∧ ((inB p (C 4) && inB s (2 * C 0)) = true → 999 ≤ C 7 → ∀ m2, Fm [] [0] m m2 → Φ (some (vi (-1000003))) m2) ∧ ((inB p (C 4) && inB s (2 * C 0)) = true → C 7 ≤ 998 → ∀ m2, Fm [114, 116] [0, 8] m m2 → MC m2 (sayC C p.toNatClampNeg s.toNatClampNeg) → MAct m2 (keepA a) (keepW a W C) → Φ (some (vi (sayO C p.toNatClampNeg s.toNatClampNeg))) m2)
set_option maxRecDepth 20000 in
set_option maxHeartbeats 4000000 in
theorem S_X11_say : Snd yX11_say e_X11_say Sp_X11_say := by
  refine Snd.of (by decide +kernel) rfl ?_ ?_
  · rintro av m Φ ⟨p, s, rfl, _⟩; exact Nat.le_of_ble_eq_true rfl
  rintro av m Φ ⟨p, s, rfl, C, a, W, hC0, hA, h1, h2, h3⟩ hav hty
  show B e_X11_say Φ 0 [some (vr 11 110), some (vi p), some (vi s), none] [] m (0, 0)
  have hC : MCo (mset m 110 0 (nI 0)) C := hC0.ms (by decide)
  have hle := hC.le
  by_cases hp : inB p (C 4) = true
  · by_cases hs : inB s (2 * C 0) = true
    · have hps : (inB p (C 4) && inB s (2 * C 0)) = true := by rw [hp, hs]; rfl
      obtain ⟨j, hj, rfl⟩ := (inB_iff (by omega)).mp hp
      obtain ⟨k, hk, rfl⟩ := (inB_iff (by omega)).mp hs
      have hv := hC.op (Or.inr (Or.inr (by omega)))
      have hb := belN_lt hv (C (40 + 2 * j)) (C 5) hv.c1 hk
      have h7 := hv.2.2.2.2.2.2.1
      have hc1 := hv.c1
      rw [n_cl (show j < 2147483648 by omega), n_cl (show k < 2147483648 by omega)] at h3
      have hK : k / 2 < 31 := by omega
      have q0 : (nI 0).toNatClampNeg = 0 := n_cl (by omega)
      have q1 : (nI 1).toNatClampNeg = 1 := n_cl (by omega)
      have q2 : (nI 2).toNatClampNeg = 2 := n_cl (by omega)
      have q5 : (nI 5).toNatClampNeg = 5 := n_cl (by omega)
      have q6 : (nI 6).toNatClampNeg = 6 := n_cl (by omega)
      have q7 : (nI 7).toNatClampNeg = 7 := n_cl (by omega)
      have e2k : nI k / nI 2 = nI (k / 2) := pk_div (by omega) (by omega) (by omega)
      refine b_aloadN (pc := 0) 0 dX11_say_0 rfl rfl ?_
      refine b_iconst (pc := 1) (nI 0) dX11_say_1 (by decide) ?_
      refine pf11_0 (pc := 2) k1042 dX11_say_2 ?_
      refine b_aloadN (pc := 5) 0 dX11_say_5 rfl rfl ?_
      refine b_iloadN (pc := 6) 1 dX11_say_6 rfl rfl ?_
      refine call_X11_isPerson (pc := 7) k1229 (by decide) ⟨Nat.le_of_ble_eq_true rfl, Nat.le_of_ble_eq_true rfl⟩ (Nat.le_of_ble_eq_true rfl) dX11_say_7 ?_
      refine ⟨_, rfl, _, hC.1 4 (by omega), ?_, ?_⟩
      rotate_left -- leaf 0: small of X11_isPerson at 7
      refine b_if_eq (pc := 10) 22 dX11_say_10 (by decide) (fun c10 => ?_) (fun c10 => ?_)
      refine b_ldc (pc := 22) k1140 dX11_say_22 ?_
      refine b_iret (pc := 24) rfl dX11_say_24 ⟨Nat.le_of_ble_eq_true rfl, Nat.le_of_ble_eq_true rfl⟩ ?_
      rotate_left -- leaf 1: return at 24
      refine b_aloadN (pc := 13) 0 dX11_say_13 rfl rfl ?_
      refine b_iloadN (pc := 14) 2 dX11_say_14 rfl rfl ?_
      refine b_i2l (pc := 15) dX11_say_15 ?_
      refine call_X11_isSaying (pc := 16) k1233 (by decide) ⟨Nat.le_of_ble_eq_true rfl, Nat.le_of_ble_eq_true rfl⟩ (Nat.le_of_ble_eq_true rfl) dX11_say_16 ?_
      refine ⟨_, rfl, _, hC.1 0 (by omega), ?_, ?_⟩
      rotate_left -- leaf 2: six of X11_isSaying at 16
      refine b_if_ne (pc := 19) 25 dX11_say_19 (by decide) (fun c19 => ?_) (fun c19 => ?_)
      refine b_aloadN (pc := 25) 0 dX11_say_25 rfl rfl ?_
      refine gf11_5 (pc := 26) 114 rfl k1047 dX11_say_26 ?_
      refine b_bipush (pc := 29) (nI 7) dX11_say_29 (by decide) ?_
      refine b_iald (pc := 31) (by decide) ?_ dX11_say_31 ?_
      rotate_left -- leaf 3: index at 31
      refine b_sipush (pc := 32) (nI 999) dX11_say_32 (by decide) ?_
      refine b_icmp_ne (pc := 35) 41 dX11_say_35 (by decide) (fun c35 => ?_) (fun c35 => ?_)
      refine b_aloadN (pc := 41) 0 dX11_say_41 rfl rfl ?_
      refine call_X11_keep (pc := 42) k1237 (by decide) ⟨Nat.le_of_ble_eq_true rfl, Nat.le_of_ble_eq_true rfl⟩ (Nat.le_of_ble_eq_true rfl) dX11_say_42 ?_
      refine ⟨rfl, C, a, W, hC.1, hA.m0 (by decide), fun m42 fm42 ac42 => ?_⟩
      refine b_aloadN (pc := 45) 0 dX11_say_45 rfl rfl ?_
      refine b_iloadN (pc := 46) 1 dX11_say_46 rfl rfl ?_
      refine b_aloadN (pc := 47) 0 dX11_say_47 rfl rfl ?_
      refine gf11_5 (pc := 48) 114 rfl k1047 dX11_say_48 ?_
      refine b_iconst (pc := 51) (nI 1) dX11_say_51 (by decide) ?_
      refine b_iald (pc := 52) (by decide) ?_ dX11_say_52 ?_
      rotate_left -- leaf 4: index at 52
      refine b_aloadN (pc := 53) 0 dX11_say_53 rfl rfl ?_
      refine gf11_5 (pc := 54) 114 rfl k1047 dX11_say_54 ?_
      refine b_iconst (pc := 57) (nI 5) dX11_say_57 (by decide) ?_
      refine b_iald (pc := 58) (by decide) ?_ dX11_say_58 ?_
      rotate_left -- leaf 5: index at 58
      refine b_iloadN (pc := 59) 2 dX11_say_59 rfl rfl ?_
      refine call_X11_after (pc := 60) k1241 (by decide) ⟨Nat.le_of_ble_eq_true rfl, Nat.le_of_ble_eq_true rfl⟩ (Nat.le_of_ble_eq_true rfl) dX11_say_60 ?_
      refine ⟨_, _, _, _, rfl, C, j, C 1, C 5, k, hv, ?_, rfl, ?_, ?_, rfl, hj, hv.c1, hv.c5, hk, ?_⟩
      rotate_left -- leaf 6: court of X11_after at 60
      rotate_left -- leaf 7: s1 of X11_after at 60
      rotate_left -- leaf 8: s5 of X11_after at 60
      refine siN3 (pc := 63) rfl notL_i (by decide) dX11_say_63 ?_
      rotate_left -- leaf 9: at 64
      refine b_ldc (pc := 38) k1163 dX11_say_38 ?_
      refine b_iret (pc := 40) rfl dX11_say_40 ⟨Nat.le_of_ble_eq_true rfl, Nat.le_of_ble_eq_true rfl⟩ ?_
      rotate_left -- leaf 10: return at 40
      refine b_ldc (pc := 22) k1140 dX11_say_22 ?_
      refine b_iret (pc := 24) rfl dX11_say_24 ⟨Nat.le_of_ble_eq_true rfl, Nat.le_of_ble_eq_true rfl⟩ ?_
      rotate_left -- leaf 11: return at 24
      -- leaves: 0 small of X11_isPerson at 7; 1 return at 24; 2 six of X11_isSaying at 16; 3 index at 31; 4 index at 52; 5 index at 58; 6 court of X11_after at 60; 7 s1 of X11_after at 60; 8 s5 of X11_after at 60; 9 at 64; 10 return at 40; 11 return at 24
      · omega
      · rw [hp] at c10; exact absurd c10 (by decide)
      · omega
      · exact n_in (by omega) (by omega)
      · exact n_in (by omega) (by omega)
      · exact n_in (by omega) (by omega)
      · exact MC.fm fm42 hC.1 (by simp)
      · rw [q1]; exact MC.fm fm42 hC.1 (by simp) 1 (by omega)
      · rw [q5]; exact MC.fm fm42 hC.1 (by simp) 5 (by omega)
      · rw [q7, hC.1 7 (by omega), n_eq (by omega) (by omega)] at c35
        have M0 := MC.fm fm42 hC.1 (by simp)
        have f0 : Fm [114, 116] [0, 8] m m42 := (fm42.mono (by simp) (by simp)).st (by simp)
        cases eo : outN C (C (40 + 2 * j)) (C 1) (C 5) k with
        | none =>
          have hO : sayO C j k = -1000000 := by unfold sayO; rw [eo]; rfl
          have hCe : sayC C j k = upC (upC (upC C 5 (C 5 ||| 2 ^ (k / 2))) 7 (C 7 + 1)) (41 + 2 * j) (C (41 + 2 * j) + 1) := by unfold sayC; rw [eo]
          rw [hO, hCe] at h3
          refine b_aloadN (pc := 64) 0 dX11_say_64 rfl rfl ?_
          refine gf11_5 (pc := 65) 114 rfl k1047 dX11_say_65 ?_
          refine b_iconst (pc := 68) (nI 5) dX11_say_68 (by decide) ?_
          refine b_dup2 (pc := 69) dX11_say_69 ?_
          refine b_iald (pc := 70) (by decide) ?_ dX11_say_70 ?_
          rotate_left -- leaf 0: index at 70
          refine b_iconst (pc := 71) (nI 1) dX11_say_71 (by decide) ?_
          refine b_iloadN (pc := 72) 2 dX11_say_72 rfl rfl ?_
          refine b_iconst (pc := 73) (nI 2) dX11_say_73 (by decide) ?_
          refine b_idiv (pc := 74) dX11_say_74 ?_ ?_
          rotate_left -- leaf 1: divisor at 74
          refine b_ishl (pc := 75) dX11_say_75 ?_
          refine b_ior (pc := 76) dX11_say_76 ?_
          refine b_iast (pc := 77) (by decide) ?_ dX11_say_77 ?_
          rotate_left -- leaf 2: index at 77
          refine b_aloadN (pc := 78) 0 dX11_say_78 rfl rfl ?_
          refine gf11_5 (pc := 79) 114 rfl k1047 dX11_say_79 ?_
          refine b_bipush (pc := 82) (nI 7) dX11_say_82 (by decide) ?_
          refine b_dup2 (pc := 84) dX11_say_84 ?_
          refine b_iald (pc := 85) (by decide) ?_ dX11_say_85 ?_
          rotate_left -- leaf 3: index at 85
          refine b_iconst (pc := 86) (nI 1) dX11_say_86 (by decide) ?_
          refine b_iadd (pc := 87) dX11_say_87 ?_
          refine b_iast (pc := 88) (by decide) ?_ dX11_say_88 ?_
          rotate_left -- leaf 4: index at 88
          refine b_iloadN (pc := 89) 3 dX11_say_89 rfl rfl ?_
          refine b_ldc (pc := 90) k1180 dX11_say_90 ?_
          refine b_icmp_ne (pc := 92) 115 dX11_say_92 (by decide) (fun c92 => ?_) (fun c92 => ?_)
          rotate_left -- leaf 5: at 115
          refine b_aloadN (pc := 95) 0 dX11_say_95 rfl rfl ?_
          refine gf11_5 (pc := 96) 114 rfl k1047 dX11_say_96 ?_
          refine b_bipush (pc := 99) (nI 40) dX11_say_99 (by decide) ?_
          refine b_iconst (pc := 101) (nI 2) dX11_say_101 (by decide) ?_
          refine b_iloadN (pc := 102) 1 dX11_say_102 rfl rfl ?_
          refine b_imul (pc := 103) dX11_say_103 ?_
          refine b_iadd (pc := 104) dX11_say_104 ?_
          refine b_iconst (pc := 105) (nI 1) dX11_say_105 (by decide) ?_
          refine b_iadd (pc := 106) dX11_say_106 ?_
          refine b_dup2 (pc := 107) dX11_say_107 ?_
          refine b_iald (pc := 108) (by decide) ?_ dX11_say_108 ?_
          rotate_left -- leaf 6: index at 108
          refine b_iconst (pc := 109) (nI 1) dX11_say_109 (by decide) ?_
          refine b_iadd (pc := 110) dX11_say_110 ?_
          refine b_iast (pc := 111) (by decide) ?_ dX11_say_111 ?_
          rotate_left -- leaf 7: index at 111
          refine b_ldc (pc := 112) k1180 dX11_say_112 ?_
          refine b_iret (pc := 114) rfl dX11_say_114 ⟨Nat.le_of_ble_eq_true rfl, Nat.le_of_ble_eq_true rfl⟩ ?_
          rotate_left -- leaf 8: return at 114
          -- leaves: 0 index at 70; 1 divisor at 74; 2 index at 77; 3 index at 85; 4 index at 88; 5 at 115; 6 index at 108; 7 index at 111; 8 return at 114
          · exact n_in (by omega) (by omega)
          · decide
          · exact n_in (by omega) (by omega)
          · exact n_in (by omega) (by omega)
          · exact n_in (by omega) (by omega)
          · exact absurd rfl c92
          · rw [n_mul, n_add, n_add]; exact n_in (by omega) (by omega)
          · rw [n_mul, n_add, n_add]; exact n_in (by omega) (by omega)
          · rw [e2k, n_mul, n_add, n_add, q5, q7, n_cl (by omega), show 40 + 2 * j + 1 = 41 + 2 * j by omega]
            refine h3 hps (by omega) _ (((f0.ms (by decide) (by simp)).ms (by decide) (by simp)).ms (by decide) (by simp)) (MC.up (MC.up (MC.up M0 ?_) ?_) ?_) (((ac42.ms (by decide) (by decide)).ms (by decide) (by decide)).ms (by decide) (by decide))
            · rw [M0 5 (by omega), n_pow (by omega), n_or]
            · rw [mset_at, if_neg (by decide), M0 7 (by omega), n_add]
            · rw [mset_at, if_neg (by omega), mset_at, if_neg (by omega), M0 _ (by omega), n_add]
        | some v =>
          have hv64 := outN_lt hv hc1 hk eo
          have hO : sayO C j k = nI v := by unfold sayO; rw [eo]; rfl
          have hCe : sayC C j k = upC (upC (upC (upC C 5 (C 5 ||| 2 ^ (k / 2))) 7 (C 7 + 1)) 6 (C 6 + C 2 * pc6 (C 1 ^^^ v))) 1 v := by unfold sayC; rw [eo]
          rw [hO, hCe] at h3
          have eI : oI (some v) = nI v := rfl
          rw [eI]
          refine b_aloadN (pc := 64) 0 dX11_say_64 rfl rfl ?_
          refine gf11_5 (pc := 65) 114 rfl k1047 dX11_say_65 ?_
          refine b_iconst (pc := 68) (nI 5) dX11_say_68 (by decide) ?_
          refine b_dup2 (pc := 69) dX11_say_69 ?_
          refine b_iald (pc := 70) (by decide) ?_ dX11_say_70 ?_
          rotate_left -- leaf 0: index at 70
          refine b_iconst (pc := 71) (nI 1) dX11_say_71 (by decide) ?_
          refine b_iloadN (pc := 72) 2 dX11_say_72 rfl rfl ?_
          refine b_iconst (pc := 73) (nI 2) dX11_say_73 (by decide) ?_
          refine b_idiv (pc := 74) dX11_say_74 ?_ ?_
          rotate_left -- leaf 1: divisor at 74
          refine b_ishl (pc := 75) dX11_say_75 ?_
          refine b_ior (pc := 76) dX11_say_76 ?_
          refine b_iast (pc := 77) (by decide) ?_ dX11_say_77 ?_
          rotate_left -- leaf 2: index at 77
          refine b_aloadN (pc := 78) 0 dX11_say_78 rfl rfl ?_
          refine gf11_5 (pc := 79) 114 rfl k1047 dX11_say_79 ?_
          refine b_bipush (pc := 82) (nI 7) dX11_say_82 (by decide) ?_
          refine b_dup2 (pc := 84) dX11_say_84 ?_
          refine b_iald (pc := 85) (by decide) ?_ dX11_say_85 ?_
          rotate_left -- leaf 3: index at 85
          refine b_iconst (pc := 86) (nI 1) dX11_say_86 (by decide) ?_
          refine b_iadd (pc := 87) dX11_say_87 ?_
          refine b_iast (pc := 88) (by decide) ?_ dX11_say_88 ?_
          rotate_left -- leaf 4: index at 88
          refine b_iloadN (pc := 89) 3 dX11_say_89 rfl rfl ?_
          refine b_ldc (pc := 90) k1180 dX11_say_90 ?_
          refine b_icmp_ne (pc := 92) 115 dX11_say_92 (by decide) (fun c92 => ?_) (fun c92 => ?_)
          refine b_aloadN (pc := 115) 0 dX11_say_115 rfl rfl ?_
          refine gf11_5 (pc := 116) 114 rfl k1047 dX11_say_116 ?_
          refine b_bipush (pc := 119) (nI 6) dX11_say_119 (by decide) ?_
          refine b_dup2 (pc := 121) dX11_say_121 ?_
          refine b_iald (pc := 122) (by decide) ?_ dX11_say_122 ?_
          rotate_left -- leaf 5: index at 122
          refine b_aloadN (pc := 123) 0 dX11_say_123 rfl rfl ?_
          refine gf11_5 (pc := 124) 114 rfl k1047 dX11_say_124 ?_
          refine b_iconst (pc := 127) (nI 2) dX11_say_127 (by decide) ?_
          refine b_iald (pc := 128) (by decide) ?_ dX11_say_128 ?_
          rotate_left -- leaf 6: index at 128
          refine b_iloadN (pc := 129) 3 dX11_say_129 rfl rfl ?_
          refine b_aloadN (pc := 130) 0 dX11_say_130 rfl rfl ?_
          refine gf11_5 (pc := 131) 114 rfl k1047 dX11_say_131 ?_
          refine b_iconst (pc := 134) (nI 1) dX11_say_134 (by decide) ?_
          refine b_iald (pc := 135) (by decide) ?_ dX11_say_135 ?_
          rotate_left -- leaf 7: index at 135
          refine b_ixor (pc := 136) dX11_say_136 ?_
          refine call_X11_bits (pc := 137) k1264 (by decide) ⟨Nat.le_of_ble_eq_true rfl, Nat.le_of_ble_eq_true rfl⟩ (Nat.le_of_ble_eq_true rfl) dX11_say_137 ?_
          refine ⟨_, rfl, v ^^^ C 1, ?_, ?_, ?_⟩
          rotate_left -- leaf 8: num of X11_bits at 137
          rotate_left -- leaf 9: bound of X11_bits at 137
          refine b_imul (pc := 140) dX11_say_140 ?_
          refine b_iadd (pc := 141) dX11_say_141 ?_
          refine b_iast (pc := 142) (by decide) ?_ dX11_say_142 ?_
          rotate_left -- leaf 10: index at 142
          refine b_aloadN (pc := 143) 0 dX11_say_143 rfl rfl ?_
          refine gf11_5 (pc := 144) 114 rfl k1047 dX11_say_144 ?_
          refine b_iconst (pc := 147) (nI 1) dX11_say_147 (by decide) ?_
          refine b_iloadN (pc := 148) 3 dX11_say_148 rfl rfl ?_
          refine b_iast (pc := 149) (by decide) ?_ dX11_say_149 ?_
          rotate_left -- leaf 11: index at 149
          refine b_iloadN (pc := 150) 3 dX11_say_150 rfl rfl ?_
          refine b_iret (pc := 151) rfl dX11_say_151 ⟨Nat.le_of_ble_eq_true rfl, Nat.le_of_ble_eq_true rfl⟩ ?_
          rotate_left -- leaf 12: return at 151
          refine b_aloadN (pc := 95) 0 dX11_say_95 rfl rfl ?_
          refine gf11_5 (pc := 96) 114 rfl k1047 dX11_say_96 ?_
          refine b_bipush (pc := 99) (nI 40) dX11_say_99 (by decide) ?_
          refine b_iconst (pc := 101) (nI 2) dX11_say_101 (by decide) ?_
          refine b_iloadN (pc := 102) 1 dX11_say_102 rfl rfl ?_
          refine b_imul (pc := 103) dX11_say_103 ?_
          refine b_iadd (pc := 104) dX11_say_104 ?_
          refine b_iconst (pc := 105) (nI 1) dX11_say_105 (by decide) ?_
          refine b_iadd (pc := 106) dX11_say_106 ?_
          refine b_dup2 (pc := 107) dX11_say_107 ?_
          refine b_iald (pc := 108) (by decide) ?_ dX11_say_108 ?_
          rotate_left -- leaf 13: index at 108
          refine b_iconst (pc := 109) (nI 1) dX11_say_109 (by decide) ?_
          refine b_iadd (pc := 110) dX11_say_110 ?_
          refine b_iast (pc := 111) (by decide) ?_ dX11_say_111 ?_
          rotate_left -- leaf 14: index at 111
          refine b_ldc (pc := 112) k1180 dX11_say_112 ?_
          refine b_iret (pc := 114) rfl dX11_say_114 ⟨Nat.le_of_ble_eq_true rfl, Nat.le_of_ble_eq_true rfl⟩ ?_
          rotate_left -- leaf 15: return at 114
          -- leaves: 0 index at 70; 1 divisor at 74; 2 index at 77; 3 index at 85; 4 index at 88; 5 index at 122; 6 index at 128; 7 index at 135; 8 num of X11_bits at 137; 9 bound of X11_bits at 137; 10 index at 142; 11 index at 149; 12 return at 151; 13 index at 108; 14 index at 111; 15 return at 114
          · exact n_in (by omega) (by omega)
          · decide
          · exact n_in (by omega) (by omega)
          · exact n_in (by omega) (by omega)
          · exact n_in (by omega) (by omega)
          · exact n_in (by omega) (by omega)
          · exact n_in (by omega) (by omega)
          · exact n_in (by omega) (by omega)
          · rw [q1, mset_at, if_neg (by rw [q7]; decide), mset_at, if_neg (by rw [q5]; decide), M0 1 (by omega), n_xor]
          · exact Nat.xor_lt_two_pow (n := 6) hv64 hc1
          · exact n_in (by omega) (by omega)
          · exact n_in (by omega) (by omega)
          · rw [e2k, q5, q7, q6, q2, q1]
            refine h3 hps (by omega) _ ((((f0.ms (by decide) (by simp)).ms (by decide) (by simp)).ms (by decide) (by simp)).ms (by decide) (by simp)) (MC.up (MC.up (MC.up (MC.up M0 ?_) ?_) ?_) rfl) ((((ac42.ms (by decide) (by decide)).ms (by decide) (by decide)).ms (by decide) (by decide)).ms (by decide) (by decide))
            · rw [M0 5 (by omega), n_pow (by omega), n_or]
            · rw [mset_at, if_neg (by decide), M0 7 (by omega), n_add]
            · rw [mset_at, if_neg (by decide), mset_at, if_neg (by decide), mset_at, if_neg (by decide), mset_at, if_neg (by decide), M0 6 (by omega), M0 2 (by omega), n_mul, n_add, Nat.xor_comm]
          · exact absurd c92 (n_ne_none (by omega))
          · exact absurd c92 (n_ne_none (by omega))
          · exact absurd c92 (n_ne_none (by omega))
      · rw [q7, hC.1 7 (by omega), n_eq (by omega) (by omega)] at c35
        exact h2 hps (by omega) _ ((Fm.rf _ _ m).m0 (by simp))
      · rw [hs] at c19; exact absurd c19 (by decide)
    · have q : (inB p (C 4) && inB s (2 * C 0)) = false := by
        cases e : inB s (2 * C 0)
        · rw [Bool.and_false]
        · exact absurd e hs
      refine b_aloadN (pc := 0) 0 dX11_say_0 rfl rfl ?_
      refine b_iconst (pc := 1) (nI 0) dX11_say_1 (by decide) ?_
      refine pf11_0 (pc := 2) k1042 dX11_say_2 ?_
      refine b_aloadN (pc := 5) 0 dX11_say_5 rfl rfl ?_
      refine b_iloadN (pc := 6) 1 dX11_say_6 rfl rfl ?_
      refine call_X11_isPerson (pc := 7) k1229 (by decide) ⟨Nat.le_of_ble_eq_true rfl, Nat.le_of_ble_eq_true rfl⟩ (Nat.le_of_ble_eq_true rfl) dX11_say_7 ?_
      refine ⟨_, rfl, _, hC.1 4 (by omega), ?_, ?_⟩
      rotate_left -- leaf 0: small of X11_isPerson at 7
      refine b_if_eq (pc := 10) 22 dX11_say_10 (by decide) (fun c10 => ?_) (fun c10 => ?_)
      refine b_ldc (pc := 22) k1140 dX11_say_22 ?_
      refine b_iret (pc := 24) rfl dX11_say_24 ⟨Nat.le_of_ble_eq_true rfl, Nat.le_of_ble_eq_true rfl⟩ ?_
      rotate_left -- leaf 1: return at 24
      refine b_aloadN (pc := 13) 0 dX11_say_13 rfl rfl ?_
      refine b_iloadN (pc := 14) 2 dX11_say_14 rfl rfl ?_
      refine b_i2l (pc := 15) dX11_say_15 ?_
      refine call_X11_isSaying (pc := 16) k1233 (by decide) ⟨Nat.le_of_ble_eq_true rfl, Nat.le_of_ble_eq_true rfl⟩ (Nat.le_of_ble_eq_true rfl) dX11_say_16 ?_
      refine ⟨_, rfl, _, hC.1 0 (by omega), ?_, ?_⟩
      rotate_left -- leaf 2: six of X11_isSaying at 16
      refine b_if_ne (pc := 19) 25 dX11_say_19 (by decide) (fun c19 => ?_) (fun c19 => ?_)
      rotate_left -- leaf 3: at 25
      refine b_ldc (pc := 22) k1140 dX11_say_22 ?_
      refine b_iret (pc := 24) rfl dX11_say_24 ⟨Nat.le_of_ble_eq_true rfl, Nat.le_of_ble_eq_true rfl⟩ ?_
      rotate_left -- leaf 4: return at 24
      -- leaves: 0 small of X11_isPerson at 7; 1 return at 24; 2 six of X11_isSaying at 16; 3 at 25; 4 return at 24
      · omega
      · exact h1 q _ ((Fm.rf _ _ m).m0 (by simp))
      · omega
      · exact absurd (bT c19) hs
      · exact h1 q _ ((Fm.rf _ _ m).m0 (by simp))
  · have q : (inB p (C 4) && inB s (2 * C 0)) = false := by
      cases e : inB p (C 4)
      · rfl
      · exact absurd e hp
    refine b_aloadN (pc := 0) 0 dX11_say_0 rfl rfl ?_
    refine b_iconst (pc := 1) (nI 0) dX11_say_1 (by decide) ?_
    refine pf11_0 (pc := 2) k1042 dX11_say_2 ?_
    refine b_aloadN (pc := 5) 0 dX11_say_5 rfl rfl ?_
    refine b_iloadN (pc := 6) 1 dX11_say_6 rfl rfl ?_
    refine call_X11_isPerson (pc := 7) k1229 (by decide) ⟨Nat.le_of_ble_eq_true rfl, Nat.le_of_ble_eq_true rfl⟩ (Nat.le_of_ble_eq_true rfl) dX11_say_7 ?_
    refine ⟨_, rfl, _, hC.1 4 (by omega), ?_, ?_⟩
    rotate_left -- leaf 0: small of X11_isPerson at 7
    refine b_if_eq (pc := 10) 22 dX11_say_10 (by decide) (fun c10 => ?_) (fun c10 => ?_)
    refine b_ldc (pc := 22) k1140 dX11_say_22 ?_
    refine b_iret (pc := 24) rfl dX11_say_24 ⟨Nat.le_of_ble_eq_true rfl, Nat.le_of_ble_eq_true rfl⟩ ?_
    rotate_left -- leaf 1: return at 24
    refine b_aloadN (pc := 13) 0 dX11_say_13 rfl rfl ?_
    refine b_iloadN (pc := 14) 2 dX11_say_14 rfl rfl ?_
    refine b_i2l (pc := 15) dX11_say_15 ?_
    refine call_X11_isSaying (pc := 16) k1233 (by decide) ⟨Nat.le_of_ble_eq_true rfl, Nat.le_of_ble_eq_true rfl⟩ (Nat.le_of_ble_eq_true rfl) dX11_say_16 ?_
    refine ⟨_, rfl, _, hC.1 0 (by omega), ?_, ?_⟩
    rotate_left -- leaf 2: six of X11_isSaying at 16
    refine b_if_ne (pc := 19) 25 dX11_say_19 (by decide) (fun c19 => ?_) (fun c19 => ?_)
    rotate_left -- leaf 3: at 25
    refine b_ldc (pc := 22) k1140 dX11_say_22 ?_
    refine b_iret (pc := 24) rfl dX11_say_24 ⟨Nat.le_of_ble_eq_true rfl, Nat.le_of_ble_eq_true rfl⟩ ?_
    rotate_left -- leaf 4: return at 24
    -- leaves: 0 small of X11_isPerson at 7; 1 return at 24; 2 six of X11_isSaying at 16; 3 at 25; 4 return at 24
    · omega
    · exact h1 q _ ((Fm.rf _ _ m).m0 (by simp))
    · omega
    · exact absurd (bT c10) hp
    · exact absurd (bT c10) hp
theorem call_X11_say {E : ME} {Φ : Option AV → AM → Prop} {pc : Nat} {L : List (Option AV)} {st : List AV} {m : AM} {a : Nat × Nat} {idx : Nat} {x0 x1 : AV} {i : Nat} (hl : Cond.methodLink E.2.1 idx yX11_say ∈ TB) (hdep : 8 + 1 ≤ E.2.2.2.2.2.2) (hroom : a.1 + 0 ≤ E.2.2.2.2.1 ∧ a.2 + 0 ≤ E.2.2.2.2.2.1) (hsr : st.length ≤ 4) (hd : decode E.1 pc = .ok (.invokevirtual idx, 3)) (hsp : Sp_X11_say [vr 11 i, x0, x1] m (fun r m2 => B E Φ (pc + 3) L (r.toList ++ st) m2 a)) : B E Φ pc L (x1 :: x0 :: vr 11 i :: st) m a := b_callV S_X11_say [x0, x1] (RX11, TX11, 28) rfl rfl (by decide) (Or.inl hl) k1226 k1227 k80 k1228 (show _ ∧ _ ∧ Option.map (fun d => d.parameters.length) (parseMethodDescriptor yX11_say.desc) = some 2 from by decide +kernel) ⟨hdep, by decide⟩ hroom hsr hd hsp
