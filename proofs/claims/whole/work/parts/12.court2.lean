/-! the class's court, further: isBarred, settle, believed, outcome, soBehind -/
theorem nat_zero_of {n : Nat} (h : ∀ i, n.testBit i = false) : n = 0 := Nat.eq_of_testBit_eq fun i => by rw [h i, Nat.zero_testBit]
theorem bar_iff {C : Nat → Nat} (hv : VC C) (s : Nat) : canBe C s = true ↔ ∀ f, f < C 0 → s.testBit f = true → s &&& madeF C 1 f (C 3) = 0 := by
  unfold canBe
  rw [canB_iff]
  constructor
  · intro h f hf hb
    refine nat_zero_of fun i => ?_
    rw [Nat.testBit_and]
    cases h1 : s.testBit i
    · rfl
    · cases h2 : (madeF C 1 f (C 3)).testBit i
      · rfl
      · obtain ⟨k, hk, q1, q2, q3, q4⟩ := (madeF_bit C 1 f i (C 3)).mp h2
        rcases h k hk with h3 | h3 | h3
        · omega
        · omega
        · rw [q3, q4] at h3
          exact absurd ⟨hb, h1⟩ h3
  · intro h k hk
    have hr := hv.2.2.2.2.2.2.2.2.1 k hk
    by_cases e1 : C (8 + 4 * k) = 0
    · exact Or.inl e1
    · by_cases e2 : C (11 + 4 * k) = 1
      · exact Or.inr (Or.inl e2)
      · right; right
        rintro ⟨q1, q2⟩
        have h3 := h _ hr.2.1 q1
        have h4 : (s &&& madeF C 1 (C (9 + 4 * k)) (C 3)).testBit (C (10 + 4 * k)) = true := by
          rw [Nat.testBit_and, q2, Bool.true_and]
          exact (madeF_bit C 1 _ _ _).mpr ⟨k, hk, by omega, by omega, rfl, rfl⟩
        rw [h3, Nat.zero_testBit] at h4
        cases h4
abbrev e_X2_isBarred : ME := (cX2_isBarred, (RX2, (3, ((some .boolean), (0, (0, 1))))))
theorem dX2_isBarred_0 : decode cX2_isBarred 0 = .ok (.iconst 0, 1) := by decide +kernel
theorem dX2_isBarred_1 : decode cX2_isBarred 1 = .ok (.istore_n 2, 1) := by decide +kernel
theorem dX2_isBarred_2 : decode cX2_isBarred 2 = .ok (.iload_n 2, 1) := by decide +kernel
theorem dX2_isBarred_3 : decode cX2_isBarred 3 = .ok (.aload_n 0, 1) := by decide +kernel
theorem dX2_isBarred_4 : decode cX2_isBarred 4 = .ok (.getfield 12, 3) := by decide +kernel
theorem dX2_isBarred_7 : decode cX2_isBarred 7 = .ok (.getfield 35, 3) := by decide +kernel
theorem dX2_isBarred_10 : decode cX2_isBarred 10 = .ok (.if_icmp .ge 31, 3) := by decide +kernel
theorem dX2_isBarred_13 : decode cX2_isBarred 13 = .ok (.iload_n 1, 1) := by decide +kernel
theorem dX2_isBarred_14 : decode cX2_isBarred 14 = .ok (.iload_n 2, 1) := by decide +kernel
theorem dX2_isBarred_15 : decode cX2_isBarred 15 = .ok (.ishr, 1) := by decide +kernel
theorem dX2_isBarred_16 : decode cX2_isBarred 16 = .ok (.iconst 1, 1) := by decide +kernel
theorem dX2_isBarred_17 : decode cX2_isBarred 17 = .ok (.iand, 1) := by decide +kernel
theorem dX2_isBarred_18 : decode cX2_isBarred 18 = .ok (.iconst 1, 1) := by decide +kernel
theorem dX2_isBarred_19 : decode cX2_isBarred 19 = .ok (.if_icmp .ne 16, 3) := by decide +kernel
theorem dX2_isBarred_22 : decode cX2_isBarred 22 = .ok (.iload_n 1, 1) := by decide +kernel
theorem dX2_isBarred_23 : decode cX2_isBarred 23 = .ok (.aload_n 0, 1) := by decide +kernel
theorem dX2_isBarred_24 : decode cX2_isBarred 24 = .ok (.getfield 29, 3) := by decide +kernel
theorem dX2_isBarred_27 : decode cX2_isBarred 27 = .ok (.iload_n 2, 1) := by decide +kernel
theorem dX2_isBarred_28 : decode cX2_isBarred 28 = .ok (.iaload, 1) := by decide +kernel
theorem dX2_isBarred_29 : decode cX2_isBarred 29 = .ok (.iand, 1) := by decide +kernel
theorem dX2_isBarred_30 : decode cX2_isBarred 30 = .ok (.ifCond .eq 5, 3) := by decide +kernel
theorem dX2_isBarred_33 : decode cX2_isBarred 33 = .ok (.iconst 1, 1) := by decide +kernel
theorem dX2_isBarred_34 : decode cX2_isBarred 34 = .ok (.ireturn, 1) := by decide +kernel
theorem dX2_isBarred_35 : decode cX2_isBarred 35 = .ok (.iinc 2 1, 3) := by decide +kernel
theorem dX2_isBarred_38 : decode cX2_isBarred 38 = .ok (.goto (-36), 3) := by decide +kernel
theorem dX2_isBarred_41 : decode cX2_isBarred 41 = .ok (.iconst 0, 1) := by decide +kernel
theorem dX2_isBarred_42 : decode cX2_isBarred 42 = .ok (.ireturn, 1) := by decide +kernel
def Sp_X2_isBarred (av : List AV) (m : AM) (Φ : Option AV → AM → Prop) : Prop := ∃ s, av = [vr 2 20, vi s] ∧ ∃ C k, BR m C ∧ s = nI k ∧ k < 64 ∧ Φ (some (vi (nI (if canBe C k = true then 0 else 1)))) m
set_option maxRecDepth 20000 in
set_option maxHeartbeats 4000000 in
theorem S_X2_isBarred : Snd yX2_isBarred e_X2_isBarred Sp_X2_isBarred := by
  refine Snd.of (by decide +kernel) rfl ?_ ?_
  · rintro av m Φ ⟨s, rfl, _⟩; exact Nat.le_of_ble_eq_true rfl
  rintro av m Φ ⟨s, rfl, C, k, hB, rfl, hk, h⟩ hav hty
  show B e_X2_isBarred Φ 0 [some (vr 2 20), some (vi (nI k)), none] [] m (0, 0)
  obtain ⟨hv, hL, hS, hM, hC⟩ := hB
  have hf0 : C 0 ≤ 6 := hv.1.2
  have loop : ∀ n f, C 0 + 1 ≤ f + n → f ≤ C 0 → (∀ j, j < f → k.testBit j = true → k &&& madeF C 1 j (C 3) = 0) → B e_X2_isBarred Φ 2 [some (vr 2 20), some (vi (nI k)), some (vi (nI f))] [] m (0, 0) := by
    intro n
    induction n with
    | zero => intro f h1 h2; omega
    | succ n ih =>
      intro f h1 h2 h3
      refine b_iloadN (pc := 2) 2 dX2_isBarred_2 rfl rfl ?_
      refine b_aloadN (pc := 3) 0 dX2_isBarred_3 rfl rfl ?_
      refine gf2_0 (pc := 4) 21 rfl k264 dX2_isBarred_4 ?_
      refine gf5_4 (pc := 7) k143 dX2_isBarred_7 ?_
      refine b_icmp_ge (pc := 10) 41 dX2_isBarred_10 (by decide) (fun c10 => ?_) (fun c10 => ?_)
      refine b_iconst (pc := 41) (nI 0) dX2_isBarred_41 (by decide) ?_
      refine b_zret (pc := 42) rfl ?_ dX2_isBarred_42 ⟨Nat.le_of_ble_eq_true rfl, Nat.le_of_ble_eq_true rfl⟩ ?_
      rotate_left -- leaf 0: bool at 42
      rotate_left -- leaf 1: return at 42
      refine b_iloadN (pc := 13) 1 dX2_isBarred_13 rfl rfl ?_
      refine b_iloadN (pc := 14) 2 dX2_isBarred_14 rfl rfl ?_
      refine b_ishr (pc := 15) dX2_isBarred_15 ?_
      refine b_iconst (pc := 16) (nI 1) dX2_isBarred_16 (by decide) ?_
      refine b_iand (pc := 17) dX2_isBarred_17 ?_
      refine b_iconst (pc := 18) (nI 1) dX2_isBarred_18 (by decide) ?_
      refine b_icmp_ne (pc := 19) 35 dX2_isBarred_19 (by decide) (fun c19 => ?_) (fun c19 => ?_)
      refine inc2 (pc := 35) notL_i (by decide) dX2_isBarred_35 ?_
      refine b_goto (pc := 38) 2 dX2_isBarred_38 (by decide) ?_
      rotate_left -- leaf 2: at 2
      refine b_iloadN (pc := 22) 1 dX2_isBarred_22 rfl rfl ?_
      refine b_aloadN (pc := 23) 0 dX2_isBarred_23 rfl rfl ?_
      refine gf2_3 (pc := 24) 29 rfl k277 dX2_isBarred_24 ?_
      refine b_iloadN (pc := 27) 2 dX2_isBarred_27 rfl rfl ?_
      refine b_iald (pc := 28) (by decide) ?_ dX2_isBarred_28 ?_
      rotate_left -- leaf 3: index at 28
      refine b_iand (pc := 29) dX2_isBarred_29 ?_
      refine b_if_eq (pc := 30) 35 dX2_isBarred_30 (by decide) (fun c30 => ?_) (fun c30 => ?_)
      refine inc2 (pc := 35) notL_i (by decide) dX2_isBarred_35 ?_
      refine b_goto (pc := 38) 2 dX2_isBarred_38 (by decide) ?_
      rotate_left -- leaf 4: at 2
      refine b_iconst (pc := 33) (nI 1) dX2_isBarred_33 (by decide) ?_
      refine b_zret (pc := 34) rfl ?_ dX2_isBarred_34 ⟨Nat.le_of_ble_eq_true rfl, Nat.le_of_ble_eq_true rfl⟩ ?_
      rotate_left -- leaf 5: bool at 34
      rotate_left -- leaf 6: return at 34
      -- leaves: 0 bool at 42; 1 return at 42; 2 at 2; 3 index at 28; 4 at 2; 5 bool at 34; 6 return at 34
      · exact Or.inl rfl
      · rw [hL.1, n_le (by omega) (by omega)] at c10
        have e : f = C 0 := by omega
        subst e
        rw [if_pos ((bar_iff hv k).mpr h3)] at h
        exact h
      · rw [hL.1, n_le (by omega) (by omega)] at c10
        rw [tbit_and1 _ _ (by omega) (by omega)] at c19
        rw [n_inc]
        refine ih (f + 1) (by omega) (by omega) (fun j hj hb => ?_)
        rcases Nat.lt_or_ge j f with q | q
        · exact h3 j q hb
        · have e : j = f := by omega
          subst e
          rw [if_pos hb] at c19
          exact absurd rfl c19
      · rw [hL.1, n_le (by omega) (by omega)] at c10
        exact n_in (by omega) (by omega)
      · rw [hL.1, n_le (by omega) (by omega)] at c10
        rw [n_cl (by omega), (hM f (by omega)).2, n_and, n_eq0 (Nat.lt_of_le_of_lt Nat.and_le_left (by omega))] at c30
        rw [n_inc]
        refine ih (f + 1) (by omega) (by omega) (fun j hj hb => ?_)
        rcases Nat.lt_or_ge j f with q | q
        · exact h3 j q hb
        · have e : j = f := by omega
          subst e
          exact c30
      · exact Or.inr rfl
      · rw [hL.1, n_le (by omega) (by omega)] at c10
        rw [tbit_and1 _ _ (by omega) (by omega)] at c19
        rw [n_cl (by omega), (hM f (by omega)).2, n_and, n_eq0 (Nat.lt_of_le_of_lt Nat.and_le_left (by omega))] at c30
        have hb : k.testBit f = true := by
          by_cases q : k.testBit f = true
          · exact q
          · rw [if_neg q] at c19
            exact absurd c19 (by decide)
        rw [if_neg (fun q => c30 ((bar_iff hv k).mp q f (by omega) hb))] at h
        exact h
  refine b_iconst (pc := 0) (nI 0) dX2_isBarred_0 (by decide) ?_
  refine siN2 (pc := 1) rfl notL_i (by decide) dX2_isBarred_1 ?_
  rotate_left -- leaf 0: at 2
  -- leaves: 0 at 2
  exact loop (C 0 + 1) 0 (by omega) (by omega) (fun j hj => absurd hj (Nat.not_lt_zero j))
theorem call_X2_isBarred {E : ME} {Φ : Option AV → AM → Prop} {pc : Nat} {L : List (Option AV)} {st : List AV} {m : AM} {a : Nat × Nat} {idx : Nat} {x0 : AV} {i : Nat} (hl : Cond.methodLink E.2.1 idx yX2_isBarred ∈ TB) (hdep : 1 + 1 ≤ E.2.2.2.2.2.2) (hroom : a.1 + 0 ≤ E.2.2.2.2.1 ∧ a.2 + 0 ≤ E.2.2.2.2.2.1) (hsr : st.length ≤ 4) (hd : decode E.1 pc = .ok (.invokevirtual idx, 3)) (hsp : Sp_X2_isBarred [vr 2 i, x0] m (fun r m2 => B E Φ (pc + 3) L (r.toList ++ st) m2 a)) : B E Φ pc L (x0 :: vr 2 i :: st) m a := b_callV S_X2_isBarred [x0] (RX2, TX2, 5) rfl rfl (by decide) (Or.inl hl) k685 k14 k73 k686 (show _ ∧ _ ∧ Option.map (fun d => d.parameters.length) (parseMethodDescriptor yX2_isBarred.desc) = some 1 from by decide +kernel) ⟨hdep, by decide⟩ hroom hsr hd hsp
/-! what was settled, kept -/
def CU (C : Nat → Nat) (m m2 : AM) : Prop := ∃ g, m2 = aset m 30 g ∧ ∀ s, s < 64 → g s = m.1 30 s ∨ g s = oI (setN C s)
theorem CU.rf (C : Nat → Nat) (m : AM) : CU C m m := ⟨m.1 30, by
  unfold aset
  have e : (fun a => if a = 30 then m.1 30 else m.1 a) = m.1 := by funext a; by_cases q : a = 30 <;> simp [q]
  rw [e], fun s _ => Or.inl rfl⟩
theorem aset_aset (m : AM) (i : Nat) (f g : Nat → Int32) : aset (aset m i f) i g = aset m i g := by
  unfold aset
  have e : (fun a => if a = i then g else (fun a => if a = i then f else m.1 a) a) = (fun a => if a = i then g else m.1 a) := by funext a; by_cases q : a = i <;> simp [q]
  simp only [e]
theorem CU.tr {C : Nat → Nat} {m m2 m3 : AM} (h : CU C m m2) (h2 : CU C m2 m3) : CU C m m3 := by
  obtain ⟨g, rfl, hg⟩ := h
  obtain ⟨g2, rfl, hg2⟩ := h2
  refine ⟨g2, aset_aset m 30 g g2, fun s hs => ?_⟩
  rcases hg2 s hs with q | q
  · rw [aset_at] at q
    rcases hg s hs with q2 | q2
    · exact Or.inl (q.trans q2)
    · exact Or.inr (q.trans q2)
  · exact Or.inr q
theorem CU.ne {C : Nat → Nat} {m m2 : AM} (h : CU C m m2) {a : Nat} (ha : a ≠ 30) : m2.1 a = m.1 a := by
  obtain ⟨g, rfl, hg⟩ := h
  exact aset_ne m g ha
theorem CU.two {C : Nat → Nat} {m m2 : AM} (h : CU C m m2) : m2.2 = m.2 := by
  obtain ⟨g, rfl, hg⟩ := h
  rfl
theorem LawR.cg {m m2 : AM} {i : Nat} {C : Nat → Nat} (h0 : m2.1 i = m.1 i) (h1 : m2.1 (i + 1) = m.1 (i + 1)) (h2 : m2.1 (i + 2) = m.1 (i + 2)) (h3 : m2.1 (i + 3) = m.1 (i + 3)) (h4 : m2.1 (i + 4) = m.1 (i + 4)) (h : LawR m i C) : LawR m2 i C := by
  unfold LawR
  rw [h0, h1, h2, h3, h4]
  exact h
theorem StR.cg {m m2 : AM} {i : Nat} {C : Nat → Nat} (h0 : m2.1 i = m.1 i) (h1 : m2.1 (i + 1) = m.1 (i + 1)) (h : StR m i C) : StR m2 i C := by
  unfold StR
  rw [h0, h1]
  exact h
theorem BR.cu {C : Nat → Nat} {m m2 : AM} (hB : BR m C) (h : CU C m m2) : BR m2 C := by
  obtain ⟨hv, hL, hS, hM, hC⟩ := hB
  refine ⟨hv, hL.cg (h.ne (by decide)) (h.ne (by decide)) (h.ne (by decide)) (h.ne (by decide)) (h.ne (by decide)), hS.cg (h.ne (by decide)) (h.ne (by decide)), ?_, ?_⟩
  · intro f hf
    rw [h.ne (by decide), h.ne (by decide)]
    exact hM f hf
  · obtain ⟨g, rfl, hg⟩ := h
    intro s hs
    rw [aset_at]
    rcases hg s hs with q | q
    · rw [q]; exact hC s hs
    · exact Or.inr q
theorem mset_aset (m : AM) (i j : Nat) (x : Int32) : mset m i j x = aset m i (upd (m.1 i) j x) := by
  unfold mset aset upd
  have e : (fun a b => if a = i then (if b = j then x else m.1 a b) else m.1 a b) = (fun a => if a = i then (fun b => if b = j then x else m.1 i b) else m.1 a) := by
    funext a b
    by_cases q : a = i
    · subst q; simp
    · simp [q]
  rw [e]
theorem CU.one {C : Nat → Nat} (m : AM) (k : Nat) : CU C m (mset m 30 k (oI (setN C k))) := by
  refine ⟨_, mset_aset m 30 k _, fun s hs => ?_⟩
  unfold upd
  by_cases q : s = k
  · subst q; right; simp
  · left; simp [q]
abbrev e_X2_settle : ME := (cX2_settle, (RX2, (3, ((some .int), (0, (0, 2))))))
theorem dX2_settle_0 : decode cX2_settle 0 = .ok (.iload_n 1, 1) := by decide +kernel
theorem dX2_settle_1 : decode cX2_settle 1 = .ok (.ifCond .lt 12, 3) := by decide +kernel
theorem dX2_settle_4 : decode cX2_settle 4 = .ok (.iload_n 1, 1) := by decide +kernel
theorem dX2_settle_5 : decode cX2_settle 5 = .ok (.aload_n 0, 1) := by decide +kernel
theorem dX2_settle_6 : decode cX2_settle 6 = .ok (.getfield 32, 3) := by decide +kernel
theorem dX2_settle_9 : decode cX2_settle 9 = .ok (.arraylength, 1) := by decide +kernel
theorem dX2_settle_10 : decode cX2_settle 10 = .ok (.if_icmp .lt 6, 3) := by decide +kernel
theorem dX2_settle_13 : decode cX2_settle 13 = .ok (.ldc 105, 2) := by decide +kernel
theorem dX2_settle_15 : decode cX2_settle 15 = .ok (.ireturn, 1) := by decide +kernel
theorem dX2_settle_16 : decode cX2_settle 16 = .ok (.aload_n 0, 1) := by decide +kernel
theorem dX2_settle_17 : decode cX2_settle 17 = .ok (.getfield 32, 3) := by decide +kernel
theorem dX2_settle_20 : decode cX2_settle 20 = .ok (.iload_n 1, 1) := by decide +kernel
theorem dX2_settle_21 : decode cX2_settle 21 = .ok (.iaload, 1) := by decide +kernel
theorem dX2_settle_22 : decode cX2_settle 22 = .ok (.iconst (-1), 1) := by decide +kernel
theorem dX2_settle_23 : decode cX2_settle 23 = .ok (.if_icmp .ne 29, 3) := by decide +kernel
theorem dX2_settle_26 : decode cX2_settle 26 = .ok (.aload_n 0, 1) := by decide +kernel
theorem dX2_settle_27 : decode cX2_settle 27 = .ok (.iload_n 1, 1) := by decide +kernel
theorem dX2_settle_28 : decode cX2_settle 28 = .ok (.invokevirtual 124, 3) := by decide +kernel
theorem dX2_settle_31 : decode cX2_settle 31 = .ok (.istore_n 2, 1) := by decide +kernel
theorem dX2_settle_32 : decode cX2_settle 32 = .ok (.aload_n 0, 1) := by decide +kernel
theorem dX2_settle_33 : decode cX2_settle 33 = .ok (.getfield 32, 3) := by decide +kernel
theorem dX2_settle_36 : decode cX2_settle 36 = .ok (.iload_n 1, 1) := by decide +kernel
theorem dX2_settle_37 : decode cX2_settle 37 = .ok (.aload_n 0, 1) := by decide +kernel
theorem dX2_settle_38 : decode cX2_settle 38 = .ok (.iload_n 2, 1) := by decide +kernel
theorem dX2_settle_39 : decode cX2_settle 39 = .ok (.invokevirtual 127, 3) := by decide +kernel
theorem dX2_settle_42 : decode cX2_settle 42 = .ok (.ifCond .eq 8, 3) := by decide +kernel
theorem dX2_settle_45 : decode cX2_settle 45 = .ok (.ldc 105, 2) := by decide +kernel
theorem dX2_settle_47 : decode cX2_settle 47 = .ok (.goto 4, 3) := by decide +kernel
theorem dX2_settle_50 : decode cX2_settle 50 = .ok (.iload_n 2, 1) := by decide +kernel
theorem dX2_settle_51 : decode cX2_settle 51 = .ok (.iastore, 1) := by decide +kernel
theorem dX2_settle_52 : decode cX2_settle 52 = .ok (.aload_n 0, 1) := by decide +kernel
theorem dX2_settle_53 : decode cX2_settle 53 = .ok (.getfield 32, 3) := by decide +kernel
theorem dX2_settle_56 : decode cX2_settle 56 = .ok (.iload_n 1, 1) := by decide +kernel
theorem dX2_settle_57 : decode cX2_settle 57 = .ok (.iaload, 1) := by decide +kernel
theorem dX2_settle_58 : decode cX2_settle 58 = .ok (.ireturn, 1) := by decide +kernel
def Sp_X2_settle (av : List AV) (m : AM) (Φ : Option AV → AM → Prop) : Prop := ∃ s, av = [vr 2 20, vi s] ∧ ∃ C k, BR m C ∧ s = nI k ∧ k < 64 ∧ ∀ m2, CU C m m2 → Φ (some (vi (oI (setN C k)))) m2
set_option maxRecDepth 20000 in
set_option maxHeartbeats 4000000 in
theorem S_X2_settle : Snd yX2_settle e_X2_settle Sp_X2_settle := by
  refine Snd.of (by decide +kernel) rfl ?_ ?_
  · rintro av m Φ ⟨s, rfl, _⟩; exact Nat.le_of_ble_eq_true rfl
  rintro av m Φ ⟨s, rfl, C, k, hB, rfl, hk, h⟩ hav hty
  show B e_X2_settle Φ 0 [some (vr 2 20), some (vi (nI k)), none] [] m (0, 0)
  have e64 : Int32.ofNat (164 - 100) = nI 64 := rfl
  have hc := closedN_lt hB.1.hv hk
  have fin : ∀ m2 o, CU C m m2 → m2.1 30 k = oI (setN C k) → B e_X2_settle Φ 52 [some (vr 2 20), some (vi (nI k)), o] [] m2 (0, 0) := by
    intro m2 o h1 h2
    refine b_aloadN (pc := 52) 0 dX2_settle_52 rfl rfl ?_
    refine gf2_4 (pc := 53) 30 rfl k278 dX2_settle_53 ?_
    refine b_iloadN (pc := 56) 1 dX2_settle_56 rfl rfl ?_
    refine b_iald (pc := 57) (by decide) ?_ dX2_settle_57 ?_
    rotate_left -- leaf 0: index at 57
    refine b_iret (pc := 58) rfl dX2_settle_58 ⟨Nat.le_of_ble_eq_true rfl, Nat.le_of_ble_eq_true rfl⟩ ?_
    rotate_left -- leaf 1: return at 58
    -- leaves: 0 index at 57; 1 return at 58
    · exact n_in (by omega) (by omega)
    · rw [n_cl (by omega), h2]
      exact h m2 h1
  have mid : B e_X2_settle Φ 51 [some (vr 2 20), some (vi (nI k)), some (vi (nI (closedN C k)))] [vi (oI (setN C k)), vi (nI k), vr 164 30] m (0, 0) := by
    refine b_iast (pc := 51) (by decide) ?_ dX2_settle_51 ?_
    rotate_left -- leaf 0: index at 51
    rotate_left -- leaf 1: at 52
    -- leaves: 0 index at 51; 1 at 52
    · exact n_in (by omega) (by omega)
    · rw [n_cl (by omega)]
      exact fin _ _ (CU.one m k) (by rw [mset_at, if_pos rfl])
  refine b_iloadN (pc := 0) 1 dX2_settle_0 rfl rfl ?_
  refine b_if_lt (pc := 1) 13 dX2_settle_1 (by decide) (fun c1 => ?_) (fun c1 => ?_)
  refine b_ldc (pc := 13) k678 dX2_settle_13 ?_
  refine b_iret (pc := 15) rfl dX2_settle_15 ⟨Nat.le_of_ble_eq_true rfl, Nat.le_of_ble_eq_true rfl⟩ ?_
  rotate_left -- leaf 0: return at 15
  refine b_iloadN (pc := 4) 1 dX2_settle_4 rfl rfl ?_
  refine b_aloadN (pc := 5) 0 dX2_settle_5 rfl rfl ?_
  refine gf2_4 (pc := 6) 30 rfl k278 dX2_settle_6 ?_
  refine b_alen (pc := 9) _ (by decide) rfl dX2_settle_9 ?_
  refine b_icmp_lt (pc := 10) 16 dX2_settle_10 (by decide) (fun c10 => ?_) (fun c10 => ?_)
  refine b_aloadN (pc := 16) 0 dX2_settle_16 rfl rfl ?_
  refine gf2_4 (pc := 17) 30 rfl k278 dX2_settle_17 ?_
  refine b_iloadN (pc := 20) 1 dX2_settle_20 rfl rfl ?_
  refine b_iald (pc := 21) (by decide) ?_ dX2_settle_21 ?_
  rotate_left -- leaf 1: index at 21
  refine b_iconst (pc := 22) (-1) dX2_settle_22 (by decide) ?_
  refine b_icmp_ne (pc := 23) 52 dX2_settle_23 (by decide) (fun c23 => ?_) (fun c23 => ?_)
  rotate_left -- leaf 2: at 52
  refine b_aloadN (pc := 26) 0 dX2_settle_26 rfl rfl ?_
  refine b_iloadN (pc := 27) 1 dX2_settle_27 rfl rfl ?_
  refine call_X2_grow (pc := 28) k679 (by decide) ⟨Nat.le_of_ble_eq_true rfl, Nat.le_of_ble_eq_true rfl⟩ (Nat.le_of_ble_eq_true rfl) dX2_settle_28 ?_
  refine ⟨_, rfl, C, _, hB, rfl, ?_, ?_⟩
  rotate_left -- leaf 3: bound of X2_grow at 28
  refine siN2 (pc := 31) rfl notL_i (by decide) dX2_settle_31 ?_
  refine b_aloadN (pc := 32) 0 dX2_settle_32 rfl rfl ?_
  refine gf2_4 (pc := 33) 30 rfl k278 dX2_settle_33 ?_
  refine b_iloadN (pc := 36) 1 dX2_settle_36 rfl rfl ?_
  refine b_aloadN (pc := 37) 0 dX2_settle_37 rfl rfl ?_
  refine b_iloadN (pc := 38) 2 dX2_settle_38 rfl rfl ?_
  refine call_X2_isBarred (pc := 39) k683 (by decide) ⟨Nat.le_of_ble_eq_true rfl, Nat.le_of_ble_eq_true rfl⟩ (Nat.le_of_ble_eq_true rfl) dX2_settle_39 ?_
  refine ⟨_, rfl, C, _, hB, rfl, ?_, ?_⟩
  rotate_left -- leaf 4: bound of X2_isBarred at 39
  refine b_if_eq (pc := 42) 50 dX2_settle_42 (by decide) (fun c42 => ?_) (fun c42 => ?_)
  refine b_iloadN (pc := 50) 2 dX2_settle_50 rfl rfl ?_
  rotate_left -- leaf 5: at 51
  refine b_ldc (pc := 45) k678 dX2_settle_45 ?_
  refine b_goto (pc := 47) 51 dX2_settle_47 (by decide) ?_
  rotate_left -- leaf 6: at 51
  refine b_ldc (pc := 13) k678 dX2_settle_13 ?_
  refine b_iret (pc := 15) rfl dX2_settle_15 ⟨Nat.le_of_ble_eq_true rfl, Nat.le_of_ble_eq_true rfl⟩ ?_
  rotate_left -- leaf 7: return at 15
  -- leaves: 0 return at 15; 1 index at 21; 2 at 52; 3 bound of X2_grow at 28; 4 bound of X2_isBarred at 39; 5 at 51; 6 at 51; 7 return at 15
  · rw [n_lt0 (by omega)] at c1
    exact c1.elim
  · exact n_in (by omega) (by omega)
  · rw [n_cl (by omega)] at c23
    rcases hB.2.2.2.2 k hk with q | q
    · exact absurd q c23
    · exact fin m _ (CU.rf C m) q
  · exact hk
  · exact hc
  · have e : canBe C (closedN C k) = true := by
      by_cases q : canBe C (closedN C k) = true
      · exact q
      · rw [if_neg q] at c42
        exact absurd c42 (by decide)
    have e2 : oI (setN C k) = nI (closedN C k) := by unfold setN; rw [if_pos e]; rfl
    rw [e2] at mid
    exact mid
  · have e : ¬ canBe C (closedN C k) = true := fun q => by
      rw [if_pos q] at c42
      exact c42 rfl
    have e2 : oI (setN C k) = -1000000 := by unfold setN; rw [if_neg e]; rfl
    rw [e2] at mid
    exact mid
  · rw [e64, n_lt (by omega) (by omega)] at c10
    omega
theorem call_X2_settle {E : ME} {Φ : Option AV → AM → Prop} {pc : Nat} {L : List (Option AV)} {st : List AV} {m : AM} {a : Nat × Nat} {idx : Nat} {x0 : AV} {i : Nat} (hl : Cond.methodLink E.2.1 idx yX2_settle ∈ TB) (hdep : 2 + 1 ≤ E.2.2.2.2.2.2) (hroom : a.1 + 0 ≤ E.2.2.2.2.1 ∧ a.2 + 0 ≤ E.2.2.2.2.2.1) (hsr : st.length ≤ 4) (hd : decode E.1 pc = .ok (.invokevirtual idx, 3)) (hsp : Sp_X2_settle [vr 2 i, x0] m (fun r m2 => B E Φ (pc + 3) L (r.toList ++ st) m2 a)) : B E Φ pc L (x0 :: vr 2 i :: st) m a := b_callV S_X2_settle [x0] (RX2, TX2, 5) rfl rfl (by decide) (Or.inl hl) k675 k676 k73 k677 (show _ ∧ _ ∧ Option.map (fun d => d.parameters.length) (parseMethodDescriptor yX2_settle.desc) = some 1 from by decide +kernel) ⟨hdep, by decide⟩ hroom hsr hd hsp
/-! what is believed -/
def withN (s f b : Nat) : Nat := if b = 1 then s ||| 2 ^ f else nDel s (2 ^ f)
def belN (C : Nat → Nat) (q s d k : Nat) : Nat := match q with
  | 1 => withN s (k / 2) (k % 2)
  | 2 => withN (withN s (k / 2) (k % 2)) ((k / 2 + 1) % C 0) (k % 2)
  | 3 => withN s (k / 2) (1 - k % 2)
  | 5 => if d.testBit (k / 2) = true then s else withN s (k / 2) (k % 2)
  | _ => s
/-- what is so behind a saying k of one of kind q, by s so, d said; none: not carried out -/
def outN (C : Nat → Nat) (q s d k : Nat) : Option Nat := setN C (belN C q s d k)
theorem and_pow (d f : Nat) : d &&& 2 ^ f = if d.testBit f = true then 2 ^ f else 0 := Nat.eq_of_testBit_eq fun i => by
  rw [Nat.testBit_and, Nat.testBit_two_pow]
  by_cases e : f = i
  · subst e
    split
    · next h => rw [h, Nat.testBit_two_pow]; simp
    · next h => rw [Bool.not_eq_true] at h; rw [h, Nat.zero_testBit]; rfl
  · split
    · rw [Nat.testBit_two_pow]; simp [e]
    · rw [Nat.zero_testBit]; simp [e]
theorem nDel_lt {a b : Nat} (h : a < 64) : nDel a b < 64 := by
  unfold nDel
  exact Nat.xor_lt_two_pow (n := 6) h (Nat.lt_of_le_of_lt Nat.and_le_left h)
theorem withN_lt {s f b : Nat} (hs : s < 64) (hf : f < 6) : withN s f b < 64 := by
  unfold withN
  split
  · exact or_lt64 hs (pow_lt64 hf)
  · exact nDel_lt hs
theorem belN_lt {C : Nat → Nat} (hv : VC C) (q : Nat) {s : Nat} (d : Nat) {k : Nat} (hs : s < 64) (hk : k < 2 * C 0) : belN C q s d k < 64 := by
  have h0 := hv.1
  have hf : k / 2 < 6 := by omega
  have hf2 : (k / 2 + 1) % C 0 < 6 := Nat.lt_of_lt_of_le (Nat.mod_lt _ (by omega)) h0.2
  unfold belN
  split
  · exact withN_lt hs hf
  · exact withN_lt (withN_lt hs hf) hf2
  · exact withN_lt hs hf
  · split
    · exact hs
    · exact withN_lt hs hf
  · exact hs
theorem withN_two (s f g b : Nat) : withN (withN s f b) g b = if b = 1 then s ||| (2 ^ f ||| 2 ^ g) else nDel s (2 ^ f ||| 2 ^ g) := by
  unfold withN
  split
  · rw [Nat.or_assoc]
  · refine Nat.eq_of_testBit_eq fun i => ?_
    rw [nDel_bit, nDel_bit, nDel_bit, Nat.testBit_or]
    generalize s.testBit i = p
    generalize (2 ^ f).testBit i = q
    generalize (2 ^ g).testBit i = r
    revert p q r
    decide
abbrev e_X2_factOf : ME := (cX2_factOf, (RX2, (1, ((some .int), (0, (0, 1))))))
theorem dX2_factOf_0 : decode cX2_factOf 0 = .ok (.iconst 1, 1) := by decide +kernel
theorem dX2_factOf_1 : decode cX2_factOf 1 = .ok (.iload_n 0, 1) := by decide +kernel
theorem dX2_factOf_2 : decode cX2_factOf 2 = .ok (.iconst 1, 1) := by decide +kernel
theorem dX2_factOf_3 : decode cX2_factOf 3 = .ok (.ishr, 1) := by decide +kernel
theorem dX2_factOf_4 : decode cX2_factOf 4 = .ok (.ishl, 1) := by decide +kernel
theorem dX2_factOf_5 : decode cX2_factOf 5 = .ok (.ireturn, 1) := by decide +kernel
def Sp_X2_factOf (av : List AV) (m : AM) (Φ : Option AV → AM → Prop) : Prop := ∃ s, av = [vi s] ∧ ∃ k, s = nI k ∧ k < 12 ∧ Φ (some (vi (nI (2 ^ (k / 2))))) m
set_option maxRecDepth 20000 in
set_option maxHeartbeats 4000000 in
theorem S_X2_factOf : Snd yX2_factOf e_X2_factOf Sp_X2_factOf := by
  refine Snd.of (by decide +kernel) rfl ?_ ?_
  · rintro av m Φ ⟨s, rfl, _⟩; exact Nat.le_of_ble_eq_true rfl
  rintro av m Φ ⟨s, rfl, k, rfl, hk, h⟩ hav hty
  show B e_X2_factOf Φ 0 [some (vi (nI k))] [] m (0, 0)
  have hp : 2 ^ (k / 2) < 64 := pow_lt64 (by omega)
  refine b_iconst (pc := 0) (nI 1) dX2_factOf_0 (by decide) ?_
  refine b_iloadN (pc := 1) 0 dX2_factOf_1 rfl rfl ?_
  refine b_iconst (pc := 2) (nI 1) dX2_factOf_2 (by decide) ?_
  refine b_ishr (pc := 3) dX2_factOf_3 ?_
  refine b_ishl (pc := 4) dX2_factOf_4 ?_
  refine b_iret (pc := 5) rfl dX2_factOf_5 ⟨Nat.le_of_ble_eq_true rfl, Nat.le_of_ble_eq_true rfl⟩ ?_
  rotate_left -- leaf 0: return at 5
  -- leaves: 0 return at 5
  rw [n_shr (by omega) (by omega), Nat.shiftRight_eq_div_pow, show 2 ^ 1 = 2 from rfl, n_shl (by omega) (by omega), Nat.shiftLeft_eq, Nat.one_mul]
  exact h
theorem call_X2_factOf {E : ME} {Φ : Option AV → AM → Prop} {pc : Nat} {L : List (Option AV)} {st : List AV} {m : AM} {a : Nat × Nat} {idx : Nat} {x0 : AV} (hl : Cond.methodLink E.2.1 idx yX2_factOf ∈ TB) (hdep : 1 + 1 ≤ E.2.2.2.2.2.2) (hroom : a.1 + 0 ≤ E.2.2.2.2.1 ∧ a.2 + 0 ≤ E.2.2.2.2.2.1) (hsr : st.length ≤ 4) (hd : decode E.1 pc = .ok (.invokestatic idx, 3)) (hsp : Sp_X2_factOf [x0] m (fun r m2 => B E Φ (pc + 3) L (r.toList ++ st) m2 a)) : B E Φ pc L (x0 :: st) m a := b_callS S_X2_factOf [x0] (Or.inl hl) k672 k73 k673 (show _ ∧ _ ∧ Option.map (fun d => d.parameters.length) (parseMethodDescriptor yX2_factOf.desc) = some 1 from by decide +kernel) ⟨hdep, by decide⟩ hroom hsr hd hsp
abbrev e_X2_believed : ME := (cX2_believed, (RX2, (7, ((some .int), (0, (0, 2))))))
theorem dX2_believed_0 : decode cX2_believed 0 = .ok (.iload_n 2, 1) := by decide +kernel
theorem dX2_believed_1 : decode cX2_believed 1 = .ok (.invokestatic 99, 3) := by decide +kernel
theorem dX2_believed_4 : decode cX2_believed 4 = .ok (.istore 5, 2) := by decide +kernel
theorem dX2_believed_6 : decode cX2_believed 6 = .ok (.iload_n 2, 1) := by decide +kernel
theorem dX2_believed_7 : decode cX2_believed 7 = .ok (.iconst 1, 1) := by decide +kernel
theorem dX2_believed_8 : decode cX2_believed 8 = .ok (.iand, 1) := by decide +kernel
theorem dX2_believed_9 : decode cX2_believed 9 = .ok (.iconst 1, 1) := by decide +kernel
theorem dX2_believed_10 : decode cX2_believed 10 = .ok (.if_icmp .ne 7, 3) := by decide +kernel
theorem dX2_believed_13 : decode cX2_believed 13 = .ok (.iconst 1, 1) := by decide +kernel
theorem dX2_believed_14 : decode cX2_believed 14 = .ok (.goto 4, 3) := by decide +kernel
theorem dX2_believed_17 : decode cX2_believed 17 = .ok (.iconst 0, 1) := by decide +kernel
theorem dX2_believed_18 : decode cX2_believed 18 = .ok (.istore 6, 2) := by decide +kernel
theorem dX2_believed_20 : decode cX2_believed 20 = .ok (.iload_n 1, 1) := by decide +kernel
theorem dX2_believed_21 : decode cX2_believed 21 = .ok (.tableswitch 89 2 5 #[31, 62, 77, 79], 31) := by decide +kernel
theorem dX2_believed_52 : decode cX2_believed 52 = .ok (.iload 5, 2) := by decide +kernel
theorem dX2_believed_54 : decode cX2_believed 54 = .ok (.iload_n 2, 1) := by decide +kernel
theorem dX2_believed_55 : decode cX2_believed 55 = .ok (.iconst 1, 1) := by decide +kernel
theorem dX2_believed_56 : decode cX2_believed 56 = .ok (.ishr, 1) := by decide +kernel
theorem dX2_believed_57 : decode cX2_believed 57 = .ok (.iconst 1, 1) := by decide +kernel
theorem dX2_believed_58 : decode cX2_believed 58 = .ok (.iadd, 1) := by decide +kernel
theorem dX2_believed_59 : decode cX2_believed 59 = .ok (.aload_n 0, 1) := by decide +kernel
theorem dX2_believed_60 : decode cX2_believed 60 = .ok (.getfield 12, 3) := by decide +kernel
theorem dX2_believed_63 : decode cX2_believed 63 = .ok (.getfield 35, 3) := by decide +kernel
theorem dX2_believed_66 : decode cX2_believed 66 = .ok (.if_icmp .ge 10, 3) := by decide +kernel
theorem dX2_believed_69 : decode cX2_believed 69 = .ok (.iload 5, 2) := by decide +kernel
theorem dX2_believed_71 : decode cX2_believed 71 = .ok (.iconst 1, 1) := by decide +kernel
theorem dX2_believed_72 : decode cX2_believed 72 = .ok (.ishl, 1) := by decide +kernel
theorem dX2_believed_73 : decode cX2_believed 73 = .ok (.goto 4, 3) := by decide +kernel
theorem dX2_believed_76 : decode cX2_believed 76 = .ok (.iconst 1, 1) := by decide +kernel
theorem dX2_believed_77 : decode cX2_believed 77 = .ok (.ior, 1) := by decide +kernel
theorem dX2_believed_78 : decode cX2_believed 78 = .ok (.istore 5, 2) := by decide +kernel
theorem dX2_believed_80 : decode cX2_believed 80 = .ok (.goto 30, 3) := by decide +kernel
theorem dX2_believed_83 : decode cX2_believed 83 = .ok (.iload 6, 2) := by decide +kernel
theorem dX2_believed_85 : decode cX2_believed 85 = .ok (.ifCond .ne 7, 3) := by decide +kernel
theorem dX2_believed_88 : decode cX2_believed 88 = .ok (.iconst 1, 1) := by decide +kernel
theorem dX2_believed_89 : decode cX2_believed 89 = .ok (.goto 4, 3) := by decide +kernel
theorem dX2_believed_92 : decode cX2_believed 92 = .ok (.iconst 0, 1) := by decide +kernel
theorem dX2_believed_93 : decode cX2_believed 93 = .ok (.istore 6, 2) := by decide +kernel
theorem dX2_believed_95 : decode cX2_believed 95 = .ok (.goto 15, 3) := by decide +kernel
theorem dX2_believed_98 : decode cX2_believed 98 = .ok (.iload_n 3, 1) := by decide +kernel
theorem dX2_believed_99 : decode cX2_believed 99 = .ok (.ireturn, 1) := by decide +kernel
theorem dX2_believed_100 : decode cX2_believed 100 = .ok (.iload 4, 2) := by decide +kernel
theorem dX2_believed_102 : decode cX2_believed 102 = .ok (.iload 5, 2) := by decide +kernel
theorem dX2_believed_104 : decode cX2_believed 104 = .ok (.iand, 1) := by decide +kernel
theorem dX2_believed_105 : decode cX2_believed 105 = .ok (.ifCond .eq 5, 3) := by decide +kernel
theorem dX2_believed_108 : decode cX2_believed 108 = .ok (.iload_n 3, 1) := by decide +kernel
theorem dX2_believed_109 : decode cX2_believed 109 = .ok (.ireturn, 1) := by decide +kernel
theorem dX2_believed_110 : decode cX2_believed 110 = .ok (.iload 6, 2) := by decide +kernel
theorem dX2_believed_112 : decode cX2_believed 112 = .ok (.ifCond .eq 10, 3) := by decide +kernel
theorem dX2_believed_115 : decode cX2_believed 115 = .ok (.iload_n 3, 1) := by decide +kernel
theorem dX2_believed_116 : decode cX2_believed 116 = .ok (.iload 5, 2) := by decide +kernel
theorem dX2_believed_118 : decode cX2_believed 118 = .ok (.ior, 1) := by decide +kernel
theorem dX2_believed_119 : decode cX2_believed 119 = .ok (.goto 9, 3) := by decide +kernel
theorem dX2_believed_122 : decode cX2_believed 122 = .ok (.iload_n 3, 1) := by decide +kernel
theorem dX2_believed_123 : decode cX2_believed 123 = .ok (.iload 5, 2) := by decide +kernel
theorem dX2_believed_125 : decode cX2_believed 125 = .ok (.iconst (-1), 1) := by decide +kernel
theorem dX2_believed_126 : decode cX2_believed 126 = .ok (.ixor, 1) := by decide +kernel
theorem dX2_believed_127 : decode cX2_believed 127 = .ok (.iand, 1) := by decide +kernel
theorem dX2_believed_128 : decode cX2_believed 128 = .ok (.ireturn, 1) := by decide +kernel
def Sp_X2_believed (av : List AV) (m : AM) (Φ : Option AV → AM → Prop) : Prop := ∃ kd sy so sd, av = [vr 2 20, vi kd, vi sy, vi so, vi sd] ∧ ∃ C q k s d, BR m C ∧ kd = nI q ∧ sy = nI k ∧ so = nI s ∧ sd = nI d ∧ (1 ≤ q ∧ q ≤ 5) ∧ k < 2 * C 0 ∧ s < 64 ∧ d < 64 ∧ Φ (some (vi (nI (belN C q s d k)))) m
set_option maxRecDepth 20000 in
set_option maxHeartbeats 4000000 in
theorem S_X2_believed : Snd yX2_believed e_X2_believed Sp_X2_believed := by
  refine Snd.of (by decide +kernel) rfl ?_ ?_
  · rintro av m Φ ⟨kd, sy, so, sd, rfl, _⟩; exact Nat.le_of_ble_eq_true rfl
  rintro av m Φ ⟨kd, sy, so, sd, rfl, C, q, k, s, d, hB, rfl, rfl, rfl, rfl, hq, hk, hs, hd, h⟩ hav hty
  show B e_X2_believed Φ 0 [some (vr 2 20), some (vi (nI q)), some (vi (nI k)), some (vi (nI s)), some (vi (nI d)), none, none] [] m (0, 0)
  have hv := hB.1
  have hL := hB.2.1
  have hf0 : C 0 ≤ 6 := hv.1.2
  have hp : 2 ^ (k / 2) < 64 := pow_lt64 (by omega)
  have tl : ∀ w e, e < 2 → Φ (some (vi (nI (if e = 1 then s ||| w else nDel s w)))) m → B e_X2_believed Φ 110 [some (vr 2 20), some (vi (nI q)), some (vi (nI k)), some (vi (nI s)), some (vi (nI d)), some (vi (nI w)), some (vi (nI e))] [] m (0, 0) := by
    intro w e he hw
    refine b_iloadG (pc := 110) 6 dX2_believed_110 rfl ?_
    refine b_if_eq (pc := 112) 122 dX2_believed_112 (by decide) (fun c112 => ?_) (fun c112 => ?_)
    refine b_iloadN (pc := 122) 3 dX2_believed_122 rfl rfl ?_
    refine b_iloadG (pc := 123) 5 dX2_believed_123 rfl ?_
    refine b_iconst (pc := 125) (-1) dX2_believed_125 (by decide) ?_
    refine b_ixor (pc := 126) dX2_believed_126 ?_
    refine b_iand (pc := 127) dX2_believed_127 ?_
    refine b_iret (pc := 128) rfl dX2_believed_128 ⟨Nat.le_of_ble_eq_true rfl, Nat.le_of_ble_eq_true rfl⟩ ?_
    rotate_left -- leaf 0: return at 128
    refine b_iloadN (pc := 115) 3 dX2_believed_115 rfl rfl ?_
    refine b_iloadG (pc := 116) 5 dX2_believed_116 rfl ?_
    refine b_ior (pc := 118) dX2_believed_118 ?_
    refine b_goto (pc := 119) 128 dX2_believed_119 (by decide) ?_
    refine b_iret (pc := 128) rfl dX2_believed_128 ⟨Nat.le_of_ble_eq_true rfl, Nat.le_of_ble_eq_true rfl⟩ ?_
    rotate_left -- leaf 1: return at 128
    -- leaves: 0 return at 128; 1 return at 128
    · rw [n_eq0 (by omega)] at c112
      subst c112
      rw [n_del]
      exact hw
    · rw [n_eq0 (by omega)] at c112
      have e1 : e = 1 := by omega
      subst e1
      rw [n_or]
      exact hw
  have sw : B e_X2_believed Φ 21 [some (vr 2 20), some (vi (nI q)), some (vi (nI k)), some (vi (nI s)), some (vi (nI d)), some (vi (nI (2 ^ (k / 2)))), some (vi (nI (k % 2)))] [vi (nI q)] m (0, 0) := by
    rcases (by omega : q = 1 ∨ q = 2 ∨ q = 3 ∨ q = 4 ∨ q = 5) with rfl | rfl | rfl | rfl | rfl
    · refine b_tableOut (pc := 21) 110 dX2_believed_21 (Or.inl (by decide)) (by decide) ?_
      exact tl _ _ (by omega) h
    · refine b_tableIn (pc := 21) (off := 31) 52 dX2_believed_21 (by decide) (by decide) (by decide) (by decide) ?_
      refine b_iloadG (pc := 52) 5 dX2_believed_52 rfl ?_
      refine b_iloadN (pc := 54) 2 dX2_believed_54 rfl rfl ?_
      refine b_iconst (pc := 55) (nI 1) dX2_believed_55 (by decide) ?_
      refine b_ishr (pc := 56) dX2_believed_56 ?_
      refine b_iconst (pc := 57) (nI 1) dX2_believed_57 (by decide) ?_
      refine b_iadd (pc := 58) dX2_believed_58 ?_
      refine b_aloadN (pc := 59) 0 dX2_believed_59 rfl rfl ?_
      refine gf2_0 (pc := 60) 21 rfl k264 dX2_believed_60 ?_
      refine gf5_4 (pc := 63) k143 dX2_believed_63 ?_
      refine b_icmp_ge (pc := 66) 76 dX2_believed_66 (by decide) (fun c66 => ?_) (fun c66 => ?_)
      refine b_iconst (pc := 76) (nI 1) dX2_believed_76 (by decide) ?_
      refine b_ior (pc := 77) dX2_believed_77 ?_
      refine siG5 (pc := 78) notL_i (by decide) dX2_believed_78 ?_
      refine b_goto (pc := 80) 110 dX2_believed_80 (by decide) ?_
      rotate_left -- leaf 0: at 110
      refine b_iloadG (pc := 69) 5 dX2_believed_69 rfl ?_
      refine b_iconst (pc := 71) (nI 1) dX2_believed_71 (by decide) ?_
      refine b_ishl (pc := 72) dX2_believed_72 ?_
      refine b_goto (pc := 73) 77 dX2_believed_73 (by decide) ?_
      refine b_ior (pc := 77) dX2_believed_77 ?_
      refine siG5 (pc := 78) notL_i (by decide) dX2_believed_78 ?_
      refine b_goto (pc := 80) 110 dX2_believed_80 (by decide) ?_
      rotate_left -- leaf 1: at 110
      -- leaves: 0 at 110; 1 at 110
      · rw [n_shr (by omega) (by omega), Nat.shiftRight_eq_div_pow, show 2 ^ 1 = 2 from rfl, n_add, hL.1, n_le (by omega) (by omega)] at c66
        have e : (k / 2 + 1) % C 0 = 0 := by rw [show k / 2 + 1 = C 0 by omega, Nat.mod_self]
        rw [n_or]
        refine tl _ _ (by omega) ?_
        have h2 := h
        unfold belN at h2
        rw [withN_two, e] at h2
        exact h2
      · rw [n_shr (by omega) (by omega), Nat.shiftRight_eq_div_pow, show 2 ^ 1 = 2 from rfl, n_add, hL.1, n_le (by omega) (by omega)] at c66
        have e : (k / 2 + 1) % C 0 = k / 2 + 1 := Nat.mod_eq_of_lt (by omega)
        rw [n_shl (by omega) (by omega), Nat.shiftLeft_eq, n_or]
        refine tl _ _ (by omega) ?_
        have h2 := h
        unfold belN at h2
        rw [withN_two, e] at h2
        exact h2
    · refine b_tableIn (pc := 21) (off := 62) 83 dX2_believed_21 (by decide) (by decide) (by decide) (by decide) ?_
      refine b_iloadG (pc := 83) 6 dX2_believed_83 rfl ?_
      refine b_if_ne (pc := 85) 92 dX2_believed_85 (by decide) (fun c85 => ?_) (fun c85 => ?_)
      refine b_iconst (pc := 92) (nI 0) dX2_believed_92 (by decide) ?_
      refine siG6 (pc := 93) notL_i (by decide) dX2_believed_93 ?_
      refine b_goto (pc := 95) 110 dX2_believed_95 (by decide) ?_
      rotate_left -- leaf 0: at 110
      refine b_iconst (pc := 88) (nI 1) dX2_believed_88 (by decide) ?_
      refine b_goto (pc := 89) 93 dX2_believed_89 (by decide) ?_
      refine siG6 (pc := 93) notL_i (by decide) dX2_believed_93 ?_
      refine b_goto (pc := 95) 110 dX2_believed_95 (by decide) ?_
      rotate_left -- leaf 1: at 110
      -- leaves: 0 at 110; 1 at 110
      · rw [n_eq0 (by omega)] at c85
        refine tl _ 0 (by omega) ?_
        have h2 := h
        unfold belN withN at h2
        rw [show 1 - k % 2 = 0 by omega] at h2
        exact h2
      · rw [n_eq0 (by omega)] at c85
        refine tl _ 1 (by omega) ?_
        have h2 := h
        unfold belN withN at h2
        rw [c85] at h2
        exact h2
    · refine b_tableIn (pc := 21) (off := 77) 98 dX2_believed_21 (by decide) (by decide) (by decide) (by decide) ?_
      refine b_iloadN (pc := 98) 3 dX2_believed_98 rfl rfl ?_
      refine b_iret (pc := 99) rfl dX2_believed_99 ⟨Nat.le_of_ble_eq_true rfl, Nat.le_of_ble_eq_true rfl⟩ ?_
      rotate_left -- leaf 0: return at 99
      -- leaves: 0 return at 99
      exact h
    · refine b_tableIn (pc := 21) (off := 79) 100 dX2_believed_21 (by decide) (by decide) (by decide) (by decide) ?_
      have h2 := h
      unfold belN at h2
      refine b_iloadG (pc := 100) 4 dX2_believed_100 rfl ?_
      refine b_iloadG (pc := 102) 5 dX2_believed_102 rfl ?_
      refine b_iand (pc := 104) dX2_believed_104 ?_
      refine b_if_eq (pc := 105) 110 dX2_believed_105 (by decide) (fun c105 => ?_) (fun c105 => ?_)
      rotate_left -- leaf 0: at 110
      refine b_iloadN (pc := 108) 3 dX2_believed_108 rfl rfl ?_
      refine b_iret (pc := 109) rfl dX2_believed_109 ⟨Nat.le_of_ble_eq_true rfl, Nat.le_of_ble_eq_true rfl⟩ ?_
      rotate_left -- leaf 1: return at 109
      -- leaves: 0 at 110; 1 return at 109
      · rw [n_and, and_pow] at c105
        have e : ¬ d.testBit (k / 2) = true := fun e => by
          rw [if_pos e, n_eq0 (by omega)] at c105
          have : 0 < 2 ^ (k / 2) := Nat.two_pow_pos _
          omega
        rw [if_neg e] at h2
        exact tl _ _ (by omega) h2
      · rw [n_and, and_pow] at c105
        have e : d.testBit (k / 2) = true := by
          by_cases e : d.testBit (k / 2) = true
          · exact e
          · rw [if_neg e] at c105
            exact absurd rfl c105
        rw [if_pos e] at h2
        exact h2
  refine b_iloadN (pc := 0) 2 dX2_believed_0 rfl rfl ?_
  refine call_X2_factOf (pc := 1) k671 (by decide) ⟨Nat.le_of_ble_eq_true rfl, Nat.le_of_ble_eq_true rfl⟩ (Nat.le_of_ble_eq_true rfl) dX2_believed_1 ?_
  refine ⟨_, rfl, _, rfl, ?_, ?_⟩
  rotate_left -- leaf 0: bound of X2_factOf at 1
  refine siG5 (pc := 4) notL_i (by decide) dX2_believed_4 ?_
  refine b_iloadN (pc := 6) 2 dX2_believed_6 rfl rfl ?_
  refine b_iconst (pc := 7) (nI 1) dX2_believed_7 (by decide) ?_
  refine b_iand (pc := 8) dX2_believed_8 ?_
  refine b_iconst (pc := 9) (nI 1) dX2_believed_9 (by decide) ?_
  refine b_icmp_ne (pc := 10) 17 dX2_believed_10 (by decide) (fun c10 => ?_) (fun c10 => ?_)
  refine b_iconst (pc := 17) (nI 0) dX2_believed_17 (by decide) ?_
  refine siG6 (pc := 18) notL_i (by decide) dX2_believed_18 ?_
  refine b_iloadN (pc := 20) 1 dX2_believed_20 rfl rfl ?_
  rotate_left -- leaf 1: at 21
  refine b_iconst (pc := 13) (nI 1) dX2_believed_13 (by decide) ?_
  refine b_goto (pc := 14) 18 dX2_believed_14 (by decide) ?_
  refine siG6 (pc := 18) notL_i (by decide) dX2_believed_18 ?_
  refine b_iloadN (pc := 20) 1 dX2_believed_20 rfl rfl ?_
  rotate_left -- leaf 2: at 21
  -- leaves: 0 bound of X2_factOf at 1; 1 at 21; 2 at 21
  · omega
  · rw [n_and, Nat.and_one_is_mod, n_eq (by omega) (by omega)] at c10
    rw [show k % 2 = 0 by omega] at sw
    exact sw
  · rw [n_and, Nat.and_one_is_mod, n_eq (by omega) (by omega)] at c10
    rw [c10] at sw
    exact sw
theorem call_X2_believed {E : ME} {Φ : Option AV → AM → Prop} {pc : Nat} {L : List (Option AV)} {st : List AV} {m : AM} {a : Nat × Nat} {idx : Nat} {x0 x1 x2 x3 : AV} {i : Nat} (hl : Cond.methodLink E.2.1 idx yX2_believed ∈ TB) (hdep : 2 + 1 ≤ E.2.2.2.2.2.2) (hroom : a.1 + 0 ≤ E.2.2.2.2.1 ∧ a.2 + 0 ≤ E.2.2.2.2.2.1) (hsr : st.length ≤ 4) (hd : decode E.1 pc = .ok (.invokevirtual idx, 3)) (hsp : Sp_X2_believed [vr 2 i, x0, x1, x2, x3] m (fun r m2 => B E Φ (pc + 3) L (r.toList ++ st) m2 a)) : B E Φ pc L (x3 :: x2 :: x1 :: x0 :: vr 2 i :: st) m a := b_callV S_X2_believed [x0, x1, x2, x3] (RX2, TX2, 5) rfl rfl (by decide) (Or.inl hl) k669 k12 k73 k670 (show _ ∧ _ ∧ Option.map (fun d => d.parameters.length) (parseMethodDescriptor yX2_believed.desc) = some 4 from by decide +kernel) ⟨hdep, by decide⟩ hroom hsr hd hsp
abbrev e_X2_outcome : ME := (cX2_outcome, (RX2, (5, ((some .int), (0, (0, 3))))))
theorem dX2_outcome_0 : decode cX2_outcome 0 = .ok (.aload_n 0, 1) := by decide +kernel
theorem dX2_outcome_1 : decode cX2_outcome 1 = .ok (.aload_n 0, 1) := by decide +kernel
theorem dX2_outcome_2 : decode cX2_outcome 2 = .ok (.iload_n 1, 1) := by decide +kernel
theorem dX2_outcome_3 : decode cX2_outcome 3 = .ok (.iload_n 2, 1) := by decide +kernel
theorem dX2_outcome_4 : decode cX2_outcome 4 = .ok (.iload_n 3, 1) := by decide +kernel
theorem dX2_outcome_5 : decode cX2_outcome 5 = .ok (.iload 4, 2) := by decide +kernel
theorem dX2_outcome_7 : decode cX2_outcome 7 = .ok (.invokevirtual 118, 3) := by decide +kernel
theorem dX2_outcome_10 : decode cX2_outcome 10 = .ok (.invokevirtual 121, 3) := by decide +kernel
theorem dX2_outcome_13 : decode cX2_outcome 13 = .ok (.ireturn, 1) := by decide +kernel
def Sp_X2_outcome (av : List AV) (m : AM) (Φ : Option AV → AM → Prop) : Prop := ∃ kd sy so sd, av = [vr 2 20, vi kd, vi sy, vi so, vi sd] ∧ ∃ C q k s d, BR m C ∧ kd = nI q ∧ sy = nI k ∧ so = nI s ∧ sd = nI d ∧ (1 ≤ q ∧ q ≤ 5) ∧ k < 2 * C 0 ∧ s < 64 ∧ d < 64 ∧ ∀ m2, CU C m m2 → Φ (some (vi (oI (outN C q s d k)))) m2
set_option maxRecDepth 20000 in
set_option maxHeartbeats 4000000 in
theorem S_X2_outcome : Snd yX2_outcome e_X2_outcome Sp_X2_outcome := by
  refine Snd.of (by decide +kernel) rfl ?_ ?_
  · rintro av m Φ ⟨kd, sy, so, sd, rfl, _⟩; exact Nat.le_of_ble_eq_true rfl
  rintro av m Φ ⟨kd, sy, so, sd, rfl, C, q, k, s, d, hB, rfl, rfl, rfl, rfl, hq, hk, hs, hd, h⟩ hav hty
  show B e_X2_outcome Φ 0 [some (vr 2 20), some (vi (nI q)), some (vi (nI k)), some (vi (nI s)), some (vi (nI d))] [] m (0, 0)
  refine b_aloadN (pc := 0) 0 dX2_outcome_0 rfl rfl ?_
  refine b_aloadN (pc := 1) 0 dX2_outcome_1 rfl rfl ?_
  refine b_iloadN (pc := 2) 1 dX2_outcome_2 rfl rfl ?_
  refine b_iloadN (pc := 3) 2 dX2_outcome_3 rfl rfl ?_
  refine b_iloadN (pc := 4) 3 dX2_outcome_4 rfl rfl ?_
  refine b_iloadG (pc := 5) 4 dX2_outcome_5 rfl ?_
  refine call_X2_believed (pc := 7) k667 (by decide) ⟨Nat.le_of_ble_eq_true rfl, Nat.le_of_ble_eq_true rfl⟩ (Nat.le_of_ble_eq_true rfl) dX2_outcome_7 ?_
  refine ⟨_, _, _, _, rfl, C, _, _, _, _, hB, rfl, rfl, rfl, rfl, ?_, ?_, ?_, ?_, ?_⟩
  rotate_left -- leaf 0: kind of X2_believed at 7
  rotate_left -- leaf 1: saying of X2_believed at 7
  rotate_left -- leaf 2: so of X2_believed at 7
  rotate_left -- leaf 3: said of X2_believed at 7
  refine call_X2_settle (pc := 10) k674 (by decide) ⟨Nat.le_of_ble_eq_true rfl, Nat.le_of_ble_eq_true rfl⟩ (Nat.le_of_ble_eq_true rfl) dX2_outcome_10 ?_
  refine ⟨_, rfl, C, _, hB, rfl, ?_, fun m10 h10 => ?_⟩
  rotate_left -- leaf 4: bound of X2_settle at 10
  have hB := hB.cu h10
  refine b_iret (pc := 13) rfl dX2_outcome_13 ⟨Nat.le_of_ble_eq_true rfl, Nat.le_of_ble_eq_true rfl⟩ ?_
  rotate_left -- leaf 5: return at 13
  -- leaves: 0 kind of X2_believed at 7; 1 saying of X2_believed at 7; 2 so of X2_believed at 7; 3 said of X2_believed at 7; 4 bound of X2_settle at 10; 5 return at 13
  · exact hq
  · exact hk
  · exact hs
  · exact hd
  · exact belN_lt hB.1 q d hs hk
  · exact h m10 h10
theorem call_X2_outcome {E : ME} {Φ : Option AV → AM → Prop} {pc : Nat} {L : List (Option AV)} {st : List AV} {m : AM} {a : Nat × Nat} {idx : Nat} {x0 x1 x2 x3 : AV} {i : Nat} (hl : Cond.methodLink E.2.1 idx yX2_outcome ∈ TB) (hdep : 3 + 1 ≤ E.2.2.2.2.2.2) (hroom : a.1 + 0 ≤ E.2.2.2.2.1 ∧ a.2 + 0 ≤ E.2.2.2.2.2.1) (hsr : st.length ≤ 4) (hd : decode E.1 pc = .ok (.invokevirtual idx, 3)) (hsp : Sp_X2_outcome [vr 2 i, x0, x1, x2, x3] m (fun r m2 => B E Φ (pc + 3) L (r.toList ++ st) m2 a)) : B E Φ pc L (x3 :: x2 :: x1 :: x0 :: vr 2 i :: st) m a := b_callV S_X2_outcome [x0, x1, x2, x3] (RX2, TX2, 5) rfl rfl (by decide) (Or.inl hl) k664 k665 k73 k666 (show _ ∧ _ ∧ Option.map (fun d => d.parameters.length) (parseMethodDescriptor yX2_outcome.desc) = some 4 from by decide +kernel) ⟨hdep, by decide⟩ hroom hsr hd hsp
theorem setN_lt {C : Nat → Nat} (hv : VC C) {s v : Nat} (hs : s < 64) (h : setN C s = some v) : v < 64 := by
  unfold setN at h
  split at h
  · cases h; exact closedN_lt hv.hv hs
  · cases h
/-- as outN, all as it was by what is not carried out -/
def behN (C : Nat → Nat) (q s d k : Nat) : Nat := (outN C q s d k).getD s
theorem behN_lt {C : Nat → Nat} (hv : VC C) {q s d k : Nat} (hs : s < 64) (hk : k < 2 * C 0) : behN C q s d k < 64 := by
  unfold behN
  cases e : outN C q s d k with
  | none => exact hs
  | some v => exact setN_lt hv (belN_lt hv q d hs hk) e
theorem oI_none {C : Nat → Nat} (hv : VC C) {s : Nat} (hs : s < 64) : oI (setN C s) = -1000000 ↔ setN C s = none := by
  cases e : setN C s with
  | none => simp [oI]
  | some v =>
    have := setN_lt hv hs e
    simp [oI, n_ne_none (show v < 2147483648 by omega)]
abbrev e_X2_soBehind : ME := (cX2_soBehind, (RX2, (6, ((some .int), (0, (0, 4))))))
theorem dX2_soBehind_0 : decode cX2_soBehind 0 = .ok (.aload_n 0, 1) := by decide +kernel
theorem dX2_soBehind_1 : decode cX2_soBehind 1 = .ok (.iload_n 1, 1) := by decide +kernel
theorem dX2_soBehind_2 : decode cX2_soBehind 2 = .ok (.iload_n 2, 1) := by decide +kernel
theorem dX2_soBehind_3 : decode cX2_soBehind 3 = .ok (.iload_n 3, 1) := by decide +kernel
theorem dX2_soBehind_4 : decode cX2_soBehind 4 = .ok (.iload 4, 2) := by decide +kernel
theorem dX2_soBehind_6 : decode cX2_soBehind 6 = .ok (.invokevirtual 95, 3) := by decide +kernel
theorem dX2_soBehind_9 : decode cX2_soBehind 9 = .ok (.istore 5, 2) := by decide +kernel
theorem dX2_soBehind_11 : decode cX2_soBehind 11 = .ok (.iload 5, 2) := by decide +kernel
theorem dX2_soBehind_13 : decode cX2_soBehind 13 = .ok (.ldc 105, 2) := by decide +kernel
theorem dX2_soBehind_15 : decode cX2_soBehind 15 = .ok (.if_icmp .ne 7, 3) := by decide +kernel
theorem dX2_soBehind_18 : decode cX2_soBehind 18 = .ok (.iload_n 3, 1) := by decide +kernel
theorem dX2_soBehind_19 : decode cX2_soBehind 19 = .ok (.goto 5, 3) := by decide +kernel
theorem dX2_soBehind_22 : decode cX2_soBehind 22 = .ok (.iload 5, 2) := by decide +kernel
theorem dX2_soBehind_24 : decode cX2_soBehind 24 = .ok (.ireturn, 1) := by decide +kernel
def Sp_X2_soBehind (av : List AV) (m : AM) (Φ : Option AV → AM → Prop) : Prop := ∃ kd sy so sd, av = [vr 2 20, vi kd, vi sy, vi so, vi sd] ∧ ∃ C q k s d, BR m C ∧ kd = nI q ∧ sy = nI k ∧ so = nI s ∧ sd = nI d ∧ (1 ≤ q ∧ q ≤ 5) ∧ k < 2 * C 0 ∧ s < 64 ∧ d < 64 ∧ ∀ m2, CU C m m2 → Φ (some (vi (nI (behN C q s d k)))) m2
set_option maxRecDepth 20000 in
set_option maxHeartbeats 4000000 in
theorem S_X2_soBehind : Snd yX2_soBehind e_X2_soBehind Sp_X2_soBehind := by
  refine Snd.of (by decide +kernel) rfl ?_ ?_
  · rintro av m Φ ⟨kd, sy, so, sd, rfl, _⟩; exact Nat.le_of_ble_eq_true rfl
  rintro av m Φ ⟨kd, sy, so, sd, rfl, C, q, k, s, d, hB, rfl, rfl, rfl, rfl, hq, hk, hs, hd, h⟩ hav hty
  show B e_X2_soBehind Φ 0 [some (vr 2 20), some (vi (nI q)), some (vi (nI k)), some (vi (nI s)), some (vi (nI d)), none] [] m (0, 0)
  have hv := hB.1
  refine b_aloadN (pc := 0) 0 dX2_soBehind_0 rfl rfl ?_
  refine b_iloadN (pc := 1) 1 dX2_soBehind_1 rfl rfl ?_
  refine b_iloadN (pc := 2) 2 dX2_soBehind_2 rfl rfl ?_
  refine b_iloadN (pc := 3) 3 dX2_soBehind_3 rfl rfl ?_
  refine b_iloadG (pc := 4) 4 dX2_soBehind_4 rfl ?_
  refine call_X2_outcome (pc := 6) k663 (by decide) ⟨Nat.le_of_ble_eq_true rfl, Nat.le_of_ble_eq_true rfl⟩ (Nat.le_of_ble_eq_true rfl) dX2_soBehind_6 ?_
  refine ⟨_, _, _, _, rfl, C, _, _, _, _, hB, rfl, rfl, rfl, rfl, ?_, ?_, ?_, ?_, fun m6 h6 => ?_⟩
  rotate_left -- leaf 0: kind of X2_outcome at 6
  rotate_left -- leaf 1: saying of X2_outcome at 6
  rotate_left -- leaf 2: so of X2_outcome at 6
  rotate_left -- leaf 3: said of X2_outcome at 6
  have hB := hB.cu h6
  refine siG5 (pc := 9) notL_i (by decide) dX2_soBehind_9 ?_
  refine b_iloadG (pc := 11) 5 dX2_soBehind_11 rfl ?_
  refine b_ldc (pc := 13) k678 dX2_soBehind_13 ?_
  refine b_icmp_ne (pc := 15) 22 dX2_soBehind_15 (by decide) (fun c15 => ?_) (fun c15 => ?_)
  refine b_iloadG (pc := 22) 5 dX2_soBehind_22 rfl ?_
  refine b_iret (pc := 24) rfl dX2_soBehind_24 ⟨Nat.le_of_ble_eq_true rfl, Nat.le_of_ble_eq_true rfl⟩ ?_
  rotate_left -- leaf 4: return at 24
  refine b_iloadN (pc := 18) 3 dX2_soBehind_18 rfl rfl ?_
  refine b_goto (pc := 19) 24 dX2_soBehind_19 (by decide) ?_
  refine b_iret (pc := 24) rfl dX2_soBehind_24 ⟨Nat.le_of_ble_eq_true rfl, Nat.le_of_ble_eq_true rfl⟩ ?_
  rotate_left -- leaf 5: return at 24
  -- leaves: 0 kind of X2_outcome at 6; 1 saying of X2_outcome at 6; 2 so of X2_outcome at 6; 3 said of X2_outcome at 6; 4 return at 24; 5 return at 24
  · exact hq
  · exact hk
  · exact hs
  · exact hd
  · have h2 := h m6 h6
    unfold behN at h2
    unfold outN at c15 h2 ⊢
    cases e : setN C (belN C q s d k) with
    | none => rw [e] at c15; exact absurd rfl c15
    | some v => rw [e] at h2; exact h2
  · have h2 := h m6 h6
    unfold outN at c15
    rw [oI_none hv (belN_lt hv q d hs hk)] at c15
    unfold behN outN at h2
    rw [c15] at h2
    exact h2
theorem call_X2_soBehind {E : ME} {Φ : Option AV → AM → Prop} {pc : Nat} {L : List (Option AV)} {st : List AV} {m : AM} {a : Nat × Nat} {idx : Nat} {x0 x1 x2 x3 : AV} {i : Nat} (hl : Cond.methodLink E.2.1 idx yX2_soBehind ∈ TB) (hdep : 4 + 1 ≤ E.2.2.2.2.2.2) (hroom : a.1 + 0 ≤ E.2.2.2.2.1 ∧ a.2 + 0 ≤ E.2.2.2.2.2.1) (hsr : st.length ≤ 4) (hd : decode E.1 pc = .ok (.invokevirtual idx, 3)) (hsp : Sp_X2_soBehind [vr 2 i, x0, x1, x2, x3] m (fun r m2 => B E Φ (pc + 3) L (r.toList ++ st) m2 a)) : B E Φ pc L (x3 :: x2 :: x1 :: x0 :: vr 2 i :: st) m a := b_callV S_X2_soBehind [x0, x1, x2, x3] (RX2, TX2, 5) rfl rfl (by decide) (Or.inl hl) k918 k919 k73 k920 (show _ ∧ _ ∧ Option.map (fun d => d.parameters.length) (parseMethodDescriptor yX2_soBehind.desc) = some 4 from by decide +kernel) ⟨hdep, by decide⟩ hroom hsr hd hsp
abbrev e_X2_isOpen : ME := (cX2_isOpen, (RX2, (1, ((some .boolean), (0, (0, 1))))))
theorem dX2_isOpen_0 : decode cX2_isOpen 0 = .ok (.aload_n 0, 1) := by decide +kernel
theorem dX2_isOpen_1 : decode cX2_isOpen 1 = .ok (.getfield 12, 3) := by decide +kernel
theorem dX2_isOpen_4 : decode cX2_isOpen 4 = .ok (.getfield 35, 3) := by decide +kernel
theorem dX2_isOpen_7 : decode cX2_isOpen 7 = .ok (.ifCond .le 7, 3) := by decide +kernel
theorem dX2_isOpen_10 : decode cX2_isOpen 10 = .ok (.iconst 1, 1) := by decide +kernel
theorem dX2_isOpen_11 : decode cX2_isOpen 11 = .ok (.goto 4, 3) := by decide +kernel
theorem dX2_isOpen_14 : decode cX2_isOpen 14 = .ok (.iconst 0, 1) := by decide +kernel
theorem dX2_isOpen_15 : decode cX2_isOpen 15 = .ok (.ireturn, 1) := by decide +kernel
def Sp_X2_isOpen (av : List AV) (m : AM) (Φ : Option AV → AM → Prop) : Prop := av = [vr 2 20] ∧ ∃ c, m.1 21 4 = nI c ∧ c ≤ 6 ∧ Φ (some (vi (nI (if c = 0 then 0 else 1)))) m
abbrev e_X2_makesAny : ME := (cX2_makesAny, (RX2, (3, ((some .boolean), (0, (0, 1))))))
theorem dX2_makesAny_0 : decode cX2_makesAny 0 = .ok (.aload_n 0, 1) := by decide +kernel
theorem dX2_makesAny_1 : decode cX2_makesAny 1 = .ok (.getfield 25, 3) := by decide +kernel
theorem dX2_makesAny_4 : decode cX2_makesAny 4 = .ok (.iload_n 1, 1) := by decide +kernel
theorem dX2_makesAny_5 : decode cX2_makesAny 5 = .ok (.iaload, 1) := by decide +kernel
theorem dX2_makesAny_6 : decode cX2_makesAny 6 = .ok (.iload_n 2, 1) := by decide +kernel
theorem dX2_makesAny_7 : decode cX2_makesAny 7 = .ok (.iand, 1) := by decide +kernel
theorem dX2_makesAny_8 : decode cX2_makesAny 8 = .ok (.ifCond .eq 7, 3) := by decide +kernel
theorem dX2_makesAny_11 : decode cX2_makesAny 11 = .ok (.iconst 1, 1) := by decide +kernel
theorem dX2_makesAny_12 : decode cX2_makesAny 12 = .ok (.goto 4, 3) := by decide +kernel
theorem dX2_makesAny_15 : decode cX2_makesAny 15 = .ok (.iconst 0, 1) := by decide +kernel
theorem dX2_makesAny_16 : decode cX2_makesAny 16 = .ok (.ireturn, 1) := by decide +kernel
def Sp_X2_makesAny (av : List AV) (m : AM) (Φ : Option AV → AM → Prop) : Prop := ∃ x y, av = [vr 2 20, vi x, vi y] ∧ ∃ C f g, BR m C ∧ x = nI f ∧ y = nI g ∧ f < C 0 ∧ g < 64 ∧ Φ (some (vi (nI (if madeF C 0 f (C 3) &&& g = 0 then 0 else 1)))) m
set_option maxRecDepth 20000 in
set_option maxHeartbeats 4000000 in
theorem S_X2_makesAny : Snd yX2_makesAny e_X2_makesAny Sp_X2_makesAny := by
  refine Snd.of (by decide +kernel) rfl ?_ ?_
  · rintro av m Φ ⟨x, y, rfl, _⟩; exact Nat.le_of_ble_eq_true rfl
  rintro av m Φ ⟨x, y, rfl, C, f, g, hB, rfl, rfl, hf, hg, h⟩ hav hty
  show B e_X2_makesAny Φ 0 [some (vr 2 20), some (vi (nI f)), some (vi (nI g))] [] m (0, 0)
  have hv := hB.1
  have hf0 : C 0 ≤ 6 := hv.1.2
  have hm := madeF_lt hv.hv 0 f (C 3) (Nat.le_refl _)
  refine b_aloadN (pc := 0) 0 dX2_makesAny_0 rfl rfl ?_
  refine gf2_2 (pc := 1) 28 rfl k276 dX2_makesAny_1 ?_
  refine b_iloadN (pc := 4) 1 dX2_makesAny_4 rfl rfl ?_
  refine b_iald (pc := 5) (by decide) ?_ dX2_makesAny_5 ?_
  rotate_left -- leaf 0: index at 5
  refine b_iloadN (pc := 6) 2 dX2_makesAny_6 rfl rfl ?_
  refine b_iand (pc := 7) dX2_makesAny_7 ?_
  refine b_if_eq (pc := 8) 15 dX2_makesAny_8 (by decide) (fun c8 => ?_) (fun c8 => ?_)
  refine b_iconst (pc := 15) (nI 0) dX2_makesAny_15 (by decide) ?_
  refine b_zret (pc := 16) rfl ?_ dX2_makesAny_16 ⟨Nat.le_of_ble_eq_true rfl, Nat.le_of_ble_eq_true rfl⟩ ?_
  rotate_left -- leaf 1: bool at 16
  rotate_left -- leaf 2: return at 16
  refine b_iconst (pc := 11) (nI 1) dX2_makesAny_11 (by decide) ?_
  refine b_goto (pc := 12) 16 dX2_makesAny_12 (by decide) ?_
  refine b_zret (pc := 16) rfl ?_ dX2_makesAny_16 ⟨Nat.le_of_ble_eq_true rfl, Nat.le_of_ble_eq_true rfl⟩ ?_
  rotate_left -- leaf 3: bool at 16
  rotate_left -- leaf 4: return at 16
  -- leaves: 0 index at 5; 1 bool at 16; 2 return at 16; 3 bool at 16; 4 return at 16
  · exact n_in (by omega) (by omega)
  · exact Or.inl rfl
  · rw [n_cl (by omega), (hB.2.2.2.1 f (by omega)).1, n_and, n_eq0 (Nat.lt_of_le_of_lt Nat.and_le_right (by omega))] at c8
    rw [if_pos c8] at h
    exact h
  · exact Or.inr rfl
  · rw [n_cl (by omega), (hB.2.2.2.1 f (by omega)).1, n_and, n_eq0 (Nat.lt_of_le_of_lt Nat.and_le_right (by omega))] at c8
    rw [if_neg c8] at h
    exact h
theorem call_X2_makesAny {E : ME} {Φ : Option AV → AM → Prop} {pc : Nat} {L : List (Option AV)} {st : List AV} {m : AM} {a : Nat × Nat} {idx : Nat} {x0 x1 : AV} {i : Nat} (hl : Cond.methodLink E.2.1 idx yX2_makesAny ∈ TB) (hdep : 1 + 1 ≤ E.2.2.2.2.2.2) (hroom : a.1 + 0 ≤ E.2.2.2.2.1 ∧ a.2 + 0 ≤ E.2.2.2.2.2.1) (hsr : st.length ≤ 4) (hd : decode E.1 pc = .ok (.invokevirtual idx, 3)) (hsp : Sp_X2_makesAny [vr 2 i, x0, x1] m (fun r m2 => B E Φ (pc + 3) L (r.toList ++ st) m2 a)) : B E Φ pc L (x1 :: x0 :: vr 2 i :: st) m a := b_callV S_X2_makesAny [x0, x1] (RX2, TX2, 5) rfl rfl (by decide) (Or.inl hl) k841 k842 k73 k843 (show _ ∧ _ ∧ Option.map (fun d => d.parameters.length) (parseMethodDescriptor yX2_makesAny.desc) = some 2 from by decide +kernel) ⟨hdep, by decide⟩ hroom hsr hd hsp
set_option maxRecDepth 20000 in
set_option maxHeartbeats 4000000 in
theorem S_X2_isOpen : Snd yX2_isOpen e_X2_isOpen Sp_X2_isOpen := by
  refine Snd.of (by decide +kernel) rfl ?_ ?_
  · rintro av m Φ ⟨rfl, _⟩; exact Nat.le_of_ble_eq_true rfl
  rintro av m Φ ⟨rfl, c, hc, hle, h⟩ hav hty
  show B e_X2_isOpen Φ 0 [some (vr 2 20)] [] m (0, 0)
  refine b_aloadN (pc := 0) 0 dX2_isOpen_0 rfl rfl ?_
  refine gf2_0 (pc := 1) 21 rfl k264 dX2_isOpen_1 ?_
  refine gf5_4 (pc := 4) k143 dX2_isOpen_4 ?_
  refine b_if_le (pc := 7) 14 dX2_isOpen_7 (by decide) (fun c7 => ?_) (fun c7 => ?_)
  refine b_iconst (pc := 14) (nI 0) dX2_isOpen_14 (by decide) ?_
  refine b_zret (pc := 15) rfl ?_ dX2_isOpen_15 ⟨Nat.le_of_ble_eq_true rfl, Nat.le_of_ble_eq_true rfl⟩ ?_
  rotate_left -- leaf 0: bool at 15
  rotate_left -- leaf 1: return at 15
  refine b_iconst (pc := 10) (nI 1) dX2_isOpen_10 (by decide) ?_
  refine b_goto (pc := 11) 15 dX2_isOpen_11 (by decide) ?_
  refine b_zret (pc := 15) rfl ?_ dX2_isOpen_15 ⟨Nat.le_of_ble_eq_true rfl, Nat.le_of_ble_eq_true rfl⟩ ?_
  rotate_left -- leaf 2: bool at 15
  rotate_left -- leaf 3: return at 15
  -- leaves: 0 bool at 15; 1 return at 15; 2 bool at 15; 3 return at 15
  · exact Or.inl rfl
  · rw [hc, n_le0 (by omega)] at c7
    rw [if_pos c7] at h
    exact h
  · exact Or.inr rfl
  · rw [hc, n_le0 (by omega)] at c7
    rw [if_neg c7] at h
    exact h
theorem call_X2_isOpen {E : ME} {Φ : Option AV → AM → Prop} {pc : Nat} {L : List (Option AV)} {st : List AV} {m : AM} {a : Nat × Nat} {idx : Nat} {i : Nat} (hl : Cond.methodLink E.2.1 idx yX2_isOpen ∈ TB) (hdep : 1 + 1 ≤ E.2.2.2.2.2.2) (hroom : a.1 + 0 ≤ E.2.2.2.2.1 ∧ a.2 + 0 ≤ E.2.2.2.2.2.1) (hsr : st.length ≤ 4) (hd : decode E.1 pc = .ok (.invokevirtual idx, 3)) (hsp : Sp_X2_isOpen [vr 2 i] m (fun r m2 => B E Φ (pc + 3) L (r.toList ++ st) m2 a)) : B E Φ pc L (vr 2 i :: st) m a := b_callV S_X2_isOpen [] (RX2, TX2, 5) rfl rfl (by decide) (Or.inl hl) k721 k722 k73 k723 (show _ ∧ _ ∧ Option.map (fun d => d.parameters.length) (parseMethodDescriptor yX2_isOpen.desc) = some 0 from by decide +kernel) ⟨hdep, by decide⟩ hroom hsr hd hsp
