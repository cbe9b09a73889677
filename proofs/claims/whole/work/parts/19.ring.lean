/-! the ring of acts -/
def sameLaw (C C2 : Nat → Nat) : Prop := C2 0 = C 0 ∧ C2 2 = C 2 ∧ C2 3 = C 3 ∧ C2 4 = C 4 ∧ (∀ k, k < C 3 → C2 (8 + 4 * k) = C (8 + 4 * k) ∧ C2 (9 + 4 * k) = C (9 + 4 * k) ∧ C2 (10 + 4 * k) = C (10 + 4 * k)) ∧ ∀ p, p < C 4 → C2 (40 + 2 * p) = C (40 + 2 * p)
theorem sameLaw.rf (C : Nat → Nat) : sameLaw C C := ⟨rfl, rfl, rfl, rfl, fun _ _ => ⟨rfl, rfl, rfl⟩, fun _ _ => rfl⟩
theorem LawR.same {m : AM} {i : Nat} {C C2 : Nat → Nat} (h : LawR m i C) (hs : sameLaw C C2) : LawR m i C2 := by
  unfold LawR
  rw [hs.1, hs.2.1, hs.2.2.1, hs.2.2.2.1]
  refine ⟨h.1, h.2.1, h.2.2.1, h.2.2.2.1, fun r hr => ?_, fun p hp => ?_⟩
  · have q := hs.2.2.2.2.1 r hr
    rw [q.1, q.2.1, q.2.2]
    exact h.2.2.2.2.1 r hr
  · rw [hs.2.2.2.2.2 p hp]
    exact h.2.2.2.2.2 p hp
theorem sameLaw.tr {C D E : Nat → Nat} (h : sameLaw C D) (h2 : sameLaw D E) : sameLaw C E := by
  refine ⟨h2.1.trans h.1, h2.2.1.trans h.2.1, h2.2.2.1.trans h.2.2.1, h2.2.2.2.1.trans h.2.2.2.1, fun k hk => ?_, fun p hp => ?_⟩
  · have a := h.2.2.2.2.1 k hk
    have b := h2.2.2.2.2.1 k (by rw [h.2.2.1]; exact hk)
    exact ⟨b.1.trans a.1, b.2.1.trans a.2.1, b.2.2.trans a.2.2⟩
  · exact (h2.2.2.2.2.2 p (by rw [h.2.2.2.1]; exact hp)).trans (h.2.2.2.2.2 p hp)
theorem sameLaw.sy {C D : Nat → Nat} (h : sameLaw C D) : sameLaw D C := by
  refine ⟨h.1.symm, h.2.1.symm, h.2.2.1.symm, h.2.2.2.1.symm, fun k hk => ?_, fun p hp => ?_⟩
  · have a := h.2.2.2.2.1 k (by rw [← h.2.2.1]; exact hk)
    exact ⟨a.1.symm, a.2.1.symm, a.2.2.symm⟩
  · exact (h.2.2.2.2.2 p (by rw [← h.2.2.2.1]; exact hp)).symm
theorem sayC_law (C : Nat → Nat) (h8 : C 3 ≤ 8) (p k : Nat) : sameLaw C (sayC C p k) := by
  have h := sayC_same C p k
  exact ⟨h.2.1, h.2.2.1, h.1.1, h.2.2.2.1, fun j hj => ⟨h.1.2 _ (by omega) (by omega), h.1.2 _ (by omega) (by omega), h.1.2 _ (by omega) (by omega)⟩, fun j hj => h.2.2.2.2 j⟩
theorem strN_law (C : Nat → Nat) (h8 : C 3 ≤ 8) (r on : Nat) (hr : r < 8) : sameLaw C (strN C r on) := by
  have e : ∀ j, j ≠ 11 + 4 * r → strN C r on j = C j := fun j hj => upC_ne C on hj
  exact ⟨e _ (by omega), e _ (by omega), e _ (by omega), e _ (by omega), fun k hk => ⟨e _ (by omega), e _ (by omega), e _ (by omega)⟩, fun p hp => e _ (by omega)⟩
def actL : List Nat := 31 :: (List.range 48).map (fun i => i + 33)
theorem actL_in : ∀ j, j < 24 → 33 + 2 * j ∈ actL ∧ 33 + 2 * j + 1 ∈ actL := by decide +kernel
/-- the acts that can be undone: a of them, the i-th kept as W i -/
def ActR (m : AM) (C : Nat → Nat) (a nx : Nat) (W : Nat → Nat → Nat) : Prop := m.1 31 1 = nI nx ∧ nx < 24 ∧ m.1 31 2 = nI a ∧ a ≤ 24 ∧ ∀ i, i < a → StR m (33 + 2 * ((nx + 24 - a + i) % 24)) (W i) ∧ VC (W i) ∧ sameLaw C (W i)
/-- one more kept -/
def keepA (a : Nat) : Nat := if a = 24 then 24 else a + 1
def keepW (a : Nat) (W : Nat → Nat → Nat) (C : Nat → Nat) : Nat → Nat → Nat := fun i => if a = 24 then (if i = 23 then C else W (i + 1)) else (if i = a then C else W i)
theorem ActR.fr {m m2 : AM} {C : Nat → Nat} {a nx : Nat} {W : Nat → Nat → Nat} (h : ActR m C a nx W) (hf : ∀ i, i ∈ actL → m2.1 i = m.1 i) : ActR m2 C a nx W := by
  unfold ActR
  rw [hf 31 (by decide)]
  refine ⟨h.1, h.2.1, h.2.2.1, h.2.2.2.1, fun i hi => ?_⟩
  have q := h.2.2.2.2 i hi
  have z := actL_in ((nx + 24 - a + i) % 24) (Nat.mod_lt _ (by omega))
  exact ⟨q.1.cg (hf _ z.1) (hf _ z.2), q.2⟩
theorem ActR.law {m : AM} {C D : Nat → Nat} {a nx : Nat} {W : Nat → Nat → Nat} (h : ActR m C a nx W) (hs : sameLaw C D) : ActR m D a nx W :=
  ⟨h.1, h.2.1, h.2.2.1, h.2.2.2.1, fun i hi => ⟨(h.2.2.2.2 i hi).1, (h.2.2.2.2 i hi).2.1, hs.sy.tr (h.2.2.2.2 i hi).2.2⟩⟩
theorem n_rem {a d : Nat} (ha : a < 2147483648) (h0 : 0 < d) (hd : d < 2147483648) : nI a - nI a / nI d * nI d = nI (a % d) := pk_rem ha h0 hd
theorem StR.copy {m m2 : AM} {i j : Nat} {C : Nat → Nat} (h : StR m j C) (h4 : C 4 ≤ 5) (h2 : ∀ k, 1 ≤ k → k ≤ 5 → m2.1 i k = m.1 j k) (h3 : ∀ p, p < 5 → m2.1 (i + 1) p = m.1 (j + 1) p) : StR m2 i C := by
  unfold StR
  rw [h2 1 (by omega) (by omega), h2 2 (by omega) (by omega), h2 3 (by omega) (by omega), h2 4 (by omega) (by omega), h2 5 (by omega) (by omega)]
  refine ⟨h.1, h.2.1, h.2.2.1, h.2.2.2.1, h.2.2.2.2.1, fun p hp => ?_⟩
  rw [h3 p (by omega)]
  exact h.2.2.2.2.2 p hp
abbrev e_X0_keep : ME := (cX0_keep, (RX0, (2, (none, (0, (0, 2))))))
theorem dX0_keep_0 : decode cX0_keep 0 = .ok (.aload_n 0, 1) := by decide +kernel
theorem dX0_keep_1 : decode cX0_keep 1 = .ok (.getfield 11, 3) := by decide +kernel
theorem dX0_keep_4 : decode cX0_keep 4 = .ok (.aload_n 0, 1) := by decide +kernel
theorem dX0_keep_5 : decode cX0_keep 5 = .ok (.getfield 22, 3) := by decide +kernel
theorem dX0_keep_8 : decode cX0_keep 8 = .ok (.aaload, 1) := by decide +kernel
theorem dX0_keep_9 : decode cX0_keep 9 = .ok (.aload_n 1, 1) := by decide +kernel
theorem dX0_keep_10 : decode cX0_keep 10 = .ok (.invokevirtual 25, 3) := by decide +kernel
theorem dX0_keep_13 : decode cX0_keep 13 = .ok (.aload_n 0, 1) := by decide +kernel
theorem dX0_keep_14 : decode cX0_keep 14 = .ok (.aload_n 0, 1) := by decide +kernel
theorem dX0_keep_15 : decode cX0_keep 15 = .ok (.getfield 22, 3) := by decide +kernel
theorem dX0_keep_18 : decode cX0_keep 18 = .ok (.iconst 1, 1) := by decide +kernel
theorem dX0_keep_19 : decode cX0_keep 19 = .ok (.iadd, 1) := by decide +kernel
theorem dX0_keep_20 : decode cX0_keep 20 = .ok (.bipush 24, 2) := by decide +kernel
theorem dX0_keep_22 : decode cX0_keep 22 = .ok (.irem, 1) := by decide +kernel
theorem dX0_keep_23 : decode cX0_keep 23 = .ok (.putfield 22, 3) := by decide +kernel
theorem dX0_keep_26 : decode cX0_keep 26 = .ok (.aload_n 0, 1) := by decide +kernel
theorem dX0_keep_27 : decode cX0_keep 27 = .ok (.aload_n 0, 1) := by decide +kernel
theorem dX0_keep_28 : decode cX0_keep 28 = .ok (.getfield 18, 3) := by decide +kernel
theorem dX0_keep_31 : decode cX0_keep 31 = .ok (.iconst 1, 1) := by decide +kernel
theorem dX0_keep_32 : decode cX0_keep 32 = .ok (.iadd, 1) := by decide +kernel
theorem dX0_keep_33 : decode cX0_keep 33 = .ok (.bipush 24, 2) := by decide +kernel
theorem dX0_keep_35 : decode cX0_keep 35 = .ok (.invokestatic 29, 3) := by decide +kernel
theorem dX0_keep_38 : decode cX0_keep 38 = .ok (.putfield 18, 3) := by decide +kernel
theorem dX0_keep_41 : decode cX0_keep 41 = .ok (.return_, 1) := by decide +kernel
def Sp_X0_keep (av : List AV) (m : AM) (Φ : Option AV → AM → Prop) : Prop := av = [vr 0 31, vr 8 26] ∧ ∃ C a nx W, VC C ∧ StR m 26 C ∧ ActR m C a nx W ∧ ∀ m2, Fr actL m m2 → ActR m2 C (keepA a) ((nx + 1) % 24) (keepW a W C) → Φ none m2
set_option maxRecDepth 20000 in
set_option maxHeartbeats 4000000 in
theorem S_X0_keep : Snd yX0_keep e_X0_keep Sp_X0_keep := by
  refine Snd.of (by decide +kernel) rfl ?_ ?_
  · rintro av m Φ ⟨rfl, _⟩; exact Nat.le_of_ble_eq_true rfl
  rintro av m Φ ⟨rfl, C, a, nx, W, hv, hS, hA, h⟩ hav hty
  show B e_X0_keep Φ 0 [some (vr 0 31), some (vr 8 26)] [] m (0, 0)
  have hn := hA.1
  have hnl := hA.2.1
  have ha := hA.2.2.1
  have hal := hA.2.2.2.1
  refine b_aloadN (pc := 0) 0 dX0_keep_0 rfl rfl ?_
  refine gf0_0 (pc := 1) 32 rfl k299 dX0_keep_1 ?_
  refine b_aloadN (pc := 4) 0 dX0_keep_4 rfl rfl ?_
  refine gf0_1 (pc := 5) k300 dX0_keep_5 ?_
  refine b_aldR (pc := 8) (n := 24) (w := 2) (t' := 8) (Or.inl ⟨rfl, rfl, rfl, rfl⟩) ?_ dX0_keep_8 ?_
  rotate_left -- leaf 0: index at 8
  refine b_aloadN (pc := 9) 1 dX0_keep_9 rfl rfl ?_
  refine call_X8_become (pc := 10) k655 (by decide) ⟨Nat.le_of_ble_eq_true rfl, Nat.le_of_ble_eq_true rfl⟩ (Nat.le_of_ble_eq_true rfl) dX0_keep_10 ?_
  refine ⟨_, _, rfl, ?_, fun m10 fr10 st10 cl10 => ?_⟩
  rotate_left -- leaf 1: apart of X8_become at 10
  refine b_aloadN (pc := 13) 0 dX0_keep_13 rfl rfl ?_
  refine b_aloadN (pc := 14) 0 dX0_keep_14 rfl rfl ?_
  refine gf0_1 (pc := 15) k300 dX0_keep_15 ?_
  refine b_iconst (pc := 18) (nI 1) dX0_keep_18 (by decide) ?_
  refine b_iadd (pc := 19) dX0_keep_19 ?_
  refine b_bipush (pc := 20) (nI 24) dX0_keep_20 (by decide) ?_
  refine b_irem (pc := 22) dX0_keep_22 ?_ ?_
  rotate_left -- leaf 2: divisor at 22
  refine pf0_1 (pc := 23) k300 dX0_keep_23 ?_
  refine b_aloadN (pc := 26) 0 dX0_keep_26 rfl rfl ?_
  refine b_aloadN (pc := 27) 0 dX0_keep_27 rfl rfl ?_
  refine gf0_2 (pc := 28) k301 dX0_keep_28 ?_
  refine b_iconst (pc := 31) (nI 1) dX0_keep_31 (by decide) ?_
  refine b_iadd (pc := 32) dX0_keep_32 ?_
  refine b_bipush (pc := 33) (nI 24) dX0_keep_33 (by decide) ?_
  refine b_mmin (pc := 35) k656 k657 k82 k658 (by decide) (Nat.le_of_ble_eq_true rfl) ⟨Nat.le_of_ble_eq_true rfl, Nat.le_of_ble_eq_true rfl⟩ dX0_keep_35 ?_
  refine pf0_2 (pc := 38) k301 dX0_keep_38 ?_
  refine b_vret (pc := 41) rfl dX0_keep_41 ⟨Nat.le_of_ble_eq_true rfl, Nat.le_of_ble_eq_true rfl⟩ ?_
  rotate_left -- leaf 3: return at 41
  -- leaves: 0 index at 8; 1 apart of X8_become at 10; 2 divisor at 22; 3 return at 41
  · rw [hn]; exact n_in (by omega) (by omega)
  · rw [hn, n_cl (by omega)]; omega
  · decide
  · have ei : 32 + 1 + 2 * (m.1 31 1).toNatClampNeg = 33 + 2 * nx := by rw [hn, n_cl (by omega)]
    rw [ei] at fr10 st10 cl10
    have f31 : m10.1 31 = m.1 31 := fr10.2 31 (by simp; omega)
    have hz := actL_in nx hnl
    have hX : m10.1 31 1 + nI 1 - (m10.1 31 1 + nI 1) / nI 24 * nI 24 = nI ((nx + 1) % 24) := by
      rw [f31, hn, n_add, n_rem (by omega) (by omega) (by omega)]
    have hY : (if nI 24 < m10.1 31 2 + nI 1 then nI 24 else m10.1 31 2 + nI 1) = nI (keepA a) := by
      rw [f31, ha, n_add]
      unfold keepA
      by_cases q : a = 24
      · rw [if_pos q, if_pos (by rw [n_lt (by omega) (by omega)]; omega)]
      · rw [if_neg q, if_neg (by rw [n_lt (by omega) (by omega)]; omega)]
    have hY2 : (mset m10 31 1 (nI ((nx + 1) % 24))).1 31 2 = m10.1 31 2 := by rw [mset_at, if_neg (by decide)]
    rw [hX, hY2, hY]
    have hS10 : StR m10 (33 + 2 * nx) C := hS.copy hv.2.2.2.2.1.2 st10 cl10
    refine h _ (((fr10.mono (fun q hq => ?_)).ms (by decide)).ms (by decide)) ⟨?_, Nat.mod_lt _ (by omega), ?_, ?_, fun i hi => ?_⟩
    · simp at hq
      rcases hq with e | e
      · rw [e]; exact hz.1
      · rw [e]; exact hz.2
    · rw [mset_at, if_neg (by decide), mset_at, if_pos rfl]
    · rw [mset_at, if_pos rfl]
    · unfold keepA; split <;> omega
    · have st2 : ∀ j D, StR m10 (33 + 2 * j) D → StR (mset (mset m10 31 1 (nI ((nx + 1) % 24))) 31 2 (nI (keepA a))) (33 + 2 * j) D := fun j D q => q.cg (by rw [mset_ne _ _ _ (by omega), mset_ne _ _ _ (by omega)]) (by rw [mset_ne _ _ _ (by omega), mset_ne _ _ _ (by omega)])
      have old : ∀ j D, j < 24 → j ≠ nx → StR m (33 + 2 * j) D → StR m10 (33 + 2 * j) D := fun j D h1 h2 q => q.cg (fr10.2 _ (by simp; omega)) (fr10.2 _ (by simp; omega))
      unfold keepA at hi
      unfold keepA keepW
      by_cases q : a = 24
      · rw [if_pos q] at hi
        rw [if_pos q, if_pos q]
        by_cases q2 : i = 23
        · rw [if_pos q2, show ((nx + 1) % 24 + 24 - 24 + i) % 24 = nx by omega]
          have := st2 nx C hS10
          unfold keepA at this
          rw [if_pos q] at this
          exact ⟨this, hv, sameLaw.rf C⟩
        · rw [if_neg q2]
          have w := hA.2.2.2.2 (i + 1) (by omega)
          rw [show (nx + 24 - a + (i + 1)) % 24 = ((nx + 1) % 24 + 24 - 24 + i) % 24 by omega] at w
          have := st2 _ _ (old _ _ (Nat.mod_lt _ (by omega)) (by omega) w.1)
          unfold keepA at this
          rw [if_pos q] at this
          exact ⟨this, w.2⟩
      · rw [if_neg q] at hi
        rw [if_neg q, if_neg q]
        by_cases q2 : i = a
        · rw [if_pos q2, show ((nx + 1) % 24 + 24 - (a + 1) + i) % 24 = nx by omega]
          have := st2 nx C hS10
          unfold keepA at this
          rw [if_neg q] at this
          exact ⟨this, hv, sameLaw.rf C⟩
        · rw [if_neg q2]
          have w := hA.2.2.2.2 i (by omega)
          rw [show (nx + 24 - a + i) % 24 = ((nx + 1) % 24 + 24 - (a + 1) + i) % 24 by omega] at w
          have := st2 _ _ (old _ _ (Nat.mod_lt _ (by omega)) (by omega) w.1)
          unfold keepA at this
          rw [if_neg q] at this
          exact ⟨this, w.2⟩
theorem call_X0_keep {E : ME} {Φ : Option AV → AM → Prop} {pc : Nat} {L : List (Option AV)} {st : List AV} {m : AM} {a : Nat × Nat} {idx : Nat} {x0 : AV} {i : Nat} (hl : Cond.methodLink E.2.1 idx yX0_keep ∈ TB) (hdep : 2 + 1 ≤ E.2.2.2.2.2.2) (hroom : a.1 + 0 ≤ E.2.2.2.2.1 ∧ a.2 + 0 ≤ E.2.2.2.2.2.1) (hsr : st.length ≤ 4) (hd : decode E.1 pc = .ok (.invokevirtual idx, 3)) (hsp : Sp_X0_keep [vr 0 i, x0] m (fun r m2 => B E Φ (pc + 3) L (r.toList ++ st) m2 a)) : B E Φ pc L (x0 :: vr 0 i :: st) m a := b_callV S_X0_keep [x0] (RX0, TX0, 3) rfl rfl (by decide) (Or.inl hl) k652 k653 k75 k654 (show _ ∧ _ ∧ Option.map (fun d => d.parameters.length) (parseMethodDescriptor yX0_keep.desc) = some 1 from by decide +kernel) ⟨hdep, by decide⟩ hroom hsr hd hsp
abbrev e_X0_isEmpty : ME := (cX0_isEmpty, (RX0, (1, ((some .boolean), (0, (0, 1))))))
theorem dX0_isEmpty_0 : decode cX0_isEmpty 0 = .ok (.aload_n 0, 1) := by decide +kernel
theorem dX0_isEmpty_1 : decode cX0_isEmpty 1 = .ok (.getfield 18, 3) := by decide +kernel
theorem dX0_isEmpty_4 : decode cX0_isEmpty 4 = .ok (.ifCond .ne 7, 3) := by decide +kernel
theorem dX0_isEmpty_7 : decode cX0_isEmpty 7 = .ok (.iconst 1, 1) := by decide +kernel
theorem dX0_isEmpty_8 : decode cX0_isEmpty 8 = .ok (.goto 4, 3) := by decide +kernel
theorem dX0_isEmpty_11 : decode cX0_isEmpty 11 = .ok (.iconst 0, 1) := by decide +kernel
theorem dX0_isEmpty_12 : decode cX0_isEmpty 12 = .ok (.ireturn, 1) := by decide +kernel
def Sp_X0_isEmpty (av : List AV) (m : AM) (Φ : Option AV → AM → Prop) : Prop := av = [vr 0 31] ∧ ∃ a, m.1 31 2 = nI a ∧ a ≤ 24 ∧ Φ (some (vi (nI (if a = 0 then 1 else 0)))) m
set_option maxRecDepth 20000 in
set_option maxHeartbeats 4000000 in
theorem S_X0_isEmpty : Snd yX0_isEmpty e_X0_isEmpty Sp_X0_isEmpty := by
  refine Snd.of (by decide +kernel) rfl ?_ ?_
  · rintro av m Φ ⟨rfl, _⟩; exact Nat.le_of_ble_eq_true rfl
  rintro av m Φ ⟨rfl, a, ha, hal, h⟩ hav hty
  show B e_X0_isEmpty Φ 0 [some (vr 0 31)] [] m (0, 0)
  refine b_aloadN (pc := 0) 0 dX0_isEmpty_0 rfl rfl ?_
  refine gf0_2 (pc := 1) k301 dX0_isEmpty_1 ?_
  refine b_if_ne (pc := 4) 11 dX0_isEmpty_4 (by decide) (fun c4 => ?_) (fun c4 => ?_)
  refine b_iconst (pc := 11) (nI 0) dX0_isEmpty_11 (by decide) ?_
  refine b_zret (pc := 12) rfl ?_ dX0_isEmpty_12 ⟨Nat.le_of_ble_eq_true rfl, Nat.le_of_ble_eq_true rfl⟩ ?_
  rotate_left -- leaf 0: bool at 12
  rotate_left -- leaf 1: return at 12
  refine b_iconst (pc := 7) (nI 1) dX0_isEmpty_7 (by decide) ?_
  refine b_goto (pc := 8) 12 dX0_isEmpty_8 (by decide) ?_
  refine b_zret (pc := 12) rfl ?_ dX0_isEmpty_12 ⟨Nat.le_of_ble_eq_true rfl, Nat.le_of_ble_eq_true rfl⟩ ?_
  rotate_left -- leaf 2: bool at 12
  rotate_left -- leaf 3: return at 12
  -- leaves: 0 bool at 12; 1 return at 12; 2 bool at 12; 3 return at 12
  · exact Or.inl rfl
  · rw [ha, n_eq0 (by omega)] at c4
    rw [if_neg c4] at h
    exact h
  · exact Or.inr rfl
  · rw [ha, n_eq0 (by omega)] at c4
    rw [if_pos c4] at h
    exact h
theorem call_X0_isEmpty {E : ME} {Φ : Option AV → AM → Prop} {pc : Nat} {L : List (Option AV)} {st : List AV} {m : AM} {a : Nat × Nat} {idx : Nat} {i : Nat} (hl : Cond.methodLink E.2.1 idx yX0_isEmpty ∈ TB) (hdep : 1 + 1 ≤ E.2.2.2.2.2.2) (hroom : a.1 + 0 ≤ E.2.2.2.2.1 ∧ a.2 + 0 ≤ E.2.2.2.2.2.1) (hsr : st.length ≤ 4) (hd : decode E.1 pc = .ok (.invokevirtual idx, 3)) (hsp : Sp_X0_isEmpty [vr 0 i] m (fun r m2 => B E Φ (pc + 3) L (r.toList ++ st) m2 a)) : B E Φ pc L (vr 0 i :: st) m a := b_callV S_X0_isEmpty [] (RX0, TX0, 3) rfl rfl (by decide) (Or.inl hl) k621 k622 k75 k623 (show _ ∧ _ ∧ Option.map (fun d => d.parameters.length) (parseMethodDescriptor yX0_isEmpty.desc) = some 0 from by decide +kernel) ⟨hdep, by decide⟩ hroom hsr hd hsp
abbrev e_X0_forget : ME := (cX0_forget, (RX0, (1, (none, (0, (0, 1))))))
theorem dX0_forget_0 : decode cX0_forget 0 = .ok (.aload_n 0, 1) := by decide +kernel
theorem dX0_forget_1 : decode cX0_forget 1 = .ok (.iconst 0, 1) := by decide +kernel
theorem dX0_forget_2 : decode cX0_forget 2 = .ok (.putfield 18, 3) := by decide +kernel
theorem dX0_forget_5 : decode cX0_forget 5 = .ok (.return_, 1) := by decide +kernel
def Sp_X0_forget (av : List AV) (m : AM) (Φ : Option AV → AM → Prop) : Prop := av = [vr 0 31] ∧ Φ none (mset m 31 2 (nI 0))
set_option maxRecDepth 20000 in
set_option maxHeartbeats 4000000 in
theorem S_X0_forget : Snd yX0_forget e_X0_forget Sp_X0_forget := by
  refine Snd.of (by decide +kernel) rfl ?_ ?_
  · rintro av m Φ ⟨rfl, _⟩; exact Nat.le_of_ble_eq_true rfl
  rintro av m Φ ⟨rfl, h⟩ hav hty
  show B e_X0_forget Φ 0 [some (vr 0 31)] [] m (0, 0)
  refine b_aloadN (pc := 0) 0 dX0_forget_0 rfl rfl ?_
  refine b_iconst (pc := 1) (nI 0) dX0_forget_1 (by decide) ?_
  refine pf0_2 (pc := 2) k301 dX0_forget_2 ?_
  refine b_vret (pc := 5) rfl dX0_forget_5 ⟨Nat.le_of_ble_eq_true rfl, Nat.le_of_ble_eq_true rfl⟩ ?_
  rotate_left -- leaf 0: return at 5
  -- leaves: 0 return at 5
  exact h
theorem call_X0_forget {E : ME} {Φ : Option AV → AM → Prop} {pc : Nat} {L : List (Option AV)} {st : List AV} {m : AM} {a : Nat × Nat} {idx : Nat} {i : Nat} (hl : Cond.methodLink E.2.1 idx yX0_forget ∈ TB) (hdep : 1 + 1 ≤ E.2.2.2.2.2.2) (hroom : a.1 + 0 ≤ E.2.2.2.2.1 ∧ a.2 + 0 ≤ E.2.2.2.2.2.1) (hsr : st.length ≤ 4) (hd : decode E.1 pc = .ok (.invokevirtual idx, 3)) (hsp : Sp_X0_forget [vr 0 i] m (fun r m2 => B E Φ (pc + 3) L (r.toList ++ st) m2 a)) : B E Φ pc L (vr 0 i :: st) m a := b_callV S_X0_forget [] (RX0, TX0, 3) rfl rfl (by decide) (Or.inl hl) k605 k606 k75 k607 (show _ ∧ _ ∧ Option.map (fun d => d.parameters.length) (parseMethodDescriptor yX0_forget.desc) = some 0 from by decide +kernel) ⟨hdep, by decide⟩ hroom hsr hd hsp
abbrev e_X0_takeBack : ME := (cX0_takeBack, (RX0, (2, ((some .int), (0, (0, 4))))))
theorem dX0_takeBack_0 : decode cX0_takeBack 0 = .ok (.aload_n 0, 1) := by decide +kernel
theorem dX0_takeBack_1 : decode cX0_takeBack 1 = .ok (.aload_n 0, 1) := by decide +kernel
theorem dX0_takeBack_2 : decode cX0_takeBack 2 = .ok (.getfield 22, 3) := by decide +kernel
theorem dX0_takeBack_5 : decode cX0_takeBack 5 = .ok (.bipush 24, 2) := by decide +kernel
theorem dX0_takeBack_7 : decode cX0_takeBack 7 = .ok (.iadd, 1) := by decide +kernel
theorem dX0_takeBack_8 : decode cX0_takeBack 8 = .ok (.iconst 1, 1) := by decide +kernel
theorem dX0_takeBack_9 : decode cX0_takeBack 9 = .ok (.isub, 1) := by decide +kernel
theorem dX0_takeBack_10 : decode cX0_takeBack 10 = .ok (.bipush 24, 2) := by decide +kernel
theorem dX0_takeBack_12 : decode cX0_takeBack 12 = .ok (.irem, 1) := by decide +kernel
theorem dX0_takeBack_13 : decode cX0_takeBack 13 = .ok (.putfield 22, 3) := by decide +kernel
theorem dX0_takeBack_16 : decode cX0_takeBack 16 = .ok (.aload_n 0, 1) := by decide +kernel
theorem dX0_takeBack_17 : decode cX0_takeBack 17 = .ok (.dup, 1) := by decide +kernel
theorem dX0_takeBack_18 : decode cX0_takeBack 18 = .ok (.getfield 18, 3) := by decide +kernel
theorem dX0_takeBack_21 : decode cX0_takeBack 21 = .ok (.iconst 1, 1) := by decide +kernel
theorem dX0_takeBack_22 : decode cX0_takeBack 22 = .ok (.isub, 1) := by decide +kernel
theorem dX0_takeBack_23 : decode cX0_takeBack 23 = .ok (.putfield 18, 3) := by decide +kernel
theorem dX0_takeBack_26 : decode cX0_takeBack 26 = .ok (.aload_n 1, 1) := by decide +kernel
theorem dX0_takeBack_27 : decode cX0_takeBack 27 = .ok (.aload_n 0, 1) := by decide +kernel
theorem dX0_takeBack_28 : decode cX0_takeBack 28 = .ok (.getfield 11, 3) := by decide +kernel
theorem dX0_takeBack_31 : decode cX0_takeBack 31 = .ok (.aload_n 0, 1) := by decide +kernel
theorem dX0_takeBack_32 : decode cX0_takeBack 32 = .ok (.getfield 22, 3) := by decide +kernel
theorem dX0_takeBack_35 : decode cX0_takeBack 35 = .ok (.aaload, 1) := by decide +kernel
theorem dX0_takeBack_36 : decode cX0_takeBack 36 = .ok (.invokevirtual 35, 3) := by decide +kernel
theorem dX0_takeBack_39 : decode cX0_takeBack 39 = .ok (.aload_n 0, 1) := by decide +kernel
theorem dX0_takeBack_40 : decode cX0_takeBack 40 = .ok (.getfield 18, 3) := by decide +kernel
theorem dX0_takeBack_43 : decode cX0_takeBack 43 = .ok (.ireturn, 1) := by decide +kernel
def Sp_X0_takeBack (av : List AV) (m : AM) (Φ : Option AV → AM → Prop) : Prop := av = [vr 0 31, vr 2 20] ∧ ∃ C a nx W, BR m C ∧ ActR m C (a + 1) nx W ∧ ∀ m2, Fr [26, 27, 28, 29, 30, 31] m m2 → BR m2 (W a) → ActR m2 (W a) a ((nx + 23) % 24) W → Φ (some (vi (nI a))) m2
set_option maxRecDepth 20000 in
set_option maxHeartbeats 4000000 in
theorem S_X0_takeBack : Snd yX0_takeBack e_X0_takeBack Sp_X0_takeBack := by
  refine Snd.of (by decide +kernel) rfl ?_ ?_
  · rintro av m Φ ⟨rfl, _⟩; exact Nat.le_of_ble_eq_true rfl
  rintro av m Φ ⟨rfl, C, a, nx, W, hB, hA, h⟩ hav hty
  show B e_X0_takeBack Φ 0 [some (vr 0 31), some (vr 2 20)] [] m (0, 0)
  have hn := hA.1
  have hnl := hA.2.1
  have ha := hA.2.2.1
  have hal := hA.2.2.2.1
  have hw := hA.2.2.2.2 a (by omega)
  rw [show (nx + 24 - (a + 1) + a) % 24 = (nx + 23) % 24 by omega] at hw
  have hX : m.1 31 1 + nI 24 - nI 1 - (m.1 31 1 + nI 24 - nI 1) / nI 24 * nI 24 = nI ((nx + 23) % 24) := by
    rw [hn, n_add, n_sub (by omega), n_rem (by omega) (by omega) (by omega), show nx + 24 - 1 = nx + 23 by omega]
  have hlt : (nx + 23) % 24 < 24 := Nat.mod_lt _ (by omega)
  have mid : ∀ X Y, X = nI ((nx + 23) % 24) → (mset (mset m 31 1 X) 31 2 Y).1 31 1 = nI ((nx + 23) % 24) := fun X Y q => by
    rw [mset_at, if_neg (by decide), mset_at, if_pos rfl]; exact q
  refine b_aloadN (pc := 0) 0 dX0_takeBack_0 rfl rfl ?_
  refine b_aloadN (pc := 1) 0 dX0_takeBack_1 rfl rfl ?_
  refine gf0_1 (pc := 2) k300 dX0_takeBack_2 ?_
  refine b_bipush (pc := 5) (nI 24) dX0_takeBack_5 (by decide) ?_
  refine b_iadd (pc := 7) dX0_takeBack_7 ?_
  refine b_iconst (pc := 8) (nI 1) dX0_takeBack_8 (by decide) ?_
  refine b_isub (pc := 9) dX0_takeBack_9 ?_
  refine b_bipush (pc := 10) (nI 24) dX0_takeBack_10 (by decide) ?_
  refine b_irem (pc := 12) dX0_takeBack_12 ?_ ?_
  rotate_left -- leaf 0: divisor at 12
  refine pf0_1 (pc := 13) k300 dX0_takeBack_13 ?_
  refine b_aloadN (pc := 16) 0 dX0_takeBack_16 rfl rfl ?_
  refine b_dup_r (pc := 17) dX0_takeBack_17 ?_
  refine gf0_2 (pc := 18) k301 dX0_takeBack_18 ?_
  refine b_iconst (pc := 21) (nI 1) dX0_takeBack_21 (by decide) ?_
  refine b_isub (pc := 22) dX0_takeBack_22 ?_
  refine pf0_2 (pc := 23) k301 dX0_takeBack_23 ?_
  refine b_aloadN (pc := 26) 1 dX0_takeBack_26 rfl rfl ?_
  refine b_aloadN (pc := 27) 0 dX0_takeBack_27 rfl rfl ?_
  refine gf0_0 (pc := 28) 32 rfl k299 dX0_takeBack_28 ?_
  refine b_aloadN (pc := 31) 0 dX0_takeBack_31 rfl rfl ?_
  refine gf0_1 (pc := 32) k300 dX0_takeBack_32 ?_
  refine b_aldR (pc := 35) (n := 24) (w := 2) (t' := 8) (Or.inl ⟨rfl, rfl, rfl, rfl⟩) ?_ dX0_takeBack_35 ?_
  rotate_left -- leaf 1: index at 35
  refine call_X2_goBack (pc := 36) k629 (by decide) ⟨Nat.le_of_ble_eq_true rfl, Nat.le_of_ble_eq_true rfl⟩ (Nat.le_of_ble_eq_true rfl) dX0_takeBack_36 ?_
  refine ⟨_, rfl, ?_, W a, ?_, ?_, ?_, fun m36 fr36 hB36 => ?_⟩
  rotate_left -- leaf 2: apart of X2_goBack at 36
  rotate_left -- leaf 3: valid of X2_goBack at 36
  rotate_left -- leaf 4: law of X2_goBack at 36
  rotate_left -- leaf 5: standing of X2_goBack at 36
  refine b_aloadN (pc := 39) 0 dX0_takeBack_39 rfl rfl ?_
  refine gf0_2 (pc := 40) k301 dX0_takeBack_40 ?_
  refine b_iret (pc := 43) rfl dX0_takeBack_43 ⟨Nat.le_of_ble_eq_true rfl, Nat.le_of_ble_eq_true rfl⟩ ?_
  rotate_left -- leaf 6: return at 43
  -- leaves: 0 divisor at 12; 1 index at 35; 2 apart of X2_goBack at 36; 3 valid of X2_goBack at 36; 4 law of X2_goBack at 36; 5 standing of X2_goBack at 36; 6 return at 43
  · decide
  · rw [mid _ _ hX]
    exact n_in (by omega) (by omega)
  · rw [mid _ _ hX, n_cl (by omega)]
    omega
  · exact hw.2.1
  · exact LawR.same (hB.2.1.cg (by rw [mset_ne _ _ _ (by decide), mset_ne _ _ _ (by decide)]) (by rw [mset_ne _ _ _ (by decide), mset_ne _ _ _ (by decide)]) (by rw [mset_ne _ _ _ (by decide), mset_ne _ _ _ (by decide)]) (by rw [mset_ne _ _ _ (by decide), mset_ne _ _ _ (by decide)]) (by rw [mset_ne _ _ _ (by decide), mset_ne _ _ _ (by decide)])) hw.2.2
  · rw [mid _ _ hX, n_cl (by omega)]
    exact hw.1.cg (by rw [mset_ne _ _ _ (by omega), mset_ne _ _ _ (by omega)]) (by rw [mset_ne _ _ _ (by omega), mset_ne _ _ _ (by omega)])
  · have f31 : m36.1 31 = _ := fr36.2 31 (by decide)
    have e31 : m36.1 31 2 = nI a := by
      rw [f31, mset_at, if_pos rfl, mset_at, if_neg (by decide), ha, n_sub (by omega), show a + 1 - 1 = a by omega]
    rw [e31]
    refine h m36 ((((Fr.rf [31] m).ms (by simp)).ms (by simp)).tr fr36 |>.mono (by decide)) hB36 ⟨?_, hlt, e31, by omega, fun i hi => ?_⟩
    · rw [f31, mid _ _ hX]
    · have q := hA.2.2.2.2 i (by omega)
      rw [show (nx + 24 - (a + 1) + i) % 24 = ((nx + 23) % 24 + 24 - a + i) % 24 by omega] at q
      refine ⟨q.1.cg ?_ ?_, q.2.1, hw.2.2.sy.tr q.2.2⟩
      · rw [fr36.2 _ (by simp; omega), mset_ne _ _ _ (by omega), mset_ne _ _ _ (by omega)]
      · rw [fr36.2 _ (by simp; omega), mset_ne _ _ _ (by omega), mset_ne _ _ _ (by omega)]
theorem call_X0_takeBack {E : ME} {Φ : Option AV → AM → Prop} {pc : Nat} {L : List (Option AV)} {st : List AV} {m : AM} {a : Nat × Nat} {idx : Nat} {x0 : AV} {i : Nat} (hl : Cond.methodLink E.2.1 idx yX0_takeBack ∈ TB) (hdep : 4 + 1 ≤ E.2.2.2.2.2.2) (hroom : a.1 + 0 ≤ E.2.2.2.2.1 ∧ a.2 + 0 ≤ E.2.2.2.2.2.1) (hsr : st.length ≤ 4) (hd : decode E.1 pc = .ok (.invokevirtual idx, 3)) (hsp : Sp_X0_takeBack [vr 0 i, x0] m (fun r m2 => B E Φ (pc + 3) L (r.toList ++ st) m2 a)) : B E Φ pc L (x0 :: vr 0 i :: st) m a := b_callV S_X0_takeBack [x0] (RX0, TX0, 3) rfl rfl (by decide) (Or.inl hl) k626 k627 k75 k628 (show _ ∧ _ ∧ Option.map (fun d => d.parameters.length) (parseMethodDescriptor yX0_takeBack.desc) = some 1 from by decide +kernel) ⟨hdep, by decide⟩ hroom hsr hd hsp
