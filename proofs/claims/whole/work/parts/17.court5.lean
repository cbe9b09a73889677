/-! resume, open, utter -/
theorem LawR.copy {m m2 : AM} {i j : Nat} {C : Nat → Nat} (hv : VC C) (h : LawR m j C) (h1 : ∀ k, 4 ≤ k → k ≤ 8 → m2.1 i k = m.1 j k) (h2 : ∀ p, p < 8 → m2.1 (i + 1) p = m.1 (j + 1) p ∧ m2.1 (i + 2) p = m.1 (j + 2) p ∧ m2.1 (i + 3) p = m.1 (j + 3) p) (h3 : ∀ p, p < 5 → m2.1 (i + 4) p = m.1 (j + 4) p) : LawR m2 i C := by
  have h8 := hv.2.2.2.1
  have h5 := hv.2.2.2.2.1.2
  unfold LawR
  rw [h1 4 (by omega) (by omega), h1 6 (by omega) (by omega), h1 7 (by omega) (by omega), h1 8 (by omega) (by omega)]
  refine ⟨h.1, h.2.1, h.2.2.1, h.2.2.2.1, fun r hr => ?_, fun p hp => ?_⟩
  · have q := h2 r (by omega)
    rw [q.1, q.2.1, q.2.2]
    exact h.2.2.2.2.1 r hr
  · rw [h3 p (by omega)]
    exact h.2.2.2.2.2 p hp
abbrev e_X2_resume : ME := (cX2_resume, (RX2, (3, (none, (0, (0, 4))))))
theorem dX2_resume_0 : decode cX2_resume 0 = .ok (.aload_n 0, 1) := by decide +kernel
theorem dX2_resume_1 : decode cX2_resume 1 = .ok (.getfield 12, 3) := by decide +kernel
theorem dX2_resume_4 : decode cX2_resume 4 = .ok (.aload_n 1, 1) := by decide +kernel
theorem dX2_resume_5 : decode cX2_resume 5 = .ok (.invokevirtual 39, 3) := by decide +kernel
theorem dX2_resume_8 : decode cX2_resume 8 = .ok (.aload_n 0, 1) := by decide +kernel
theorem dX2_resume_9 : decode cX2_resume 9 = .ok (.aload_n 2, 1) := by decide +kernel
theorem dX2_resume_10 : decode cX2_resume 10 = .ok (.invokevirtual 53, 3) := by decide +kernel
theorem dX2_resume_13 : decode cX2_resume 13 = .ok (.return_, 1) := by decide +kernel
def Sp_X2_resume (av : List AV) (m : AM) (Φ : Option AV → AM → Prop) : Prop := ∃ j k, av = [vr 2 20, vr 5 j, vr 8 k] ∧ (25 < j ∧ 30 < k) ∧ ∃ C, VC C ∧ LawR m j C ∧ StR m k C ∧ ∀ m2, Fr [21, 22, 23, 24, 25, 26, 27, 28, 29, 30] m m2 → BR m2 C → Φ none m2
set_option maxRecDepth 20000 in
set_option maxHeartbeats 4000000 in
theorem S_X2_resume : Snd yX2_resume e_X2_resume Sp_X2_resume := by
  refine Snd.of (by decide +kernel) rfl ?_ ?_
  · rintro av m Φ ⟨j, k, rfl, _⟩; exact Nat.le_of_ble_eq_true rfl
  rintro av m Φ ⟨j, k, rfl, hjk, C, hv, hL, hS, h⟩ hav hty
  show B e_X2_resume Φ 0 [some (vr 2 20), some (vr 5 j), some (vr 8 k)] [] m (0, 0)
  refine b_aloadN (pc := 0) 0 dX2_resume_0 rfl rfl ?_
  refine gf2_0 (pc := 1) 21 rfl k264 dX2_resume_1 ?_
  refine b_aloadN (pc := 4) 1 dX2_resume_4 rfl rfl ?_
  refine call_X5_become (pc := 5) k589 (by decide) ⟨Nat.le_of_ble_eq_true rfl, Nat.le_of_ble_eq_true rfl⟩ (Nat.le_of_ble_eq_true rfl) dX2_resume_5 ?_
  refine ⟨_, _, rfl, ?_, fun m5 fr5 st5 ru5 pe5 => ?_⟩
  rotate_left -- leaf 0: apart of X5_become at 5
  refine b_aloadN (pc := 8) 0 dX2_resume_8 rfl rfl ?_
  refine b_aloadN (pc := 9) 2 dX2_resume_9 rfl rfl ?_
  refine call_X2_goBack (pc := 10) k977 (by decide) ⟨Nat.le_of_ble_eq_true rfl, Nat.le_of_ble_eq_true rfl⟩ (Nat.le_of_ble_eq_true rfl) dX2_resume_10 ?_
  refine ⟨_, rfl, ?_, C, ?_, ?_, ?_, fun m10 fr10 hB10 => ?_⟩
  rotate_left -- leaf 1: apart of X2_goBack at 10
  rotate_left -- leaf 2: valid of X2_goBack at 10
  rotate_left -- leaf 3: law of X2_goBack at 10
  rotate_left -- leaf 4: standing of X2_goBack at 10
  refine b_vret (pc := 13) rfl dX2_resume_13 ⟨Nat.le_of_ble_eq_true rfl, Nat.le_of_ble_eq_true rfl⟩ ?_
  rotate_left -- leaf 5: return at 13
  -- leaves: 0 apart of X5_become at 5; 1 apart of X2_goBack at 10; 2 valid of X2_goBack at 10; 3 law of X2_goBack at 10; 4 standing of X2_goBack at 10; 5 return at 13
  · omega
  · omega
  · exact hv
  · exact hL.copy hv st5 ru5 pe5
  · exact hS.cg (fr5.2 _ (by simp; omega)) (fr5.2 _ (by simp; omega))
  · exact h m10 ((fr5.tr fr10).mono (by decide)) hB10
theorem call_X2_resume {E : ME} {Φ : Option AV → AM → Prop} {pc : Nat} {L : List (Option AV)} {st : List AV} {m : AM} {a : Nat × Nat} {idx : Nat} {x0 x1 : AV} {i : Nat} (hl : Cond.methodLink E.2.1 idx yX2_resume ∈ TB) (hdep : 4 + 1 ≤ E.2.2.2.2.2.2) (hroom : a.1 + 0 ≤ E.2.2.2.2.1 ∧ a.2 + 0 ≤ E.2.2.2.2.2.1) (hsr : st.length ≤ 4) (hd : decode E.1 pc = .ok (.invokevirtual idx, 3)) (hsp : Sp_X2_resume [vr 2 i, x0, x1] m (fun r m2 => B E Φ (pc + 3) L (r.toList ++ st) m2 a)) : B E Φ pc L (x1 :: x0 :: vr 2 i :: st) m a := b_callV S_X2_resume [x0, x1] (RX2, TX2, 5) rfl rfl (by decide) (Or.inl hl) k974 k975 k73 k976 (show _ ∧ _ ∧ Option.map (fun d => d.parameters.length) (parseMethodDescriptor yX2_resume.desc) = some 2 from by decide +kernel) ⟨hdep, by decide⟩ hroom hsr hd hsp
abbrev e_X2_open : ME := (cX2_open, (RX2, (2, (none, (0, (0, 3))))))
theorem dX2_open_0 : decode cX2_open 0 = .ok (.aload_n 0, 1) := by decide +kernel
theorem dX2_open_1 : decode cX2_open 1 = .ok (.getfield 12, 3) := by decide +kernel
theorem dX2_open_4 : decode cX2_open 4 = .ok (.aload_n 1, 1) := by decide +kernel
theorem dX2_open_5 : decode cX2_open 5 = .ok (.invokevirtual 39, 3) := by decide +kernel
theorem dX2_open_8 : decode cX2_open 8 = .ok (.aload_n 0, 1) := by decide +kernel
theorem dX2_open_9 : decode cX2_open 9 = .ok (.getfield 21, 3) := by decide +kernel
theorem dX2_open_12 : decode cX2_open 12 = .ok (.aload_n 1, 1) := by decide +kernel
theorem dX2_open_13 : decode cX2_open 13 = .ok (.getfield 43, 3) := by decide +kernel
theorem dX2_open_16 : decode cX2_open 16 = .ok (.invokevirtual 46, 3) := by decide +kernel
theorem dX2_open_19 : decode cX2_open 19 = .ok (.aload_n 0, 1) := by decide +kernel
theorem dX2_open_20 : decode cX2_open 20 = .ok (.invokevirtual 50, 3) := by decide +kernel
theorem dX2_open_23 : decode cX2_open 23 = .ok (.return_, 1) := by decide +kernel
def Sp_X2_open (av : List AV) (m : AM) (Φ : Option AV → AM → Prop) : Prop := av = [vr 2 20, vr 5 14] ∧ ∃ C, VC C ∧ LawR m 14 C ∧ m.1 14 5 = nI (C 1) ∧ (C 5 = 0 ∧ C 6 = 0 ∧ C 7 = 0) ∧ (∀ p, p < C 4 → C (41 + 2 * p) = 0) ∧ (∀ r, r < C 3 → C (11 + 4 * r) = 0) ∧ ∀ m2, Fr [21, 22, 23, 24, 25, 26, 27, 28, 29, 30] m m2 → BR m2 C → Φ none m2
set_option maxRecDepth 20000 in
set_option maxHeartbeats 4000000 in
theorem S_X2_open : Snd yX2_open e_X2_open Sp_X2_open := by
  refine Snd.of (by decide +kernel) rfl ?_ ?_
  · rintro av m Φ ⟨rfl, _⟩; exact Nat.le_of_ble_eq_true rfl
  rintro av m Φ ⟨rfl, C, hv, hL, hat, h0, hce, hsk, h⟩ hav hty
  show B e_X2_open Φ 0 [some (vr 2 20), some (vr 5 14)] [] m (0, 0)
  have stk : ∀ x : Int32, x = nI 0 → StkR x C := fun x hx => ⟨0, by omega, hx, fun r hr => by
    rw [Nat.zero_testBit]
    by_cases q : r < C 3
    · rw [hsk r q]; simp
    · simp [q]⟩
  refine b_aloadN (pc := 0) 0 dX2_open_0 rfl rfl ?_
  refine gf2_0 (pc := 1) 21 rfl k264 dX2_open_1 ?_
  refine b_aloadN (pc := 4) 1 dX2_open_4 rfl rfl ?_
  refine call_X5_become (pc := 5) k589 (by decide) ⟨Nat.le_of_ble_eq_true rfl, Nat.le_of_ble_eq_true rfl⟩ (Nat.le_of_ble_eq_true rfl) dX2_open_5 ?_
  refine ⟨_, _, rfl, ?_, fun m5 fr5 st5 ru5 pe5 => ?_⟩
  rotate_left -- leaf 0: apart of X5_become at 5
  refine b_aloadN (pc := 8) 0 dX2_open_8 rfl rfl ?_
  refine gf2_1 (pc := 9) 26 rfl k270 dX2_open_9 ?_
  refine b_aloadN (pc := 12) 1 dX2_open_12 rfl rfl ?_
  refine gf5_5 (pc := 13) k149 dX2_open_13 ?_
  refine call_X8_begin (pc := 16) k594 (by decide) ⟨Nat.le_of_ble_eq_true rfl, Nat.le_of_ble_eq_true rfl⟩ (Nat.le_of_ble_eq_true rfl) dX2_open_16 ?_
  refine ⟨_, _, rfl, fun m16 fr16 so16 st16 cl16 => ?_⟩
  refine b_aloadN (pc := 19) 0 dX2_open_19 rfl rfl ?_
  refine call_X2_gatherRules (pc := 20) k599 (by decide) ⟨Nat.le_of_ble_eq_true rfl, Nat.le_of_ble_eq_true rfl⟩ (Nat.le_of_ble_eq_true rfl) dX2_open_20 ?_
  refine ⟨rfl, C, ?_, ?_, ?_, fun m20 fr20 md20 ca20 => ?_⟩
  rotate_left -- leaf 1: valid of X2_gatherRules at 20
  rotate_left -- leaf 2: law of X2_gatherRules at 20
  rotate_left -- leaf 3: struck of X2_gatherRules at 20
  refine b_vret (pc := 23) rfl dX2_open_23 ⟨Nat.le_of_ble_eq_true rfl, Nat.le_of_ble_eq_true rfl⟩ ?_
  rotate_left -- leaf 4: return at 23
  -- leaves: 0 apart of X5_become at 5; 1 valid of X2_gatherRules at 20; 2 law of X2_gatherRules at 20; 3 struck of X2_gatherRules at 20; 4 return at 23
  · omega
  · exact hv
  · exact (hL.copy hv st5 ru5 pe5).cg (fr16.2 _ (by decide)) (fr16.2 _ (by decide)) (fr16.2 _ (by decide)) (fr16.2 _ (by decide)) (fr16.2 _ (by decide))
  · exact stk _ (st16 5 (by omega) (by omega))
  · refine h m20 (((fr5.tr fr16).tr fr20).mono (by decide)) ⟨hv, ((hL.copy hv st5 ru5 pe5).cg (fr16.2 _ (by decide)) (fr16.2 _ (by decide)) (fr16.2 _ (by decide)) (fr16.2 _ (by decide)) (fr16.2 _ (by decide))).cg (fr20.2 _ (by decide)) (fr20.2 _ (by decide)) (fr20.2 _ (by decide)) (fr20.2 _ (by decide)) (fr20.2 _ (by decide)), ?_, md20, ca20⟩
    refine StR.cg (m := m16) (fr20.2 _ (by decide)) (fr20.2 _ (by decide)) ?_
    unfold StR
    rw [so16, st16 2 (by omega) (by omega), st16 3 (by omega) (by omega), st16 4 (by omega) (by omega), fr5.2 14 (by decide), hat, h0.1, h0.2.1, h0.2.2]
    refine ⟨rfl, rfl, rfl, rfl, stk _ (st16 5 (by omega) (by omega)), fun p hp => ?_⟩
    have := hv.2.2.2.2.1.2
    rw [cl16 p (by omega), hce p hp]
theorem call_X2_open {E : ME} {Φ : Option AV → AM → Prop} {pc : Nat} {L : List (Option AV)} {st : List AV} {m : AM} {a : Nat × Nat} {idx : Nat} {x0 : AV} {i : Nat} (hl : Cond.methodLink E.2.1 idx yX2_open ∈ TB) (hdep : 3 + 1 ≤ E.2.2.2.2.2.2) (hroom : a.1 + 0 ≤ E.2.2.2.2.1 ∧ a.2 + 0 ≤ E.2.2.2.2.2.1) (hsr : st.length ≤ 4) (hd : decode E.1 pc = .ok (.invokevirtual idx, 3)) (hsp : Sp_X2_open [vr 2 i, x0] m (fun r m2 => B E Φ (pc + 3) L (r.toList ++ st) m2 a)) : B E Φ pc L (x0 :: vr 2 i :: st) m a := b_callV S_X2_open [x0] (RX2, TX2, 5) rfl rfl (by decide) (Or.inl hl) k586 k587 k73 k588 (show _ ∧ _ ∧ Option.map (fun d => d.parameters.length) (parseMethodDescriptor yX2_open.desc) = some 1 from by decide +kernel) ⟨hdep, by decide⟩ hroom hsr hd hsp
/-- the court behind a saying k of p, and the answer -/
def sayC (C : Nat → Nat) (p k : Nat) : Nat → Nat := match outN C (C (40 + 2 * p)) (C 1) (C 5) k with
  | none => upC (upC (upC C 5 (C 5 ||| 2 ^ (k / 2))) 7 (C 7 + 1)) (41 + 2 * p) (C (41 + 2 * p) + 1)
  | some v => upC (upC (upC (upC C 5 (C 5 ||| 2 ^ (k / 2))) 7 (C 7 + 1)) 6 (C 6 + C 2 * pc6 (C 1 ^^^ v))) 1 v
def sayO (C : Nat → Nat) (p k : Nat) : Int32 := oI (outN C (C (40 + 2 * p)) (C 1) (C 5) k)
theorem or_lt_pow {a b n : Nat} (ha : a < 2 ^ n) (hb : b < n) : a ||| 2 ^ b < 2 ^ n := Nat.or_lt_two_pow ha (Nat.pow_lt_pow_right (by omega) hb)
theorem VC.c1 {C : Nat → Nat} (hv : VC C) : C 1 < 64 := by
  have h : 2 ^ C 0 ≤ 2 ^ 6 := Nat.pow_le_pow_right (by omega) hv.1.2
  have := hv.2.1
  omega
theorem VC.c5 {C : Nat → Nat} (hv : VC C) : C 5 < 64 := by
  have h : 2 ^ C 0 ≤ 2 ^ 6 := Nat.pow_le_pow_right (by omega) hv.1.2
  have := hv.2.2.2.2.2.1
  omega
/-- bits below n -/
def below (n s : Nat) : Prop := ∀ i, s.testBit i = true → i < n
theorem below_lt {n s : Nat} (h : below n s) : s < 2 ^ n := by
  refine Nat.lt_pow_two_of_testBit s (fun i hi => ?_)
  cases e : s.testBit i
  · rfl
  · have := h i e; omega
theorem lt_below {n s : Nat} (h : s < 2 ^ n) : below n s := fun i hi => by
  rcases Nat.lt_or_ge i n with q | q
  · exact q
  · have := Nat.testBit_lt_two_pow (x := s) (i := i) (Nat.lt_of_lt_of_le h (Nat.pow_le_pow_right (by omega) q))
    rw [this] at hi; cases hi
theorem sub_full {n s : Nat} (h : s < 2 ^ n) : sub s (2 ^ n - 1) := fun i hi => by
  rw [Nat.testBit_two_pow_sub_one]
  exact decide_eq_true (lt_below h i hi)
theorem full_sub {n s : Nat} (h : sub s (2 ^ n - 1)) : s < 2 ^ n := below_lt fun i hi => by
  have := h i hi
  rw [Nat.testBit_two_pow_sub_one] at this
  exact of_decide_eq_true this
theorem closed_lt {C : Nat → Nat} (hv : VC C) {s : Nat} (h : s < 2 ^ C 0) : closedN C s < 2 ^ C 0 := by
  refine full_sub (clN_le (fun k hk _ _ => ?_) 6 s (sub_full h))
  rw [Nat.testBit_two_pow_sub_one]
  exact decide_eq_true (hv.2.2.2.2.2.2.2.2.1 k hk).2.2.1
theorem set_lt {C : Nat → Nat} (hv : VC C) {s v : Nat} (h : s < 2 ^ C 0) (e : setN C s = some v) : v < 2 ^ C 0 := by
  unfold setN at e
  split at e
  · cases e; exact closed_lt hv h
  · cases e
theorem with_lt {n s f b : Nat} (hs : s < 2 ^ n) (hf : f < n) : withN s f b < 2 ^ n := by
  unfold withN
  split
  · exact or_lt_pow hs hf
  · refine below_lt fun i hi => ?_
    rw [nDel_bit] at hi
    refine lt_below hs i ?_
    cases e : s.testBit i
    · rw [e] at hi; cases hi
    · rfl
theorem bel_lt {C : Nat → Nat} (hv : VC C) (q : Nat) {s : Nat} (d : Nat) {k : Nat} (hs : s < 2 ^ C 0) (hk : k < 2 * C 0) : belN C q s d k < 2 ^ C 0 := by
  have h0 := hv.1
  have hf : k / 2 < C 0 := by omega
  have hf2 : (k / 2 + 1) % C 0 < C 0 := Nat.mod_lt _ (by omega)
  unfold belN
  split
  · exact with_lt hs hf
  · exact with_lt (with_lt hs hf) hf2
  · exact with_lt hs hf
  · split
    · exact hs
    · exact with_lt hs hf
  · exact hs
theorem VC.say {C : Nat → Nat} (hv : VC C) {p k : Nat} (hp : p < C 4) (hk : k < 2 * C 0) (h7 : C 7 ≤ 998) : VC (sayC C p k) := by
  obtain ⟨v0, v1, v2, v3, v4, v5, v7, v6, vr1, vp⟩ := id hv
  have h5 : C 5 ||| 2 ^ (k / 2) < 2 ^ C 0 := or_lt_pow v5 (by omega)
  unfold sayC
  cases e : outN C (C (40 + 2 * p)) (C 1) (C 5) k with
  | none =>
    have u : ∀ j, j ≠ 5 → j ≠ 7 → j ≠ 41 + 2 * p → upC (upC (upC C 5 (C 5 ||| 2 ^ (k / 2))) 7 (C 7 + 1)) (41 + 2 * p) (C (41 + 2 * p) + 1) j = C j := fun j a b c => by rw [upC_ne _ _ c, upC_ne _ _ b, upC_ne _ _ a]
    have u5 : upC (upC (upC C 5 (C 5 ||| 2 ^ (k / 2))) 7 (C 7 + 1)) (41 + 2 * p) (C (41 + 2 * p) + 1) 5 = C 5 ||| 2 ^ (k / 2) := by rw [upC_ne _ _ (by omega), upC_ne _ _ (by omega), upC_at]
    have u7 : upC (upC (upC C 5 (C 5 ||| 2 ^ (k / 2))) 7 (C 7 + 1)) (41 + 2 * p) (C (41 + 2 * p) + 1) 7 = C 7 + 1 := by rw [upC_ne _ _ (by omega), upC_at]
    show VC (upC (upC (upC C 5 (C 5 ||| 2 ^ (k / 2))) 7 (C 7 + 1)) (41 + 2 * p) (C (41 + 2 * p) + 1))
    unfold VC
    rw [u5, u7, u 0 (by omega) (by omega) (by omega), u 1 (by omega) (by omega) (by omega), u 2 (by omega) (by omega) (by omega), u 3 (by omega) (by omega) (by omega), u 4 (by omega) (by omega) (by omega), u 6 (by omega) (by omega) (by omega)]
    refine ⟨v0, v1, v2, v3, v4, h5, by omega, by omega, fun j hj => ?_, fun j hj => ?_⟩
    · rw [u (8 + 4 * j) (by omega) (by omega) (by omega), u (9 + 4 * j) (by omega) (by omega) (by omega), u (10 + 4 * j) (by omega) (by omega) (by omega), u (11 + 4 * j) (by omega) (by omega) (by omega)]
      exact vr1 j hj
    · rw [u (40 + 2 * j) (by omega) (by omega) (by omega)]
      refine ⟨(vp j hj).1, ?_⟩
      have := (vp j hj).2
      have := (vp p hp).2
      by_cases z : j = p
      · subst z; rw [upC_at]; omega
      · rw [u (41 + 2 * j) (by omega) (by omega) (by omega)]; omega
  | some v =>
    have hvv : v < 2 ^ C 0 := set_lt hv (bel_lt hv _ _ v1 hk) e
    have hx : C 1 ^^^ v < 64 := Nat.xor_lt_two_pow (n := 6) hv.c1 (by
      have h : 2 ^ C 0 ≤ 2 ^ 6 := Nat.pow_le_pow_right (by omega) v0.2
      omega)
    have hpc := pc6_le _ hx
    have hmul : C 2 * pc6 (C 1 ^^^ v) ≤ 9 * 6 := Nat.mul_le_mul v2.2 hpc
    have u : ∀ j, j ≠ 5 → j ≠ 7 → j ≠ 6 → j ≠ 1 → upC (upC (upC (upC C 5 (C 5 ||| 2 ^ (k / 2))) 7 (C 7 + 1)) 6 (C 6 + C 2 * pc6 (C 1 ^^^ v))) 1 v j = C j := fun j a b c d => by rw [upC_ne _ _ d, upC_ne _ _ c, upC_ne _ _ b, upC_ne _ _ a]
    have u5 : upC (upC (upC (upC C 5 (C 5 ||| 2 ^ (k / 2))) 7 (C 7 + 1)) 6 (C 6 + C 2 * pc6 (C 1 ^^^ v))) 1 v 5 = C 5 ||| 2 ^ (k / 2) := by rw [upC_ne _ _ (by omega), upC_ne _ _ (by omega), upC_ne _ _ (by omega), upC_at]
    have u7 : upC (upC (upC (upC C 5 (C 5 ||| 2 ^ (k / 2))) 7 (C 7 + 1)) 6 (C 6 + C 2 * pc6 (C 1 ^^^ v))) 1 v 7 = C 7 + 1 := by rw [upC_ne _ _ (by omega), upC_ne _ _ (by omega), upC_at]
    have u6 : upC (upC (upC (upC C 5 (C 5 ||| 2 ^ (k / 2))) 7 (C 7 + 1)) 6 (C 6 + C 2 * pc6 (C 1 ^^^ v))) 1 v 6 = C 6 + C 2 * pc6 (C 1 ^^^ v) := by rw [upC_ne _ _ (by omega), upC_at]
    have u1 : upC (upC (upC (upC C 5 (C 5 ||| 2 ^ (k / 2))) 7 (C 7 + 1)) 6 (C 6 + C 2 * pc6 (C 1 ^^^ v))) 1 v 1 = v := upC_at _ _ _
    show VC (upC (upC (upC (upC C 5 (C 5 ||| 2 ^ (k / 2))) 7 (C 7 + 1)) 6 (C 6 + C 2 * pc6 (C 1 ^^^ v))) 1 v)
    unfold VC
    rw [u5, u7, u6, u1, u 0 (by omega) (by omega) (by omega) (by omega), u 2 (by omega) (by omega) (by omega) (by omega), u 3 (by omega) (by omega) (by omega) (by omega), u 4 (by omega) (by omega) (by omega) (by omega)]
    refine ⟨v0, hvv, v2, v3, v4, h5, by omega, by omega, fun j hj => ?_, fun j hj => ?_⟩
    · rw [u (8 + 4 * j) (by omega) (by omega) (by omega) (by omega), u (9 + 4 * j) (by omega) (by omega) (by omega) (by omega), u (10 + 4 * j) (by omega) (by omega) (by omega) (by omega), u (11 + 4 * j) (by omega) (by omega) (by omega) (by omega)]
      exact vr1 j hj
    · rw [u (40 + 2 * j) (by omega) (by omega) (by omega) (by omega), u (41 + 2 * j) (by omega) (by omega) (by omega) (by omega)]
      have := (vp j hj).2
      exact ⟨(vp j hj).1, by omega⟩
/-- what changes in a saying, and what stays -/
theorem sayC_same (C : Nat → Nat) (p k : Nat) : sameR C (sayC C p k) ∧ sayC C p k 0 = C 0 ∧ sayC C p k 2 = C 2 ∧ sayC C p k 4 = C 4 ∧ (∀ j, sayC C p k (40 + 2 * j) = C (40 + 2 * j)) := by
  unfold sayC
  cases outN C (C (40 + 2 * p)) (C 1) (C 5) k with
  | none =>
    have u : ∀ j, j ≠ 5 → j ≠ 7 → j ≠ 41 + 2 * p → upC (upC (upC C 5 (C 5 ||| 2 ^ (k / 2))) 7 (C 7 + 1)) (41 + 2 * p) (C (41 + 2 * p) + 1) j = C j := fun j a b c => by rw [upC_ne _ _ c, upC_ne _ _ b, upC_ne _ _ a]
    exact ⟨⟨u 3 (by omega) (by omega) (by omega), fun j h1 h2 => u j (by omega) (by omega) (by omega)⟩, u 0 (by omega) (by omega) (by omega), u 2 (by omega) (by omega) (by omega), u 4 (by omega) (by omega) (by omega), fun j => u _ (by omega) (by omega) (by omega)⟩
  | some v =>
    have u : ∀ j, j ≠ 5 → j ≠ 7 → j ≠ 6 → j ≠ 1 → upC (upC (upC (upC C 5 (C 5 ||| 2 ^ (k / 2))) 7 (C 7 + 1)) 6 (C 6 + C 2 * pc6 (C 1 ^^^ v))) 1 v j = C j := fun j a b c d => by rw [upC_ne _ _ d, upC_ne _ _ c, upC_ne _ _ b, upC_ne _ _ a]
    exact ⟨⟨u 3 (by omega) (by omega) (by omega) (by omega), fun j h1 h2 => u j (by omega) (by omega) (by omega) (by omega)⟩, u 0 (by omega) (by omega) (by omega) (by omega), u 2 (by omega) (by omega) (by omega) (by omega), u 4 (by omega) (by omega) (by omega) (by omega), fun j => u _ (by omega) (by omega) (by omega) (by omega)⟩
theorem BR.re {m m4 : AM} {C C2 : Nat → Nat} (hB : BR m C) (hs : sameR C C2) (h0 : C2 0 = C 0) (h2 : C2 2 = C 2) (h4 : C2 4 = C 4) (hk : ∀ j, C2 (40 + 2 * j) = C (40 + 2 * j)) (hv : VC C2) (hf : ∀ a, 21 ≤ a ∧ a ≤ 25 ∨ a = 28 ∨ a = 29 → m4.1 a = m.1 a) (hc : CacR m4 C) (hst : StR m4 26 C2) : BR m4 C2 := by
  obtain ⟨v, hL, hS, hM, hC⟩ := hB
  have h8 := v.2.2.2.1
  refine ⟨hv, ?_, hst, ?_, hc.cg hs h8⟩
  · have hL2 : LawR m4 21 C := hL.cg (hf _ (by omega)) (hf _ (by omega)) (hf _ (by omega)) (hf _ (by omega)) (hf _ (by omega))
    unfold LawR
    rw [h0, h2, hs.1, h4]
    refine ⟨hL2.1, hL2.2.1, hL2.2.2.1, hL2.2.2.2.1, fun r hr => ?_, fun p hp => ?_⟩
    · rw [hs.2 (8 + 4 * r) (by omega) (by omega), hs.2 (9 + 4 * r) (by omega) (by omega), hs.2 (10 + 4 * r) (by omega) (by omega)]
      exact hL2.2.2.2.2.1 r hr
    · rw [hk p]
      exact hL2.2.2.2.2.2 p hp
  · refine MadR.cg hs h8 (fun f q => ?_)
    rw [hf 28 (by omega), hf 29 (by omega)]
    exact hM f q
