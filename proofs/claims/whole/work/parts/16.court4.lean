/-! courts of the same rules; goBack, turnRule, resume, open, utter -/
def sameR (C C2 : Nat → Nat) : Prop := C2 3 = C 3 ∧ ∀ j, 8 ≤ j → j < 40 → C2 j = C j
theorem madeF_cg {C C2 : Nat → Nat} (h : sameR C C2) (sort f : Nat) : ∀ n, n ≤ 8 → madeF C2 sort f n = madeF C sort f n
  | 0, _ => rfl
  | n + 1, hn => by
    have ih := madeF_cg h sort f n (by omega)
    show (if _ then _ else _) = if _ then _ else _
    rw [ih, h.2 (8 + 4 * n) (by omega) (by omega), h.2 (11 + 4 * n) (by omega) (by omega), h.2 (9 + 4 * n) (by omega) (by omega), h.2 (10 + 4 * n) (by omega) (by omega)]
theorem clStep_cg {C C2 : Nat → Nat} (h : sameR C C2) {k : Nat} (s : Nat) (hk : k < 8) : clStep C2 k s = clStep C k s := by
  unfold clStep
  rw [h.2 (8 + 4 * k) (by omega) (by omega), h.2 (11 + 4 * k) (by omega) (by omega), h.2 (9 + 4 * k) (by omega) (by omega), h.2 (10 + 4 * k) (by omega) (by omega)]
theorem clRound_cg {C C2 : Nat → Nat} (h : sameR C C2) : ∀ n s, n ≤ 8 → clRound C2 n s = clRound C n s
  | 0, s, _ => rfl
  | n + 1, s, hn => by
    show clStep C2 n (clRound C2 n s) = clStep C n (clRound C n s)
    rw [clRound_cg h n s (by omega), clStep_cg h _ (by omega)]
theorem clN_cg {C C2 : Nat → Nat} (h : sameR C C2) (h8 : C 3 ≤ 8) : ∀ t s, clN C2 t s = clN C t s
  | 0, s => rfl
  | t + 1, s => by
    show clRound C2 (C2 3) (clN C2 t s) = clRound C (C 3) (clN C t s)
    rw [clN_cg h h8 t s, h.1, clRound_cg h _ _ h8]
theorem canB_cg {C C2 : Nat → Nat} (h : sameR C C2) (s : Nat) : ∀ n, n ≤ 8 → canB C2 s n = canB C s n
  | 0, _ => rfl
  | n + 1, hn => by
    have ih := canB_cg h s n (by omega)
    show (_ && _) = (_ && _)
    rw [ih, h.2 (8 + 4 * n) (by omega) (by omega), h.2 (11 + 4 * n) (by omega) (by omega), h.2 (9 + 4 * n) (by omega) (by omega), h.2 (10 + 4 * n) (by omega) (by omega)]
theorem setN_cg {C C2 : Nat → Nat} (h : sameR C C2) (h8 : C 3 ≤ 8) (s : Nat) : setN C2 s = setN C s := by
  unfold setN canBe closedN
  rw [clN_cg h h8, h.1, canB_cg h _ _ h8]
theorem MadR.cg {m : AM} {C C2 : Nat → Nat} (h : sameR C C2) (h8 : C 3 ≤ 8) (hm : MadR m C) : MadR m C2 := fun f hf => by
  rw [h.1, madeF_cg h _ _ _ h8, madeF_cg h _ _ _ h8]
  exact hm f hf
theorem CacR.cg {m : AM} {C C2 : Nat → Nat} (h : sameR C C2) (h8 : C 3 ≤ 8) (hm : CacR m C) : CacR m C2 := fun s hs => by
  rw [setN_cg h h8]
  exact hm s hs
theorem StkR.cg {x : Int32} {C C2 : Nat → Nat} (h : sameR C C2) (h8 : C 3 ≤ 8) (hx : StkR x C) : StkR x C2 := by
  obtain ⟨k, hk, e, hb⟩ := hx
  refine ⟨k, hk, e, fun r hr => ?_⟩
  rw [h.1, h.2 (11 + 4 * r) (by omega) (by omega)]
  exact hb r hr
theorem upC_ne (C : Nat → Nat) {k j : Nat} (v : Nat) (h : j ≠ k) : upC C k v j = C j := by unfold upC; rw [if_neg h]
theorem upC_at (C : Nat → Nat) (k v : Nat) : upC C k v k = v := by unfold upC; rw [if_pos rfl]
abbrev e_X2_goBack : ME := (cX2_goBack, (RX2, (2, (none, (0, (0, 3))))))
theorem dX2_goBack_0 : decode cX2_goBack 0 = .ok (.aload_n 0, 1) := by decide +kernel
theorem dX2_goBack_1 : decode cX2_goBack 1 = .ok (.getfield 21, 3) := by decide +kernel
theorem dX2_goBack_4 : decode cX2_goBack 4 = .ok (.aload_n 1, 1) := by decide +kernel
theorem dX2_goBack_5 : decode cX2_goBack 5 = .ok (.invokevirtual 57, 3) := by decide +kernel
theorem dX2_goBack_8 : decode cX2_goBack 8 = .ok (.aload_n 0, 1) := by decide +kernel
theorem dX2_goBack_9 : decode cX2_goBack 9 = .ok (.invokevirtual 50, 3) := by decide +kernel
theorem dX2_goBack_12 : decode cX2_goBack 12 = .ok (.return_, 1) := by decide +kernel
def Sp_X2_goBack (av : List AV) (m : AM) (Φ : Option AV → AM → Prop) : Prop := ∃ j, av = [vr 2 20, vr 8 j] ∧ (26 ≠ j ∧ 27 ≠ j ∧ j + 1 ≠ 26) ∧ ∃ C, VC C ∧ LawR m 21 C ∧ StR m j C ∧ ∀ m2, Fr [26, 27, 28, 29, 30] m m2 → BR m2 C → Φ none m2
set_option maxRecDepth 20000 in
set_option maxHeartbeats 4000000 in
theorem S_X2_goBack : Snd yX2_goBack e_X2_goBack Sp_X2_goBack := by
  refine Snd.of (by decide +kernel) rfl ?_ ?_
  · rintro av m Φ ⟨j, rfl, _⟩; exact Nat.le_of_ble_eq_true rfl
  rintro av m Φ ⟨j, rfl, hj, C, hv, hL, hS, h⟩ hav hty
  show B e_X2_goBack Φ 0 [some (vr 2 20), some (vr 8 j)] [] m (0, 0)
  have st26 : ∀ m2, Fr [26, 26 + 1] m m2 → (∀ k, 1 ≤ k → k ≤ 5 → m2.1 26 k = m.1 j k) → (∀ p, p < 5 → m2.1 (26 + 1) p = m.1 (j + 1) p) → StR m2 26 C := by
    intro m2 h1 h2 h3
    unfold StR
    rw [h2 1 (by omega) (by omega), h2 2 (by omega) (by omega), h2 3 (by omega) (by omega), h2 4 (by omega) (by omega), h2 5 (by omega) (by omega)]
    refine ⟨hS.1, hS.2.1, hS.2.2.1, hS.2.2.2.1, hS.2.2.2.2.1, fun p hp => ?_⟩
    have := hv.2.2.2.2.1.2
    rw [h3 p (by omega)]
    exact hS.2.2.2.2.2 p hp
  have law : ∀ l m2, Fr l m m2 → 21 ∉ l → 22 ∉ l → 23 ∉ l → 24 ∉ l → 25 ∉ l → LawR m2 21 C := fun l m2 h1 a b c d e => hL.cg (h1.2 _ a) (h1.2 _ b) (h1.2 _ c) (h1.2 _ d) (h1.2 _ e)
  refine b_aloadN (pc := 0) 0 dX2_goBack_0 rfl rfl ?_
  refine gf2_1 (pc := 1) 26 rfl k270 dX2_goBack_1 ?_
  refine b_aloadN (pc := 4) 1 dX2_goBack_4 rfl rfl ?_
  refine call_X8_become (pc := 5) k633 (by decide) ⟨Nat.le_of_ble_eq_true rfl, Nat.le_of_ble_eq_true rfl⟩ (Nat.le_of_ble_eq_true rfl) dX2_goBack_5 ?_
  refine ⟨_, _, rfl, ?_, fun m5 fr5 st5 cl5 => ?_⟩
  rotate_left -- leaf 0: apart of X8_become at 5
  refine b_aloadN (pc := 8) 0 dX2_goBack_8 rfl rfl ?_
  refine call_X2_gatherRules (pc := 9) k599 (by decide) ⟨Nat.le_of_ble_eq_true rfl, Nat.le_of_ble_eq_true rfl⟩ (Nat.le_of_ble_eq_true rfl) dX2_goBack_9 ?_
  refine ⟨rfl, C, ?_, ?_, ?_, fun m9 fr9 md9 ca9 => ?_⟩
  rotate_left -- leaf 1: valid of X2_gatherRules at 9
  rotate_left -- leaf 2: law of X2_gatherRules at 9
  rotate_left -- leaf 3: struck of X2_gatherRules at 9
  refine b_vret (pc := 12) rfl dX2_goBack_12 ⟨Nat.le_of_ble_eq_true rfl, Nat.le_of_ble_eq_true rfl⟩ ?_
  rotate_left -- leaf 4: return at 12
  -- leaves: 0 apart of X8_become at 5; 1 valid of X2_gatherRules at 9; 2 law of X2_gatherRules at 9; 3 struck of X2_gatherRules at 9; 4 return at 12
  · exact ⟨hj.1, hj.2.1, hj.2.2⟩
  · exact hv
  · exact law _ _ fr5 (by decide) (by decide) (by decide) (by decide) (by decide)
  · exact (st26 m5 fr5 st5 cl5).2.2.2.2.1
  · have f := fr5.tr fr9
    refine h m9 (f.mono (by decide)) ⟨hv, law _ _ f (by decide) (by decide) (by decide) (by decide) (by decide), ?_, md9, ca9⟩
    exact (st26 m5 fr5 st5 cl5).cg (fr9.2 _ (by decide)) (fr9.2 _ (by decide))
theorem call_X2_goBack {E : ME} {Φ : Option AV → AM → Prop} {pc : Nat} {L : List (Option AV)} {st : List AV} {m : AM} {a : Nat × Nat} {idx : Nat} {x0 : AV} {i : Nat} (hl : Cond.methodLink E.2.1 idx yX2_goBack ∈ TB) (hdep : 3 + 1 ≤ E.2.2.2.2.2.2) (hroom : a.1 + 0 ≤ E.2.2.2.2.1 ∧ a.2 + 0 ≤ E.2.2.2.2.2.1) (hsr : st.length ≤ 4) (hd : decode E.1 pc = .ok (.invokevirtual idx, 3)) (hsp : Sp_X2_goBack [vr 2 i, x0] m (fun r m2 => B E Φ (pc + 3) L (r.toList ++ st) m2 a)) : B E Φ pc L (x0 :: vr 2 i :: st) m a := b_callV S_X2_goBack [x0] (RX2, TX2, 5) rfl rfl (by decide) (Or.inl hl) k630 k631 k73 k632 (show _ ∧ _ ∧ Option.map (fun d => d.parameters.length) (parseMethodDescriptor yX2_goBack.desc) = some 1 from by decide +kernel) ⟨hdep, by decide⟩ hroom hsr hd hsp
def sumS (C : Nat → Nat) : Nat → Nat
  | 0 => 0
  | k + 1 => sumS C k + C (11 + 4 * k)
/-- a rule struck, or standing again -/
def strN (C : Nat → Nat) (r on : Nat) : Nat → Nat := upC C (11 + 4 * r) on
theorem VC.str {C : Nat → Nat} (hv : VC C) {r on : Nat} (hr : r < C 3) (ho : on = 0 ∨ on = 1) : VC (strN C r on) := by
  have h8 := hv.2.2.2.1
  have e : ∀ j, j ≠ 11 + 4 * r → strN C r on j = C j := fun j hj => upC_ne C on hj
  obtain ⟨h0, h1, h2, h3, h4, h5, h7, h6, hr1, hp⟩ := hv
  unfold VC
  rw [e 0 (by omega), e 1 (by omega), e 2 (by omega), e 3 (by omega), e 4 (by omega), e 5 (by omega), e 6 (by omega), e 7 (by omega)]
  refine ⟨h0, h1, h2, h3, h4, h5, h7, h6, fun k hk => ?_, fun p hp1 => ?_⟩
  · rw [e (8 + 4 * k) (by omega), e (9 + 4 * k) (by omega), e (10 + 4 * k) (by omega)]
    have q := hr1 k hk
    refine ⟨q.1, q.2.1, q.2.2.1, ?_⟩
    by_cases z : k = r
    · subst z
      show strN C k on (11 + 4 * k) = 0 ∨ _
      unfold strN
      rw [upC_at]
      exact ho
    · rw [e (11 + 4 * k) (by omega)]
      exact q.2.2.2
  · rw [e (40 + 2 * p) (by omega), e (41 + 2 * p) (by omega)]
    exact hp p hp1
theorem pc8_sum {C : Nat → Nat} {k : Nat} (h8 : C 3 ≤ 8) (h01 : ∀ r, r < C 3 → C (11 + 4 * r) = 0 ∨ C (11 + 4 * r) = 1) (hb : ∀ r, r < 8 → k.testBit r = decide (r < C 3 ∧ C (11 + 4 * r) = 1)) : pc8 k = sumS C (C 3) := by
  have t : ∀ r, r < 8 → (k.testBit r).toNat = if r < C 3 then C (11 + 4 * r) else 0 := by
    intro r hr
    rw [hb r hr]
    by_cases q : r < C 3
    · rw [if_pos q]
      rcases h01 r q with e | e
      · rw [e]; simp
      · rw [e]; simp [q]
    · rw [if_neg q]; simp [q]
  unfold pc8 pc6
  rw [t 0 (by omega), t 1 (by omega), t 2 (by omega), t 3 (by omega), t 4 (by omega), t 5 (by omega), t 6 (by omega), t 7 (by omega)]
  have key : ∀ n, n ≤ 8 → C 3 = n → (if 0 < C 3 then C (11 + 4 * 0) else 0) + (if 1 < C 3 then C (11 + 4 * 1) else 0) + (if 2 < C 3 then C (11 + 4 * 2) else 0) + (if 3 < C 3 then C (11 + 4 * 3) else 0) + (if 4 < C 3 then C (11 + 4 * 4) else 0) + (if 5 < C 3 then C (11 + 4 * 5) else 0) + (if 6 < C 3 then C (11 + 4 * 6) else 0) + (if 7 < C 3 then C (11 + 4 * 7) else 0) = sumS C (C 3) := by
    intro n hn e
    rw [e]
    rcases (by omega : n = 0 ∨ n = 1 ∨ n = 2 ∨ n = 3 ∨ n = 4 ∨ n = 5 ∨ n = 6 ∨ n = 7 ∨ n = 8) with rfl | rfl | rfl | rfl | rfl | rfl | rfl | rfl | rfl <;> simp [sumS]
  exact key (C 3) h8 rfl
abbrev e_X2_turnRule : ME := (cX2_turnRule, (RX2, (2, ((some .int), (0, (0, 3))))))
theorem dX2_turnRule_0 : decode cX2_turnRule 0 = .ok (.aload_n 0, 1) := by decide +kernel
theorem dX2_turnRule_1 : decode cX2_turnRule 1 = .ok (.getfield 21, 3) := by decide +kernel
theorem dX2_turnRule_4 : decode cX2_turnRule 4 = .ok (.dup, 1) := by decide +kernel
theorem dX2_turnRule_5 : decode cX2_turnRule 5 = .ok (.getfield 68, 3) := by decide +kernel
theorem dX2_turnRule_8 : decode cX2_turnRule 8 = .ok (.iconst 1, 1) := by decide +kernel
theorem dX2_turnRule_9 : decode cX2_turnRule 9 = .ok (.iload_n 1, 1) := by decide +kernel
theorem dX2_turnRule_10 : decode cX2_turnRule 10 = .ok (.ishl, 1) := by decide +kernel
theorem dX2_turnRule_11 : decode cX2_turnRule 11 = .ok (.ixor, 1) := by decide +kernel
theorem dX2_turnRule_12 : decode cX2_turnRule 12 = .ok (.putfield 68, 3) := by decide +kernel
theorem dX2_turnRule_15 : decode cX2_turnRule 15 = .ok (.aload_n 0, 1) := by decide +kernel
theorem dX2_turnRule_16 : decode cX2_turnRule 16 = .ok (.invokevirtual 50, 3) := by decide +kernel
theorem dX2_turnRule_19 : decode cX2_turnRule 19 = .ok (.aload_n 0, 1) := by decide +kernel
theorem dX2_turnRule_20 : decode cX2_turnRule 20 = .ok (.getfield 21, 3) := by decide +kernel
theorem dX2_turnRule_23 : decode cX2_turnRule 23 = .ok (.getfield 68, 3) := by decide +kernel
theorem dX2_turnRule_26 : decode cX2_turnRule 26 = .ok (.invokestatic 80, 3) := by decide +kernel
theorem dX2_turnRule_29 : decode cX2_turnRule 29 = .ok (.ireturn, 1) := by decide +kernel
def Sp_X2_turnRule (av : List AV) (m : AM) (Φ : Option AV → AM → Prop) : Prop := ∃ x, av = [vr 2 20, vi x] ∧ ∃ C r, BR m C ∧ x = nI r ∧ r < C 3 ∧ ∀ m2, Fr [26, 28, 29, 30] m m2 → BR m2 (strN C r (1 - C (11 + 4 * r))) → Φ (some (vi (nI (sumS (strN C r (1 - C (11 + 4 * r))) (C 3))))) m2
set_option maxRecDepth 20000 in
set_option maxHeartbeats 4000000 in
theorem S_X2_turnRule : Snd yX2_turnRule e_X2_turnRule Sp_X2_turnRule := by
  refine Snd.of (by decide +kernel) rfl ?_ ?_
  · rintro av m Φ ⟨x, rfl, _⟩; exact Nat.le_of_ble_eq_true rfl
  rintro av m Φ ⟨x, rfl, C, r, hB, rfl, hr, h⟩ hav hty
  show B e_X2_turnRule Φ 0 [some (vr 2 20), some (vi (nI r))] [] m (0, 0)
  obtain ⟨hv, hL, hS, hM, hC⟩ := hB
  have h8 := hv.2.2.2.1
  have h01 := (hv.2.2.2.2.2.2.2.2.1 r hr).2.2.2
  have hv2 := hv.str (r := r) (on := 1 - C (11 + 4 * r)) hr (by omega)
  obtain ⟨k, hk, hx, hb⟩ := hS.2.2.2.2.1
  have hk2 : k ^^^ 2 ^ r < 256 := by
    have : 2 ^ r < 2 ^ 8 := Nat.pow_lt_pow_right (by omega) (by omega)
    exact Nat.xor_lt_two_pow (n := 8) hk this
  have e3 : strN C r (1 - C (11 + 4 * r)) 3 = C 3 := upC_ne C _ (by omega)
  have eC : ∀ j, j ≠ 11 + 4 * r → strN C r (1 - C (11 + 4 * r)) j = C j := fun j hj => upC_ne C _ hj
  have hb2 : ∀ q, q < 8 → (k ^^^ 2 ^ r).testBit q = decide (q < strN C r (1 - C (11 + 4 * r)) 3 ∧ strN C r (1 - C (11 + 4 * r)) (11 + 4 * q) = 1) := by
    intro q hq
    rw [Nat.testBit_xor, Nat.testBit_two_pow, hb q hq, e3]
    by_cases z : r = q
    · subst z
      rw [show strN C r (1 - C (11 + 4 * r)) (11 + 4 * r) = 1 - C (11 + 4 * r) from upC_at C _ _]
      rcases h01 with e | e
      · rw [e]; simp [hr]
      · rw [e]; simp [hr]
    · rw [eC (11 + 4 * q) (by omega)]
      simp [z]
  have law2 : ∀ m2, (∀ a, 21 ≤ a → a ≤ 25 → m2.1 a = m.1 a) → LawR m2 21 (strN C r (1 - C (11 + 4 * r))) := by
    intro m2 q
    have hL2 : LawR m2 21 C := hL.cg (q _ (by omega) (by omega)) (q _ (by omega) (by omega)) (q _ (by omega) (by omega)) (q _ (by omega) (by omega)) (q _ (by omega) (by omega))
    unfold LawR
    rw [eC 0 (by omega), eC 2 (by omega), e3, eC 4 (by omega)]
    refine ⟨hL2.1, hL2.2.1, hL2.2.2.1, hL2.2.2.2.1, fun j hj => ?_, fun p hp => ?_⟩
    · rw [eC (8 + 4 * j) (by omega), eC (9 + 4 * j) (by omega), eC (10 + 4 * j) (by omega)]
      exact hL2.2.2.2.2.1 j hj
    · rw [eC (40 + 2 * p) (by omega)]
      exact hL2.2.2.2.2.2 p hp
  refine b_aloadN (pc := 0) 0 dX2_turnRule_0 rfl rfl ?_
  refine gf2_1 (pc := 1) 26 rfl k270 dX2_turnRule_1 ?_
  refine b_dup_r (pc := 4) dX2_turnRule_4 ?_
  refine gf8_5 (pc := 5) k249 dX2_turnRule_5 ?_
  refine b_iconst (pc := 8) (nI 1) dX2_turnRule_8 (by decide) ?_
  refine b_iloadN (pc := 9) 1 dX2_turnRule_9 rfl rfl ?_
  refine b_ishl (pc := 10) dX2_turnRule_10 ?_
  refine b_ixor (pc := 11) dX2_turnRule_11 ?_
  refine pf8_5 (pc := 12) k249 dX2_turnRule_12 ?_
  refine b_aloadN (pc := 15) 0 dX2_turnRule_15 rfl rfl ?_
  refine call_X2_gatherRules (pc := 16) k599 (by decide) ⟨Nat.le_of_ble_eq_true rfl, Nat.le_of_ble_eq_true rfl⟩ (Nat.le_of_ble_eq_true rfl) dX2_turnRule_16 ?_
  refine ⟨rfl, strN C r (1 - C (11 + 4 * r)), ?_, ?_, ?_, fun m16 fr16 md16 ca16 => ?_⟩
  rotate_left -- leaf 0: valid of X2_gatherRules at 16
  rotate_left -- leaf 1: law of X2_gatherRules at 16
  rotate_left -- leaf 2: struck of X2_gatherRules at 16
  refine b_aloadN (pc := 19) 0 dX2_turnRule_19 rfl rfl ?_
  refine gf2_1 (pc := 20) 26 rfl k270 dX2_turnRule_20 ?_
  refine gf8_5 (pc := 23) k249 dX2_turnRule_23 ?_
  refine call_J6_bitCount_0f7a4 (pc := 26) k691 (by decide) ⟨Nat.le_of_ble_eq_true rfl, Nat.le_of_ble_eq_true rfl⟩ (Nat.le_of_ble_eq_true rfl) dX2_turnRule_26 ?_
  refine ⟨_, rfl, k ^^^ 2 ^ r, ?_, ?_, ?_⟩
  rotate_left -- leaf 3: arg of J6_bitCount_0f7a4 at 26
  rotate_left -- leaf 4: bound of J6_bitCount_0f7a4 at 26
  refine b_iret (pc := 29) rfl dX2_turnRule_29 ⟨Nat.le_of_ble_eq_true rfl, Nat.le_of_ble_eq_true rfl⟩ ?_
  rotate_left -- leaf 5: return at 29
  -- leaves: 0 valid of X2_gatherRules at 16; 1 law of X2_gatherRules at 16; 2 struck of X2_gatherRules at 16; 3 arg of J6_bitCount_0f7a4 at 26; 4 bound of J6_bitCount_0f7a4 at 26; 5 return at 29
  · exact hv2
  · exact law2 _ (fun a h1 h2 => mset_ne m _ _ (by omega))
  · rw [mset_at, if_pos rfl, n_pow (by omega), hx, n_xor]
    exact ⟨_, hk2, rfl, hb2⟩
  · rw [fr16.2 26 (by decide), mset_at, if_pos rfl, n_pow (by omega), hx, n_xor]
  · exact hk2
  · rw [pc8_sum (C := strN C r (1 - C (11 + 4 * r))) (by rw [e3]; exact h8) (fun q hq => (hv2.2.2.2.2.2.2.2.2.1 q hq).2.2.2) hb2, e3]
    have f26 : m16.1 26 = _ := fr16.2 26 (by decide)
    refine h m16 (((((Fr.rf [26] m).ms (by simp)).tr fr16)).mono (by decide)) ⟨hv2, law2 _ (fun a h1 h2 => ?_), ?_, md16, ca16⟩
    · rw [fr16.2 a (by simp; omega)]
      exact mset_ne m _ _ (by omega)
    · unfold StR
      rw [f26, mset_at, mset_at, mset_at, mset_at, mset_at, if_neg (by decide), if_neg (by decide), if_neg (by decide), if_neg (by decide), if_pos rfl, n_pow (by omega), hx, n_xor]
      rw [eC 1 (by omega), eC 5 (by omega), eC 7 (by omega), eC 6 (by omega), eC 4 (by omega)]
      refine ⟨hS.1, hS.2.1, hS.2.2.1, hS.2.2.2.1, ⟨_, hk2, rfl, hb2⟩, fun p hp => ?_⟩
      rw [fr16.2 (26 + 1) (by decide), mset_ne _ _ _ (by decide), eC (41 + 2 * p) (by have := hv.2.2.2.2.1.2; omega)]
      exact hS.2.2.2.2.2 p hp
theorem call_X2_turnRule {E : ME} {Φ : Option AV → AM → Prop} {pc : Nat} {L : List (Option AV)} {st : List AV} {m : AM} {a : Nat × Nat} {idx : Nat} {x0 : AV} {i : Nat} (hl : Cond.methodLink E.2.1 idx yX2_turnRule ∈ TB) (hdep : 3 + 1 ≤ E.2.2.2.2.2.2) (hroom : a.1 + 0 ≤ E.2.2.2.2.1 ∧ a.2 + 0 ≤ E.2.2.2.2.2.1) (hsr : st.length ≤ 4) (hd : decode E.1 pc = .ok (.invokevirtual idx, 3)) (hsp : Sp_X2_turnRule [vr 2 i, x0] m (fun r m2 => B E Φ (pc + 3) L (r.toList ++ st) m2 a)) : B E Φ pc L (x0 :: vr 2 i :: st) m a := b_callV S_X2_turnRule [x0] (RX2, TX2, 5) rfl rfl (by decide) (Or.inl hl) k713 k714 k73 k715 (show _ ∧ _ ∧ Option.map (fun d => d.parameters.length) (parseMethodDescriptor yX2_turnRule.desc) = some 1 from by decide +kernel) ⟨hdep, by decide⟩ hroom hsr hd hsp
