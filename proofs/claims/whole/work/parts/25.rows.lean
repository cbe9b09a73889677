/-! ROWS: La r is 0 where a row is missing, else its lane and 1; Ma r its length; It r its items -/
theorem i_rng (x : Int32) : -2147483648 ≤ x.toInt ∧ x.toInt < 2147483648 := by
  have h1 := Int32.le_toInt x
  have h2 := Int32.toInt_lt x
  omega
theorem i_bmod {z : Int} (h1 : -2147483648 ≤ z) (h2 : z < 2147483648) : z.bmod (2 ^ 32) = z := by
  rw [Int.bmod_eq_of_le (by omega) (by omega)]
theorem i_sub {x y : Int32} (h1 : -2147483648 ≤ x.toInt - y.toInt) (h2 : x.toInt - y.toInt < 2147483648) : (x - y).toInt = x.toInt - y.toInt := by
  rw [Int32.toInt_sub, i_bmod h1 h2]
theorem i_add {x y : Int32} (h1 : -2147483648 ≤ x.toInt + y.toInt) (h2 : x.toInt + y.toInt < 2147483648) : (x + y).toInt = x.toInt + y.toInt := by
  rw [Int32.toInt_add, i_bmod h1 h2]
theorem i_lt {a b : Int32} : a < b ↔ a.toInt < b.toInt := Int32.lt_iff_toInt_lt
theorem i_le {a b : Int32} : a ≤ b ↔ a.toInt ≤ b.toInt := Int32.le_iff_toInt_le
theorem i_0 : (0 : Int32).toInt = 0 := rfl
def RowR (m : AM) (La Ma : Nat → Nat) (It : Nat → Nat → Int32) : Prop := ∀ r, r < 8 → (La r = 0 → m.1 12 r = -1) ∧ (0 < La r → La r ≤ 3 ∧ m.1 11 r = nI (La r - 1) ∧ m.1 12 r = nI (Ma r) ∧ Ma r ≤ 40 ∧ ∀ j, j < 40 → m.1 (3 + r) j = It r j)
def rowL : List Nat := [3, 4, 5, 6, 7, 8, 9, 10, 11, 12]
theorem rowL_in : ∀ r, r < 8 → 3 + r ∈ rowL := by decide
/-- n items from i on lie within the first L -/
def fitB (i n : Int32) (L : Nat) : Bool := decide (0 ≤ i.toInt) && (decide (0 ≤ n.toInt) && decide (i.toInt + n.toInt ≤ L))
def lackN (La Ma : Nat → Nat) (r : Nat) (i n : Int32) : Nat := if La r = 0 then 1 else if fitB i n (Ma r) = true then 0 else 2
abbrev e_X6_isMissing : ME := (cX6_isMissing, (RX6, (2, ((some .boolean), (0, (0, 1))))))
theorem dX6_isMissing_0 : decode cX6_isMissing 0 = .ok (.aload_n 0, 1) := by decide +kernel
theorem dX6_isMissing_1 : decode cX6_isMissing 1 = .ok (.getfield 20, 3) := by decide +kernel
theorem dX6_isMissing_4 : decode cX6_isMissing 4 = .ok (.iload_n 1, 1) := by decide +kernel
theorem dX6_isMissing_5 : decode cX6_isMissing 5 = .ok (.iaload, 1) := by decide +kernel
theorem dX6_isMissing_6 : decode cX6_isMissing 6 = .ok (.iconst (-1), 1) := by decide +kernel
theorem dX6_isMissing_7 : decode cX6_isMissing 7 = .ok (.if_icmp .ne 7, 3) := by decide +kernel
theorem dX6_isMissing_10 : decode cX6_isMissing 10 = .ok (.iconst 1, 1) := by decide +kernel
theorem dX6_isMissing_11 : decode cX6_isMissing 11 = .ok (.goto 4, 3) := by decide +kernel
theorem dX6_isMissing_14 : decode cX6_isMissing 14 = .ok (.iconst 0, 1) := by decide +kernel
theorem dX6_isMissing_15 : decode cX6_isMissing 15 = .ok (.ireturn, 1) := by decide +kernel
def Sp_X6_isMissing (av : List AV) (m : AM) (Φ : Option AV → AM → Prop) : Prop := ∃ x, av = [vr 6 1, vi x] ∧ ∃ La Ma It r, RowR m La Ma It ∧ x = nI r ∧ r < 8 ∧ Φ (some (vi (nI (if La r = 0 then 1 else 0)))) m
set_option maxRecDepth 20000 in
set_option maxHeartbeats 4000000 in
theorem S_X6_isMissing : Snd yX6_isMissing e_X6_isMissing Sp_X6_isMissing := by
  refine Snd.of (by decide +kernel) rfl ?_ ?_
  · rintro av m Φ ⟨x, rfl, _⟩; exact Nat.le_of_ble_eq_true rfl
  rintro av m Φ ⟨x, rfl, La, Ma, It, r, hR, rfl, hr, h⟩ hav hty
  show B e_X6_isMissing Φ 0 [some (vr 6 1), some (vi (nI r))] [] m (0, 0)
  have q := hR r hr
  refine b_aloadN (pc := 0) 0 dX6_isMissing_0 rfl rfl ?_
  refine gf6_2 (pc := 1) 12 rfl k106 dX6_isMissing_1 ?_
  refine b_iloadN (pc := 4) 1 dX6_isMissing_4 rfl rfl ?_
  refine b_iald (pc := 5) (by decide) ?_ dX6_isMissing_5 ?_
  rotate_left -- leaf 0: index at 5
  refine b_iconst (pc := 6) (-1) dX6_isMissing_6 (by decide) ?_
  refine b_icmp_ne (pc := 7) 14 dX6_isMissing_7 (by decide) (fun c7 => ?_) (fun c7 => ?_)
  refine b_iconst (pc := 14) (nI 0) dX6_isMissing_14 (by decide) ?_
  refine b_zret (pc := 15) rfl ?_ dX6_isMissing_15 ⟨Nat.le_of_ble_eq_true rfl, Nat.le_of_ble_eq_true rfl⟩ ?_
  rotate_left -- leaf 1: bool at 15
  rotate_left -- leaf 2: return at 15
  refine b_iconst (pc := 10) (nI 1) dX6_isMissing_10 (by decide) ?_
  refine b_goto (pc := 11) 15 dX6_isMissing_11 (by decide) ?_
  refine b_zret (pc := 15) rfl ?_ dX6_isMissing_15 ⟨Nat.le_of_ble_eq_true rfl, Nat.le_of_ble_eq_true rfl⟩ ?_
  rotate_left -- leaf 3: bool at 15
  rotate_left -- leaf 4: return at 15
  -- leaves: 0 index at 5; 1 bool at 15; 2 return at 15; 3 bool at 15; 4 return at 15
  · exact n_in (by omega) (by omega)
  · exact Or.inl rfl
  · rw [n_cl (by omega)] at c7
    by_cases z : La r = 0
    · exact absurd (q.1 z) c7
    · rw [if_neg z] at h; exact h
  · exact Or.inr rfl
  · rw [n_cl (by omega)] at c7
    by_cases z : La r = 0
    · rw [if_pos z] at h; exact h
    · have w := q.2 (by omega)
      rw [w.2.2.1] at c7
      exact absurd c7 (n_ne_m1 (by omega))
theorem call_X6_isMissing {E : ME} {Φ : Option AV → AM → Prop} {pc : Nat} {L : List (Option AV)} {st : List AV} {m : AM} {a : Nat × Nat} {idx : Nat} {x0 : AV} {i : Nat} (hl : Cond.methodLink E.2.1 idx yX6_isMissing ∈ TB) (hdep : 1 + 1 ≤ E.2.2.2.2.2.2) (hroom : a.1 + 0 ≤ E.2.2.2.2.1 ∧ a.2 + 0 ≤ E.2.2.2.2.2.1) (hsr : st.length ≤ 4) (hd : decode E.1 pc = .ok (.invokevirtual idx, 3)) (hsp : Sp_X6_isMissing [vr 6 i, x0] m (fun r m2 => B E Φ (pc + 3) L (r.toList ++ st) m2 a)) : B E Φ pc L (x0 :: vr 6 i :: st) m a := b_callV S_X6_isMissing [x0] (RX6, TX6, 3) rfl rfl (by decide) (Or.inl hl) k473 k474 k69 k475 (show _ ∧ _ ∧ Option.map (fun d => d.parameters.length) (parseMethodDescriptor yX6_isMissing.desc) = some 1 from by decide +kernel) ⟨hdep, by decide⟩ hroom hsr hd hsp
abbrev e_X6_laneOf : ME := (cX6_laneOf, (RX6, (2, ((some .int), (0, (0, 1))))))
theorem dX6_laneOf_0 : decode cX6_laneOf 0 = .ok (.aload_n 0, 1) := by decide +kernel
theorem dX6_laneOf_1 : decode cX6_laneOf 1 = .ok (.getfield 16, 3) := by decide +kernel
theorem dX6_laneOf_4 : decode cX6_laneOf 4 = .ok (.iload_n 1, 1) := by decide +kernel
theorem dX6_laneOf_5 : decode cX6_laneOf 5 = .ok (.iaload, 1) := by decide +kernel
theorem dX6_laneOf_6 : decode cX6_laneOf 6 = .ok (.ireturn, 1) := by decide +kernel
def Sp_X6_laneOf (av : List AV) (m : AM) (Φ : Option AV → AM → Prop) : Prop := ∃ x, av = [vr 6 1, vi x] ∧ ∃ La Ma It r, RowR m La Ma It ∧ x = nI r ∧ r < 8 ∧ 0 < La r ∧ Φ (some (vi (nI (La r - 1)))) m
set_option maxRecDepth 20000 in
set_option maxHeartbeats 4000000 in
theorem S_X6_laneOf : Snd yX6_laneOf e_X6_laneOf Sp_X6_laneOf := by
  refine Snd.of (by decide +kernel) rfl ?_ ?_
  · rintro av m Φ ⟨x, rfl, _⟩; exact Nat.le_of_ble_eq_true rfl
  rintro av m Φ ⟨x, rfl, La, Ma, It, r, hR, rfl, hr, hl, h⟩ hav hty
  show B e_X6_laneOf Φ 0 [some (vr 6 1), some (vi (nI r))] [] m (0, 0)
  have q := (hR r hr).2 hl
  refine b_aloadN (pc := 0) 0 dX6_laneOf_0 rfl rfl ?_
  refine gf6_1 (pc := 1) 11 rfl k105 dX6_laneOf_1 ?_
  refine b_iloadN (pc := 4) 1 dX6_laneOf_4 rfl rfl ?_
  refine b_iald (pc := 5) (by decide) ?_ dX6_laneOf_5 ?_
  rotate_left -- leaf 0: index at 5
  refine b_iret (pc := 6) rfl dX6_laneOf_6 ⟨Nat.le_of_ble_eq_true rfl, Nat.le_of_ble_eq_true rfl⟩ ?_
  rotate_left -- leaf 1: return at 6
  -- leaves: 0 index at 5; 1 return at 6
  · exact n_in (by omega) (by omega)
  · rw [n_cl (by omega), q.2.1]; exact h
theorem call_X6_laneOf {E : ME} {Φ : Option AV → AM → Prop} {pc : Nat} {L : List (Option AV)} {st : List AV} {m : AM} {a : Nat × Nat} {idx : Nat} {x0 : AV} {i : Nat} (hl : Cond.methodLink E.2.1 idx yX6_laneOf ∈ TB) (hdep : 1 + 1 ≤ E.2.2.2.2.2.2) (hroom : a.1 + 0 ≤ E.2.2.2.2.1 ∧ a.2 + 0 ≤ E.2.2.2.2.2.1) (hsr : st.length ≤ 4) (hd : decode E.1 pc = .ok (.invokevirtual idx, 3)) (hsp : Sp_X6_laneOf [vr 6 i, x0] m (fun r m2 => B E Φ (pc + 3) L (r.toList ++ st) m2 a)) : B E Φ pc L (x0 :: vr 6 i :: st) m a := b_callV S_X6_laneOf [x0] (RX6, TX6, 3) rfl rfl (by decide) (Or.inl hl) k486 k487 k69 k488 (show _ ∧ _ ∧ Option.map (fun d => d.parameters.length) (parseMethodDescriptor yX6_laneOf.desc) = some 1 from by decide +kernel) ⟨hdep, by decide⟩ hroom hsr hd hsp
abbrev e_X6_lack : ME := (cX6_lack, (RX6, (4, ((some .int), (0, (0, 2))))))
theorem dX6_lack_0 : decode cX6_lack 0 = .ok (.aload_n 0, 1) := by decide +kernel
theorem dX6_lack_1 : decode cX6_lack 1 = .ok (.iload_n 1, 1) := by decide +kernel
theorem dX6_lack_2 : decode cX6_lack 2 = .ok (.invokevirtual 29, 3) := by decide +kernel
theorem dX6_lack_5 : decode cX6_lack 5 = .ok (.ifCond .eq 5, 3) := by decide +kernel
theorem dX6_lack_8 : decode cX6_lack 8 = .ok (.iconst 1, 1) := by decide +kernel
theorem dX6_lack_9 : decode cX6_lack 9 = .ok (.ireturn, 1) := by decide +kernel
theorem dX6_lack_10 : decode cX6_lack 10 = .ok (.iload_n 2, 1) := by decide +kernel
theorem dX6_lack_11 : decode cX6_lack 11 = .ok (.ifCond .lt 19, 3) := by decide +kernel
theorem dX6_lack_14 : decode cX6_lack 14 = .ok (.iload_n 3, 1) := by decide +kernel
theorem dX6_lack_15 : decode cX6_lack 15 = .ok (.ifCond .lt 15, 3) := by decide +kernel
theorem dX6_lack_18 : decode cX6_lack 18 = .ok (.iload_n 2, 1) := by decide +kernel
theorem dX6_lack_19 : decode cX6_lack 19 = .ok (.aload_n 0, 1) := by decide +kernel
theorem dX6_lack_20 : decode cX6_lack 20 = .ok (.getfield 20, 3) := by decide +kernel
theorem dX6_lack_23 : decode cX6_lack 23 = .ok (.iload_n 1, 1) := by decide +kernel
theorem dX6_lack_24 : decode cX6_lack 24 = .ok (.iaload, 1) := by decide +kernel
theorem dX6_lack_25 : decode cX6_lack 25 = .ok (.iload_n 3, 1) := by decide +kernel
theorem dX6_lack_26 : decode cX6_lack 26 = .ok (.isub, 1) := by decide +kernel
theorem dX6_lack_27 : decode cX6_lack 27 = .ok (.if_icmp .le 7, 3) := by decide +kernel
theorem dX6_lack_30 : decode cX6_lack 30 = .ok (.iconst 2, 1) := by decide +kernel
theorem dX6_lack_31 : decode cX6_lack 31 = .ok (.goto 4, 3) := by decide +kernel
theorem dX6_lack_34 : decode cX6_lack 34 = .ok (.iconst 0, 1) := by decide +kernel
theorem dX6_lack_35 : decode cX6_lack 35 = .ok (.ireturn, 1) := by decide +kernel
def Sp_X6_lack (av : List AV) (m : AM) (Φ : Option AV → AM → Prop) : Prop := ∃ x i n, av = [vr 6 1, vi x, vi i, vi n] ∧ ∃ La Ma It r, RowR m La Ma It ∧ x = nI r ∧ r < 8 ∧ Φ (some (vi (nI (lackN La Ma r i n)))) m
set_option maxRecDepth 20000 in
set_option maxHeartbeats 4000000 in
theorem S_X6_lack : Snd yX6_lack e_X6_lack Sp_X6_lack := by
  refine Snd.of (by decide +kernel) rfl ?_ ?_
  · rintro av m Φ ⟨x, i, n, rfl, _⟩; exact Nat.le_of_ble_eq_true rfl
  rintro av m Φ ⟨x, i, n, rfl, La, Ma, It, r, hR, rfl, hr, h⟩ hav hty
  show B e_X6_lack Φ 0 [some (vr 6 1), some (vi (nI r)), some (vi i), some (vi n)] [] m (0, 0)
  have q := hR r hr
  have miss : ∀ {z : Nat}, La r = z → (¬ nI (if La r = 0 then 1 else 0) = 0 ↔ La r = 0) := fun {z} _ => by
    by_cases w : La r = 0
    · rw [if_pos w]; exact ⟨fun _ => w, fun _ => by decide⟩
    · rw [if_neg w]; exact ⟨fun c => absurd rfl c, fun c => absurd c w⟩
  unfold lackN at h
  have no : La r ≠ 0 → fitB i n (Ma r) = false → Φ (some (vi (nI 2))) m := fun a b => by
    rw [if_neg a, b] at h; exact h
  have hir := i_rng i
  have hnr := i_rng n
  refine b_aloadN (pc := 0) 0 dX6_lack_0 rfl rfl ?_
  refine b_iloadN (pc := 1) 1 dX6_lack_1 rfl rfl ?_
  refine call_X6_isMissing (pc := 2) k472 (by decide) ⟨Nat.le_of_ble_eq_true rfl, Nat.le_of_ble_eq_true rfl⟩ (Nat.le_of_ble_eq_true rfl) dX6_lack_2 ?_
  refine ⟨_, rfl, La, Ma, It, _, hR, rfl, ?_, ?_⟩
  rotate_left -- leaf 0: row of X6_isMissing at 2
  refine b_if_eq (pc := 5) 10 dX6_lack_5 (by decide) (fun c5 => ?_) (fun c5 => ?_)
  refine b_iloadN (pc := 10) 2 dX6_lack_10 rfl rfl ?_
  refine b_if_lt (pc := 11) 30 dX6_lack_11 (by decide) (fun c11 => ?_) (fun c11 => ?_)
  refine b_iconst (pc := 30) (nI 2) dX6_lack_30 (by decide) ?_
  refine b_goto (pc := 31) 35 dX6_lack_31 (by decide) ?_
  refine b_iret (pc := 35) rfl dX6_lack_35 ⟨Nat.le_of_ble_eq_true rfl, Nat.le_of_ble_eq_true rfl⟩ ?_
  rotate_left -- leaf 1: return at 35
  refine b_iloadN (pc := 14) 3 dX6_lack_14 rfl rfl ?_
  refine b_if_lt (pc := 15) 30 dX6_lack_15 (by decide) (fun c15 => ?_) (fun c15 => ?_)
  refine b_iconst (pc := 30) (nI 2) dX6_lack_30 (by decide) ?_
  refine b_goto (pc := 31) 35 dX6_lack_31 (by decide) ?_
  refine b_iret (pc := 35) rfl dX6_lack_35 ⟨Nat.le_of_ble_eq_true rfl, Nat.le_of_ble_eq_true rfl⟩ ?_
  rotate_left -- leaf 2: return at 35
  refine b_iloadN (pc := 18) 2 dX6_lack_18 rfl rfl ?_
  refine b_aloadN (pc := 19) 0 dX6_lack_19 rfl rfl ?_
  refine gf6_2 (pc := 20) 12 rfl k106 dX6_lack_20 ?_
  refine b_iloadN (pc := 23) 1 dX6_lack_23 rfl rfl ?_
  refine b_iald (pc := 24) (by decide) ?_ dX6_lack_24 ?_
  rotate_left -- leaf 3: index at 24
  refine b_iloadN (pc := 25) 3 dX6_lack_25 rfl rfl ?_
  refine b_isub (pc := 26) dX6_lack_26 ?_
  refine b_icmp_le (pc := 27) 34 dX6_lack_27 (by decide) (fun c27 => ?_) (fun c27 => ?_)
  refine b_iconst (pc := 34) (nI 0) dX6_lack_34 (by decide) ?_
  refine b_iret (pc := 35) rfl dX6_lack_35 ⟨Nat.le_of_ble_eq_true rfl, Nat.le_of_ble_eq_true rfl⟩ ?_
  rotate_left -- leaf 4: return at 35
  refine b_iconst (pc := 30) (nI 2) dX6_lack_30 (by decide) ?_
  refine b_goto (pc := 31) 35 dX6_lack_31 (by decide) ?_
  refine b_iret (pc := 35) rfl dX6_lack_35 ⟨Nat.le_of_ble_eq_true rfl, Nat.le_of_ble_eq_true rfl⟩ ?_
  rotate_left -- leaf 5: return at 35
  refine b_iconst (pc := 8) (nI 1) dX6_lack_8 (by decide) ?_
  refine b_iret (pc := 9) rfl dX6_lack_9 ⟨Nat.le_of_ble_eq_true rfl, Nat.le_of_ble_eq_true rfl⟩ ?_
  rotate_left -- leaf 6: return at 9
  -- leaves: 0 row of X6_isMissing at 2; 1 return at 35; 2 return at 35; 3 index at 24; 4 return at 35; 5 return at 35; 6 return at 9
  · exact hr
  · have w : La r ≠ 0 := fun z => ((miss rfl).mpr z) c5
    refine no w ?_
    unfold fitB
    rw [i_lt, i_0] at c11
    rw [decide_eq_false (by omega)]; rfl
  · have w : La r ≠ 0 := fun z => ((miss rfl).mpr z) c5
    refine no w ?_
    unfold fitB
    rw [i_lt, i_0] at c15
    rw [decide_eq_false (show ¬ 0 ≤ n.toInt by omega), Bool.false_and, Bool.and_false]
  · exact n_in (by omega) (by omega)
  · have w : La r ≠ 0 := fun z => ((miss rfl).mpr z) c5
    have hq := q.2 (by omega)
    rw [i_lt, i_0] at c11 c15
    rw [n_cl (by omega), hq.2.2.1, i_le, i_sub (by rw [nI_toInt (by omega)]; omega) (by rw [nI_toInt (by omega)]; omega), nI_toInt (by omega)] at c27
    have e : fitB i n (Ma r) = true := by
      unfold fitB
      rw [decide_eq_true (show 0 ≤ i.toInt by omega), decide_eq_true (show 0 ≤ n.toInt by omega), decide_eq_true (show i.toInt + n.toInt ≤ Ma r by omega)]; rfl
    rw [if_neg w, if_pos e] at h
    exact h
  · have w : La r ≠ 0 := fun z => ((miss rfl).mpr z) c5
    have hq := q.2 (by omega)
    rw [i_lt, i_0] at c11 c15
    rw [n_cl (by omega), hq.2.2.1, i_le, i_sub (by rw [nI_toInt (by omega)]; omega) (by rw [nI_toInt (by omega)]; omega), nI_toInt (by omega)] at c27
    refine no w ?_
    unfold fitB
    rw [decide_eq_false (show ¬ i.toInt + n.toInt ≤ Ma r by omega), Bool.and_false, Bool.and_false]
  · have w := (miss rfl).mp c5
    rw [if_pos w] at h
    exact h
theorem call_X6_lack {E : ME} {Φ : Option AV → AM → Prop} {pc : Nat} {L : List (Option AV)} {st : List AV} {m : AM} {a : Nat × Nat} {idx : Nat} {x0 x1 x2 : AV} {i : Nat} (hl : Cond.methodLink E.2.1 idx yX6_lack ∈ TB) (hdep : 2 + 1 ≤ E.2.2.2.2.2.2) (hroom : a.1 + 0 ≤ E.2.2.2.2.1 ∧ a.2 + 0 ≤ E.2.2.2.2.2.1) (hsr : st.length ≤ 4) (hd : decode E.1 pc = .ok (.invokevirtual idx, 3)) (hsp : Sp_X6_lack [vr 6 i, x0, x1, x2] m (fun r m2 => B E Φ (pc + 3) L (r.toList ++ st) m2 a)) : B E Φ pc L (x2 :: x1 :: x0 :: vr 6 i :: st) m a := b_callV S_X6_lack [x0, x1, x2] (RX6, TX6, 3) rfl rfl (by decide) (Or.inl hl) k469 k470 k69 k471 (show _ ∧ _ ∧ Option.map (fun d => d.parameters.length) (parseMethodDescriptor yX6_lack.desc) = some 3 from by decide +kernel) ⟨hdep, by decide⟩ hroom hsr hd hsp
def layI (It : Nat → Nat → Int32) (r : Nat) : Nat → Nat → Int32 := fun a b => if a = r then nI 0 else It a b
abbrev e_X6_lay : ME := (cX6_lay, (RX6, (4, (none, (0, (0, 2))))))
theorem dX6_lay_0 : decode cX6_lay 0 = .ok (.aload_n 0, 1) := by decide +kernel
theorem dX6_lay_1 : decode cX6_lay 1 = .ok (.getfield 11, 3) := by decide +kernel
theorem dX6_lay_4 : decode cX6_lay 4 = .ok (.iload_n 1, 1) := by decide +kernel
theorem dX6_lay_5 : decode cX6_lay 5 = .ok (.aaload, 1) := by decide +kernel
theorem dX6_lay_6 : decode cX6_lay 6 = .ok (.iconst 0, 1) := by decide +kernel
theorem dX6_lay_7 : decode cX6_lay 7 = .ok (.invokestatic 23, 3) := by decide +kernel
theorem dX6_lay_10 : decode cX6_lay 10 = .ok (.aload_n 0, 1) := by decide +kernel
theorem dX6_lay_11 : decode cX6_lay 11 = .ok (.getfield 16, 3) := by decide +kernel
theorem dX6_lay_14 : decode cX6_lay 14 = .ok (.iload_n 1, 1) := by decide +kernel
theorem dX6_lay_15 : decode cX6_lay 15 = .ok (.iload_n 2, 1) := by decide +kernel
theorem dX6_lay_16 : decode cX6_lay 16 = .ok (.iastore, 1) := by decide +kernel
theorem dX6_lay_17 : decode cX6_lay 17 = .ok (.aload_n 0, 1) := by decide +kernel
theorem dX6_lay_18 : decode cX6_lay 18 = .ok (.getfield 20, 3) := by decide +kernel
theorem dX6_lay_21 : decode cX6_lay 21 = .ok (.iload_n 1, 1) := by decide +kernel
theorem dX6_lay_22 : decode cX6_lay 22 = .ok (.iload_n 3, 1) := by decide +kernel
theorem dX6_lay_23 : decode cX6_lay 23 = .ok (.iastore, 1) := by decide +kernel
theorem dX6_lay_24 : decode cX6_lay 24 = .ok (.return_, 1) := by decide +kernel
def Sp_X6_lay (av : List AV) (m : AM) (Φ : Option AV → AM → Prop) : Prop := ∃ x l n, av = [vr 6 1, vi x, vi l, vi n] ∧ ∃ La Ma It r q k, RowR m La Ma It ∧ x = nI r ∧ r < 8 ∧ l = nI q ∧ q ≤ 2 ∧ n = nI k ∧ k ≤ 40 ∧ ∀ m2, Fr rowL m m2 → RowR m2 (upC La r (q + 1)) (upC Ma r k) (layI It r) → Φ none m2
set_option maxRecDepth 20000 in
set_option maxHeartbeats 4000000 in
theorem S_X6_lay : Snd yX6_lay e_X6_lay Sp_X6_lay := by
  refine Snd.of (by decide +kernel) rfl ?_ ?_
  · rintro av m Φ ⟨x, l, n, rfl, _⟩; exact Nat.le_of_ble_eq_true rfl
  rintro av m Φ ⟨x, l, n, rfl, La, Ma, It, r, q, k, hR, rfl, hr, rfl, hq, rfl, hk, h⟩ hav hty
  show B e_X6_lay Φ 0 [some (vr 6 1), some (vi (nI r)), some (vi (nI q)), some (vi (nI k))] [] m (0, 0)
  refine b_aloadN (pc := 0) 0 dX6_lay_0 rfl rfl ?_
  refine gf6_0 (pc := 1) 2 rfl k104 dX6_lay_1 ?_
  refine b_iloadN (pc := 4) 1 dX6_lay_4 rfl rfl ?_
  refine b_aldI (pc := 5) ?_ dX6_lay_5 ?_
  rotate_left -- leaf 0: index at 5
  refine b_iconst (pc := 6) (nI 0) dX6_lay_6 (by decide) ?_
  refine call_J7_fill_53178 (pc := 7) k101 (by decide) ⟨Nat.le_of_ble_eq_true rfl, Nat.le_of_ble_eq_true rfl⟩ (Nat.le_of_ble_eq_true rfl) dX6_lay_7 ?_
  refine ⟨_, _, _, rfl, ?_, ?_, ?_⟩
  exact Or.inr ⟨by decide, by decide⟩
  exact (Nat.le_of_ble_eq_true rfl)
  refine b_aloadN (pc := 10) 0 dX6_lay_10 rfl rfl ?_
  refine gf6_1 (pc := 11) 11 rfl k105 dX6_lay_11 ?_
  refine b_iloadN (pc := 14) 1 dX6_lay_14 rfl rfl ?_
  refine b_iloadN (pc := 15) 2 dX6_lay_15 rfl rfl ?_
  refine b_iast (pc := 16) (by decide) ?_ dX6_lay_16 ?_
  rotate_left -- leaf 1: index at 16
  refine b_aloadN (pc := 17) 0 dX6_lay_17 rfl rfl ?_
  refine gf6_2 (pc := 18) 12 rfl k106 dX6_lay_18 ?_
  refine b_iloadN (pc := 21) 1 dX6_lay_21 rfl rfl ?_
  refine b_iloadN (pc := 22) 3 dX6_lay_22 rfl rfl ?_
  refine b_iast (pc := 23) (by decide) ?_ dX6_lay_23 ?_
  rotate_left -- leaf 2: index at 23
  refine b_vret (pc := 24) rfl dX6_lay_24 ⟨Nat.le_of_ble_eq_true rfl, Nat.le_of_ble_eq_true rfl⟩ ?_
  rotate_left -- leaf 3: return at 24
  -- leaves: 0 index at 5; 1 index at 16; 2 index at 23; 3 return at 24
  · exact n_in (by omega) (by omega)
  · exact n_in (by omega) (by omega)
  · exact n_in (by omega) (by omega)
  · rw [n_cl (by omega)]
    have e3 : 2 + 1 + r = 3 + r := by omega
    rw [e3]
    refine h _ ((((Fr.rf rowL m).as (rowL_in r hr)).ms (by decide)).ms (by decide)) (fun a ha => ⟨fun z => ?_, fun z => ?_⟩)
    · have hne : a ≠ r := fun e => by rw [e, upC_at] at z; omega
      rw [upC_ne _ _ hne] at z
      rw [mset_at, if_neg hne, mset_ne _ _ _ (by decide), aset_ne _ _ (by omega)]
      exact (hR a ha).1 z
    · by_cases e : a = r
      · subst e
        rw [upC_at, upC_at, mset_ne _ _ _ (show 11 ≠ 12 by decide), mset_at, if_pos rfl, mset_at, if_pos rfl]
        refine ⟨by omega, by rw [Nat.add_sub_cancel], rfl, hk, fun j hj => ?_⟩
        rw [mset_ne _ _ _ (by omega), mset_ne _ _ _ (by omega), aset_at]
        unfold layI
        rw [if_pos rfl]
        show (if j < 40 then nI 0 else _) = _
        rw [if_pos hj]
      · rw [upC_ne _ _ e] at z ⊢
        rw [upC_ne _ _ e]
        have w := (hR a ha).2 z
        rw [mset_ne _ _ _ (show 11 ≠ 12 by decide), mset_at, if_neg e, mset_at, if_neg e, mset_ne _ _ _ (show 12 ≠ 11 by decide), aset_ne _ _ (show 11 ≠ 3 + r by omega), aset_ne _ _ (show 12 ≠ 3 + r by omega)]
        refine ⟨w.1, w.2.1, w.2.2.1, w.2.2.2.1, fun j hj => ?_⟩
        rw [mset_ne _ _ _ (by omega), mset_ne _ _ _ (by omega), aset_ne _ _ (by omega)]
        unfold layI
        rw [if_neg e]
        exact w.2.2.2.2 j hj
theorem call_X6_lay {E : ME} {Φ : Option AV → AM → Prop} {pc : Nat} {L : List (Option AV)} {st : List AV} {m : AM} {a : Nat × Nat} {idx : Nat} {x0 x1 x2 : AV} {i : Nat} (hl : Cond.methodLink E.2.1 idx yX6_lay ∈ TB) (hdep : 2 + 1 ≤ E.2.2.2.2.2.2) (hroom : a.1 + 0 ≤ E.2.2.2.2.1 ∧ a.2 + 0 ≤ E.2.2.2.2.2.1) (hsr : st.length ≤ 4) (hd : decode E.1 pc = .ok (.invokevirtual idx, 3)) (hsp : Sp_X6_lay [vr 6 i, x0, x1, x2] m (fun r m2 => B E Φ (pc + 3) L (r.toList ++ st) m2 a)) : B E Φ pc L (x2 :: x1 :: x0 :: vr 6 i :: st) m a := b_callV S_X6_lay [x0, x1, x2] (RX6, TX6, 3) rfl rfl (by decide) (Or.inl hl) k457 k458 k69 k459 (show _ ∧ _ ∧ Option.map (fun d => d.parameters.length) (parseMethodDescriptor yX6_lay.desc) = some 3 from by decide +kernel) ⟨hdep, by decide⟩ hroom hsr hd hsp
abbrev e_X6_remove : ME := (cX6_remove, (RX6, (3, ((some .int), (0, (0, 1))))))
theorem dX6_remove_0 : decode cX6_remove 0 = .ok (.aload_n 0, 1) := by decide +kernel
theorem dX6_remove_1 : decode cX6_remove 1 = .ok (.getfield 20, 3) := by decide +kernel
theorem dX6_remove_4 : decode cX6_remove 4 = .ok (.iload_n 1, 1) := by decide +kernel
theorem dX6_remove_5 : decode cX6_remove 5 = .ok (.iaload, 1) := by decide +kernel
theorem dX6_remove_6 : decode cX6_remove 6 = .ok (.istore_n 2, 1) := by decide +kernel
theorem dX6_remove_7 : decode cX6_remove 7 = .ok (.aload_n 0, 1) := by decide +kernel
theorem dX6_remove_8 : decode cX6_remove 8 = .ok (.getfield 20, 3) := by decide +kernel
theorem dX6_remove_11 : decode cX6_remove 11 = .ok (.iload_n 1, 1) := by decide +kernel
theorem dX6_remove_12 : decode cX6_remove 12 = .ok (.iconst (-1), 1) := by decide +kernel
theorem dX6_remove_13 : decode cX6_remove 13 = .ok (.iastore, 1) := by decide +kernel
theorem dX6_remove_14 : decode cX6_remove 14 = .ok (.iload_n 2, 1) := by decide +kernel
theorem dX6_remove_15 : decode cX6_remove 15 = .ok (.ireturn, 1) := by decide +kernel
def Sp_X6_remove (av : List AV) (m : AM) (Φ : Option AV → AM → Prop) : Prop := ∃ x, av = [vr 6 1, vi x] ∧ ∃ La Ma It r, RowR m La Ma It ∧ x = nI r ∧ r < 8 ∧ 0 < La r ∧ ∀ m2, Fr rowL m m2 → RowR m2 (upC La r 0) Ma It → Φ (some (vi (nI (Ma r)))) m2
set_option maxRecDepth 20000 in
set_option maxHeartbeats 4000000 in
theorem S_X6_remove : Snd yX6_remove e_X6_remove Sp_X6_remove := by
  refine Snd.of (by decide +kernel) rfl ?_ ?_
  · rintro av m Φ ⟨x, rfl, _⟩; exact Nat.le_of_ble_eq_true rfl
  rintro av m Φ ⟨x, rfl, La, Ma, It, r, hR, rfl, hr, hl, h⟩ hav hty
  show B e_X6_remove Φ 0 [some (vr 6 1), some (vi (nI r)), none] [] m (0, 0)
  have q := (hR r hr).2 hl
  refine b_aloadN (pc := 0) 0 dX6_remove_0 rfl rfl ?_
  refine gf6_2 (pc := 1) 12 rfl k106 dX6_remove_1 ?_
  refine b_iloadN (pc := 4) 1 dX6_remove_4 rfl rfl ?_
  refine b_iald (pc := 5) (by decide) ?_ dX6_remove_5 ?_
  rotate_left -- leaf 0: index at 5
  refine siN2 (pc := 6) rfl notL_i (by decide) dX6_remove_6 ?_
  refine b_aloadN (pc := 7) 0 dX6_remove_7 rfl rfl ?_
  refine gf6_2 (pc := 8) 12 rfl k106 dX6_remove_8 ?_
  refine b_iloadN (pc := 11) 1 dX6_remove_11 rfl rfl ?_
  refine b_iconst (pc := 12) (-1) dX6_remove_12 (by decide) ?_
  refine b_iast (pc := 13) (by decide) ?_ dX6_remove_13 ?_
  rotate_left -- leaf 1: index at 13
  refine b_iloadN (pc := 14) 2 dX6_remove_14 rfl rfl ?_
  refine b_iret (pc := 15) rfl dX6_remove_15 ⟨Nat.le_of_ble_eq_true rfl, Nat.le_of_ble_eq_true rfl⟩ ?_
  rotate_left -- leaf 2: return at 15
  -- leaves: 0 index at 5; 1 index at 13; 2 return at 15
  · exact n_in (by omega) (by omega)
  · exact n_in (by omega) (by omega)
  · rw [n_cl (by omega), q.2.2.1]
    refine h _ ((Fr.rf rowL m).ms (by decide)) (fun a ha => ⟨fun z => ?_, fun z => ?_⟩)
    · by_cases e : a = r
      · subst e; rw [mset_at, if_pos rfl]
      · rw [upC_ne _ _ e] at z
        rw [mset_at, if_neg e]
        exact (hR a ha).1 z
    · have e : a ≠ r := fun e => by rw [e, upC_at] at z; omega
      rw [upC_ne _ _ e] at z ⊢
      have w := (hR a ha).2 z
      rw [mset_ne _ _ _ (by decide), mset_at, if_neg e]
      refine ⟨w.1, w.2.1, w.2.2.1, w.2.2.2.1, fun j hj => ?_⟩
      rw [mset_ne _ _ _ (by omega)]
      exact w.2.2.2.2 j hj
theorem call_X6_remove {E : ME} {Φ : Option AV → AM → Prop} {pc : Nat} {L : List (Option AV)} {st : List AV} {m : AM} {a : Nat × Nat} {idx : Nat} {x0 : AV} {i : Nat} (hl : Cond.methodLink E.2.1 idx yX6_remove ∈ TB) (hdep : 1 + 1 ≤ E.2.2.2.2.2.2) (hroom : a.1 + 0 ≤ E.2.2.2.2.1 ∧ a.2 + 0 ≤ E.2.2.2.2.2.1) (hsr : st.length ≤ 4) (hd : decode E.1 pc = .ok (.invokevirtual idx, 3)) (hsp : Sp_X6_remove [vr 6 i, x0] m (fun r m2 => B E Φ (pc + 3) L (r.toList ++ st) m2 a)) : B E Φ pc L (x0 :: vr 6 i :: st) m a := b_callV S_X6_remove [x0] (RX6, TX6, 3) rfl rfl (by decide) (Or.inl hl) k501 k502 k69 k503 (show _ ∧ _ ∧ Option.map (fun d => d.parameters.length) (parseMethodDescriptor yX6_remove.desc) = some 1 from by decide +kernel) ⟨hdep, by decide⟩ hroom hsr hd hsp
def narV (l : Nat) (v : Int32) : Int32 := if l = 0 then v.toInt8.toInt32 else if l = 1 then v.toInt16.toInt32 else v
def upI (It : Nat → Nat → Int32) (r j : Nat) (v : Int32) : Nat → Nat → Int32 := fun a b => if a = r then (if b = j then v else It a b) else It a b
abbrev e_X6_put : ME := (cX6_put, (RX6, (4, ((some .int), (0, (0, 2))))))
theorem dX6_put_0 : decode cX6_put 0 = .ok (.aload_n 0, 1) := by decide +kernel
theorem dX6_put_1 : decode cX6_put 1 = .ok (.getfield 11, 3) := by decide +kernel
theorem dX6_put_4 : decode cX6_put 4 = .ok (.iload_n 1, 1) := by decide +kernel
theorem dX6_put_5 : decode cX6_put 5 = .ok (.aaload, 1) := by decide +kernel
theorem dX6_put_6 : decode cX6_put 6 = .ok (.iload_n 2, 1) := by decide +kernel
theorem dX6_put_7 : decode cX6_put 7 = .ok (.aload_n 0, 1) := by decide +kernel
theorem dX6_put_8 : decode cX6_put 8 = .ok (.getfield 16, 3) := by decide +kernel
theorem dX6_put_11 : decode cX6_put 11 = .ok (.iload_n 1, 1) := by decide +kernel
theorem dX6_put_12 : decode cX6_put 12 = .ok (.iaload, 1) := by decide +kernel
theorem dX6_put_13 : decode cX6_put 13 = .ok (.ifCond .ne 8, 3) := by decide +kernel
theorem dX6_put_16 : decode cX6_put 16 = .ok (.iload_n 3, 1) := by decide +kernel
theorem dX6_put_17 : decode cX6_put 17 = .ok (.i2b, 1) := by decide +kernel
theorem dX6_put_18 : decode cX6_put 18 = .ok (.goto 19, 3) := by decide +kernel
theorem dX6_put_21 : decode cX6_put 21 = .ok (.aload_n 0, 1) := by decide +kernel
theorem dX6_put_22 : decode cX6_put 22 = .ok (.getfield 16, 3) := by decide +kernel
theorem dX6_put_25 : decode cX6_put 25 = .ok (.iload_n 1, 1) := by decide +kernel
theorem dX6_put_26 : decode cX6_put 26 = .ok (.iaload, 1) := by decide +kernel
theorem dX6_put_27 : decode cX6_put 27 = .ok (.iconst 1, 1) := by decide +kernel
theorem dX6_put_28 : decode cX6_put 28 = .ok (.if_icmp .ne 8, 3) := by decide +kernel
theorem dX6_put_31 : decode cX6_put 31 = .ok (.iload_n 3, 1) := by decide +kernel
theorem dX6_put_32 : decode cX6_put 32 = .ok (.i2s, 1) := by decide +kernel
theorem dX6_put_33 : decode cX6_put 33 = .ok (.goto 4, 3) := by decide +kernel
theorem dX6_put_36 : decode cX6_put 36 = .ok (.iload_n 3, 1) := by decide +kernel
theorem dX6_put_37 : decode cX6_put 37 = .ok (.iastore, 1) := by decide +kernel
theorem dX6_put_38 : decode cX6_put 38 = .ok (.aload_n 0, 1) := by decide +kernel
theorem dX6_put_39 : decode cX6_put 39 = .ok (.getfield 11, 3) := by decide +kernel
theorem dX6_put_42 : decode cX6_put 42 = .ok (.iload_n 1, 1) := by decide +kernel
theorem dX6_put_43 : decode cX6_put 43 = .ok (.aaload, 1) := by decide +kernel
theorem dX6_put_44 : decode cX6_put 44 = .ok (.iload_n 2, 1) := by decide +kernel
theorem dX6_put_45 : decode cX6_put 45 = .ok (.iaload, 1) := by decide +kernel
theorem dX6_put_46 : decode cX6_put 46 = .ok (.ireturn, 1) := by decide +kernel
def Sp_X6_put (av : List AV) (m : AM) (Φ : Option AV → AM → Prop) : Prop := ∃ x i v, av = [vr 6 1, vi x, vi i, vi v] ∧ ∃ La Ma It r j, RowR m La Ma It ∧ x = nI r ∧ r < 8 ∧ i = nI j ∧ j < 40 ∧ 0 < La r ∧ ∀ m2, Fr rowL m m2 → RowR m2 La Ma (upI It r j (narV (La r - 1) v)) → Φ (some (vi (narV (La r - 1) v))) m2
set_option maxRecDepth 20000 in
set_option maxHeartbeats 4000000 in
theorem S_X6_put : Snd yX6_put e_X6_put Sp_X6_put := by
  refine Snd.of (by decide +kernel) rfl ?_ ?_
  · rintro av m Φ ⟨x, i, v, rfl, _⟩; exact Nat.le_of_ble_eq_true rfl
  rintro av m Φ ⟨x, i, v, rfl, La, Ma, It, r, j, hR, rfl, hr, rfl, hj, hl, h⟩ hav hty
  show B e_X6_put Φ 0 [some (vr 6 1), some (vi (nI r)), some (vi (nI j)), some (vi v)] [] m (0, 0)
  have q := (hR r hr).2 hl
  have e3 : 2 + 1 + r = 3 + r := by omega
  have fin : ∀ w, w = narV (La r - 1) v → B e_X6_put Φ 37 [some (vr 6 1), some (vi (nI r)), some (vi (nI j)), some (vi v)] [vi w, vi (nI j), vr 140 (3 + r)] m (0, 0) := by
    intro w hw
    refine b_iast (pc := 37) (by decide) ?_ dX6_put_37 ?_
    rotate_left -- leaf 0: index at 37
    refine b_aloadN (pc := 38) 0 dX6_put_38 rfl rfl ?_
    refine gf6_0 (pc := 39) 2 rfl k104 dX6_put_39 ?_
    refine b_iloadN (pc := 42) 1 dX6_put_42 rfl rfl ?_
    refine b_aldI (pc := 43) ?_ dX6_put_43 ?_
    rotate_left -- leaf 1: index at 43
    refine b_iloadN (pc := 44) 2 dX6_put_44 rfl rfl ?_
    refine b_iald (pc := 45) (by decide) ?_ dX6_put_45 ?_
    rotate_left -- leaf 2: index at 45
    refine b_iret (pc := 46) rfl dX6_put_46 ⟨Nat.le_of_ble_eq_true rfl, Nat.le_of_ble_eq_true rfl⟩ ?_
    rotate_left -- leaf 3: return at 46
    -- leaves: 0 index at 37; 1 index at 43; 2 index at 45; 3 return at 46
    · exact n_in (by omega) (by omega)
    · exact n_in (by omega) (by omega)
    · exact n_in (by omega) (by omega)
    · rw [n_cl (by omega), n_cl (by omega), e3, mset_at, if_pos rfl]
      subst hw
      refine h _ ((Fr.rf rowL m).ms (rowL_in r hr)) (fun a ha => ⟨fun z => ?_, fun z => ?_⟩)
      · rw [mset_ne _ _ _ (by omega)]; exact (hR a ha).1 z
      · have w := (hR a ha).2 z
        rw [mset_ne _ _ _ (show 11 ≠ 3 + r by omega), mset_ne _ _ _ (show 12 ≠ 3 + r by omega)]
        refine ⟨w.1, w.2.1, w.2.2.1, w.2.2.2.1, fun b hb => ?_⟩
        unfold upI
        by_cases e : a = r
        · subst e
          rw [if_pos rfl, mset_at, w.2.2.2.2 b hb]
        · rw [if_neg e, mset_ne _ _ _ (by omega)]
          exact w.2.2.2.2 b hb
  refine b_aloadN (pc := 0) 0 dX6_put_0 rfl rfl ?_
  refine gf6_0 (pc := 1) 2 rfl k104 dX6_put_1 ?_
  refine b_iloadN (pc := 4) 1 dX6_put_4 rfl rfl ?_
  refine b_aldI (pc := 5) ?_ dX6_put_5 ?_
  rotate_left -- leaf 0: index at 5
  refine b_iloadN (pc := 6) 2 dX6_put_6 rfl rfl ?_
  refine b_aloadN (pc := 7) 0 dX6_put_7 rfl rfl ?_
  refine gf6_1 (pc := 8) 11 rfl k105 dX6_put_8 ?_
  refine b_iloadN (pc := 11) 1 dX6_put_11 rfl rfl ?_
  refine b_iald (pc := 12) (by decide) ?_ dX6_put_12 ?_
  rotate_left -- leaf 1: index at 12
  refine b_if_ne (pc := 13) 21 dX6_put_13 (by decide) (fun c13 => ?_) (fun c13 => ?_)
  refine b_aloadN (pc := 21) 0 dX6_put_21 rfl rfl ?_
  refine gf6_1 (pc := 22) 11 rfl k105 dX6_put_22 ?_
  refine b_iloadN (pc := 25) 1 dX6_put_25 rfl rfl ?_
  refine b_iald (pc := 26) (by decide) ?_ dX6_put_26 ?_
  rotate_left -- leaf 2: index at 26
  refine b_iconst (pc := 27) (nI 1) dX6_put_27 (by decide) ?_
  refine b_icmp_ne (pc := 28) 36 dX6_put_28 (by decide) (fun c28 => ?_) (fun c28 => ?_)
  refine b_iloadN (pc := 36) 3 dX6_put_36 rfl rfl ?_
  rotate_left -- leaf 3: at 37
  refine b_iloadN (pc := 31) 3 dX6_put_31 rfl rfl ?_
  refine b_i2s (pc := 32) dX6_put_32 ?_
  refine b_goto (pc := 33) 37 dX6_put_33 (by decide) ?_
  rotate_left -- leaf 4: at 37
  refine b_iloadN (pc := 16) 3 dX6_put_16 rfl rfl ?_
  refine b_i2b (pc := 17) dX6_put_17 ?_
  refine b_goto (pc := 18) 37 dX6_put_18 (by decide) ?_
  rotate_left -- leaf 5: at 37
  -- leaves: 0 index at 5; 1 index at 12; 2 index at 26; 3 at 37; 4 at 37; 5 at 37
  · exact n_in (by omega) (by omega)
  · exact n_in (by omega) (by omega)
  · exact n_in (by omega) (by omega)
  · rw [n_cl (by omega), e3]
    rw [n_cl (by omega), q.2.1, n_eq0 (by omega)] at c13
    rw [n_cl (by omega), q.2.1, n_eq (by omega) (by omega)] at c28
    exact fin _ (by unfold narV; rw [if_neg c13, if_neg c28])
  · rw [n_cl (by omega), e3]
    rw [n_cl (by omega), q.2.1, n_eq0 (by omega)] at c13
    rw [n_cl (by omega), q.2.1, n_eq (by omega) (by omega)] at c28
    exact fin _ (by unfold narV; rw [if_neg c13, if_pos c28])
  · rw [n_cl (by omega), e3]
    rw [n_cl (by omega), q.2.1, n_eq0 (by omega)] at c13
    exact fin _ (by unfold narV; rw [if_pos c13])
theorem call_X6_put {E : ME} {Φ : Option AV → AM → Prop} {pc : Nat} {L : List (Option AV)} {st : List AV} {m : AM} {a : Nat × Nat} {idx : Nat} {x0 x1 x2 : AV} {i : Nat} (hl : Cond.methodLink E.2.1 idx yX6_put ∈ TB) (hdep : 2 + 1 ≤ E.2.2.2.2.2.2) (hroom : a.1 + 0 ≤ E.2.2.2.2.1 ∧ a.2 + 0 ≤ E.2.2.2.2.2.1) (hsr : st.length ≤ 4) (hd : decode E.1 pc = .ok (.invokevirtual idx, 3)) (hsp : Sp_X6_put [vr 6 i, x0, x1, x2] m (fun r m2 => B E Φ (pc + 3) L (r.toList ++ st) m2 a)) : B E Φ pc L (x2 :: x1 :: x0 :: vr 6 i :: st) m a := b_callV S_X6_put [x0, x1, x2] (RX6, TX6, 3) rfl rfl (by decide) (Or.inl hl) k477 k478 k69 k479 (show _ ∧ _ ∧ Option.map (fun d => d.parameters.length) (parseMethodDescriptor yX6_put.desc) = some 3 from by decide +kernel) ⟨hdep, by decide⟩ hroom hsr hd hsp
