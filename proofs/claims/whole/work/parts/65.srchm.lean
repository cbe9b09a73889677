/-! SEARCH: walks of the reference, walks of the class -/
def wtN (bc a b : Nat) : Nat := if bc = 0 then 1 else pc6 (a ^^^ b)
def Wk (C : Nat → Nat) (bc : Nat) : Nat → Nat → Nat → Nat → Nat → Prop
  | 0, so, said, c, f => ∃ p s, p < C 4 ∧ s < 2 * C 0 ∧ outN C (C (40 + 2 * p)) (C 1) (C 5) s = some so ∧ said = C 5 ||| 2 ^ (s / 2) ∧ c = wtN bc (C 1) so ∧ f = 20 * p + s
  | n + 1, so, said, c, f => ∃ so0 said0 c0 p s, Wk C bc n so0 said0 c0 f ∧ p < C 4 ∧ s < 2 * C 0 ∧ outN C (C (40 + 2 * p)) so0 said0 s = some so ∧ said = said0 ||| 2 ^ (s / 2) ∧ c = c0 + wtN bc so0 so
def freeP (C : Nat → Nat) : Bool := hasK C 1 (C 4) || hasK C 3 (C 4)
def mindP (C : Nat → Nat) : Bool := !freeP C && hasK C 5 (C 4)
def MvK (C : Nat → Nat) (q : Nat) : Prop := (q = 1 ∧ freeP C = true) ∨ (q = 5 ∧ mindP C = true) ∨ (q = 2 ∧ hasK C 2 (C 4) = true)
def sdN (C : Nat → Nat) (d s : Nat) : Nat := if mindP C = true then d ||| 2 ^ (s / 2) else 0
def CWk (C : Nat → Nat) (bc : Nat) : Nat → Nat → Nat → Nat → Nat → Prop
  | 0, so, sd, c, f => ∃ p s, p < C 4 ∧ s < 2 * C 0 ∧ outN C (C (40 + 2 * p)) (C 1) (C 5) s = some so ∧ sd = sdN C (C 5) s ∧ c = wtN bc (C 1) so ∧ f = 20 * p + s
  | n + 1, so, sd, c, f => ∃ so0 sd0 c0 q s, CWk C bc n so0 sd0 c0 f ∧ MvK C q ∧ s < 2 * C 0 ∧ outN C q so0 sd0 s = some so ∧ so ≠ so0 ∧ sd = sdN C sd0 s ∧ c = c0 + wtN bc so0 so
/-- so as the rules leave it -/
def setF (C : Nat → Nat) (so : Nat) : Prop := so < 64 ∧ setN C so = some so
theorem set_fix {C : Nat → Nat} (hv : VC C) {x v : Nat} (hx : x < 64) (h : setN C x = some v) : setF C v := by
  refine ⟨setN_lt hv hx h, ?_⟩
  unfold setN at h
  by_cases q : canBe C (closedN C x) = true
  · rw [if_pos q] at h
    cases h
    have e : closedN C (closedN C x) = closedN C x := closedN_of (closedN_clo hv.hv hx) 6
    unfold setN
    rw [e, if_pos q]
  · rw [if_neg q] at h; cases h
theorem out_set {C : Nat → Nat} (hv : VC C) {q so d s v : Nat} (hso : so < 64) (hs : s < 2 * C 0) (h : outN C q so d s = some v) : setF C v := set_fix hv (belN_lt hv q d hso hs) h
theorem Wk_ok {C : Nat → Nat} (hv : VC C) {bc : Nat} : ∀ n so said c f, Wk C bc n so said c f → setF C so ∧ said < 64 ∧ f < 100
  | 0, so, said, c, f, h => by
    obtain ⟨p, s, hp, hs, ho, e1, e2, e3⟩ := h
    have h06 := hv.1
    have h45 := hv.2.2.2.2.1
    refine ⟨out_set hv hv.c1 hs ho, ?_, by omega⟩
    rw [e1]; exact or_lt64 hv.c5 (pow_lt64 (by omega))
  | n + 1, so, said, c, f, h => by
    obtain ⟨so0, said0, c0, p, s, h0, hp, hs, ho, e1, e2⟩ := h
    have ih := Wk_ok hv n _ _ _ _ h0
    have h06 := hv.1
    refine ⟨out_set hv ih.1.1 hs ho, ?_, ih.2.2⟩
    rw [e1]; exact or_lt64 ih.2.1 (pow_lt64 (by omega))
theorem sdN_lt {C : Nat → Nat} (hv : VC C) {d s : Nat} (hd : d < 64) (hs : s < 2 * C 0) : sdN C d s < 64 := by
  have h06 := hv.1
  unfold sdN
  split
  · exact or_lt64 hd (pow_lt64 (by omega))
  · omega
theorem CWk_ok {C : Nat → Nat} (hv : VC C) {bc : Nat} : ∀ n so sd c f, CWk C bc n so sd c f → setF C so ∧ sd < 64 ∧ f < 100
  | 0, so, sd, c, f, h => by
    obtain ⟨p, s, hp, hs, ho, e1, e2, e3⟩ := h
    have h06 := hv.1
    have h45 := hv.2.2.2.2.1
    refine ⟨out_set hv hv.c1 hs ho, ?_, by omega⟩
    rw [e1]; exact sdN_lt hv hv.c5 hs
  | n + 1, so, sd, c, f, h => by
    obtain ⟨so0, sd0, c0, q, s, h0, hq, hs, ho, hne, e1, e2⟩ := h
    have ih := CWk_ok hv n _ _ _ _ h0
    refine ⟨out_set hv ih.1.1 hs ho, ?_, ih.2.2⟩
    rw [e1]; exact sdN_lt hv ih.2.1 hs
theorem x1_div {s : Nat} (hs : s < 12) : (s ^^^ 1) / 2 = s / 2 ∧ (s ^^^ 1) % 2 = 1 - s % 2 := by
  have q : ∀ s, s < 12 → (s ^^^ 1) / 2 = s / 2 ∧ (s ^^^ 1) % 2 = 1 - s % 2 := by decide
  exact q s hs
theorem x1_lt {C : Nat → Nat} (hv : VC C) {s : Nat} (hs : s < 2 * C 0) : s ^^^ 1 < 2 * C 0 := by
  have h06 := hv.1
  have := (x1_div (s := s) (by omega)).1
  omega
theorem out_1 (C : Nat → Nat) (so d d' s : Nat) : outN C 1 so d s = outN C 1 so d' s := rfl
theorem out_2 (C : Nat → Nat) (so d d' s : Nat) : outN C 2 so d s = outN C 2 so d' s := rfl
theorem out_3 {C : Nat → Nat} {so d d' s : Nat} (hs : s < 12) : outN C 3 so d s = outN C 1 so d' (s ^^^ 1) := by
  have h := x1_div hs
  show setN C (withN so (s / 2) (1 - s % 2)) = setN C (withN so ((s ^^^ 1) / 2) ((s ^^^ 1) % 2))
  rw [h.1, h.2]
theorem out_4 {C : Nat → Nat} {so d s : Nat} (h : setF C so) : outN C 4 so d s = some so := h.2
theorem out_5 {C : Nat → Nat} {so d s : Nat} : outN C 5 so d s = if d.testBit (s / 2) = true then setN C so else outN C 1 so d s := by
  show setN C (if d.testBit (s / 2) = true then so else withN so (s / 2) (s % 2)) = _
  by_cases q : d.testBit (s / 2) = true
  · rw [if_pos q, if_pos q]
  · rw [if_neg q, if_neg q]; rfl
theorem hasK_of {C : Nat → Nat} {p : Nat} (hp : p < C 4) : hasK C (C (40 + 2 * p)) (C 4) = true := (hasK_iff C _ (C 4)).mpr ⟨p, hp, rfl⟩
/-- what a reference's walk comes to, a class's walk comes to, as cheap -/
theorem E2 {C : Nat → Nat} (hv : VC C) {bc : Nat} : ∀ n so said c f, Wk C bc n so said c f → ∃ n' sd c', CWk C bc n' so sd c' f ∧ c' ≤ c ∧ (mindP C = true → sub sd said)
  | 0, so, said, c, f, h => by
    obtain ⟨p, s, hp, hs, ho, e1, e2, e3⟩ := h
    refine ⟨0, sdN C (C 5) s, c, ⟨p, s, hp, hs, ho, rfl, e2, e3⟩, Nat.le_refl _, fun hm => ?_⟩
    unfold sdN
    rw [if_pos hm, e1]
    exact sub_rf _
  | n + 1, so, said, c, f, h => by
    obtain ⟨so0, said0, c0, p, s, h0, hp, hs, ho, e1, e2⟩ := h
    obtain ⟨n', sd, c', k1, k2, k3⟩ := E2 hv n _ _ _ _ h0
    have ok := Wk_ok hv n _ _ _ _ h0
    have h06 := hv.1
    have hq := (hv.2.2.2.2.2.2.2.2.2 p hp).1
    have hb := hasK_of hp
    by_cases hne : so = so0
    · subst hne
      refine ⟨n', sd, c', k1, by omega, fun hm => ?_⟩
      rw [e1]
      exact sub_tr (k3 hm) sub_or
    · have step : ∀ q y, MvK C q → y < 2 * C 0 → y / 2 = s / 2 → outN C q so0 sd y = some so → ∃ n' sd c', CWk C bc n' so sd c' f ∧ c' ≤ c ∧ (mindP C = true → sub sd said) := by
        intro q y m1 m2 m4 m3
        refine ⟨n' + 1, sdN C sd y, c' + wtN bc so0 so, ⟨so0, sd, c', q, y, k1, m1, m2, m3, hne, rfl, rfl⟩, by omega, fun hm => ?_⟩
        unfold sdN
        rw [if_pos hm, e1, m4]
        exact sub_orL (sub_tr (k3 hm) sub_or) (fun i hi => by rw [Nat.testBit_or, hi, Bool.or_true])
      generalize C (40 + 2 * p) = q at hq hb ho
      rcases (by omega : q = 1 ∨ q = 2 ∨ q = 3 ∨ q = 4 ∨ q = 5) with rfl | rfl | rfl | rfl | rfl
      · exact step 1 s (Or.inl ⟨rfl, by unfold freeP; rw [hb]; rfl⟩) hs rfl (by rw [out_1 C so0 sd said0]; exact ho)
      · exact step 2 s (Or.inr (Or.inr ⟨rfl, hb⟩)) hs rfl (by rw [out_2 C so0 sd said0]; exact ho)
      · refine step 1 (s ^^^ 1) (Or.inl ⟨rfl, by unfold freeP; rw [hb, Bool.or_true]⟩) (x1_lt hv hs) (x1_div (by omega)).1 ?_
        rw [← out_3 (d := said0) (by omega)]; exact ho
      · rw [out_4 ok.1] at ho
        cases ho
        exact absurd rfl hne
      · rw [out_5] at ho
        by_cases t : said0.testBit (s / 2) = true
        · rw [if_pos t, ok.1.2] at ho
          cases ho
          exact absurd rfl hne
        · rw [if_neg t] at ho
          by_cases hf : freeP C = true
          · exact step 1 s (Or.inl ⟨rfl, hf⟩) hs rfl (by rw [out_1 C so0 sd said0]; exact ho)
          · have hm : mindP C = true := by
              unfold mindP
              rw [hb, Bool.and_true]
              cases z : freeP C
              · rfl
              · exact absurd z hf
            refine step 5 s (Or.inr (Or.inl ⟨rfl, hm⟩)) hs rfl ?_
            have t2 : ¬ sd.testBit (s / 2) = true := fun w => t (k3 hm _ w)
            rw [out_5, if_neg t2, out_1 C so0 sd said0]; exact ho
/-- and a class's walk is a reference's -/
theorem E1 {C : Nat → Nat} (hv : VC C) {bc : Nat} : ∀ n so sd c f, CWk C bc n so sd c f → ∃ n' said, Wk C bc n' so said c f ∧ (mindP C = true → said = sd)
  | 0, so, sd, c, f, h => by
    obtain ⟨p, s, hp, hs, ho, e1, e2, e3⟩ := h
    refine ⟨0, C 5 ||| 2 ^ (s / 2), ⟨p, s, hp, hs, ho, rfl, e2, e3⟩, fun hm => ?_⟩
    rw [e1]
    unfold sdN
    rw [if_pos hm]
  | n + 1, so, sd, c, f, h => by
    obtain ⟨so0, sd0, c0, q, s, h0, hq, hs, ho, hne, e1, e2⟩ := h
    obtain ⟨n', said, k1, k2⟩ := E1 hv n _ _ _ _ h0
    have h06 := hv.1
    have step : ∀ p y, p < C 4 → y < 2 * C 0 → y / 2 = s / 2 → outN C (C (40 + 2 * p)) so0 said y = some so → ∃ n' said, Wk C bc n' so said c f ∧ (mindP C = true → said = sd) := by
      intro p y m1 m2 m4 m3
      refine ⟨n' + 1, said ||| 2 ^ (y / 2), ⟨so0, said, c0, p, y, k1, m1, m2, m3, rfl, e2⟩, fun hm => ?_⟩
      rw [e1, k2 hm, m4]
      unfold sdN
      rw [if_pos hm]
    rcases hq with ⟨rfl, hf⟩ | ⟨rfl, hm⟩ | ⟨rfl, hb⟩
    · unfold freeP at hf
      rw [Bool.or_eq_true] at hf
      rcases hf with hf | hf
      · obtain ⟨p, hp, ep⟩ := (hasK_iff C 1 (C 4)).mp hf
        refine step p s hp hs rfl ?_
        rw [ep, out_1 C so0 said sd0]; exact ho
      · obtain ⟨p, hp, ep⟩ := (hasK_iff C 3 (C 4)).mp hf
        refine step p (s ^^^ 1) hp (x1_lt hv hs) (x1_div (by omega)).1 ?_
        have hx := x1_lt hv hs
        rw [ep, out_3 (d' := sd0) (by omega)]
        rw [Nat.xor_assoc, Nat.xor_self, Nat.xor_zero]; exact ho
    · have hb : hasK C 5 (C 4) = true := by
        unfold mindP at hm
        rw [Bool.and_eq_true] at hm
        exact hm.2
      obtain ⟨p, hp, ep⟩ := (hasK_iff C 5 (C 4)).mp hb
      refine step p s hp hs rfl ?_
      rw [ep, k2 hm]; exact ho
    · obtain ⟨p, hp, ep⟩ := (hasK_iff C 2 (C 4)).mp hb
      refine step p s hp hs rfl ?_
      rw [ep, out_2 C so0 said sd0]; exact ho
def metP (A Bn so : Nat) : Prop := so &&& A = A ∧ so &&& Bn = 0
/-- the best of all walks that meet -/
def bestW (C : Nat → Nat) (bc A Bn : Nat) (r : Option (Nat × Nat)) : Prop := match r with
  | none => ∀ n so said c f, Wk C bc n so said c f → ¬ metP A Bn so
  | some x => (∃ n so said, Wk C bc n so said x.1 x.2 ∧ metP A Bn so) ∧ ∀ n so said c f, Wk C bc n so said c f → metP A Bn so → x.1 < c ∨ (x.1 = c ∧ x.2 ≤ f)
theorem bestW_one {C : Nat → Nat} {bc A Bn : Nat} {r r' : Option (Nat × Nat)} (h : bestW C bc A Bn r) (h' : bestW C bc A Bn r') : r = r' := by
  cases r with
  | none =>
    cases r' with
    | none => rfl
    | some x =>
      obtain ⟨⟨n, so, said, a, b⟩, -⟩ := h'
      exact absurd b (h n so said _ _ a)
  | some x =>
    cases r' with
    | none =>
      obtain ⟨⟨n, so, said, a, b⟩, -⟩ := h
      exact absurd b (h' n so said _ _ a)
    | some y =>
      obtain ⟨⟨n, so, said, a, b⟩, c⟩ := h
      obtain ⟨⟨n', so', said', a', b'⟩, c'⟩ := h'
      obtain ⟨x1, x2⟩ := x
      obtain ⟨y1, y2⟩ := y
      have u : x1 < y1 ∨ (x1 = y1 ∧ x2 ≤ y2) := c _ _ _ _ _ a' b'
      have w : y1 < x1 ∨ (y1 = x1 ∧ y2 ≤ x2) := c' _ _ _ _ _ a b
      rw [show x1 = y1 by omega, show x2 = y2 by omega]
/-- the best of the class's walks is the best of all -/
theorem best_of_C {C : Nat → Nat} (hv : VC C) {bc A Bn : Nat} {r : Option (Nat × Nat)} (h : match r with | none => ∀ n so sd c f, CWk C bc n so sd c f → ¬ metP A Bn so | some x => (∃ n so sd, CWk C bc n so sd x.1 x.2 ∧ metP A Bn so) ∧ ∀ n so sd c f, CWk C bc n so sd c f → metP A Bn so → x.1 < c ∨ (x.1 = c ∧ x.2 ≤ f)) : bestW C bc A Bn r := by
  cases r with
  | none =>
    intro n so said c f hw hm
    obtain ⟨n', sd, c', k1, k2, k3⟩ := E2 hv n _ _ _ _ hw
    exact h n' so sd c' f k1 hm
  | some x =>
    obtain ⟨⟨n, so, sd, a, b⟩, c⟩ := h
    obtain ⟨n1, said1, k1, -⟩ := E1 hv n _ _ _ _ a
    refine ⟨⟨n1, so, said1, k1, b⟩, fun n2 so2 said2 c2 f2 hw hm => ?_⟩
    obtain ⟨n', sd', c', j1, j2, -⟩ := E2 hv n2 _ _ _ _ hw
    have := c n' so2 sd' c' f2 j1 hm
    omega
theorem reach_iff {C : Nat → Nat} (hv : VC C) {so : Nat} : (∃ n said c f, Wk C 0 n so said c f) ↔ ∃ n sd c f, CWk C 0 n so sd c f := by
  constructor
  · rintro ⟨n, said, c, f, h⟩
    obtain ⟨n', sd, c', k1, -, -⟩ := E2 hv n _ _ _ _ h
    exact ⟨n', sd, c', f, k1⟩
  · rintro ⟨n, sd, c, f, h⟩
    obtain ⟨n', said, k1, -⟩ := E1 hv n _ _ _ _ h
    exact ⟨n', said, c, f, k1⟩
