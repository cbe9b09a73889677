/-! THE RELATION between two calls of the law: RCl the class's half, RMo the reference's, of one court, one ring of acts, rows, tape, trace, images -/
/-- what a call of the class leaves: references of objects not in r, indices not in l -/
def KF (r l : List Nat) (m m2 : AM) : Prop := (∀ i k, i ∉ r → m2.2.1 i k = m.2.1 i k) ∧ (∀ a, a < 125 → m2.2.2.1 a = m.2.2.1 a) ∧ ∀ a, a < 125 → a ∉ l → m2.1 a = m.1 a
theorem KF.xg {r l : List Nat} {m m2 : AM} (hty : TY m) (h : Xg r l m m2) : KF r l m m2 := ⟨h.1, fun a ha => h.2.2.1 a (Nat.lt_of_lt_of_le ha hty.1), fun a ha hl => h.2.2.2 a (Nat.lt_of_lt_of_le ha hty.1) hl⟩
theorem KF.xz {m m2 : AM} (hty : TY m) (h : Xz m m2) : KF [98] [30, 98, 99, 100, 101, 102] m m2 := ⟨fun i k hi => h.1 i k (by simpa using hi), fun a ha => h.2.2.1 a (Nat.lt_of_lt_of_le ha hty.1), fun a ha hl => h.2.2.2 a ha (by simp at hl; omega) (by simp at hl; omega)⟩
theorem KF.fr {l : List Nat} {m m2 : AM} (h : Fr l m m2) : KF [] l m m2 := ⟨fun i k _ => by rw [h.1], fun a _ => by rw [h.1], fun a _ hl => h.2 a hl⟩
theorem CR.k {r l : List Nat} {m m2 : AM} {C : Nat → Nat} (h : CR m C) (f : KF r l m m2) (hl : ∀ x, x ∈ l → x < 21 ∨ 30 < x) : CR m2 C := h.fr (fun a h1 h2 => f.2.2 a (by omega) (fun z => by have := hl a z; omega))
theorem BR.k {r l : List Nat} {m m2 : AM} {C : Nat → Nat} (h : BR m C) (f : KF r l m m2) (hl : ∀ x, x ∈ l → x < 21 ∨ 30 < x) : BR m2 C := h.fr (fun a h1 h2 => f.2.2 a (by omega) (fun z => by have := hl a z; omega))
theorem ActR.k {r l : List Nat} {m m2 : AM} {C : Nat → Nat} {a nx : Nat} {W : Nat → Nat → Nat} (h : ActR m C a nx W) (f : KF r l m m2) (hl : ∀ x, x ∈ l → x < 31 ∨ x = 32 ∨ 80 < x) : ActR m2 C a nx W := h.fr (fun i hi => by
  have : i = 31 ∨ (33 ≤ i ∧ i ≤ 80) := by
    simp [actL] at hi
    rcases hi with h | ⟨x, h1, h2⟩
    · exact Or.inl h
    · exact Or.inr (by omega)
  exact f.2.2 i (by omega) (fun z => by have := hl i z; omega))
theorem RowR.k {r l : List Nat} {m m2 : AM} {La Ma : Nat → Nat} {It : Nat → Nat → Int32} (h : RowR m La Ma It) (f : KF r l m m2) (hl : ∀ x, x ∈ l → x < 3 ∨ 12 < x) : RowR m2 La Ma It := h.fr (fun i hi => by
  have : 3 ≤ i ∧ i ≤ 12 := by
    simp [rowL] at hi
    omega
  exact f.2.2 i (by omega) (fun z => by have := hl i z; omega))
theorem TapC.k {r l : List Nat} {m m2 : AM} {T : Nat → Nat} {n : Nat} (h : TapC m T n) (f : KF r l m m2) (hl : ∀ x, x ∈ l → x ≠ 13 ∧ x ≠ 19) : TapC m2 T n := by
  unfold TapC
  rw [f.2.2 13 (by omega) (fun z => (hl _ z).1 rfl), f.2.2 19 (by omega) (fun z => (hl _ z).2 rfl)]
  exact h
theorem CTr.k {r l : List Nat} {m m2 : AM} {Tr : Nat × (Nat → Nat)} (h : CTr m Tr) (f : KF r l m m2) (hl : ∀ x, x ∈ l → x ≠ 108 ∧ x ≠ 109) : CTr m2 Tr := by
  unfold CTr
  rw [f.2.2 108 (by omega) (fun z => (hl _ z).1 rfl), f.2.2 109 (by omega) (fun z => (hl _ z).2 rfl)]
  exact h
theorem FsR.k {r l : List Nat} {m m2 : AM} (h : FsR m) (f : KF r l m m2) (hr : 103 ∉ r) : FsR m2 := by
  unfold FsR
  obtain ⟨a, b, c⟩ := h
  refine ⟨fun k hk => ?_, fun x y hx hy e => ?_, fun i h1 h2 => ?_⟩
  · rw [f.1 103 k hr]; exact a k hk
  · rw [f.1 103 x hr, f.1 103 y hr] at e; exact b x y hx hy e
  · rw [f.2.1 i (by omega)]; exact c i h1 h2
theorem SrI.gen {m m2 : AM} {w : Nat} (h : SrI m w) (hty : TY m) (e1 : ∀ k, m2.2.1 98 k = m.2.1 98 k) (e2 : ∀ a, a < m.2.2.2 → m2.2.2.1 a = m.2.2.1 a) (e3 : ∀ a, a < m.2.2.2 → (a = 98 ∨ (100 ≤ a ∧ a ≤ 102) ∨ 125 ≤ a) → m2.1 a = m.1 a) : SrI m2 w := by
  obtain ⟨⟨a1, a2, a3, a4⟩, b, c⟩ := h
  have lt : ∀ k, m.2.1 98 k < m.2.2.2 := fun k => (hty.2 98 k).2
  have el : m2.2.2.1 (m2.2.1 98 1) = m.2.2.1 (m.2.1 98 1) := by rw [e1, e2 _ (lt 1)]
  have n98 : 98 < m.2.2.2 := Nat.lt_of_lt_of_le (by decide) hty.1
  unfold SrI SrA
  rw [el]
  refine ⟨⟨fun k h1 h2 => ?_, ?_, ?_, ?_⟩, ?_, ?_⟩
  · rw [e1, e2 _ (lt k)]; exact a1 k h1 h2
  · rw [e1, e1]; exact a2
  · rw [e1, e1]; exact a3
  · rw [e1, e1]; exact a4
  · rw [e3 98 n98 (Or.inl rfl)]; exact b
  · have q := (a1 1 (by omega) (by omega)).1
    rw [e1, e3 _ (lt 1) (by omega)]
    exact c
theorem SrI.gx {r l : List Nat} {m m2 : AM} {w : Nat} (h : SrI m w) (hty : TY m) (g : Xg r l m m2) (hr : 98 ∉ r) (hl : ∀ x, x ∈ l → x ≠ 98 ∧ (x < 100 ∨ 102 < x) ∧ x < 125) : SrI m2 w := h.gen hty (fun k => g.1 98 k hr) g.2.2.1 (fun a ha hc => g.2.2.2 a ha (fun z => by have := hl a z; omega))
def ImC (m : AM) (i : Nat) (I : Nat × (Nat → Nat)) : Prop := m.1 i 2 = nI I.1 ∧ I.1 ≤ 1 ∧ (I.1 = 1 → ImR m i I.2)
def ImG (m : AM) (I0 I1 : Nat × (Nat → Nat)) : Prop := ImC m 82 I0 ∧ ImC m 90 I1
theorem ImC.k {r l : List Nat} {m m2 : AM} {i : Nat} {I : Nat × (Nat → Nat)} (h : ImC m i I) (f : KF r l m m2) (hi : i + 7 < 125) (hl : ∀ x, x ∈ l → x < i ∨ i + 7 < x) : ImC m2 i I := by
  have o : ∀ j, j ≤ 7 → m2.1 (i + j) = m.1 (i + j) := fun j hj => f.2.2 _ (by omega) (fun z => by have := hl _ z; omega)
  obtain ⟨h1, h2, h3⟩ := h
  refine ⟨by rw [show m2.1 i = m.1 i from o 0 (by omega)]; exact h1, h2, fun e => ?_⟩
  obtain ⟨v, hL, hS⟩ := h3 e
  exact ⟨v, hL.cg (o 1 (by omega)) (o 2 (by omega)) (o 3 (by omega)) (o 4 (by omega)) (o 5 (by omega)), hS.cg (o 6 (by omega)) (o 7 (by omega))⟩
theorem ImG.k {r l : List Nat} {m m2 : AM} {I0 I1 : Nat × (Nat → Nat)} (h : ImG m I0 I1) (f : KF r l m m2) (hl : ∀ x, x ∈ l → x < 82 ∨ 97 < x) : ImG m2 I0 I1 := ⟨h.1.k f (by decide) (fun x z => by have := hl x z; omega), h.2.k f (by decide) (fun x z => by have := hl x z; omega)⟩
def RCl (m : AM) (C : Nat → Nat) (a nx : Nat) (W : Nat → Nat → Nat) (La Ma : Nat → Nat) (It : Nat → Nat → Int32) (T : Nat → Nat) (n : Nat) (Tr I0 I1 : Nat × (Nat → Nat)) (wk : Nat) (st ft : Int32) : Prop :=
  CR m C ∧ ActR m C a nx W ∧ RowR m La Ma It ∧ TapC m T n ∧ CTr m Tr ∧ ImG m I0 I1 ∧ FsR m ∧ SrI m wk ∧ m.1 0 8 = st ∧ m.1 13 7 = ft
def ImM (m : AM) (k : Nat) (I : Nat × (Nat → Nat)) : Prop := m.1 122 k = nI I.1 ∧ (I.1 = 1 → ∀ j, j < 50 → m.1 123 (50 * k + j) = nI (I.2 j))
def ImN (m : AM) (I0 I1 : Nat × (Nat → Nat)) : Prop := ImM m 0 I0 ∧ ImM m 1 I1
theorem ImN.k {li ls : List Nat} {m m2 : AM} {I0 I1 : Nat × (Nat → Nat)} (h : ImN m I0 I1) (f : Fm li ls m m2) (h1 : 122 ∉ li) (h2 : 123 ∉ li) : ImN m2 I0 I1 := by
  unfold ImN ImM
  rw [f.2.1 122 (by decide) h1, f.2.1 123 (by decide) h2]
  exact h
theorem MCo.k {li ls : List Nat} {m m2 : AM} {C : Nat → Nat} (h : MCo m C) (f : Fm li ls m m2) (h1 : 114 ∉ li) : MCo m2 C := ⟨MC.fm f h.1 h1, h.2⟩
theorem MRow.k {li ls : List Nat} {m m2 : AM} {La Ma : Nat → Nat} {It : Nat → Nat → Int32} (h : MRow m La Ma It) (f : Fm li ls m m2) (h1 : 111 ∉ li) (h2 : 112 ∉ li) (h3 : 113 ∉ li) : MRow m2 La Ma It := MRow.cg (f.2.1 111 (by decide) h1) (f.2.1 112 (by decide) h2) (f.2.1 113 (by decide) h3) h
def RMo (m : AM) (C : Nat → Nat) (a : Nat) (W : Nat → Nat → Nat) (La Ma : Nat → Nat) (It : Nat → Nat → Int32) (T : Nat → Nat) (n : Nat) (Tr I0 I1 : Nat × (Nat → Nat)) (st ft : Int32) : Prop :=
  MCo m C ∧ MAct m a W ∧ MRow m La Ma It ∧ TapM m T n ∧ MTr m Tr ∧ ImN m I0 I1 ∧ m.1 110 1 = st ∧ m.1 110 17 = ft
/-- the relation, at most t searches made -/
def RI (m : AM) (t : Nat) : Prop := ∃ C a nx W La Ma It T n Tr I0 I1 wk st ft, wk ≤ t ∧ RCl m C a nx W La Ma It T n Tr I0 I1 wk st ft ∧ RMo m C a W La Ma It T n Tr I0 I1 st ft
theorem RMo.k {r l : List Nat} {m m2 : AM} {C : Nat → Nat} {a : Nat} {W : Nat → Nat → Nat} {La Ma : Nat → Nat} {It : Nat → Nat → Int32} {T : Nat → Nat} {n : Nat} {Tr I0 I1 : Nat × (Nat → Nat)} {st ft : Int32} (h : RMo m C a W La Ma It T n Tr I0 I1 st ft) (f : KF r l m m2) (hl : ∀ x, x ∈ l → x < 110 ∨ 124 < x) : RMo m2 C a W La Ma It T n Tr I0 I1 st ft := by
  have o : ∀ j, 110 ≤ j → j ≤ 124 → m2.1 j = m.1 j := fun j h1 h2 => f.2.2 j (by omega) (fun z => by have := hl j z; omega)
  unfold RMo MCo MC MAct MRow TapM MTr ImN ImM
  rw [o 110 (by omega) (by omega), o 111 (by omega) (by omega), o 112 (by omega) (by omega), o 113 (by omega) (by omega), o 114 (by omega) (by omega), o 116 (by omega) (by omega), o 117 (by omega) (by omega), o 122 (by omega) (by omega), o 123 (by omega) (by omega), o 124 (by omega) (by omega)]
  exact h
theorem RCl.fm {li ls : List Nat} {m m2 : AM} {C : Nat → Nat} {a nx : Nat} {W : Nat → Nat → Nat} {La Ma : Nat → Nat} {It : Nat → Nat → Int32} {T : Nat → Nat} {n : Nat} {Tr I0 I1 : Nat × (Nat → Nat)} {wk : Nat} {st ft : Int32} (h : RCl m C a nx W La Ma It T n Tr I0 I1 wk st ft) (g : Fm li ls m m2) (hl : ∀ x, x ∈ li → 110 ≤ x ∧ x ≤ 124) : RCl m2 C a nx W La Ma It T n Tr I0 I1 wk st ft := by
  obtain ⟨hC, hA, hR, hT, hQ, hI, hF, hS, h0, h13⟩ := h
  have q : ∀ x, x ∈ (110 :: li) → 110 ≤ x ∧ x ≤ 124 := fun x hx => by
    rcases List.mem_cons.mp hx with e | e
    · omega
    · exact hl x e
  have fr : Fr (110 :: li) m m2 := ⟨g.1, fun a ha => g.2.1 a (fun e => ha (by rw [e]; exact List.mem_cons_self)) (fun z => ha (List.mem_cons_of_mem _ z))⟩
  have f := KF.fr fr
  refine ⟨hC.k f (fun x z => by have := q x z; omega), hA.k f (fun x z => by have := q x z; omega), hR.k f (fun x z => by have := q x z; omega), hT.k f (fun x z => by have := q x z; omega), hQ.k f (fun x z => by have := q x z; omega), hI.k f (fun x z => by have := q x z; omega), hF.k f (by decide), ?_, (congrFun (f.2.2 0 (by decide) (fun z => by have := q _ z; omega)) 8).trans h0, (congrFun (f.2.2 13 (by decide) (fun z => by have := q _ z; omega)) 7).trans h13⟩
  obtain ⟨a1, b, c⟩ := hS
  have e98 : m2.1 98 = m.1 98 := fr.2 98 (fun z => by have := q _ z; omega)
  have hq := (a1.1 1 (by omega) (by omega)).1
  unfold SrI
  rw [e98, g.1]
  refine ⟨a1.cg g.1, b, ?_⟩
  rw [fr.2 (m.2.1 98 1) (fun z => by have := q _ z; omega)]
  exact c
/-- the class answers an int, and the reference, called behind it, the same -/
def two (S2 : AM → (Option AV → AM → Prop) → Prop) (t : Nat) : Option AV → AM → Prop := fun r m2 => ∃ x : Int32, r = some (vi x) ∧ S2 m2 (fun r2 m3 => r2 = some (vi x) ∧ RI m3 (t + 1))
def twoL (S2 : AM → (Option AV → AM → Prop) → Prop) (t : Nat) : Option AV → AM → Prop := fun r m2 => ∃ x : Int64, r = some (vl x) ∧ S2 m2 (fun r2 m3 => r2 = some (vl x) ∧ RI m3 (t + 1))
theorem nope {b : Bool} {P : Prop} (h : b = false) (h2 : b = true) : P := by
  rw [h] at h2
  cases h2
theorem Fm.g0 {m m3 : AM} (h : m3 = mset m 110 0 (nI 0)) : Fm [] [0] m m3 := by
  rw [h]
  exact (Fm.rf _ _ m).m0 (by simp)
theorem Fm.s0 (m : AM) : Fm [] [0] m (mset m 110 0 (nI 0)) := (Fm.rf _ _ m).m0 (by simp)
/-- both as they were, behind a call of the reference that leaves all but its flag -/
theorem RI.same {li ls : List Nat} {m m2 : AM} {t : Nat} {C : Nat → Nat} {a nx : Nat} {W : Nat → Nat → Nat} {La Ma : Nat → Nat} {It : Nat → Nat → Int32} {T : Nat → Nat} {n : Nat} {Tr I0 I1 : Nat × (Nat → Nat)} {wk : Nat} {st ft : Int32} (hw : wk ≤ t + 1) (hc : RCl m C a nx W La Ma It T n Tr I0 I1 wk st ft) (hm : RMo m C a W La Ma It T n Tr I0 I1 st ft) (g : Fm li ls m m2) (hl : ∀ x, x ∈ li → 118 ≤ x ∧ x ≤ 121) (hs : ∀ x, x ∈ ls → x = 0 ∨ x = 22 ∨ x = 23) : RI m2 (t + 1) := by
  obtain ⟨mC, mA, mR, mT, mQ, mI, m0, m17⟩ := hm
  have n1 : ∀ k, (k < 118 ∨ 121 < k) → k ∉ li := fun k hk z => by have := hl k z; omega
  have n2 : ∀ k, k ≠ 0 → k ≠ 22 → k ≠ 23 → k ∉ ls := fun k a b c z => by have := hs k z; omega
  exact ⟨C, a, nx, W, La, Ma, It, T, n, Tr, I0, I1, wk, st, ft, hw, hc.fm g (fun x z => by have := hl x z; omega), mC.k g (n1 _ (by omega)), MAct.fm g mA (n1 _ (by omega)) (n2 _ (by decide) (by decide) (by decide)), mR.k g (n1 _ (by omega)) (n1 _ (by omega)) (n1 _ (by omega)), mT.fm g (n1 _ (by omega)) (n2 _ (by decide) (by decide) (by decide)), MTr.fm g mQ (n1 _ (by omega)) (n2 _ (by decide) (by decide) (by decide)), mI.k g (n1 _ (by omega)) (n1 _ (by omega)), (g.2.2 1 (n2 _ (by decide) (by decide) (by decide))).trans m0, (g.2.2 17 (n2 _ (by decide) (by decide) (by decide))).trans m17⟩
