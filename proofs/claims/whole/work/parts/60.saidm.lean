/-! SAID: sums, rows of sayings, by what became so -/
def sumN : Nat → (Nat → Nat) → Nat
  | 0, _ => 0
  | n + 1, f => sumN n f + f n
theorem sumN_cg {f g : Nat → Nat} : ∀ n, (∀ i, i < n → f i = g i) → sumN n f = sumN n g
  | 0, _ => rfl
  | n + 1, h => by
    unfold sumN
    rw [sumN_cg n (fun i hi => h i (by omega)), h n (by omega)]
theorem sumN_zero : ∀ n, sumN n (fun _ => 0) = 0
  | 0 => rfl
  | n + 1 => by
    show sumN n (fun _ => 0) + 0 = 0
    rw [sumN_zero n]
theorem sumN_add {f g : Nat → Nat} : ∀ n, sumN n (fun i => f i + g i) = sumN n f + sumN n g
  | 0 => rfl
  | n + 1 => by
    show sumN n (fun i => f i + g i) + (f n + g n) = (sumN n f + f n) + (sumN n g + g n)
    rw [sumN_add n]
    omega
theorem sumN_comm {f : Nat → Nat → Nat} (b : Nat) : ∀ a, sumN a (fun i => sumN b (fun j => f i j)) = sumN b (fun j => sumN a (fun i => f i j))
  | 0 => (sumN_zero b).symm
  | a + 1 => by
    show sumN a _ + sumN b _ = sumN b (fun j => sumN a (fun i => f i j) + f a j)
    rw [sumN_add b, sumN_comm b a]
theorem sumN_mulr {f : Nat → Nat} (c : Nat) : ∀ n, sumN n f * c = sumN n (fun i => f i * c)
  | 0 => Nat.zero_mul c
  | n + 1 => by
    unfold sumN
    rw [Nat.add_mul, sumN_mulr c n]
theorem sumN_app {f : Nat → Nat} (a : Nat) : ∀ b, sumN (a + b) f = sumN a f + sumN b (fun j => f (a + j))
  | 0 => by rw [Nat.add_zero]; rfl
  | b + 1 => by
    show sumN (a + b) f + f (a + b) = _ + (sumN b _ + f (a + b))
    rw [sumN_app a b]
    omega
theorem sumN_prod {f : Nat → Nat} (E : Nat) : ∀ a, sumN (a * E) f = sumN a (fun i => sumN E (fun j => f (i * E + j)))
  | 0 => by rw [Nat.zero_mul]; rfl
  | a + 1 => by
    rw [Nat.succ_mul, sumN_app, sumN_prod E a]
    rfl
theorem sumN_pos {f : Nat → Nat} : ∀ n, 0 < sumN n f ↔ ∃ i, i < n ∧ 0 < f i
  | 0 => ⟨fun h => absurd h (Nat.lt_irrefl 0), fun ⟨i, h, _⟩ => absurd h (Nat.not_lt_zero i)⟩
  | n + 1 => by
    have ih := sumN_pos (f := f) n
    unfold sumN
    constructor
    · intro h
      rcases Nat.eq_zero_or_pos (f n) with z | z
      · obtain ⟨i, h1, h2⟩ := ih.mp (by omega)
        exact ⟨i, by omega, h2⟩
      · exact ⟨n, by omega, z⟩
    · rintro ⟨i, h1, h2⟩
      rcases Nat.lt_or_ge i n with z | z
      · have := ih.mpr ⟨i, z, h2⟩
        omega
      · rw [show i = n by omega] at h2
        omega
theorem sumN_le {f : Nat → Nat} (B : Nat) : ∀ n, (∀ i, i < n → f i ≤ B) → sumN n f ≤ n * B
  | 0, _ => Nat.zero_le _
  | n + 1, h => by
    have ih := sumN_le B n (fun i hi => h i (by omega))
    have := h n (by omega)
    unfold sumN
    rw [Nat.succ_mul]
    omega
def hasM (x : Option (Nat × Nat)) (t : Nat) : Nat := match x with
  | some p => if p.2 = t then 1 else 0
  | none => 0
theorem hasM_le (x : Option (Nat × Nat)) (t : Nat) : hasM x t ≤ 1 := by
  unfold hasM
  split
  · split <;> omega
  · omega
theorem hasM_iff (x : Option (Nat × Nat)) (t : Nat) : 0 < hasM x t ↔ ∃ s, x = some (s, t) := by
  unfold hasM
  cases x with
  | none => simp
  | some p =>
    obtain ⟨a, b⟩ := p
    by_cases e : b = t
    · subst e; simp
    · simp [e]
def atM (A : Nat → Nat) (x : Option (Nat × Nat)) : Nat := match x with
  | some p => A p.2
  | none => 0
theorem sumN_hasM {A : Nat → Nat} (x : Option (Nat × Nat)) (hx : ∀ p, x = some p → p.2 < 64) : sumN 64 (fun s => hasM x s * A s) = atM A x := by
  cases x with
  | none =>
    show sumN 64 (fun s => 0 * A s) = 0
    rw [sumN_cg 64 (g := fun _ => 0) (fun i _ => Nat.zero_mul _)]
    exact sumN_zero 64
  | some p =>
    have h64 := hx p rfl
    show sumN 64 (fun s => (if p.2 = s then 1 else 0) * A s) = A p.2
    have gen : ∀ n, sumN n (fun s => (if p.2 = s then 1 else 0) * A s) = if p.2 < n then A p.2 else 0 := by
      intro n
      induction n with
      | zero => rfl
      | succ n ih =>
        show sumN n _ + (if p.2 = n then 1 else 0) * A n = _
        rw [ih]
        by_cases e : p.2 = n
        · rw [if_neg (by omega), if_pos e, if_pos (by omega), e]; omega
        · rw [if_neg e]
          by_cases q : p.2 < n
          · rw [if_pos q, if_pos (by omega)]; omega
          · rw [if_neg q, if_neg (by omega)]; omega
    rw [gen 64, if_pos h64]
def stepS (C : Nat → Nat) (q : Nat) (d : Int32) (x : Option (Nat × Nat)) (y : Nat) : Option (Nat × Nat) := match x with
  | none => none
  | some p => match outN C q p.1 p.2 y with
    | none => none
    | some v => if nI v = d then some (v, p.2 ||| 2 ^ (y / 2)) else none
def pS (C : Nat → Nat) (q : Nat) (D : Nat → Int32) : Nat → Nat → Option (Nat × Nat)
  | 0, _ => some (C 1, C 5)
  | j + 1, pr => stepS C q (D j) (pS C q D j (pr / (2 * C 0))) (pr % (2 * C 0))
def soI (C : Nat → Nat) (D : Nat → Int32) (j : Nat) : Int32 := match j with
  | 0 => nI (C 1)
  | j + 1 => D j
theorem stepS_some {C : Nat → Nat} {q : Nat} {d : Int32} {x : Option (Nat × Nat)} {y : Nat} {p : Nat × Nat} (h : stepS C q d x y = some p) : ∃ p0, x = some p0 ∧ outN C q p0.1 p0.2 y = some p.1 ∧ nI p.1 = d ∧ p.2 = p0.2 ||| 2 ^ (y / 2) := by
  unfold stepS at h
  cases x with
  | none => cases h
  | some p0 =>
    cases e : outN C q p0.1 p0.2 y with
    | none => simp [e] at h
    | some v =>
      simp only [e] at h
      by_cases z : nI v = d
      · rw [if_pos z] at h
        cases h
        exact ⟨p0, rfl, e, z, rfl⟩
      · rw [if_neg z] at h; cases h
theorem pS_ok {C : Nat → Nat} (hv : VC C) {q : Nat} {D : Nat → Int32} : ∀ j pr p, pS C q D j pr = some p → p.1 < 64 ∧ p.2 < 64 ∧ nI p.1 = soI C D j
  | 0, pr, p, h => by
    cases h
    exact ⟨hv.c1, hv.c5, rfl⟩
  | j + 1, pr, p, h => by
    obtain ⟨p0, h1, h2, h3, h4⟩ := stepS_some h
    have ih := pS_ok hv j _ p0 h1
    have h06 := hv.1
    have hy : pr % (2 * C 0) < 2 * C 0 := Nat.mod_lt _ (by omega)
    exact ⟨outN_lt hv ih.1 hy h2, by rw [h4]; exact or_lt64 ih.2.1 (pow_lt64 (by omega)), h3⟩
def WN (C : Nat → Nat) (q : Nat) (D : Nat → Int32) (j t : Nat) : Nat := sumN ((2 * C 0) ^ j) (fun pr => hasM (pS C q D j pr) t)
theorem dm_1 {E i j : Nat} (h : j < E) : (i * E + j) / E = i ∧ (i * E + j) % E = j := by
  have h0 : 0 < E := by omega
  rw [Nat.mul_comm i E]
  exact ⟨by rw [Nat.mul_add_div h0, Nat.div_eq_of_lt h, Nat.add_zero], by rw [Nat.mul_add_mod, Nat.mod_eq_of_lt h]⟩
/-- one step's ways -/
def gN (C : Nat → Nat) (q : Nat) (d : Int32) (k : Nat) (W : Nat → Nat) (y s t : Nat) : Nat := W s * hasM (stepS C q d (some (k, s)) y) t
theorem WN_step {C : Nat → Nat} (hv : VC C) {q : Nat} {D : Nat → Int32} {j k t : Nat} (hk : (∃ s, s < 64 ∧ 0 < WN C q D j s) → nI k = soI C D j ∧ k < 64) : sumN (2 * C 0) (fun y => sumN 64 (fun s => gN C q (D j) k (WN C q D j) y s t)) = WN C q D (j + 1) t := by
  have h06 := hv.1
  have e1 : WN C q D (j + 1) t = sumN ((2 * C 0) ^ j) (fun pr => sumN (2 * C 0) (fun y => hasM (stepS C q (D j) (pS C q D j pr) y) t)) := by
    unfold WN
    rw [Nat.pow_succ, sumN_prod]
    refine sumN_cg _ (fun pr _ => sumN_cg _ (fun y hy => ?_))
    have := dm_1 (i := pr) hy
    show hasM (stepS C q (D j) (pS C q D j ((pr * (2 * C 0) + y) / (2 * C 0))) ((pr * (2 * C 0) + y) % (2 * C 0))) t = _
    rw [this.1, this.2]
  rw [e1, sumN_comm (f := fun pr y => hasM (stepS C q (D j) (pS C q D j pr) y) t)]
  refine sumN_cg _ (fun y _ => ?_)
  have e2 : sumN 64 (fun s => gN C q (D j) k (WN C q D j) y s t) = sumN ((2 * C 0) ^ j) (fun pr => sumN 64 (fun s => hasM (pS C q D j pr) s * hasM (stepS C q (D j) (some (k, s)) y) t)) := by
    rw [sumN_comm (f := fun pr s => hasM (pS C q D j pr) s * hasM (stepS C q (D j) (some (k, s)) y) t)]
    refine sumN_cg _ (fun s _ => ?_)
    unfold gN WN
    rw [sumN_mulr]
  rw [e2]
  refine sumN_cg _ (fun pr hpr => ?_)
  rw [sumN_hasM _ (fun p hp => (pS_ok hv j pr p hp).2.1)]
  cases e : pS C q D j pr with
  | none => rfl
  | some p =>
    have ok := pS_ok hv j pr p e
    have hw : 0 < WN C q D j p.2 := (sumN_pos _).mpr ⟨pr, hpr, (hasM_iff _ _).mpr ⟨p.1, e⟩⟩
    have hkk := hk ⟨p.2, ok.2.1, hw⟩
    have ek : k = p.1 := by
      have := hkk.1.trans ok.2.2.symm
      rw [n_eq (by omega) (by omega)] at this
      exact this
    show hasM (stepS C q (D j) (some (k, p.2)) y) t = hasM (stepS C q (D j) (some p) y) t
    rw [ek]
/-- what tellSaying lays, mask by mask: ways, firsts -/
def tsZ (C : Nat → Nat) (q : Nat) (d : Int32) (k : Nat) (W : Nat → Nat) (ff : Nat → Nat) (y : Nat) (Z : (Nat → Nat) × (Nat → Nat)) : Nat → (Nat → Nat) × (Nat → Nat)
  | 0 => Z
  | s + 1 => if W s = 0 then tsZ C q d k W ff y Z s else match stepS C q d (some (k, s)) y with
    | none => tsZ C q d k W ff y Z s
    | some p => (upC (tsZ C q d k W ff y Z s).1 p.2 ((tsZ C q d k W ff y Z s).1 p.2 + W s), if (tsZ C q d k W ff y Z s).1 p.2 = 0 ∨ ff s < (tsZ C q d k W ff y Z s).2 p.2 then upC (tsZ C q d k W ff y Z s).2 p.2 (ff s) else (tsZ C q d k W ff y Z s).2)
theorem tsZ_1 {C : Nat → Nat} {q : Nat} {d : Int32} {k : Nat} {W ff : Nat → Nat} {y : Nat} {Z : (Nat → Nat) × (Nat → Nat)} (t : Nat) : ∀ n, (tsZ C q d k W ff y Z n).1 t = Z.1 t + sumN n (fun s => gN C q d k W y s t)
  | 0 => rfl
  | s + 1 => by
    have ih := tsZ_1 (C := C) (q := q) (d := d) (k := k) (W := W) (ff := ff) (y := y) (Z := Z) t s
    have e0 : sumN (s + 1) (fun s => gN C q d k W y s t) = sumN s (fun s => gN C q d k W y s t) + gN C q d k W y s t := rfl
    rw [e0]
    unfold tsZ
    by_cases hw : W s = 0
    · rw [if_pos hw, ih]
      unfold gN
      rw [hw, Nat.zero_mul, Nat.add_zero]
    · rw [if_neg hw]
      unfold gN at e0 ⊢
      cases e : stepS C q d (some (k, s)) y with
      | none =>
        show (tsZ C q d k W ff y Z s).1 t = _ + (_ + W s * 0)
        rw [ih, Nat.mul_zero, Nat.add_zero]
        rfl
      | some p =>
        show upC (tsZ C q d k W ff y Z s).1 p.2 _ t = _ + (_ + W s * (if p.2 = t then 1 else 0))
        unfold upC
        by_cases z : t = p.2
        · rw [if_pos z, if_pos z.symm, ← z, ih, Nat.mul_one, Nat.add_assoc]
          rfl
        · rw [if_neg z, if_neg (Ne.symm z), ih, Nat.mul_zero, Nat.add_zero]
          rfl
/-- firsts of what is processed: P says which -/
def FZ (P : Nat → Nat → Prop) (g : Nat → Nat → Nat → Nat) (ff : Nat → Nat → Nat) (Z : (Nat → Nat) × (Nat → Nat)) : Prop := ∀ t, (0 < Z.1 t → ∃ y s, P y s ∧ 0 < g y s t ∧ Z.2 t = ff y s) ∧ ∀ y s, P y s → 0 < g y s t → 0 < Z.1 t ∧ Z.2 t ≤ ff y s
theorem tsZ_2 {C : Nat → Nat} {q : Nat} {d : Int32} {k : Nat} {W : Nat → Nat} {ff : Nat → Nat → Nat} {y : Nat} {Z : (Nat → Nat) × (Nat → Nat)} (h : FZ (fun a s => a < y ∧ s < 64) (gN C q d k W) ff Z) : ∀ n, n ≤ 64 → FZ (fun a s => (a < y ∧ s < 64) ∨ (a = y ∧ s < n)) (gN C q d k W) ff (tsZ C q d k W (ff y) y Z n)
  | 0, _ => fun t => ⟨fun z => by
      obtain ⟨a, s, h1, h2⟩ := (h t).1 z
      exact ⟨a, s, Or.inl h1, h2⟩, fun a s h1 h2 => (h t).2 a s (by rcases h1 with z | z; exact z; omega) h2⟩
  | n + 1, hn => by
    have ih := tsZ_2 h n (by omega)
    have same : (∀ t, gN C q d k W y n t = 0) → tsZ C q d k W (ff y) y Z (n + 1) = tsZ C q d k W (ff y) y Z n → FZ (fun a s => (a < y ∧ s < 64) ∨ (a = y ∧ s < n + 1)) (gN C q d k W) ff (tsZ C q d k W (ff y) y Z (n + 1)) := fun h0 e t => by
      rw [e]
      refine ⟨fun z => ?_, fun a s h1 h2 => ?_⟩
      · obtain ⟨a, s, h1, h2⟩ := (ih t).1 z
        exact ⟨a, s, by omega, h2⟩
      · refine (ih t).2 a s ?_ h2
        rcases h1 with z | z
        · exact Or.inl z
        · rcases Nat.lt_or_ge s n with w | w
          · exact Or.inr ⟨z.1, w⟩
          · have e2 : s = n := by omega
            rw [z.1, e2, h0 t] at h2
            omega
    by_cases hw : W n = 0
    · refine same (fun t => by unfold gN; rw [hw, Nat.zero_mul]) ?_
      show (if _ then _ else _) = _
      rw [if_pos hw]
    · cases e : stepS C q d (some (k, n)) y with
      | none =>
        refine same (fun t => by unfold gN; rw [e]; exact Nat.mul_zero _) ?_
        show (if _ then _ else _) = _
        rw [if_neg hw, e]
      | some p =>
        have g1 : ∀ t, gN C q d k W y n t = W n * (if p.2 = t then 1 else 0) := fun t => by
          unfold gN
          rw [e]
          rfl
        have ez : tsZ C q d k W (ff y) y Z (n + 1) = (upC (tsZ C q d k W (ff y) y Z n).1 p.2 ((tsZ C q d k W (ff y) y Z n).1 p.2 + W n), if (tsZ C q d k W (ff y) y Z n).1 p.2 = 0 ∨ ff y n < (tsZ C q d k W (ff y) y Z n).2 p.2 then upC (tsZ C q d k W (ff y) y Z n).2 p.2 (ff y n) else (tsZ C q d k W (ff y) y Z n).2) := by
          show (if _ then _ else _) = _
          rw [if_neg hw, e]
        rw [ez]
        generalize tsZ C q d k W (ff y) y Z n = Y at ih
        have n1 : ∀ u, (upC Y.1 p.2 (Y.1 p.2 + W n), if Y.1 p.2 = 0 ∨ ff y n < Y.2 p.2 then upC Y.2 p.2 (ff y n) else Y.2).1 u = if u = p.2 then Y.1 p.2 + W n else Y.1 u := fun u => rfl
        have n2 : ∀ u, (upC Y.1 p.2 (Y.1 p.2 + W n), if Y.1 p.2 = 0 ∨ ff y n < Y.2 p.2 then upC Y.2 p.2 (ff y n) else Y.2).2 u = if u = p.2 then (if Y.1 p.2 = 0 ∨ ff y n < Y.2 p.2 then ff y n else Y.2 p.2) else Y.2 u := fun u => by
          show (if Y.1 p.2 = 0 ∨ ff y n < Y.2 p.2 then upC Y.2 p.2 (ff y n) else Y.2) u = _
          by_cases c : Y.1 p.2 = 0 ∨ ff y n < Y.2 p.2
          · rw [if_pos c, if_pos c]; rfl
          · rw [if_neg c, if_neg c]
            by_cases e3 : u = p.2
            · rw [if_pos e3, e3]
            · rw [if_neg e3]
        generalize (upC Y.1 p.2 (Y.1 p.2 + W n), if Y.1 p.2 = 0 ∨ ff y n < Y.2 p.2 then upC Y.2 p.2 (ff y n) else Y.2) = V at n1 n2
        intro t
        rw [n1 t, n2 t]
        by_cases z : t = p.2
        · subst z
          have g2 : 0 < gN C q d k W y n p.2 := by
            rw [g1, if_pos rfl]; omega
          rw [if_pos rfl, if_pos rfl]
          refine ⟨fun _ => ?_, fun a s h1 h2 => ⟨by omega, ?_⟩⟩
          · by_cases c : Y.1 p.2 = 0 ∨ ff y n < Y.2 p.2
            · rw [if_pos c]
              exact ⟨y, n, Or.inr ⟨rfl, by omega⟩, g2, rfl⟩
            · rw [if_neg c]
              obtain ⟨a, s, h1, h2⟩ := (ih p.2).1 (by omega)
              exact ⟨a, s, by omega, h2⟩
          · have old : (a < y ∧ s < 64) ∨ (a = y ∧ s < n) ∨ (a = y ∧ s = n) := by omega
            by_cases c : Y.1 p.2 = 0 ∨ ff y n < Y.2 p.2
            · rw [if_pos c]
              rcases old with w | w | w
              · have := (ih p.2).2 a s (Or.inl w) h2
                omega
              · have := (ih p.2).2 a s (Or.inr w) h2
                omega
              · rw [w.1, w.2]; exact Nat.le_refl _
            · rw [if_neg c]
              rcases old with w | w | w
              · exact ((ih p.2).2 a s (Or.inl w) h2).2
              · exact ((ih p.2).2 a s (Or.inr w) h2).2
              · rw [w.1, w.2]; omega
        · rw [if_neg z, if_neg z]
          refine ⟨fun w => ?_, fun a s h1 h2 => ?_⟩
          · obtain ⟨a, s, h1, h2⟩ := (ih t).1 w
            exact ⟨a, s, by omega, h2⟩
          · refine (ih t).2 a s ?_ h2
            rcases h1 with w | w
            · exact Or.inl w
            · rcases Nat.lt_or_ge s n with v | v
              · exact Or.inr ⟨w.1, v⟩
              · have e2 : s = n := by omega
                rw [w.1, e2, g1, if_neg (Ne.symm z)] at h2
                omega
/-! the firsts, and what is counted of all rows -/
def FI (C : Nat → Nat) (q : Nat) (D : Nat → Int32) (j : Nat) (F : Nat → Nat) : Prop := ∀ t, 0 < WN C q D j t → (∃ pr, pr < (2 * C 0) ^ j ∧ 0 < hasM (pS C q D j pr) t ∧ pr / (2 * C 0) ^ (j - 1) = F t) ∧ ∀ pr, pr < (2 * C 0) ^ j → 0 < hasM (pS C q D j pr) t → F t ≤ pr / (2 * C 0) ^ (j - 1)
theorem FI_step {C : Nat → Nat} (hv : VC C) {q : Nat} {D : Nat → Int32} {j k : Nat} {F : Nat → Nat} {Z : (Nat → Nat) × (Nat → Nat)} (hk : (∃ s, s < 64 ∧ 0 < WN C q D j s) → nI k = soI C D j ∧ k < 64) (hF : 1 ≤ j → FI C q D j F) (hZ : FZ (fun a s => a < 2 * C 0 ∧ s < 64) (gN C q (D j) k (WN C q D j)) (fun y s => if j = 0 then y else F s) Z) (h1 : ∀ t, Z.1 t = WN C q D (j + 1) t) : FI C q D (j + 1) Z.2 := by
  have h06 := hv.1
  have hE : 0 < 2 * C 0 := by omega
  intro t ht
  rw [Nat.add_sub_cancel]
  have conv : ∀ y s, y < 2 * C 0 → s < 64 → 0 < gN C q (D j) k (WN C q D j) y s t → ∀ pr, pr < (2 * C 0) ^ j → 0 < hasM (pS C q D j pr) s → 0 < hasM (pS C q D (j + 1) (pr * (2 * C 0) + y)) t ∧ pr * (2 * C 0) + y < (2 * C 0) ^ (j + 1) := by
    intro y s hy hs hg pr hpr hm
    obtain ⟨so, e⟩ := (hasM_iff _ _).mp hm
    have ok := pS_ok hv j pr _ e
    have hw : 0 < WN C q D j s := (sumN_pos _).mpr ⟨pr, hpr, hm⟩
    have hkk := hk ⟨s, hs, hw⟩
    have ek : k = so := by
      have := hkk.1.trans ok.2.2.symm
      have h64 : so < 64 := ok.1
      rw [n_eq (by omega) (by omega)] at this
      exact this
    have d := dm_1 (i := pr) hy
    refine ⟨?_, ?_⟩
    · show 0 < hasM (stepS C q (D j) (pS C q D j ((pr * (2 * C 0) + y) / (2 * C 0))) ((pr * (2 * C 0) + y) % (2 * C 0))) t
      rw [d.1, d.2, e, ← ek]
      exact Nat.pos_of_ne_zero (fun z => by unfold gN at hg; rw [z, Nat.mul_zero] at hg; omega)
    · rw [Nat.pow_succ]
      have : (pr + 1) * (2 * C 0) ≤ (2 * C 0) ^ j * (2 * C 0) := Nat.mul_le_mul hpr (Nat.le_refl _)
      rw [Nat.succ_mul] at this
      omega
  have back : ∀ pr', pr' < (2 * C 0) ^ (j + 1) → 0 < hasM (pS C q D (j + 1) pr') t → ∃ s, s < 64 ∧ pr' / (2 * C 0) < (2 * C 0) ^ j ∧ 0 < hasM (pS C q D j (pr' / (2 * C 0))) s ∧ pr' % (2 * C 0) < 2 * C 0 ∧ 0 < gN C q (D j) k (WN C q D j) (pr' % (2 * C 0)) s t := by
    intro pr' hpr hm
    obtain ⟨so, e⟩ := (hasM_iff _ _).mp hm
    have e2 : stepS C q (D j) (pS C q D j (pr' / (2 * C 0))) (pr' % (2 * C 0)) = some (so, t) := e
    obtain ⟨p0, a1, a2, a3, a4⟩ := stepS_some e2
    have ok := pS_ok hv j _ p0 a1
    have hq : pr' / (2 * C 0) < (2 * C 0) ^ j := by
      rw [Nat.div_lt_iff_lt_mul hE, ← Nat.pow_succ]; exact hpr
    have hm2 : 0 < hasM (pS C q D j (pr' / (2 * C 0))) p0.2 := (hasM_iff _ _).mpr ⟨p0.1, a1⟩
    have hw : 0 < WN C q D j p0.2 := (sumN_pos _).mpr ⟨_, hq, hm2⟩
    have hkk := hk ⟨p0.2, ok.2.1, hw⟩
    have ek : k = p0.1 := by
      have := hkk.1.trans ok.2.2.symm
      rw [n_eq (by omega) (by omega)] at this
      exact this
    refine ⟨p0.2, ok.2.1, hq, hm2, Nat.mod_lt _ hE, ?_⟩
    unfold gN
    rw [ek]
    rw [a1] at e2
    exact Nat.mul_pos hw ((hasM_iff _ _).mpr ⟨so, e2⟩)
  have hdiv : ∀ pr' : Nat, 1 ≤ j → pr' / (2 * C 0) / (2 * C 0) ^ (j - 1) = pr' / (2 * C 0) ^ j := fun pr' hj => by
    rw [Nat.div_div_eq_div_mul, Nat.mul_comm, ← Nat.pow_succ, show (j - 1).succ = j by omega]
  constructor
  · obtain ⟨y, s, ⟨hy, hs⟩, hg, e⟩ := (hZ t).1 (by rw [h1]; exact ht)
    have hw : 0 < WN C q D j s := Nat.pos_of_ne_zero (fun z => by unfold gN at hg; rw [z, Nat.zero_mul] at hg; omega)
    rw [e]
    show ∃ pr, _ ∧ _ ∧ _ = (if j = 0 then y else F s)
    by_cases hj : j = 0
    · rw [if_pos hj]
      obtain ⟨pr, hpr, hm⟩ := (sumN_pos _).mp hw
      have c := conv y s hy hs hg pr hpr hm
      refine ⟨_, c.2, c.1, ?_⟩
      subst hj
      rw [Nat.pow_zero] at hpr
      rw [Nat.pow_zero, Nat.div_one, show pr = 0 by omega, Nat.zero_mul, Nat.zero_add]
    · rw [if_neg hj]
      obtain ⟨pr, hpr, hm, hf⟩ := (hF (by omega) s hw).1
      have c := conv y s hy hs hg pr hpr hm
      refine ⟨_, c.2, c.1, ?_⟩
      rw [← hdiv _ (by omega), (dm_1 (i := pr) hy).1]
      exact hf
  · intro pr' hpr hm
    obtain ⟨s, hs, hq, hm2, hy, hg⟩ := back pr' hpr hm
    have hw : 0 < WN C q D j s := (sumN_pos _).mpr ⟨_, hq, hm2⟩
    have z := ((hZ t).2 _ s ⟨hy, hs⟩ hg).2
    have z : Z.2 t ≤ (if j = 0 then pr' % (2 * C 0) else F s) := z
    by_cases hj : j = 0
    · rw [if_pos hj] at z
      subst hj
      rw [Nat.pow_zero, Nat.div_one]
      exact Nat.le_trans z (Nat.mod_le _ _)
    · rw [if_neg hj] at z
      have := (hF (by omega) s hw).2 _ hq hm2
      rw [hdiv _ (by omega)] at this
      exact Nat.le_trans z this
def fitN (C : Nat → Nat) (q : Nat) (D : Nat → Int32) (n : Nat) (pr : Nat) : Nat := if (pS C q D n pr).isSome = true then 1 else 0
/-- the least below N, if there is one -/
def lstN (f : Nat → Nat) : Nat → Option Nat
  | 0 => none
  | n + 1 => match lstN f n with
    | some r => some r
    | none => if 0 < f n then some n else none
theorem lstN_none {f : Nat → Nat} : ∀ n, lstN f n = none ↔ ∀ i, i < n → f i = 0
  | 0 => ⟨fun _ i h => absurd h (Nat.not_lt_zero i), fun _ => rfl⟩
  | n + 1 => by
    have ih := lstN_none (f := f) n
    have un : lstN f (n + 1) = (match lstN f n with | some r => some r | none => if 0 < f n then some n else none) := rfl
    rw [un]
    cases e : lstN f n with
    | some r =>
      constructor
      · intro h; cases h
      · intro h
        have := ih.mpr (fun i hi => h i (by omega))
        rw [e] at this; cases this
    | none =>
      have := ih.mp e
      by_cases z : 0 < f n
      · simp only [if_pos z]
        constructor
        · intro h; cases h
        · intro h
          have := h n (by omega)
          omega
      · simp only [if_neg z]
        refine ⟨fun _ i hi => ?_, fun _ => trivial⟩
        rcases Nat.lt_or_ge i n with w | w
        · exact this i w
        · rw [show i = n by omega]; omega
theorem lstN_some {f : Nat → Nat} {r : Nat} : ∀ n, lstN f n = some r → r < n ∧ 0 < f r ∧ ∀ i, i < r → f i = 0
  | 0, h => by cases h
  | n + 1, h => by
    have un : lstN f (n + 1) = (match lstN f n with | some r => some r | none => if 0 < f n then some n else none) := rfl
    rw [un] at h
    cases e : lstN f n with
    | some r2 =>
      rw [e] at h
      cases h
      have ih := lstN_some n e
      exact ⟨by omega, ih.2⟩
    | none =>
      rw [e] at h
      by_cases z : 0 < f n
      · simp only [if_pos z] at h
        cases h
        exact ⟨by omega, z, (lstN_none _).mp e⟩
      · simp only [if_neg z] at h
        cases h
def saidN (C : Nat → Nat) (q : Nat) (D : Nat → Int32) (n : Nat) : Nat := sumN ((2 * C 0) ^ n) (fitN C q D n)
def saidF (C : Nat → Nat) (q : Nat) (D : Nat → Int32) (n : Nat) : Int32 := match lstN (fitN C q D n) ((2 * C 0) ^ n) with
  | none => -1000000
  | some r => nI (r / (2 * C 0) ^ (n - 1))
theorem fitN_mask {C : Nat → Nat} (hv : VC C) {q : Nat} {D : Nat → Int32} {n pr : Nat} : sumN 64 (fun t => hasM (pS C q D n pr) t) = fitN C q D n pr := by
  have h := sumN_hasM (A := fun _ => 1) (pS C q D n pr) (fun p hp => (pS_ok hv n pr p hp).2.1)
  rw [sumN_cg 64 (g := fun t => hasM (pS C q D n pr) t) (fun i _ => Nat.mul_one _)] at h
  rw [h]
  unfold fitN atM
  cases pS C q D n pr <;> rfl
theorem WN_all {C : Nat → Nat} (hv : VC C) {q : Nat} {D : Nat → Int32} {n : Nat} : sumN 64 (WN C q D n) = saidN C q D n := by
  show sumN 64 (fun t => sumN ((2 * C 0) ^ n) (fun pr => hasM (pS C q D n pr) t)) = _
  rw [sumN_comm (f := fun t pr => hasM (pS C q D n pr) t)]
  exact sumN_cg _ (fun pr _ => fitN_mask hv)
theorem fitN_pos {C : Nat → Nat} (hv : VC C) {q : Nat} {D : Nat → Int32} {n pr : Nat} : 0 < fitN C q D n pr ↔ ∃ t, t < 64 ∧ 0 < hasM (pS C q D n pr) t := by
  rw [← fitN_mask hv]
  exact sumN_pos 64
/-- the least first of the masks that have ways is the first of the least row -/
def minR (W F : Nat → Nat) (k : Nat) (v : Int32) : Prop := (v = -1000000 ∧ ∀ t, t < k → W t = 0) ∨ ∃ t, t < k ∧ 0 < W t ∧ v = nI (F t) ∧ ∀ u, u < k → 0 < W u → F t ≤ F u
theorem minR_said {C : Nat → Nat} (hv : VC C) {q : Nat} {D : Nat → Int32} {n : Nat} {F : Nat → Nat} (hF : FI C q D n F) {v : Int32} (h : minR (WN C q D n) F 64 v) : v = saidF C q D n := by
  unfold saidF
  cases e : lstN (fitN C q D n) ((2 * C 0) ^ n) with
  | none =>
    have h0 := (lstN_none _).mp e
    rcases h with ⟨h1, -⟩ | ⟨t, ht, hw, -, -⟩
    · exact h1
    · obtain ⟨pr, hpr, hm⟩ := (sumN_pos _).mp hw
      have := (fitN_pos hv).mpr ⟨t, ht, hm⟩
      rw [h0 pr hpr] at this
      omega
  | some r =>
    obtain ⟨hr, hf, hl⟩ := lstN_some _ e
    obtain ⟨u, hu, hm⟩ := (fitN_pos hv).mp hf
    have hwu : 0 < WN C q D n u := (sumN_pos _).mpr ⟨r, hr, hm⟩
    rcases h with ⟨-, h2⟩ | ⟨t, ht, hw, h3, h4⟩
    · have := h2 u hu
      omega
    · obtain ⟨pr, hpr, hmp, hfp⟩ := (hF t hw).1
      have a := h4 u hu hwu
      have b := (hF u hwu).2 r hr hm
      have c : r ≤ pr := by
        rcases Nat.lt_or_ge pr r with z | z
        · have := (fitN_pos hv).mpr ⟨t, ht, hmp⟩
          rw [hl pr z] at this
          omega
        · exact z
      have d : r / (2 * C 0) ^ (n - 1) ≤ pr / (2 * C 0) ^ (n - 1) := Nat.div_le_div_right c
      show v = nI (r / (2 * C 0) ^ (n - 1))
      rw [h3, show F t = r / (2 * C 0) ^ (n - 1) by omega]
theorem WN_0 (C : Nat → Nat) (q : Nat) (D : Nat → Int32) (t : Nat) : WN C q D 0 t = if C 5 = t then 1 else 0 := by
  unfold WN
  rw [Nat.pow_zero]
  show 0 + hasM (some (C 1, C 5)) t = _
  rw [Nat.zero_add]
  rfl
theorem WN_le (C : Nat → Nat) (q : Nat) (D : Nat → Int32) (j t : Nat) : WN C q D j t ≤ (2 * C 0) ^ j := by
  have := sumN_le (f := fun pr => hasM (pS C q D j pr) t) 1 ((2 * C 0) ^ j) (fun i _ => hasM_le _ _)
  rw [Nat.mul_one] at this
  exact this
