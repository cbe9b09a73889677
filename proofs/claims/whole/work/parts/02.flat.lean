/-! FLAT MEMORY. The objects of the class and of the reference, once made, lie at fixed numbers (indices); ints live in one table
    (index, place); the few references that change in a second one; lengths of the arrays that are made later in a third. -/
abbrev AV : Type := Int32 ⊕ (Int64 ⊕ (Nat × Nat))
abbrev vi (x : Int32) : AV := .inl x
abbrev vl (x : Int64) : AV := .inr (.inl x)
/-- a reference: the tag (what kind of thing), the index -/
abbrev vr (t i : Nat) : AV := .inr (.inr (t, i))
abbrev AM : Type := (Nat → Nat → Int32) × ((Nat → Nat → Nat) × ((Nat → Nat) × Nat))
def cvA (ad : Nat → Nat) (v : AV) : Value := match v with
  | .inl x => .int x
  | .inr (.inl x) => .long x
  | .inr (.inr q) => .ref (ad q.2)
/-- the tags of the fixed indices. 0..11 the classes of vwCl; 12 an int[] of its own length; 13 Standing[24]; 14 Image[2]; 15 int[8][]; 100 + n an int[n]; 20000 + n a boolean[n] -/
def KDl : List Nat := [10, 6, 15, 140, 140, 140, 140, 140, 140, 140, 140, 108, 108, 9, 5, 108, 108, 108, 105, 220, 2, 5, 108, 108, 108, 105, 8, 105, 106, 106, 164, 0, 13] ++ (List.range 24).flatMap (fun _ => [8, 105]) ++ [14, 4, 5, 108, 108, 108, 105, 8, 105, 4, 5, 108, 108, 108, 105, 8, 105, 7, 105, 12, 12, 12, 3, 12, 12, 12, 12, 1, 116, 11, 108, 108, 420, 150, 150, 1300, 220, 4196, 4196, 24096, 4197, 20002, 200, 116]
def KD (i : Nat) : Nat := KDl.getD i 12
def nS : Nat := 125
/-- the fields of an object: f its ints, g its changing references, i its index -/
def flds (ad : Nat → Nat) (f : Nat → Int32) (g : Nat → Nat) (t i : Nat) : List Value := match t with
  | 0 => [.ref (ad (i + 1)), .int (f 1), .int (f 2)]
  | 1 => [.ref (ad (i + 1)), .int (f 1)]
  | 2 => [.ref (ad (i + 1)), .ref (ad (i + 6)), .ref (ad (i + 8)), .ref (ad (i + 9)), .ref (ad (i + 10))]
  | 3 => [.ref (ad (g 0)), .ref (ad (g 1)), .ref (ad (g 2)), .ref (ad (g 3))]
  | 4 => [.ref (ad (i + 1)), .ref (ad (i + 6)), .int (f 2)]
  | 5 => [.ref (ad (i + 1)), .ref (ad (i + 2)), .ref (ad (i + 3)), .ref (ad (i + 4)), .int (f 4), .int (f 5), .int (f 6), .int (f 7), .int (f 8)]
  | 6 => [.ref (ad (i + 1)), .ref (ad (i + 10)), .ref (ad (i + 11))]
  | 7 => [.ref (ad (i + 1)), .ref (ad (g 1)), .ref (ad (g 2)), .ref (ad (g 3)), .int (f 4), .int (f 5), .int (f 6), .int (f 7), .int (f 8), .int (f 9), .int (f 10), .int (f 11), .int (f 12), .int (f 13)]
  | 8 => [.ref (ad (i + 1)), .int (f 1), .int (f 2), .int (f 3), .int (f 4), .int (f 5)]
  | 9 => [.ref (ad (i + 1)), .ref (ad (i + 6)), .int (f 2), .int (f 3), .int (f 4), .int (f 5), .int (f 6), .int (f 7), .int (f 8)]
  | 10 => [.ref (ad (i + 1)), .ref (ad (i + 13)), .ref (ad (i + 20)), .ref (ad (i + 31)), .ref (ad (i + 81)), .ref (ad (i + 98)), .ref (ad (i + 103)), .ref (ad (i + 108)), .int (f 8)]
  | _ => [.int (f 0), .int (f 1), .ref (ad (i + 1)), .ref (ad (i + 2)), .ref (ad (i + 3)), .ref (ad (i + 4)), .ref (ad (i + 5)), .ref (ad (i + 6)), .int (f 8), .ref (ad (i + 7)), .int (f 10), .int (f 11), .int (f 12), .int (f 13), .int (f 14), .int (f 15), .int (f 16), .int (f 17), .ref (ad (i + 8)), .ref (ad (i + 9)), .ref (ad (i + 10)), .ref (ad (i + 11)), .int (f 22), .int (f 23), .ref (ad (i + 12)), .ref (ad (i + 13)), .ref (ad (i + 14)), .int (f 27)]
/-- what the cell of index i holds -/
def celT (Y : Nat → ClassId) (ad : Nat → Nat) (f : Nat → Int32) (g : Nat → Nat) (n t i : Nat) : va_E :=
  if t < 12 then .inr (t, flds ad f g t i)
  else if t = 12 then .inl (Y 0, n, .inl f)
  else if t = 13 then .inl (Y 3, 24, .inr (.inr (.inr (.inr (fun j => if j < 24 then some (ad (i + 1 + 2 * j)) else none)))))
  else if t = 14 then .inl (Y 2, 2, .inr (.inr (.inr (.inr (fun j => if j < 2 then some (ad (i + 1 + 8 * j)) else none)))))
  else if t = 15 then .inl (Y 4, 8, .inr (.inr (.inr (.inr (fun j => if j < 8 then some (ad (i + 1 + j)) else none)))))
  else if t < 20000 then .inl (Y 0, t - 100, .inl f)
  else .inl (Y 1, t - 20000, .inl f)
def cel (Y : Nat → ClassId) (ad : Nat → Nat) (m : AM) (i : Nat) : va_E := celT Y ad (m.1 i) (m.2.1 i) (m.2.2.1 i) (KD i) i
def wsO (Y : Nat → ClassId) (ad : Nat → Nat) (m : AM) : va_W := (List.range m.2.2.2).map (fun i => (ad i, cel Y ad m i))
def tysO (Y : Nat → ClassId) : List (ClassId × FieldType) := [(Y 0, .int), (Y 1, .boolean), (Y 2, .object "BelievedWords$Image"), (Y 3, .object "BelievedWords$Standing"), (Y 4, .array .int)]
theorem wsO_get {Y : Nat → ClassId} {ad : Nat → Nat} {m : AM} {i : Nat} (h : i < m.2.2.2) : (wsO Y ad m)[i]? = some (ad i, cel Y ad m i) := by
  simp [wsO, h]
theorem wsO_len {Y : Nat → ClassId} {ad : Nat → Nat} {m : AM} : (wsO Y ad m).length = m.2.2.2 := by simp [wsO]
def mset (m : AM) (i j : Nat) (x : Int32) : AM := (fun a b => if a = i then (if b = j then x else m.1 a b) else m.1 a b, m.2)
def rset (m : AM) (i j : Nat) (x : Nat) : AM := (m.1, (fun a b => if a = i then (if b = j then x else m.2.1 a b) else m.2.1 a b, m.2.2))
theorem mset_2 (m : AM) (i j : Nat) (x : Int32) : (mset m i j x).2 = m.2 := rfl
theorem mset_at (m : AM) (i j : Nat) (x : Int32) (b : Nat) : (mset m i j x).1 i b = if b = j then x else m.1 i b := by simp [mset]
theorem mset_ne (m : AM) {i a : Nat} (j : Nat) (x : Int32) (h : a ≠ i) : (mset m i j x).1 a = m.1 a := by funext b; simp [mset, h]
theorem mset_upd (m : AM) (i j : Nat) (x : Int32) : (mset m i j x).1 i = upd (m.1 i) j x := by funext b; simp [mset, upd]
theorem wsO_set {Y : Nat → ClassId} {ad : Nat → Nat} {m m' : AM} {i : Nat} {e : va_E} (hn : m'.2.2.2 = m.2.2.2) (he : cel Y ad m' i = e) (ho : ∀ a, a ≠ i → cel Y ad m' a = cel Y ad m a) : (wsO Y ad m).set i (ad i, e) = wsO Y ad m' := by
  apply List.ext_getElem?
  intro k
  by_cases hk : k < m.2.2.2
  · rw [wsO_get (by rw [hn]; exact hk)]
    by_cases h : k = i
    · subst h
      rw [List.getElem?_set_self (by rw [wsO_len]; exact hk), he]
    · rw [List.getElem?_set_ne (Ne.symm h), wsO_get hk, ho k h]
  · rw [List.getElem?_eq_none (by rw [List.length_set, wsO_len]; omega), List.getElem?_eq_none (by rw [wsO_len, hn]; omega)]
theorem cel_mset_ne {Y : Nat → ClassId} {ad : Nat → Nat} {m : AM} {i a : Nat} (j : Nat) (x : Int32) (h : a ≠ i) : cel Y ad (mset m i j x) a = cel Y ad m a := by
  unfold cel
  rw [mset_ne m j x h]
  rfl
theorem cel_rset_ne {Y : Nat → ClassId} {ad : Nat → Nat} {m : AM} {i a : Nat} (j x : Nat) (h : a ≠ i) : cel Y ad (rset m i j x) a = cel Y ad m a := by
  unfold cel
  have e : (rset m i j x).2.1 a = m.2.1 a := by funext b; simp [rset, h]
  rw [e]
  rfl
/-- a value is of its tag -/
def wt (m : AM) (v : AV) : Prop := match v with
  | .inr (.inr q) => KD q.2 = q.1 ∧ q.2 < m.2.2.2
  | _ => True
def TY (m : AM) : Prop := nS ≤ m.2.2.2 ∧ ∀ i k, KD (m.2.1 i k) = 12 ∧ m.2.1 i k < m.2.2.2
theorem wt_i (m : AM) (x : Int32) : wt m (vi x) := trivial
theorem wt_l (m : AM) (x : Int64) : wt m (vl x) := trivial
theorem TY.mset {m : AM} {i j : Nat} {x : Int32} (h : TY m) : TY (mset m i j x) := h
theorem wt.mset {m : AM} {i j : Nat} {x : Int32} {v : AV} (h : wt m v) : wt (mset m i j x) v := h
/-- the tables' words that outlive a call -/
def TB : List Cond := lw_tbl.filter goodWord
theorem tb_of {w : Cond} (i : Nat) (h : lw_tbl[i]? = some w) (g : goodWord w = true) : w ∈ TB := List.mem_filter.mpr ⟨List.mem_of_getElem? h, g⟩
theorem tb_good : GoodIn TB TB := fun w h => ⟨h, good_of_word (List.mem_filter.mp h).2⟩
/-- a method: its code, its class, its locals, what it gives, how many cells and slots it may make, how deep it calls -/
abbrev ME : Type := ByteArray × (String × (Nat × (Option FieldType × (Nat × (Nat × Nat)))))
def rmD (d mc ms : Nat) : Room := { frames := d, cells := mc, slots := ms, locals := 64 * d }
/-- the one word on a nest mate's private field (Tape.length, read by count) -/
def NWw : Cond := Cond.fieldLinkNest "BelievedWords" 323 "BelievedWords$Tape" "length" "I" "BelievedWords"
theorem nw_up {s U : State} (hW : s.WarmedH U.vm) (h : va_Nw NWw s) : va_Nw NWw U := va_Nw.warmF hW h
/-- the three static tables of Asks -/
def stN (k : Nat) : String := match k with | 0 => "PARENTS" | 1 => "SIZES" | _ => "MARKS"
def stV (k j : Nat) : Nat := match k with | 0 => [0, 0, 1, 1, 0, 4].getD j 0 | 1 => [10, 11, 12, 11, 13, 14].getD j 0 | _ => [20, 21, 24, 22, 23, 23].getD j 0
def STT (A : Nat → Prop) (U : State) : Prop := ∃ t : Nat → Nat, ∀ k, k < 3 → va_Z "BelievedWords$Asks" (stN k) "[I" (.ref (t k)) A U U.heap ∧ va_T .int (t k) 6 (fun j => .int (Int32.ofNat (stV k j))) A U U.heap
theorem STT.up {A Bq : Nat → Prop} {s t : State} (h : STT A s) (ha : s.vm.Alike t.vm) (hq : ∀ a : Nat, a < s.heap.size → ¬ A a → t.heap[a]? = s.heap[a]?) (hAB : ∀ q, Bq q → A q) : STT Bq t := by
  obtain ⟨r, h⟩ := h
  exact ⟨r, fun k hk => ⟨((va_Z.moved ha (h k hk).1).kept hq).narrow hAB, ((va_T.moved ha (h k hk).2).kept hq).narrow hAB⟩⟩
/-- the world of a state -/
def Wd (G : va_G × (Nat → ClassId)) (ad : Nat → Nat) (m : AM) (U : State) : Prop := va_P G.1 vwCl (wsO G.2 ad m) U.heap ∧ va_K G.1 vwCl (tysO G.2) U ∧ va_Nw NWw U ∧ STT (va_A (wsO G.2 ad m) U.heap.size) U
/-- what a method's end says -/
def Qg (G : va_G × (Nat → ClassId)) (ad0 : Nat → Nat) (nx0 : Nat) (A : Nat → Prop) (Φ : Option AV → AM → Prop) : Array Value → State → Outcome → State → Prop := fun _ st oc t =>
  (∃ (r : Option AV) (m : AM) (ad : Nat → Nat), oc = .returned (r.map (cvA ad)) ∧ Φ r m ∧ (∀ v, r = some v → wt m v) ∧ TY m ∧ Wd G ad m t ∧ va_D A (wsO G.2 ad m) ∧ nx0 ≤ m.2.2.2 ∧ ∀ i, i < nx0 → ad i = ad0 i) ∧ va_F A st t
/-- the machine stands in the method -/
def OkM (E : ME) (p : Program) (R : Room) (s : State) (mi : MethodId) (args : Array Value) (meth : Method) (c : Code) : Prop :=
  p.tables.exec = Jvm.exec ∧ c.code = E.1 ∧ c.maxLocals = E.2.2.1 ∧ meth.sig.returnType = E.2.2.2.1 ∧ s.vm.findClass E.2.1 = some mi.cls ∧ (∀ w ∈ TB, w.before args s = true) ∧ meth.locks = false ∧ R = rmD E.2.2.2.2.2.2 E.2.2.2.2.1 E.2.2.2.2.2.1 ∧ va_Nw NWw s
/-- the world is as the flat memory says -/
def InM (G : va_G × (Nat → ClassId)) (ad0 : Nat → Nat) (nx0 : Nat) (A : Nat → Prop) (ad : Nat → Nat) (m : AM) (s : State) (H : Heap) (locs : List Loc) : Prop :=
  va_K G.1 vwCl (tysO G.2) s ∧ va_P G.1 vwCl (wsO G.2 ad m) H ∧ va_D A (wsO G.2 ad m) ∧ va_S A s.heap H locs ∧ ((∀ q, s.heap.size ≤ q → A q) ∧ STT A s) ∧ (∀ i, i < nx0 → ad i = ad0 i) ∧ nx0 ≤ m.2.2.2 ∧ TY m
/-- the locals: none where nothing is known -/
def LHm (ad : Nat → Nat) (m : AM) (ls : Array Slot) (nL : Nat) (L : List (Option AV)) : Prop := ls.size = nL ∧ lv_wf ls ∧ ∀ (k : Nat) (v : AV), L[k]? = some (some v) → ls[k]? = some (.val (cvA ad v)) ∧ wt m v
/-- from pc on, with locals L, stack st, memory m, room a used, the method ends with Φ -/
def B (E : ME) (Φ : Option AV → AM → Prop) (pc : Nat) (L : List (Option AV)) (st : List AV) (m : AM) (a : Nat × Nat) : Prop :=
  ∀ (p : Program) (l : Launch) (e : Env) (R : Room) (s : State) (mi : MethodId) (args : Array Value) (below : List Frame) (meth : Method) (c : Code) (G : va_G × (Nat → ClassId)) (ad0 : Nat → Nat) (nx0 : Nat) (A : Nat → Prop) (ad : Nat → Nat) (H : Heap) (locs : List Loc) (ls : Array Slot),
    OkM E p R s mi args meth c → InM G ad0 nx0 A ad m s H locs → LHm ad m ls E.2.2.1 L → (∀ v, v ∈ st → wt m v) →
      W p l e R s mi args below meth c H locs a.1 a.2 (MQ below (Qg G ad0 nx0 A Φ) args s E.2.2.2.2.1 E.2.2.2.2.2.1 A) (F0 mi pc ls (st.map (cvA ad)))
/-- a method keeps its word: from every world and every args of which Sp says Φ -/
def Snd (y : MethodName) (E : ME) (Sp : List AV → AM → (Option AV → AM → Prop) → Prop) : Prop :=
  ∀ (l : Launch) (G : va_G × (Nat → ClassId)) (ad : Nat → Nat) (m : AM) (av : List AV) (Φ : Option AV → AM → Prop) (sz : Nat), Sp av m Φ → (∀ v, v ∈ av → wt m v) → TY m →
    Met l y (Cond.code y E.1 E.2.2.1 E.2.2.2.1 :: TB) (rmD E.2.2.2.2.2.2 E.2.2.2.2.1 E.2.2.2.2.2.1) (va_Pc (av.map (cvA ad)) (fun U => U.heap.size = sz ∧ Wd G ad m U ∧ va_D (fun _ => True) (wsO G.2 ad m))) (Qg G ad m.2.2.2 (va_A (wsO G.2 ad m) sz) Φ) E.2.2.2.2.1 E.2.2.2.2.2.1 (va_A (wsO G.2 ad m) sz)
/-- the locals at the start -/
def L0 : List AV → List (Option AV)
  | [] => []
  | v :: vs => match v with
    | .inr (.inl _) => some v :: none :: L0 vs
    | _ => some v :: L0 vs
theorem cvA_cat (ad : Nat → Nat) (v : AV) : (cvA ad v).category = (match v with | .inr (.inl _) => 2 | _ => 1) := by
  rcases v with x | x | q <;> rfl
theorem L0_args (ad : Nat → Nat) : ∀ (av : List AV) (i k : Nat) (v : AV), (L0 av)[k]? = some (some v) → (i + k, cvA ad v) ∈ lv_args i (av.map (cvA ad)) ∧ v ∈ av
  | [], i, k, v, h => by simp [L0] at h
  | w :: ws, i, k, v, h => by
    rcases w with x | x | q
    · simp only [L0] at h
      cases k with
      | zero => simp at h; subst h; exact ⟨by simp [lv_args], by simp⟩
      | succ k =>
        have h2 := L0_args ad ws (i + 1) k v (by simpa using h)
        refine ⟨?_, List.mem_cons_of_mem _ h2.2⟩
        simp only [List.map_cons, lv_args]
        rw [if_neg (by rw [cvA_cat]; simp)]
        exact List.mem_cons_of_mem _ (by rw [show i + (k + 1) = i + 1 + k by omega]; exact h2.1)
    · simp only [L0] at h
      cases k with
      | zero => simp at h; subst h; exact ⟨by simp [lv_args], by simp⟩
      | succ k =>
        cases k with
        | zero => simp at h
        | succ k =>
          have h2 := L0_args ad ws (i + 2) k v (by simpa using h)
          refine ⟨?_, List.mem_cons_of_mem _ h2.2⟩
          simp only [List.map_cons, lv_args]
          rw [if_pos (by rw [cvA_cat])]
          exact List.mem_cons_of_mem _ (by rw [show i + (k + 1 + 1) = i + 2 + k by omega]; exact h2.1)
    · simp only [L0] at h
      cases k with
      | zero => simp at h; subst h; exact ⟨by simp [lv_args], by simp⟩
      | succ k =>
        have h2 := L0_args ad ws (i + 1) k v (by simpa using h)
        refine ⟨?_, List.mem_cons_of_mem _ h2.2⟩
        simp only [List.map_cons, lv_args]
        rw [if_neg (by rw [cvA_cat]; simp)]
        exact List.mem_cons_of_mem _ (by rw [show i + (k + 1) = i + 1 + k by omega]; exact h2.1)
def argW (av : List AV) : Nat := (L0 av).length
theorem argW_eq (ad : Nat → Nat) : ∀ av : List AV, (lg_sl (av.map (cvA ad))).length = argW av
  | [] => rfl
  | v :: vs => by
    have h := argW_eq ad vs
    unfold argW at h ⊢
    unfold lg_sl at h ⊢
    rcases v with x | x | q
    · simp only [List.map_cons, List.flatMap_cons, List.length_append, L0, List.length_cons, h]
      rw [if_neg (by rw [cvA_cat]; simp)]
      simp; omega
    · simp only [List.map_cons, List.flatMap_cons, List.length_append, L0, List.length_cons, h]
      rw [if_pos (by rw [cvA_cat])]
      simp; omega
    · simp only [List.map_cons, List.flatMap_cons, List.length_append, L0, List.length_cons, h]
      rw [if_neg (by rw [cvA_cat]; simp)]
      simp; omega
/-- the locals at the start, filled up with none -/
def L0p (n : Nat) (av : List AV) : List (Option AV) := L0 av ++ List.replicate (n - (L0 av).length) none
theorem L0p_at {n : Nat} {av : List AV} {k : Nat} {v : AV} (h : (L0p n av)[k]? = some (some v)) : (L0 av)[k]? = some (some v) := by
  unfold L0p at h
  by_cases hk : k < (L0 av).length
  · rw [List.getElem?_append_left hk] at h
    exact h
  · rw [List.getElem?_append_right (by omega)] at h
    have := List.eq_of_mem_replicate (List.mem_of_getElem? h)
    cases this
/-- a method's word, from its walk -/
theorem Snd.of {y : MethodName} {E : ME} {Sp : List AV → AM → (Option AV → AM → Prop) → Prop} (hy : plainName y.cls = true) (how : y.cls = E.2.1) (hl : ∀ av m Φ, Sp av m Φ → argW av ≤ E.2.2.1)
    (h : ∀ av m Φ, Sp av m Φ → (∀ v, v ∈ av → wt m v) → TY m → B E Φ 0 (L0p E.2.2.1 av) [] m (0, 0)) : Snd y E Sp := by
  intro l G ad m av Φ sz hsp hav hty
  refine Met.ofW (cc := E.1) (maxL := E.2.2.1) (ret := E.2.2.2.1) hy rfl ?_
  intro p e s mi args below meth c s₁ Bd hml hv
  obtain ⟨rfl, hsz, ⟨hP, hK, hNw, hST⟩, hD0⟩ := hv
  have hts := atoms_spec (ws := (Cond.code y E.1 E.2.2.1 E.2.2.2.1 :: TB)) Bd.pre
  have hown : s.vm.findClass y.cls = some mi.cls := findClass_of_methodNamed Bd.named
  subst hsz
  have hD := hD0.self (sz := s.heap.size)
  have hA : ∀ q : Nat, s.heap.size ≤ q → va_A (wsO G.2 ad m) s.heap.size q := fun q h => Or.inr h
  have hle : (lg_sl (av.map (cvA ad))).length ≤ E.2.2.1 := by rw [argW_eq]; exact hl av m Φ hsp
  have hl0 := lv_entry (av.map (cvA ad)) (n := E.2.2.1) hle
  rw [lg_entry_eq]
  generalize (lg_sl (av.map (cvA ad)) ++ List.replicate (E.2.2.1 - (lg_sl (av.map (cvA ad))).length) Slot.unset).toArray = ls at hl0 ⊢
  refine h av m Φ hsp hav hty p l e _ s mi _ below meth c G ad m.2.2.2 (va_A (wsO G.2 ad m) s.heap.size) ad s.heap [] ls ⟨Bd.exec, Bd.bytes, hml, Bd.returns, by rw [← how]; exact hown, fun w hw => hts w (List.mem_cons_of_mem _ hw), Bd.notSynchronized, rfl, hNw⟩ ⟨hK, hP, hD, va_S.rf, ⟨hA, hST⟩, fun _ _ => rfl, Nat.le_refl _, hty⟩ ⟨hl0.1, hl0.2.1, fun k v hk => ?_⟩ (by simp)
  have h3 := L0_args ad av 0 k v (L0p_at hk)
  rw [Nat.zero_add] at h3
  exact ⟨hl0.2.2 _ h3.1, hav v h3.2⟩
