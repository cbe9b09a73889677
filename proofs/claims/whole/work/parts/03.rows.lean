/-! ROWS over the flat memory, an instruction each: what is left to show behind it. -/
theorem sw_tl {m : AM} {v : AV} {st : List AV} (h : ∀ w, w ∈ v :: st → wt m w) : ∀ w, w ∈ st → wt m w := fun w hw => h w (List.mem_cons_of_mem _ hw)
theorem sw_i {m : AM} {st : List AV} {x : Int32} (h : ∀ w, w ∈ st → wt m w) : ∀ w, w ∈ vi x :: st → wt m w := fun w hw => by
  rcases List.mem_cons.mp hw with e | e
  · subst e; trivial
  · exact h w e
theorem sw_l {m : AM} {st : List AV} {x : Int64} (h : ∀ w, w ∈ st → wt m w) : ∀ w, w ∈ vl x :: st → wt m w := fun w hw => by
  rcases List.mem_cons.mp hw with e | e
  · subst e; trivial
  · exact h w e
theorem sw_c {m : AM} {st : List AV} {v : AV} (hv : wt m v) (h : ∀ w, w ∈ st → wt m w) : ∀ w, w ∈ v :: st → wt m w := fun w hw => by
  rcases List.mem_cons.mp hw with e | e
  · subst e; exact hv
  · exact h w e
theorem LHm.lv {ad : Nat → Nat} {m : AM} {ls : Array Slot} {nL : Nat} {L : List (Option AV)} (h : LHm ad m ls nL L) : lv_has ls nL ((List.range L.length).filterMap (fun k => (L[k]?.join).map (fun v => (k, cvA ad v)))) := by
  refine ⟨h.1, h.2.1, fun q hq => ?_⟩
  obtain ⟨k, hk, e⟩ := List.mem_filterMap.mp hq
  cases hL : L[k]? with
  | none => rw [hL] at e; simp at e
  | some o =>
    cases o with
    | none => rw [hL] at e; simp at e
    | some v =>
      rw [hL] at e
      simp at e
      subst e
      exact (h.2.2 k v hL).1
theorem lv_mem {ad : Nat → Nat} {L : List (Option AV)} {k : Nat} {v : AV} (h : L[k]? = some (some v)) : (k, cvA ad v) ∈ (List.range L.length).filterMap (fun k => (L[k]?.join).map (fun v => (k, cvA ad v))) :=
  List.mem_filterMap.mpr ⟨k, List.mem_range.mpr (List.getElem?_eq_some_iff.mp h).1, by rw [h]; rfl⟩
/-- no long stands just ahead of place i -/
def noL (L : List (Option AV)) (i : Nat) : Prop := ∀ k x, k + 1 = i → L[k]? ≠ some (some (vl x))
theorem LHm.put {ad : Nat → Nat} {m : AM} {ls ls' : Array Slot} {nL i : Nat} {L : List (Option AV)} {v : AV} (h : LHm ad m ls nL L) (hn : noL L i) (hv : wt m v)
    (h' : lv_has ls' nL ((i, cvA ad v) :: ((List.range L.length).filterMap (fun k => (L[k]?.join).map (fun v => (k, cvA ad v)))).filter (fun q => !(q.1 == i) && !(q.1 + 1 == i && q.2.category == 2)))) : LHm ad m ls' nL (L.set i (some v)) := by
  refine ⟨h'.1, h'.2.1, fun k w hk => ?_⟩
  by_cases e : k = i
  · subst e
    have : k < L.length := by
      have := (List.getElem?_eq_some_iff.mp hk).1
      simpa using this
    rw [List.getElem?_set_self this] at hk
    cases hk
    exact ⟨h'.2.2 _ List.mem_cons_self, hv⟩
  · rw [List.getElem?_set_ne (Ne.symm e)] at hk
    refine ⟨h'.2.2 (k, cvA ad w) (List.mem_cons_of_mem _ (List.mem_filter.mpr ⟨lv_mem hk, ?_⟩)), (h.2.2 k w hk).2⟩
    simp only [Bool.and_eq_true, Bool.not_eq_true', beq_eq_false_iff_ne, ne_eq]
    refine ⟨e, ?_⟩
    rcases w with x | x | q
    · simp [cvA_cat]
    · have : k + 1 ≠ i := fun e2 => hn k x e2 hk
      simp [this]
    · simp [cvA_cat]
theorem LHm.putL {ad : Nat → Nat} {m : AM} {ls ls' : Array Slot} {nL i : Nat} {L : List (Option AV)} {x : Int64} (h : LHm ad m ls nL L) (hn : noL L i)
    (h' : lv_has ls' nL ((i, cvA ad (vl x)) :: ((List.range L.length).filterMap (fun k => (L[k]?.join).map (fun v => (k, cvA ad v)))).filter (fun q => !(q.1 == i) && (!(q.1 == i + 1) && !(q.1 + 1 == i && q.2.category == 2))))) : LHm ad m ls' nL ((L.set i (some (vl x))).set (i + 1) none) := by
  refine ⟨h'.1, h'.2.1, fun k w hk => ?_⟩
  by_cases e1 : k = i + 1
  · subst e1
    by_cases hlt : i + 1 < L.length
    · rw [List.getElem?_set_self (by simpa using hlt)] at hk
      cases hk
    · rw [List.getElem?_eq_none (by simp; omega)] at hk
      cases hk
  · rw [List.getElem?_set_ne (Ne.symm e1)] at hk
    by_cases e : k = i
    · subst e
      have : k < L.length := by
        have := (List.getElem?_eq_some_iff.mp hk).1
        simpa using this
      rw [List.getElem?_set_self this] at hk
      cases hk
      exact ⟨h'.2.2 _ List.mem_cons_self, trivial⟩
    · rw [List.getElem?_set_ne (Ne.symm e)] at hk
      refine ⟨h'.2.2 (k, cvA ad w) (List.mem_cons_of_mem _ (List.mem_filter.mpr ⟨lv_mem hk, ?_⟩)), (h.2.2 k w hk).2⟩
      simp only [Bool.and_eq_true, Bool.not_eq_true', beq_eq_false_iff_ne, ne_eq]
      refine ⟨e, e1, ?_⟩
      rcases w with y | y | q
      · simp [cvA_cat]
      · have : k + 1 ≠ i := fun e2 => hn k y e2 hk
        simp [this]
      · simp [cvA_cat]
theorem TY.nx {m : AM} (h : TY m) : 125 ≤ m.2.2.2 := h.1
/-- the flat world read, object or array -/
theorem InM.cell {G : va_G × (Nat → ClassId)} {ad0 : Nat → Nat} {nx0 : Nat} {A : Nat → Prop} {ad : Nat → Nat} {m : AM} {s : State} {H : Heap} {locs : List Loc} (_h : InM G ad0 nx0 A ad m s H locs) {t i : Nat} (hw : wt m (vr t i)) :
    (wsO G.2 ad m)[i]? = some (ad i, celT G.2 ad (m.1 i) (m.2.1 i) (m.2.2.1 i) t i) := by
  rw [wsO_get hw.2]
  unfold cel
  rw [hw.1]
theorem InM.setw {G : va_G × (Nat → ClassId)} {ad0 : Nat → Nat} {nx0 : Nat} {A : Nat → Prop} {ad : Nat → Nat} {m m' : AM} {s : State} {H H1 : Heap} {locs locs1 : List Loc} (h : InM G ad0 nx0 A ad m s H locs) {i : Nat} {e : va_E} (hn : m'.2.2.2 = m.2.2.2) (he : cel G.2 ad m' i = e) (ho : ∀ a, a ≠ i → cel G.2 ad m' a = cel G.2 ad m a) (hty : TY m')
    (hP : va_P G.1 vwCl ((wsO G.2 ad m).set i (ad i, e)) H1) (hD : va_D A ((wsO G.2 ad m).set i (ad i, e))) (hS : va_S A s.heap H1 locs1) : InM G ad0 nx0 A ad m' s H1 locs1 := by
  rw [wsO_set hn he ho] at hP hD
  exact ⟨h.1, hP, hD, hS, h.2.2.2.2.1, h.2.2.2.2.2.1, by rw [hn]; exact h.2.2.2.2.2.2.1, hty⟩
theorem InM.stt {G : va_G × (Nat → ClassId)} {ad0 : Nat → Nat} {nx0 : Nat} {A : Nat → Prop} {ad : Nat → Nat} {m : AM} {s : State} {H : Heap} {locs : List Loc} (h : InM G ad0 nx0 A ad m s H locs) {t : State} (ht : t.heap = H) (ha : s.vm.Alike t.vm) : STT (va_A (wsO G.2 ad m) t.heap.size) t := by
  refine h.2.2.2.2.1.2.up ha (fun q h1 h2 => by rw [ht]; exact h.2.2.2.1.2.1 q h1 h2) (fun q hq => ?_)
  rcases hq with ⟨k, en, hke⟩ | hq
  · exact h.2.2.1.2 k _ hke
  · exact h.2.2.2.2.1.1 q (Nat.le_trans h.2.2.2.1.1 (by rw [← ht]; exact hq))
theorem b_iconst {E : ME} {Φ : Option AV → AM → Prop} {pc : Nat} {L : List (Option AV)} {st : List AV} {m : AM} {a : Nat × Nat} {n : Int} (v : Int32) (hd : decode E.1 pc = .ok (.iconst n, 1)) (hv : Int32.ofInt n = v) (k : B E Φ (pc + 1) L (vi v :: st) m a) : B E Φ pc L (st) m a := by
  intro p l e R s mi args below meth c G ad0 nx0 A ad H locs ls hOk hIn hL hst
  exact lv_iconst hOk.1 hOk.2.1 hd hv (k p l e R s mi args below meth c G ad0 nx0 A ad H locs ls hOk hIn hL (sw_i hst))
theorem b_bipush {E : ME} {Φ : Option AV → AM → Prop} {pc : Nat} {L : List (Option AV)} {st : List AV} {m : AM} {a : Nat × Nat} {n : Int} (v : Int32) (hd : decode E.1 pc = .ok (.bipush n, 2)) (hv : (Int8.ofInt n).toInt32 = v) (k : B E Φ (pc + 2) L (vi v :: st) m a) : B E Φ pc L (st) m a := by
  intro p l e R s mi args below meth c G ad0 nx0 A ad H locs ls hOk hIn hL hst
  exact lv_bipush hOk.1 hOk.2.1 hd hv (k p l e R s mi args below meth c G ad0 nx0 A ad H locs ls hOk hIn hL (sw_i hst))
theorem b_sipush {E : ME} {Φ : Option AV → AM → Prop} {pc : Nat} {L : List (Option AV)} {st : List AV} {m : AM} {a : Nat × Nat} {n : Int} (v : Int32) (hd : decode E.1 pc = .ok (.sipush n, 3)) (hv : (Int16.ofInt n).toInt32 = v) (k : B E Φ (pc + 3) L (vi v :: st) m a) : B E Φ pc L (st) m a := by
  intro p l e R s mi args below meth c G ad0 nx0 A ad H locs ls hOk hIn hL hst
  exact lv_sipush hOk.1 hOk.2.1 hd hv (k p l e R s mi args below meth c G ad0 nx0 A ad H locs ls hOk hIn hL (sw_i hst))
theorem b_lconst {E : ME} {Φ : Option AV → AM → Prop} {pc : Nat} {L : List (Option AV)} {st : List AV} {m : AM} {a : Nat × Nat} {n : Fin 2} (v : Int64) (hd : decode E.1 pc = .ok (.lconst n, 1)) (hv : Int64.ofNat (n : Nat) = v) (k : B E Φ (pc + 1) L (vl v :: st) m a) : B E Φ pc L (st) m a := by
  intro p l e R s mi args below meth c G ad0 nx0 A ad H locs ls hOk hIn hL hst
  exact lv_lconst hOk.1 hOk.2.1 hd hv (k p l e R s mi args below meth c G ad0 nx0 A ad H locs ls hOk hIn hL (sw_l hst))
theorem b_ldc {E : ME} {Φ : Option AV → AM → Prop} {pc : Nat} {L : List (Option AV)} {st : List AV} {m : AM} {a : Nat × Nat} {index : Nat} {v : Int32} (hc : Jvm.Cond.constant E.2.1 index v ∈ TB) (hd : decode E.1 pc = .ok (.ldc index, 2)) (k : B E Φ (pc + 2) L (vi v :: st) m a) : B E Φ pc L (st) m a := by
  intro p l e R s mi args below meth c G ad0 nx0 A ad H locs ls hOk hIn hL hst
  exact lv_ldc hOk.1 hOk.2.1 hOk.2.2.2.2.1 (hOk.2.2.2.2.2.1 _ hc) hd (k p l e R s mi args below meth c G ad0 nx0 A ad H locs ls hOk hIn hL (sw_i hst))
theorem b_ldcw {E : ME} {Φ : Option AV → AM → Prop} {pc : Nat} {L : List (Option AV)} {st : List AV} {m : AM} {a : Nat × Nat} {index : Nat} {v : Int32} (hc : Jvm.Cond.constant E.2.1 index v ∈ TB) (hd : decode E.1 pc = .ok (.ldc_w index, 3)) (k : B E Φ (pc + 3) L (vi v :: st) m a) : B E Φ pc L (st) m a := by
  intro p l e R s mi args below meth c G ad0 nx0 A ad H locs ls hOk hIn hL hst
  exact lv_ldcw hOk.1 hOk.2.1 hOk.2.2.2.2.1 (hOk.2.2.2.2.2.1 _ hc) hd (k p l e R s mi args below meth c G ad0 nx0 A ad H locs ls hOk hIn hL (sw_i hst))
theorem b_ldc2 {E : ME} {Φ : Option AV → AM → Prop} {pc : Nat} {L : List (Option AV)} {st : List AV} {m : AM} {a : Nat × Nat} {index : Nat} {v : Int64} (hc : Jvm.Cond.constantLong E.2.1 index v ∈ TB) (hd : decode E.1 pc = .ok (.ldc2_w index, 3)) (k : B E Φ (pc + 3) L (vl v :: st) m a) : B E Φ pc L (st) m a := by
  intro p l e R s mi args below meth c G ad0 nx0 A ad H locs ls hOk hIn hL hst
  exact lv_ldc2 hOk.1 hOk.2.1 hOk.2.2.2.2.1 (hOk.2.2.2.2.2.1 _ hc) hd (k p l e R s mi args below meth c G ad0 nx0 A ad H locs ls hOk hIn hL (sw_l hst))
theorem b_iadd {E : ME} {Φ : Option AV → AM → Prop} {pc : Nat} {L : List (Option AV)} {st : List AV} {m : AM} {a : Nat × Nat} {x y : Int32} (hd : decode E.1 pc = .ok (.iadd, 1)) (k : B E Φ (pc + 1) L (vi (x + y) :: st) m a) : B E Φ pc L (vi y :: vi x :: st) m a := by
  intro p l e R s mi args below meth c G ad0 nx0 A ad H locs ls hOk hIn hL hst
  exact lv_iadd hOk.1 hOk.2.1 hd (k p l e R s mi args below meth c G ad0 nx0 A ad H locs ls hOk hIn hL (sw_i (sw_tl (sw_tl hst))))
theorem b_isub {E : ME} {Φ : Option AV → AM → Prop} {pc : Nat} {L : List (Option AV)} {st : List AV} {m : AM} {a : Nat × Nat} {x y : Int32} (hd : decode E.1 pc = .ok (.isub, 1)) (k : B E Φ (pc + 1) L (vi (x - y) :: st) m a) : B E Φ pc L (vi y :: vi x :: st) m a := by
  intro p l e R s mi args below meth c G ad0 nx0 A ad H locs ls hOk hIn hL hst
  exact lv_isub hOk.1 hOk.2.1 hd (k p l e R s mi args below meth c G ad0 nx0 A ad H locs ls hOk hIn hL (sw_i (sw_tl (sw_tl hst))))
theorem b_imul {E : ME} {Φ : Option AV → AM → Prop} {pc : Nat} {L : List (Option AV)} {st : List AV} {m : AM} {a : Nat × Nat} {x y : Int32} (hd : decode E.1 pc = .ok (.imul, 1)) (k : B E Φ (pc + 1) L (vi (x * y) :: st) m a) : B E Φ pc L (vi y :: vi x :: st) m a := by
  intro p l e R s mi args below meth c G ad0 nx0 A ad H locs ls hOk hIn hL hst
  exact lv_imul hOk.1 hOk.2.1 hd (k p l e R s mi args below meth c G ad0 nx0 A ad H locs ls hOk hIn hL (sw_i (sw_tl (sw_tl hst))))
theorem b_iand {E : ME} {Φ : Option AV → AM → Prop} {pc : Nat} {L : List (Option AV)} {st : List AV} {m : AM} {a : Nat × Nat} {x y : Int32} (hd : decode E.1 pc = .ok (.iand, 1)) (k : B E Φ (pc + 1) L (vi (x &&& y) :: st) m a) : B E Φ pc L (vi y :: vi x :: st) m a := by
  intro p l e R s mi args below meth c G ad0 nx0 A ad H locs ls hOk hIn hL hst
  exact lv_iand hOk.1 hOk.2.1 hd (k p l e R s mi args below meth c G ad0 nx0 A ad H locs ls hOk hIn hL (sw_i (sw_tl (sw_tl hst))))
theorem b_ior {E : ME} {Φ : Option AV → AM → Prop} {pc : Nat} {L : List (Option AV)} {st : List AV} {m : AM} {a : Nat × Nat} {x y : Int32} (hd : decode E.1 pc = .ok (.ior, 1)) (k : B E Φ (pc + 1) L (vi (x ||| y) :: st) m a) : B E Φ pc L (vi y :: vi x :: st) m a := by
  intro p l e R s mi args below meth c G ad0 nx0 A ad H locs ls hOk hIn hL hst
  exact lv_ior hOk.1 hOk.2.1 hd (k p l e R s mi args below meth c G ad0 nx0 A ad H locs ls hOk hIn hL (sw_i (sw_tl (sw_tl hst))))
theorem b_ixor {E : ME} {Φ : Option AV → AM → Prop} {pc : Nat} {L : List (Option AV)} {st : List AV} {m : AM} {a : Nat × Nat} {x y : Int32} (hd : decode E.1 pc = .ok (.ixor, 1)) (k : B E Φ (pc + 1) L (vi (x ^^^ y) :: st) m a) : B E Φ pc L (vi y :: vi x :: st) m a := by
  intro p l e R s mi args below meth c G ad0 nx0 A ad H locs ls hOk hIn hL hst
  exact lv_ixor hOk.1 hOk.2.1 hd (k p l e R s mi args below meth c G ad0 nx0 A ad H locs ls hOk hIn hL (sw_i (sw_tl (sw_tl hst))))
theorem b_ishl {E : ME} {Φ : Option AV → AM → Prop} {pc : Nat} {L : List (Option AV)} {st : List AV} {m : AM} {a : Nat × Nat} {x y : Int32} (hd : decode E.1 pc = .ok (.ishl, 1)) (k : B E Φ (pc + 1) L (vi (x <<< (y &&& 31)) :: st) m a) : B E Φ pc L (vi y :: vi x :: st) m a := by
  intro p l e R s mi args below meth c G ad0 nx0 A ad H locs ls hOk hIn hL hst
  exact lv_ishl hOk.1 hOk.2.1 hd (k p l e R s mi args below meth c G ad0 nx0 A ad H locs ls hOk hIn hL (sw_i (sw_tl (sw_tl hst))))
theorem b_ishr {E : ME} {Φ : Option AV → AM → Prop} {pc : Nat} {L : List (Option AV)} {st : List AV} {m : AM} {a : Nat × Nat} {x y : Int32} (hd : decode E.1 pc = .ok (.ishr, 1)) (k : B E Φ (pc + 1) L (vi (x >>> (y &&& 31)) :: st) m a) : B E Φ pc L (vi y :: vi x :: st) m a := by
  intro p l e R s mi args below meth c G ad0 nx0 A ad H locs ls hOk hIn hL hst
  exact lv_ishr hOk.1 hOk.2.1 hd (k p l e R s mi args below meth c G ad0 nx0 A ad H locs ls hOk hIn hL (sw_i (sw_tl (sw_tl hst))))
theorem b_idiv {E : ME} {Φ : Option AV → AM → Prop} {pc : Nat} {L : List (Option AV)} {st : List AV} {m : AM} {a : Nat × Nat} {x y : Int32} (hd : decode E.1 pc = .ok (.idiv, 1)) (hy : ¬ y = 0) (k : B E Φ (pc + 1) L (vi (x / y) :: st) m a) : B E Φ pc L (vi y :: vi x :: st) m a := by
  intro p l e R s mi args below meth c G ad0 nx0 A ad H locs ls hOk hIn hL hst
  exact lv_idiv hOk.1 hOk.2.1 hd hy (k p l e R s mi args below meth c G ad0 nx0 A ad H locs ls hOk hIn hL (sw_i (sw_tl (sw_tl hst))))
theorem b_irem {E : ME} {Φ : Option AV → AM → Prop} {pc : Nat} {L : List (Option AV)} {st : List AV} {m : AM} {a : Nat × Nat} {x y : Int32} (hd : decode E.1 pc = .ok (.irem, 1)) (hy : ¬ y = 0) (k : B E Φ (pc + 1) L (vi (x - x / y * y) :: st) m a) : B E Φ pc L (vi y :: vi x :: st) m a := by
  intro p l e R s mi args below meth c G ad0 nx0 A ad H locs ls hOk hIn hL hst
  exact lv_irem hOk.1 hOk.2.1 hd hy (k p l e R s mi args below meth c G ad0 nx0 A ad H locs ls hOk hIn hL (sw_i (sw_tl (sw_tl hst))))
theorem b_ladd {E : ME} {Φ : Option AV → AM → Prop} {pc : Nat} {L : List (Option AV)} {st : List AV} {m : AM} {a : Nat × Nat} {x y : Int64} (hd : decode E.1 pc = .ok (.ladd, 1)) (k : B E Φ (pc + 1) L (vl (x + y) :: st) m a) : B E Φ pc L (vl y :: vl x :: st) m a := by
  intro p l e R s mi args below meth c G ad0 nx0 A ad H locs ls hOk hIn hL hst
  exact lv_ladd hOk.1 hOk.2.1 hd (k p l e R s mi args below meth c G ad0 nx0 A ad H locs ls hOk hIn hL (sw_l (sw_tl (sw_tl hst))))
theorem b_lsub {E : ME} {Φ : Option AV → AM → Prop} {pc : Nat} {L : List (Option AV)} {st : List AV} {m : AM} {a : Nat × Nat} {x y : Int64} (hd : decode E.1 pc = .ok (.lsub, 1)) (k : B E Φ (pc + 1) L (vl (x - y) :: st) m a) : B E Φ pc L (vl y :: vl x :: st) m a := by
  intro p l e R s mi args below meth c G ad0 nx0 A ad H locs ls hOk hIn hL hst
  exact lv_lsub hOk.1 hOk.2.1 hd (k p l e R s mi args below meth c G ad0 nx0 A ad H locs ls hOk hIn hL (sw_l (sw_tl (sw_tl hst))))
theorem b_lmul {E : ME} {Φ : Option AV → AM → Prop} {pc : Nat} {L : List (Option AV)} {st : List AV} {m : AM} {a : Nat × Nat} {x y : Int64} (hd : decode E.1 pc = .ok (.lmul, 1)) (k : B E Φ (pc + 1) L (vl (x * y) :: st) m a) : B E Φ pc L (vl y :: vl x :: st) m a := by
  intro p l e R s mi args below meth c G ad0 nx0 A ad H locs ls hOk hIn hL hst
  exact lv_lmul hOk.1 hOk.2.1 hd (k p l e R s mi args below meth c G ad0 nx0 A ad H locs ls hOk hIn hL (sw_l (sw_tl (sw_tl hst))))
theorem b_lor {E : ME} {Φ : Option AV → AM → Prop} {pc : Nat} {L : List (Option AV)} {st : List AV} {m : AM} {a : Nat × Nat} {x y : Int64} (hd : decode E.1 pc = .ok (.lor, 1)) (k : B E Φ (pc + 1) L (vl (x ||| y) :: st) m a) : B E Φ pc L (vl y :: vl x :: st) m a := by
  intro p l e R s mi args below meth c G ad0 nx0 A ad H locs ls hOk hIn hL hst
  exact lv_lor hOk.1 hOk.2.1 hd (k p l e R s mi args below meth c G ad0 nx0 A ad H locs ls hOk hIn hL (sw_l (sw_tl (sw_tl hst))))
theorem b_land {E : ME} {Φ : Option AV → AM → Prop} {pc : Nat} {L : List (Option AV)} {st : List AV} {m : AM} {a : Nat × Nat} {x y : Int64} (hd : decode E.1 pc = .ok (.land, 1)) (k : B E Φ (pc + 1) L (vl (x &&& y) :: st) m a) : B E Φ pc L (vl y :: vl x :: st) m a := by
  intro p l e R s mi args below meth c G ad0 nx0 A ad H locs ls hOk hIn hL hst
  exact lv_land hOk.1 hOk.2.1 hd (k p l e R s mi args below meth c G ad0 nx0 A ad H locs ls hOk hIn hL (sw_l (sw_tl (sw_tl hst))))
theorem b_ldiv {E : ME} {Φ : Option AV → AM → Prop} {pc : Nat} {L : List (Option AV)} {st : List AV} {m : AM} {a : Nat × Nat} {x y : Int64} (hd : decode E.1 pc = .ok (.ldiv, 1)) (hy : ¬ y = 0) (k : B E Φ (pc + 1) L (vl (x / y) :: st) m a) : B E Φ pc L (vl y :: vl x :: st) m a := by
  intro p l e R s mi args below meth c G ad0 nx0 A ad H locs ls hOk hIn hL hst
  exact lv_ldiv hOk.1 hOk.2.1 hd hy (k p l e R s mi args below meth c G ad0 nx0 A ad H locs ls hOk hIn hL (sw_l (sw_tl (sw_tl hst))))
theorem b_lrem {E : ME} {Φ : Option AV → AM → Prop} {pc : Nat} {L : List (Option AV)} {st : List AV} {m : AM} {a : Nat × Nat} {x y : Int64} (hd : decode E.1 pc = .ok (.lrem, 1)) (hy : ¬ y = 0) (k : B E Φ (pc + 1) L (vl (x - x / y * y) :: st) m a) : B E Φ pc L (vl y :: vl x :: st) m a := by
  intro p l e R s mi args below meth c G ad0 nx0 A ad H locs ls hOk hIn hL hst
  exact lv_lrem hOk.1 hOk.2.1 hd hy (k p l e R s mi args below meth c G ad0 nx0 A ad H locs ls hOk hIn hL (sw_l (sw_tl (sw_tl hst))))
theorem b_ineg {E : ME} {Φ : Option AV → AM → Prop} {pc : Nat} {L : List (Option AV)} {st : List AV} {m : AM} {a : Nat × Nat} {x : Int32} (hd : decode E.1 pc = .ok (.ineg, 1)) (k : B E Φ (pc + 1) L (vi (-x) :: st) m a) : B E Φ pc L (vi x :: st) m a := by
  intro p l e R s mi args below meth c G ad0 nx0 A ad H locs ls hOk hIn hL hst
  exact lv_ineg hOk.1 hOk.2.1 hd (k p l e R s mi args below meth c G ad0 nx0 A ad H locs ls hOk hIn hL (sw_i (sw_tl hst)))
theorem b_iushr {E : ME} {Φ : Option AV → AM → Prop} {pc : Nat} {L : List (Option AV)} {st : List AV} {m : AM} {a : Nat × Nat} {x y : Int32} (hd : decode E.1 pc = .ok (.iushr, 1)) (k : B E Φ (pc + 1) L (vi ((x.toUInt32 >>> (y.toUInt32 &&& Int32.toUInt32 31)).toInt32) :: st) m a) : B E Φ pc L (vi y :: vi x :: st) m a := by
  intro p l e R s mi args below meth c G ad0 nx0 A ad H locs ls hOk hIn hL hst
  exact lv_iushr hOk.1 hOk.2.1 hd rfl (k p l e R s mi args below meth c G ad0 nx0 A ad H locs ls hOk hIn hL (sw_i (sw_tl (sw_tl hst))))
theorem b_lushr {E : ME} {Φ : Option AV → AM → Prop} {pc : Nat} {L : List (Option AV)} {st : List AV} {m : AM} {a : Nat × Nat} {x : Int64} {y : Int32} (hd : decode E.1 pc = .ok (.lushr, 1)) (k : B E Φ (pc + 1) L (vl ((x.toUInt64 >>> (y.toInt64.toUInt64 &&& Int64.toUInt64 63)).toInt64) :: st) m a) : B E Φ pc L (vi y :: vl x :: st) m a := by
  intro p l e R s mi args below meth c G ad0 nx0 A ad H locs ls hOk hIn hL hst
  exact lv_lushr hOk.1 hOk.2.1 hd rfl (k p l e R s mi args below meth c G ad0 nx0 A ad H locs ls hOk hIn hL (sw_l (sw_tl (sw_tl hst))))
theorem b_lshl {E : ME} {Φ : Option AV → AM → Prop} {pc : Nat} {L : List (Option AV)} {st : List AV} {m : AM} {a : Nat × Nat} {x : Int64} {y : Int32} (hd : decode E.1 pc = .ok (.lshl, 1)) (k : B E Φ (pc + 1) L (vl (x <<< (y.toInt64 &&& 63)) :: st) m a) : B E Φ pc L (vi y :: vl x :: st) m a := by
  intro p l e R s mi args below meth c G ad0 nx0 A ad H locs ls hOk hIn hL hst
  exact lv_lshl hOk.1 hOk.2.1 hd rfl (k p l e R s mi args below meth c G ad0 nx0 A ad H locs ls hOk hIn hL (sw_l (sw_tl (sw_tl hst))))
theorem b_i2l {E : ME} {Φ : Option AV → AM → Prop} {pc : Nat} {L : List (Option AV)} {st : List AV} {m : AM} {a : Nat × Nat} {x : Int32} (hd : decode E.1 pc = .ok (.i2l, 1)) (k : B E Φ (pc + 1) L (vl (x.toInt64) :: st) m a) : B E Φ pc L (vi x :: st) m a := by
  intro p l e R s mi args below meth c G ad0 nx0 A ad H locs ls hOk hIn hL hst
  exact lv_i2l hOk.1 hOk.2.1 hd rfl (k p l e R s mi args below meth c G ad0 nx0 A ad H locs ls hOk hIn hL (sw_l (sw_tl hst)))
theorem b_l2i {E : ME} {Φ : Option AV → AM → Prop} {pc : Nat} {L : List (Option AV)} {st : List AV} {m : AM} {a : Nat × Nat} {x : Int64} (hd : decode E.1 pc = .ok (.l2i, 1)) (k : B E Φ (pc + 1) L (vi (x.toInt32) :: st) m a) : B E Φ pc L (vl x :: st) m a := by
  intro p l e R s mi args below meth c G ad0 nx0 A ad H locs ls hOk hIn hL hst
  exact lv_l2i hOk.1 hOk.2.1 hd rfl (k p l e R s mi args below meth c G ad0 nx0 A ad H locs ls hOk hIn hL (sw_i (sw_tl hst)))
theorem b_i2b {E : ME} {Φ : Option AV → AM → Prop} {pc : Nat} {L : List (Option AV)} {st : List AV} {m : AM} {a : Nat × Nat} {x : Int32} (hd : decode E.1 pc = .ok (.i2b, 1)) (k : B E Φ (pc + 1) L (vi (x.toInt8.toInt32) :: st) m a) : B E Φ pc L (vi x :: st) m a := by
  intro p l e R s mi args below meth c G ad0 nx0 A ad H locs ls hOk hIn hL hst
  exact lv_i2b hOk.1 hOk.2.1 hd rfl (k p l e R s mi args below meth c G ad0 nx0 A ad H locs ls hOk hIn hL (sw_i (sw_tl hst)))
theorem b_i2s {E : ME} {Φ : Option AV → AM → Prop} {pc : Nat} {L : List (Option AV)} {st : List AV} {m : AM} {a : Nat × Nat} {x : Int32} (hd : decode E.1 pc = .ok (.i2s, 1)) (k : B E Φ (pc + 1) L (vi (x.toInt16.toInt32) :: st) m a) : B E Φ pc L (vi x :: st) m a := by
  intro p l e R s mi args below meth c G ad0 nx0 A ad H locs ls hOk hIn hL hst
  exact lv_i2s hOk.1 hOk.2.1 hd rfl (k p l e R s mi args below meth c G ad0 nx0 A ad H locs ls hOk hIn hL (sw_i (sw_tl hst)))
theorem b_lcmp {E : ME} {Φ : Option AV → AM → Prop} {pc : Nat} {L : List (Option AV)} {st : List AV} {m : AM} {a : Nat × Nat} {x y : Int64} (hd : decode E.1 pc = .ok (.lcmp, 1)) (k : B E Φ (pc + 1) L (vi (lg_cmp x y) :: st) m a) : B E Φ pc L (vl y :: vl x :: st) m a := by
  intro p l e R s mi args below meth c G ad0 nx0 A ad H locs ls hOk hIn hL hst
  exact W.lcmp hOk.1 hOk.2.1 hd (k p l e R s mi args below meth c G ad0 nx0 A ad H locs ls hOk hIn hL (sw_i (sw_tl (sw_tl hst))))
