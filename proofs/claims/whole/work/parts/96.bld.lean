/-! THE CONSTRUCTORS: a run of cells at the addresses from b on, behind what stands already (pre) -/
def AW : Nat → List va_E → va_W
  | _, [] => []
  | b, e :: es => (b, e) :: AW (b + 1) es
theorem AW_len : ∀ (b : Nat) (es : List va_E), (AW b es).length = es.length
  | _, [] => rfl
  | b, e :: es => by
    show (AW (b + 1) es).length + 1 = es.length + 1
    rw [AW_len (b + 1) es]
theorem AW_get : ∀ (b : Nat) (es : List va_E) (k : Nat) (e : va_E), es[k]? = some e → (AW b es)[k]? = some (b + k, e)
  | _, [], k, e, h => by cases h
  | b, x :: es, 0, e, h => by
    cases h
    rfl
  | b, x :: es, k + 1, e, h => by
    show (AW (b + 1) es)[k]? = _
    rw [AW_get (b + 1) es k e h, show b + 1 + k = b + (k + 1) by omega]
theorem AW_app : ∀ (b : Nat) (xs ys : List va_E), AW b (xs ++ ys) = AW b xs ++ AW (b + xs.length) ys
  | b, [], ys => rfl
  | b, x :: xs, ys => by
    show (b, x) :: AW (b + 1) (xs ++ ys) = (b, x) :: (AW (b + 1) xs ++ AW (b + (xs.length + 1)) ys)
    rw [AW_app (b + 1) xs ys, show b + 1 + xs.length = b + (xs.length + 1) by omega]
theorem AW_set : ∀ (b : Nat) (es : List va_E) (k : Nat) (e : va_E), (AW b es).set k (b + k, e) = AW b (es.set k e)
  | _, [], k, e => rfl
  | b, x :: es, 0, e => rfl
  | b, x :: es, k + 1, e => by
    show (b, x) :: (AW (b + 1) es).set k (b + (k + 1), e) = (b, x) :: AW (b + 1) (es.set k e)
    rw [show b + (k + 1) = b + 1 + k by omega, AW_set (b + 1) es k e]
theorem WB_get {pre : va_W} {b : Nat} {cur : List va_E} {k : Nat} {e : va_E} (h : cur[k]? = some e) : (pre ++ AW b cur)[pre.length + k]? = some (b + k, e) := by
  rw [List.getElem?_append_right (by omega), show pre.length + k - pre.length = k by omega]
  exact AW_get b cur k e h
theorem WB_set {pre : va_W} {b : Nat} {cur : List va_E} {k : Nat} {e : va_E} : (pre ++ AW b cur).set (pre.length + k) (b + k, e) = pre ++ AW b (cur.set k e) := by
  rw [List.set_append_right _ _ (by omega), show pre.length + k - pre.length = k by omega, AW_set]
theorem WB_app {pre : va_W} {b : Nat} {cur : List va_E} {e : va_E} : (pre ++ AW b cur) ++ [(b + cur.length, e)] = pre ++ AW b (cur ++ [e]) := by
  rw [AW_app, List.append_assoc]
  rfl
def va_AOA (t : FieldType) (U : State) : Prop := (Cond.arrayOver (.array t)).before #[] U = true
theorem va_AOA.moved {t : FieldType} {u U : State} (hvm : u.vm.Alike U.vm) (h : va_AOA t u) : va_AOA t U := by
  obtain ⟨comp, c, k, h1, h2, h3, h4, h5⟩ := arrayOverA_spec h
  obtain ⟨k', hk', he⟩ := hvm.2.2 _ _ h3
  have hi : (U.vm.classes.findIdx? fun (x : Class) => match x.kind with | .array component _ => component == comp | _ => false) = some c := by
    have e3 : U.vm.bare = u.vm.bare := by first | exact hvm.bare_eq | exact hvm.bare_eq.symm
    have e1 := va_idx_bare U.vm comp
    rw [e3] at e1
    exact e1.symm.trans ((va_idx_bare u.vm comp).trans h2)
  have hkind : k'.kind = .array comp (.array t) := by rw [he]; exact h4
  have f1 : U.vm.findClass (FieldType.array t).toString = some comp := by rw [hvm.findClass]; exact h1
  have f2 : U.vm.findClass ("[" ++ (FieldType.array t).toString) = some c := by rw [hvm.findClass]; exact h5
  unfold va_AOA Cond.before Cond.holds
  simp only [Cond.value]
  rw [f1, Option.bind_some]
  refine (congrArg (fun o : Option Nat => (o.bind (fun c => (U.vm.classes[c]?).map fun (k : Class) => match k.kind with | .array _ ty => decide (ty = FieldType.array t) && decide (U.vm.findClass ("[" ++ (FieldType.array t).toString) = some c) | _ => false) == some true)) hi).trans ?_
  simp [hk', hkind, f2]
/-- the links to private constructors of nest mates -/
def NLq : List (String × Nat × MethodName × String) := [("BelievedWords", 18, ({ cls := "BelievedWords$Tape", name := "<init>", desc := "()V" } : MethodName), "BelievedWords"), ("BelievedWords$Tape", 11, ({ cls := "BelievedWords$Law", name := "<init>", desc := "()V" } : MethodName), "BelievedWords"), ("BelievedWords", 25, ({ cls := "BelievedWords$Court", name := "<init>", desc := "()V" } : MethodName), "BelievedWords"), ("BelievedWords$Court", 11, ({ cls := "BelievedWords$Law", name := "<init>", desc := "()V" } : MethodName), "BelievedWords"), ("BelievedWords$Court", 20, ({ cls := "BelievedWords$Standing", name := "<init>", desc := "()V" } : MethodName), "BelievedWords"), ("BelievedWords$Acts", 17, ({ cls := "BelievedWords$Standing", name := "<init>", desc := "()V" } : MethodName), "BelievedWords"), ("BelievedWords", 45, ({ cls := "BelievedWords$Search", name := "<init>", desc := "()V" } : MethodName), "BelievedWords"), ("BelievedWords", 52, ({ cls := "BelievedWords$Foresight", name := "<init>", desc := "()V" } : MethodName), "BelievedWords"), ("BelievedWords", 59, ({ cls := "BelievedWords$Asks", name := "<init>", desc := "()V" } : MethodName), "BelievedWords"), ("BelievedWords", 64, ({ cls := "BelievedWords$Image", name := "<init>", desc := "()V" } : MethodName), "BelievedWords"), ("BelievedWords$Image", 9, ({ cls := "BelievedWords$Law", name := "<init>", desc := "()V" } : MethodName), "BelievedWords"), ("BelievedWords$Image", 18, ({ cls := "BelievedWords$Standing", name := "<init>", desc := "()V" } : MethodName), "BelievedWords")]
/-- the words on arrays of references, and these links -/
def AOs (U : State) : Prop := va_AO "BelievedWords$Image" U ∧ va_AO "BelievedWords$Standing" U ∧ va_AOA .int U ∧ ∀ q, q ∈ NLq → va_Nw (Cond.methodLinkNest q.1 q.2.1 q.2.2.1 q.2.2.2) U
theorem AOs.warm {s U : State} (hW : s.WarmedH U.vm) (h : AOs s) : AOs U := ⟨h.1.moved hW.alike, h.2.1.moved hW.alike, h.2.2.1.moved hW.alike, fun q hq => va_Nw.warmM hW (h.2.2.2 q hq)⟩
theorem AOs.vmeq {u U : State} (e : U.vm = u.vm) (h : AOs u) : AOs U := by
  have hv : u.vm.Alike U.vm := by rw [e]; exact Vm.Alike.refl u.vm
  exact ⟨h.1.moved hv, h.2.1.moved hv, h.2.2.1.moved hv, fun q hq => va_Nw.same rfl e.symm (h.2.2.2 q hq)⟩
def OkB (E : ME) (p : Program) (R : Room) (s : State) (mi : MethodId) (args : Array Value) (meth : Method) (c : Code) : Prop :=
  p.tables.exec = Jvm.exec ∧ c.code = E.1 ∧ c.maxLocals = E.2.2.1 ∧ meth.sig.returnType = E.2.2.2.1 ∧ s.vm.findClass E.2.1 = some mi.cls ∧ (∀ w ∈ TB, w.before args s = true) ∧ meth.locks = false ∧ R = rmD E.2.2.2.2.2.2 E.2.2.2.2.1 E.2.2.2.2.2.1 ∧ AOs s ∧ (E.2.1 = "java/util/Arrays" ∨ meth.name = "<init>")
def InB (G : va_G × (Nat → ClassId)) (pre : va_W) (b : Nat) (cur : List va_E) (A : Nat → Prop) (s : State) (H : Heap) (locs : List Loc) : Prop :=
  va_K G.1 vwCl (tysO G.2) s ∧ va_P G.1 vwCl (pre ++ AW b cur) H ∧ va_D A (pre ++ AW b cur) ∧ va_S A s.heap H locs ∧ (∀ q, s.heap.size ≤ q → A q) ∧ H.size = b + cur.length
def QB (G : va_G × (Nat → ClassId)) (pre : va_W) (b : Nat) (blk : List va_E) (A : Nat → Prop) : Array Value → State → Outcome → State → Prop := fun _ st oc t =>
  (oc = .returned none ∧ t.heap.size = b + blk.length ∧ va_P G.1 vwCl (pre ++ AW b blk) t.heap ∧ va_D A (pre ++ AW b blk)) ∧ va_F A st t
def BB (G : va_G × (Nat → ClassId)) (pre : va_W) (b : Nat) (E : ME) (blk : List va_E) (pc : Nat) (L : List (Nat × Value)) (st : List Value) (cur : List va_E) (a : Nat × Nat) : Prop :=
  ∀ (p : Program) (l : Launch) (e : Env) (R : Room) (s : State) (mi : MethodId) (args : Array Value) (below : List Frame) (meth : Method) (c : Code) (A : Nat → Prop) (H : Heap) (locs : List Loc) (ls : Array Slot),
    OkB E p R s mi args meth c → InB G pre b cur A s H locs → lv_has ls E.2.2.1 L →
      W p l e R s mi args below meth c H locs a.1 a.2 (MQ below (QB G pre b blk A) args s E.2.2.2.2.1 E.2.2.2.2.2.1 A) (F0 mi pc ls st)
/-- a constructor keeps its word: called on its new object, the last cell, it leaves its block there -/
def SndB (y : MethodName) (E : ME) (d : va_E) (blk : (Nat → ClassId) → Nat → List va_E) : Prop :=
  ∀ (l : Launch) (G : va_G × (Nat → ClassId)) (pre : va_W) (b : Nat),
    Met l y (Cond.code y E.1 E.2.2.1 E.2.2.2.1 :: TB) (rmD E.2.2.2.2.2.2 E.2.2.2.2.1 E.2.2.2.2.2.1) (va_Pc [.ref b] (fun U => U.heap.size = b + 1 ∧ (va_P G.1 vwCl (pre ++ AW b [d]) U.heap ∧ va_K G.1 vwCl (tysO G.2) U ∧ AOs U) ∧ va_D (fun _ => True) (pre ++ AW b [d]))) (QB G pre b (blk G.2 b) (va_A (pre ++ AW b [d]) (b + 1))) E.2.2.2.2.1 E.2.2.2.2.2.1 (va_A (pre ++ AW b [d]) (b + 1))
theorem SndB.of {y : MethodName} {E : ME} {d : va_E} {blk : (Nat → ClassId) → Nat → List va_E} (hy : plainName y.cls = true) (how : y.cls = E.2.1) (hin : y.name = "<init>") (hl : 1 ≤ E.2.2.1)
    (h : ∀ G pre b, BB G pre b E (blk G.2 b) 0 [(0, .ref b)] [] [d] (0, 0)) : SndB y E d blk := by
  intro l G pre b
  refine Met.ofW (cc := E.1) (maxL := E.2.2.1) (ret := E.2.2.2.1) hy rfl ?_
  intro p e s mi args below meth c s₁ Bd hml hv
  obtain ⟨rfl, hsz, ⟨hP, hK, hAO⟩, hD0⟩ := hv
  have hts := atoms_spec (ws := (Cond.code y E.1 E.2.2.1 E.2.2.2.1 :: TB)) Bd.pre
  have hown : s.vm.findClass y.cls = some mi.cls := findClass_of_methodNamed Bd.named
  have hnm : meth.name = y.name := (name_of_methodNamed Bd.named Bd.method).1
  rw [← hsz]
  have hD := hD0.self (sz := s.heap.size)
  have hA : ∀ q : Nat, s.heap.size ≤ q → va_A (pre ++ AW b [d]) s.heap.size q := fun q h => Or.inr h
  have hle : (lg_sl [Value.ref b]).length ≤ E.2.2.1 := hl
  have hl0 := lv_entry [Value.ref b] (n := E.2.2.1) hle
  rw [lg_entry_eq]
  generalize (lg_sl [Value.ref b] ++ List.replicate (E.2.2.1 - (lg_sl [Value.ref b]).length) Slot.unset).toArray = ls at hl0 ⊢
  exact h G pre b p l e _ s mi _ below meth c (va_A (pre ++ AW b [d]) s.heap.size) s.heap [] ls ⟨Bd.exec, Bd.bytes, hml, Bd.returns, by rw [← how]; exact hown, fun w hw => hts w (List.mem_cons_of_mem _ hw), Bd.notSynchronized, rfl, hAO, Or.inr (hnm.trans hin)⟩ ⟨hK, hP, hD, va_S.rf, hA, hsz⟩ hl0
section BBrows
variable {G : va_G × (Nat → ClassId)} {pre : va_W} {b : Nat} {E : ME} {blk : List va_E} {pc : Nat} {L : List (Nat × Value)} {st : List Value} {cur : List va_E} {a : Nat × Nat}
theorem bb_mono {a' : Nat × Nat} (h : BB G pre b E blk pc L st cur a') (h1 : a.1 ≤ a'.1) (h2 : a.2 ≤ a'.2) : BB G pre b E blk pc L st cur a := by
  intro p l e R s mi args below meth c A H locs ls hOk hIn hL T hT X
  exact h p l e R s mi args below meth c A H locs ls hOk hIn hL T hT ⟨X.admits, X.cas, X.clock, X.frames, X.room, X.hears, X.method, X.code, X.here, X.tail, X.warmed, X.limits, X.bytes, ⟨X.same.1, X.same.2.1, Nat.le_trans X.same.2.2.1 (Nat.add_le_add_left h1 _), X.same.2.2.2.1, Nat.le_trans X.same.2.2.2.2.1 h2, X.same.2.2.2.2.2⟩⟩
theorem bb_iconst {n : Int} (v : Int32) (hd : decode E.1 pc = .ok (.iconst n, 1)) (hv : Int32.ofInt n = v) (k : BB G pre b E blk (pc + 1) L (.int v :: st) cur a) : BB G pre b E blk pc L st cur a := by
  intro p l e R s mi args below meth c A H locs ls hOk hIn hL
  exact lv_iconst hOk.1 hOk.2.1 hd hv (k p l e R s mi args below meth c A H locs ls hOk hIn hL)
theorem bb_bipush {n : Int} (v : Int32) (hd : decode E.1 pc = .ok (.bipush n, 2)) (hv : (Int8.ofInt n).toInt32 = v) (k : BB G pre b E blk (pc + 2) L (.int v :: st) cur a) : BB G pre b E blk pc L st cur a := by
  intro p l e R s mi args below meth c A H locs ls hOk hIn hL
  exact lv_bipush hOk.1 hOk.2.1 hd hv (k p l e R s mi args below meth c A H locs ls hOk hIn hL)
theorem bb_sipush {n : Int} (v : Int32) (hd : decode E.1 pc = .ok (.sipush n, 3)) (hv : (Int16.ofInt n).toInt32 = v) (k : BB G pre b E blk (pc + 3) L (.int v :: st) cur a) : BB G pre b E blk pc L st cur a := by
  intro p l e R s mi args below meth c A H locs ls hOk hIn hL
  exact lv_sipush hOk.1 hOk.2.1 hd hv (k p l e R s mi args below meth c A H locs ls hOk hIn hL)
theorem bb_aload {k4 : Fin 4} {x : Nat} (i j : Nat) (hd : decode E.1 pc = .ok (.aload_n k4, 1)) (hi : (k4 : Nat) = i) (hl : L[j]? = some (i, .ref x)) (k : BB G pre b E blk (pc + 1) L (.ref x :: st) cur a) : BB G pre b E blk pc L st cur a := by
  intro p l e R s mi args below meth c A H locs ls hOk hIn hL
  exact lv_aload_n hOk.1 hOk.2.1 hd hi (hL.2.2 _ (List.mem_of_getElem? hl)) (k p l e R s mi args below meth c A H locs ls hOk hIn hL)
theorem bb_iload {k4 : Fin 4} {x : Int32} (i j : Nat) (hd : decode E.1 pc = .ok (.iload_n k4, 1)) (hi : (k4 : Nat) = i) (hl : L[j]? = some (i, .int x)) (k : BB G pre b E blk (pc + 1) L (.int x :: st) cur a) : BB G pre b E blk pc L st cur a := by
  intro p l e R s mi args below meth c A H locs ls hOk hIn hL
  exact lv_iload_n hOk.1 hOk.2.1 hd hi (hL.2.2 _ (List.mem_of_getElem? hl)) (k p l e R s mi args below meth c A H locs ls hOk hIn hL)
theorem bb_istore {k4 : Fin 4} {x : Int32} {L' : List (Nat × Value)} (i : Nat) (hd : decode E.1 pc = .ok (.istore_n k4, 1)) (hi : (k4 : Nat) = i) (hj : i < E.2.2.1) (hl : (i, Value.int x) :: L.filter (fun q => !(q.1 == i) && !(q.1 + 1 == i && q.2.category == 2)) = L') (k : BB G pre b E blk (pc + 1) L' st cur a) : BB G pre b E blk pc L (.int x :: st) cur a := by
  intro p l e R s mi args below meth c A H locs ls hOk hIn hL
  exact lv_istore_n hOk.1 hOk.2.1 hd hi hL hj hl (fun ls' h' => k p l e R s mi args below meth c A H locs ls' hOk hIn h')
theorem bb_iinc {x v : Int32} {n : Int} {L' : List (Nat × Value)} (i j : Nat) (hd : decode E.1 pc = .ok (.iinc i n, 3)) (hk : L[j]? = some (i, .int x)) (hv : x + Int32.ofInt n = v) (hj : i < E.2.2.1) (hl : (i, Value.int v) :: L.filter (fun q => !(q.1 == i) && !(q.1 + 1 == i && q.2.category == 2)) = L') (k : BB G pre b E blk (pc + 3) L' st cur a) : BB G pre b E blk pc L st cur a := by
  intro p l e R s mi args below meth c A H locs ls hOk hIn hL
  exact lv_iinc hOk.1 hOk.2.1 hd hL (k := j) hk hv hj hl (fun ls' h' => k p l e R s mi args below meth c A H locs ls' hOk hIn h')
theorem bb_dup {x : Nat} (hd : decode E.1 pc = .ok (.dup, 1)) (k : BB G pre b E blk (pc + 1) L (.ref x :: .ref x :: st) cur a) : BB G pre b E blk pc L (.ref x :: st) cur a := by
  intro p l e R s mi args below meth c A H locs ls hOk hIn hL
  exact lv_dup hOk.1 hOk.2.1 hd rfl (k p l e R s mi args below meth c A H locs ls hOk hIn hL)
theorem bb_icmp_ge {x y : Int32} {off : Int} (tgt : Nat) (hd : decode E.1 pc = .ok (.if_icmp .ge off, 3)) (ht : (pc : Int) + off = (tgt : Int)) (kt : y ≤ x → BB G pre b E blk tgt L st cur a) (kf : ¬ y ≤ x → BB G pre b E blk (pc + 3) L st cur a) : BB G pre b E blk pc L (.int y :: .int x :: st) cur a := by
  intro p l e R s mi args below meth c A H locs ls hOk hIn hL
  exact lv_icmp_ge hOk.1 hOk.2.1 hd ht (fun h => kt h p l e R s mi args below meth c A H locs ls hOk hIn hL) (fun h => kf h p l e R s mi args below meth c A H locs ls hOk hIn hL)
theorem bb_goto {off : Int} (tgt : Nat) (hd : decode E.1 pc = .ok (.goto off, 3)) (ht : (pc : Int) + off = (tgt : Int)) (k : BB G pre b E blk tgt L st cur a) : BB G pre b E blk pc L st cur a := by
  intro p l e R s mi args below meth c A H locs ls hOk hIn hL
  exact lv_goto hOk.1 hOk.2.1 hd ht (k p l e R s mi args below meth c A H locs ls hOk hIn hL)
theorem bb_ret (hr : E.2.2.2.1 = none) (hd : decode E.1 pc = .ok (.return_, 1)) (ha : a.1 ≤ E.2.2.2.2.1 ∧ a.2 ≤ E.2.2.2.2.2.1) (h : cur = blk) : BB G pre b E blk pc L [] cur a := by
  intro p l e R s mi args below meth c A H locs ls hOk hIn hL
  subst h
  refine W.widen ha.1 ha.2 ?_
  exact W.vret hOk.1 hOk.2.1 (by rw [hOk.2.2.2.1, hr]) (fun t ht hW => ⟨⟨rfl, by rw [ht]; exact hIn.2.2.2.2.2, by rw [ht]; exact hIn.2.1, hIn.2.2.1⟩, hIn.2.2.2.1.F ht⟩) hIn.2.2.2.1.2.2 hd hOk.2.2.2.2.2.2.1
theorem InB.push {A : Nat → Prop} {s : State} {H H1 : Heap} {locs : List Loc} {e : va_E} (hIn : InB G pre b cur A s H locs) (he : va_P G.1 vwCl [(b + cur.length, e)] H1) (z1 : H1.size = H.size + 1) (o1 : ∀ q : Nat, q < H.size → H1[q]? = H[q]?) : InB G pre b (cur ++ [e]) A s H1 locs := by
  obtain ⟨hK, hP, hD, hS, hA, hz⟩ := hIn
  have hk : ∀ (k : Nat) (x : Nat × va_E), (pre ++ AW b cur)[k]? = some x → H1[x.1]? = H[x.1]? := fun k x hx => o1 x.1 ((hP k x hx).lt)
  have q1 := (hP.kept hk).app he
  have q2 : va_D A ((pre ++ AW b cur) ++ [(b + cur.length, e)]) := by
    have := hD.push (e := e) hP rfl (hA _ hS.1)
    rw [hz] at this
    exact this
  rw [WB_app] at q1 q2
  exact ⟨hK, q1, q2, ⟨Nat.le_trans hS.1 (by omega), fun x h1 h2 => (o1 x (Nat.lt_of_lt_of_le h1 hS.1)).trans (hS.2.1 x h1 h2), hS.2.2⟩, hA, by rw [List.length_append]; show H1.size = b + (cur.length + 1); omega⟩
theorem one_at {D : va_G} {cl : List vw_C} {x : Nat × va_E} {H : Heap} (h : va_at D cl x H) : va_P D cl [x] H := fun k q hq => by
  have hz : k < 1 := (List.getElem?_eq_some_iff.mp hq).1
  rw [show k = 0 by omega] at hq
  cases hq
  exact h
theorem bb_newI {n : Int32} {N : Nat} (hn : n = nI N) (hN : N ≤ 100000) (hr : a.1 + 1 ≤ E.2.2.2.2.1 ∧ a.2 + N ≤ E.2.2.2.2.2.1) (harr : Cond.arrayClass FieldType.int ∈ TB) (hd : decode E.1 pc = .ok (.newarray .int, 2)) (k : BB G pre b E blk (pc + 2) L (.ref (b + cur.length) :: st) (cur ++ [.inl (G.2 0, N, .inl (fun _ => nI 0))]) (a.1 + 1, a.2 + N)) : BB G pre b E blk pc L (.int n :: st) cur a := by
  intro p l e R s mi args below meth c A H locs ls hOk hIn hL
  subst hn
  have hts := hOk.2.2.2.2.2.1
  have hR : a.1 + 1 ≤ R.cells ∧ a.2 + N ≤ R.slots := by rw [hOk.2.2.2.2.2.2.2.1]; exact hr
  refine va_newaK (atype := .int) hOk.1 hOk.2.1 (hts _ harr) rfl hd rfl (by rw [n_lt0 (by omega)]; exact id) (n_cl (by omega)) (show N * 4 ≤ 536870912 by omega) hR.1 hR.2 hIn.2.2.2.2.2 fun H1 cA e1 z1 o1 hAr hNm => ?_
  have hcA : cA = G.2 0 := by
    have q : s.vm.findClass ("[" ++ FieldType.int.toString) = some (G.2 0) := (hIn.1.2 0 (G.2 0, .int) rfl).2
    rw [show newarray.typeOf .int = FieldType.int from rfl] at hNm
    rw [q] at hNm
    exact (Option.some.inj hNm).symm
  subst hcA
  exact k p l e R s mi args below meth c A H1 locs ls hOk (hIn.push (one_at e1) (by rw [z1, hIn.2.2.2.2.2]) (fun q hq => o1 q (by rw [← hIn.2.2.2.2.2]; exact hq))) hL
theorem bb_newZ {n : Int32} {N : Nat} (hn : n = nI N) (hN : N ≤ 100000) (hr : a.1 + 1 ≤ E.2.2.2.2.1 ∧ a.2 + N ≤ E.2.2.2.2.2.1) (harr : Cond.arrayClass FieldType.boolean ∈ TB) (hd : decode E.1 pc = .ok (.newarray .boolean, 2)) (k : BB G pre b E blk (pc + 2) L (.ref (b + cur.length) :: st) (cur ++ [.inl (G.2 1, N, .inl (fun _ => nI 0))]) (a.1 + 1, a.2 + N)) : BB G pre b E blk pc L (.int n :: st) cur a := by
  intro p l e R s mi args below meth c A H locs ls hOk hIn hL
  subst hn
  have hts := hOk.2.2.2.2.2.1
  have hR : a.1 + 1 ≤ R.cells ∧ a.2 + N ≤ R.slots := by rw [hOk.2.2.2.2.2.2.2.1]; exact hr
  refine va_newaK (atype := .boolean) hOk.1 hOk.2.1 (hts _ harr) rfl hd rfl (by rw [n_lt0 (by omega)]; exact id) (n_cl (by omega)) (show N * 1 ≤ 536870912 by omega) hR.1 hR.2 hIn.2.2.2.2.2 fun H1 cA e1 z1 o1 hAr hNm => ?_
  have hcA : cA = G.2 1 := by
    have q : s.vm.findClass ("[" ++ FieldType.boolean.toString) = some (G.2 1) := (hIn.1.2 1 (G.2 1, .boolean) rfl).2
    rw [show newarray.typeOf .boolean = FieldType.boolean from rfl] at hNm
    rw [q] at hNm
    exact (Option.some.inj hNm).symm
  subst hcA
  exact k p l e R s mi args below meth c A H1 locs ls hOk (hIn.push (one_at e1) (by rw [z1, hIn.2.2.2.2.2]) (fun q hq => o1 q (by rw [← hIn.2.2.2.2.2]; exact hq))) hL
theorem bb_newR {n : Int32} {N index t0 : Nat} {C : String} (hn : n = nI N) (hN : N ≤ 100000) (ht : (t0 = 2 ∧ C = "BelievedWords$Image") ∨ (t0 = 3 ∧ C = "BelievedWords$Standing")) (hcl : Cond.classLink E.2.1 index C ∈ TB) (hr : a.1 + 1 ≤ E.2.2.2.2.1 ∧ a.2 + N ≤ E.2.2.2.2.2.1) (hd : decode E.1 pc = .ok (.anewarray index, 3)) (k : BB G pre b E blk (pc + 3) L (.ref (b + cur.length) :: st) (cur ++ [.inl (G.2 t0, N, .inr (.inr (.inr (.inr (fun _ => none)))))]) (a.1 + 1, a.2 + N)) : BB G pre b E blk pc L (.int n :: st) cur a := by
  intro p l e R s mi args below meth c A H locs ls hOk hIn hL
  subst hn
  have hts := hOk.2.2.2.2.2.1
  have hAO := hOk.2.2.2.2.2.2.2.2.1
  have hover : va_AO C s := by
    rcases ht with ⟨-, rfl⟩ | ⟨-, rfl⟩
    · exact hAO.1
    · exact hAO.2.1
  have hcN : (nI N).toNatClampNeg = N := n_cl (by omega)
  have hR : a.1 + 1 ≤ R.cells ∧ a.2 + (nI N).toNatClampNeg ≤ R.slots := by rw [hOk.2.2.2.2.2.2.2.1, hcN]; exact hr
  refine W.anew hOk.1 hOk.2.1 hOk.2.2.2.2.1 (hts _ hcl) (va_AO.use hover) rfl hd rfl (by rw [n_lt0 (by omega)]; exact id) (by rw [hcN]; omega) hR.1 hR.2 fun cA kA comp f1 f2 f3 f4 => ?_
  have hcA : cA = G.2 t0 := by
    rcases ht with ⟨rfl, rfl⟩ | ⟨rfl, rfl⟩
    · obtain ⟨-, kA2, comp2, -, -, -, q⟩ := hIn.1.2 2 (G.2 2, .object "BelievedWords$Image") rfl
      rw [f1] at q
      exact Option.some.inj q
    · obtain ⟨-, kA2, comp2, -, -, -, q⟩ := hIn.1.2 3 (G.2 3, .object "BelievedWords$Standing") rfl
      rw [f1] at q
      exact Option.some.inj q
  subst hcA
  rw [hcN]
  generalize hH1 : H.push ({ cls := G.2 t0, slots := Array.replicate N .null, vm := .none } : Cell) = H1
  have z1 : H1.size = H.size + 1 := by rw [← hH1, Array.size_push]
  have e1 : H1[H.size]? = some (arrV (G.2 t0) N (fun _ => .null)) := by rw [← hH1, Array.getElem?_push_size, ← arrV_new]
  have o1 : ∀ q : Nat, q < H.size → H1[q]? = H[q]? := fun q hq => by rw [← hH1, Array.getElem?_push, if_neg (Nat.ne_of_lt hq)]
  rw [hIn.2.2.2.2.2] at e1 ⊢
  refine k p l e R s mi args below meth c A H1 locs ls hOk (hIn.push (one_at ?_) z1 o1) hL
  show H1[b + cur.length]? = some (vp_cell _ _)
  rw [vp_cell_q]
  exact e1
end BBrows
