/-! the constructors' calls; Arrays.fill behind a constructor -/
theorem k85 : (Jvm.Cond.classLink "BelievedWordsLaw" (7 : Nat) "BelievedWords") ∈ TB := tb1 18 rfl rfl
theorem k86 : (Jvm.Cond.instantiable "BelievedWords" (9 : Nat)) ∈ TB := tb1 19 rfl rfl
theorem k93 : (Jvm.Cond.classLink "BelievedWords" (7 : Nat) "BelievedWords$Rows") ∈ TB := tb1 26 rfl rfl
theorem k94 : (Jvm.Cond.instantiable "BelievedWords$Rows" (3 : Nat)) ∈ TB := tb1 27 rfl rfl
theorem k99 : (Jvm.Cond.classLink "BelievedWords$Rows" (9 : Nat) "[[I") ∈ TB := tb1 32 rfl rfl
theorem k115 : (Jvm.Cond.classLink "BelievedWords" (16 : Nat) "BelievedWords$Tape") ∈ TB := tb1 48 rfl rfl
theorem k116 : (Jvm.Cond.instantiable "BelievedWords$Tape" (9 : Nat)) ∈ TB := tb1 49 rfl rfl
theorem k121 : (Jvm.Cond.classLink "BelievedWords$Tape" (9 : Nat) "BelievedWords$Law") ∈ TB := tb1 54 rfl rfl
theorem k122 : (Jvm.Cond.instantiable "BelievedWords$Law" (9 : Nat)) ∈ TB := tb1 55 rfl rfl
theorem k213 : (Jvm.Cond.classLink "BelievedWords" (23 : Nat) "BelievedWords$Court") ∈ TB := tb1 146 rfl rfl
theorem k214 : (Jvm.Cond.instantiable "BelievedWords$Court" (5 : Nat)) ∈ TB := tb1 147 rfl rfl
theorem k219 : (Jvm.Cond.classLink "BelievedWords$Court" (9 : Nat) "BelievedWords$Law") ∈ TB := tb1 152 rfl rfl
theorem k221 : (Jvm.Cond.classLink "BelievedWords$Court" (18 : Nat) "BelievedWords$Standing") ∈ TB := tb1 154 rfl rfl
theorem k222 : (Jvm.Cond.instantiable "BelievedWords$Standing" (6 : Nat)) ∈ TB := tb1 155 rfl rfl
theorem k290 : (Jvm.Cond.classLink "BelievedWords" (30 : Nat) "BelievedWords$Acts") ∈ TB := tb1 223 rfl rfl
theorem k291 : (Jvm.Cond.instantiable "BelievedWords$Acts" (3 : Nat)) ∈ TB := tb1 224 rfl rfl
theorem k296 : (Jvm.Cond.classLink "BelievedWords$Acts" (9 : Nat) "BelievedWords$Standing") ∈ TB := tb1 229 rfl rfl
theorem k310 : (Jvm.Cond.classLink "BelievedWords" (37 : Nat) "BelievedWords$Image") ∈ TB := tb2 3 rfl rfl
theorem k312 : (Jvm.Cond.classLink "BelievedWords" (43 : Nat) "BelievedWords$Search") ∈ TB := tb2 5 rfl rfl
theorem k313 : (Jvm.Cond.instantiable "BelievedWords$Search" (14 : Nat)) ∈ TB := tb2 6 rfl rfl
theorem k361 : (Jvm.Cond.classLink "BelievedWords" (50 : Nat) "BelievedWords$Foresight") ∈ TB := tb2 54 rfl rfl
theorem k362 : (Jvm.Cond.instantiable "BelievedWords$Foresight" (4 : Nat)) ∈ TB := tb2 55 rfl rfl
theorem k380 : (Jvm.Cond.classLink "BelievedWords" (57 : Nat) "BelievedWords$Asks") ∈ TB := tb2 73 rfl rfl
theorem k381 : (Jvm.Cond.instantiable "BelievedWords$Asks" (2 : Nat)) ∈ TB := tb2 74 rfl rfl
theorem k393 : (Jvm.Cond.instantiable "BelievedWords$Image" (3 : Nat)) ∈ TB := tb2 86 rfl rfl
theorem k398 : (Jvm.Cond.classLink "BelievedWords$Image" (7 : Nat) "BelievedWords$Law") ∈ TB := tb2 91 rfl rfl
theorem k400 : (Jvm.Cond.classLink "BelievedWords$Image" (16 : Nat) "BelievedWords$Standing") ∈ TB := tb2 93 rfl rfl
theorem k883 : (Jvm.Cond.classLink "java/util/Arrays" (317 : Nat) "[I") ∈ TB := tb4 96 rfl rfl
theorem k1036 : (Jvm.Cond.classLink "BelievedWordsLaw" (10 : Nat) "BelievedWordsModel") ∈ TB := tb5 9 rfl rfl
theorem k1037 : (Jvm.Cond.instantiable "BelievedWordsModel" (28 : Nat)) ∈ TB := tb5 10 rfl rfl
theorem cat2 (v : Value) : v.category ≤ 2 := by
  cases v <;> first | exact Nat.le_of_ble_eq_true rfl | decide
theorem cat_sum : ∀ st : List Value, (st.map fun v => v.category).sum ≤ 2 * st.length
  | [] => Nat.le_refl _
  | v :: st => by
    have h := cat_sum st
    have := cat2 v
    simp only [List.map_cons, List.sum_cons, List.length_cons]
    omega
section BBrows3
variable {G : va_G × (Nat → ClassId)} {pre : va_W} {b : Nat} {E : ME} {blk : List va_E} {pc : Nat} {L : List (Nat × Value)} {st : List Value} {cur : List va_E} {a : Nat × Nat}
theorem bb_back {pre' : va_W} {b' mc ms : Nat} {blk' cur2 : List va_E} (he : pre' ++ AW b' blk' = pre ++ AW b cur2) (hsz : b' + blk'.length = b + cur2.length) (hk : BB G pre b E blk (pc + 3) L st cur2 (a.1 + mc, a.2 + ms))
    {p : Program} {l : Launch} {e : Env} {R : Room} {s : State} {mi : MethodId} {args : Array Value} {below : List Frame} {meth : Method} {c : Code} {A A2 : Nat → Prop} {H : Heap} {locs : List Loc} {ls : Array Slot} {st0 : List Value} {as : Array Value}
    (hOk : OkB E p R s mi args meth c) (hIn : InB G pre b cur A s H locs) (hL : lv_has ls E.2.2.1 L) (hAA : ∀ q, A2 q → A q)
    (hr : va_Run p l e R s mi args below meth c H locs a.1 a.2 mc ms (F0 mi pc ls st0) st (QB G pre' b' blk' A2 as) A2) :
    W p l e R s mi args below meth c H locs a.1 a.2 (MQ below (QB G pre b blk A) args s E.2.2.2.2.1 E.2.2.2.2.2.1 A) (F0 mi pc ls st0) := by
  intro T hT X
  obtain ⟨v, st₀, t, T', Lq, h0, X', hLq, e1, e2, ⟨⟨hv, hz2, hP', hD'⟩, hz, hkk⟩, stp⟩ := hr T hT X
  have hv2 : v = none := by injection hv
  subst hv2
  rw [h0] at hz hkk
  have hS := hIn.2.2.2.1
  rw [he] at hP' hD'
  have kq := hk p l e R s mi args below meth c A T'.heap (locs ++ Lq) ls hOk ⟨hIn.1, by rw [e1]; exact hP', hD'.weaken (fun k q hk hq => hAA _ hq), ⟨Nat.le_trans hS.1 (by rw [e1]; exact hz), fun q h1 h2 => by rw [e1, hkk q (Nat.lt_of_lt_of_le h1 hS.1) (fun z => h2 (hAA q z))]; exact hS.2.1 q h1 h2, fun q hq => by
      rcases List.mem_append.mp hq with h | h
      · exact hS.2.2 q h
      · exact hAA _ (hLq q h)⟩, hIn.2.2.2.2.1, by rw [e1, hz2, hsz]⟩ hL
  obtain ⟨t2, a1, b1⟩ := kq T' rfl X'
  exact ⟨t2, stp t2 a1, b1⟩
theorem bb_call {y : MethodName} {E' : ME} {d : va_E} {blk' : (Nat → ClassId) → Nat → List va_E} (hS : SndB y E' d blk') {x idx : Nat} (hl : Cond.methodLink E.2.1 idx y ∈ TB ∨ (E.2.1, idx, y, "BelievedWords") ∈ NLq) (hi : Cond.instanceMethod y ∈ TB) (hini : Cond.initialized y.cls ∈ TB) (hco : Cond.code y E'.1 E'.2.2.1 E'.2.2.2.1 ∈ TB) (hn : y.name = "<init>")
    (hds : y.cls ≠ "java/lang/invoke/MethodHandle" ∧ y.cls ≠ "java/lang/invoke/VarHandle" ∧ (parseMethodDescriptor y.desc).map (fun d => d.parameters.length) = some 0) (hret : E'.2.2.2.1 = none) (hdep : E'.2.2.2.2.2.2 + 1 ≤ E.2.2.2.2.2.2 ∧ E'.2.2.1 ≤ 45) (hroom : a.1 + E'.2.2.2.2.1 ≤ E.2.2.2.2.1 ∧ a.2 + E'.2.2.2.2.2.1 ≤ E.2.2.2.2.2.1) (hsr : st.length ≤ 4) (hx : x = b + cur.length)
    (hd : decode E.1 pc = .ok (.invokespecial idx, 3)) (k : BB G pre b E blk (pc + 3) L st (cur ++ blk' G.2 (b + cur.length)) (a.1 + E'.2.2.2.2.1, a.2 + E'.2.2.2.2.2.1)) : BB G pre b E blk pc L (.ref x :: st) (cur ++ [d]) a := by
  intro p l e R s mi args below meth c A H locs ls hOk hIn hL
  subst hx
  have hts := hOk.2.2.2.2.2.1
  have hW0 : pre ++ AW b (cur ++ [d]) = (pre ++ AW b cur) ++ AW (b + cur.length) [d] := by rw [AW_app, List.append_assoc]
  have hIn1 := hIn
  obtain ⟨hK, hP, hD, hS1, hA, hz⟩ := hIn
  rw [hW0] at hP hD
  have hz2 : H.size = b + cur.length + 1 := by rw [hz, List.length_append]; rfl
  have hM := hS l G (pre ++ AW b cur) (b + cur.length)
  have hmem : ∀ w ∈ Cond.code y E'.1 E'.2.2.1 E'.2.2.2.1 :: TB, w ∈ TB := fun w hw => by
    rcases List.mem_cons.mp hw with h | h
    · rw [h]; exact hco
    · exact h
  have hR : (rmD E'.2.2.2.2.2.2 E'.2.2.2.2.1 E'.2.2.2.2.2.1).frames + 1 ≤ R.frames ∧ 8 + (E'.2.2.1 + 11) + (rmD E'.2.2.2.2.2.2 E'.2.2.2.2.1 E'.2.2.2.2.2.1).locals ≤ R.locals := by
    rw [hOk.2.2.2.2.2.2.2.1]
    refine ⟨hdep.1, ?_⟩
    show 8 + (E'.2.2.1 + 11) + 64 * E'.2.2.2.2.2.2 ≤ 64 * E.2.2.2.2.2.2
    have := hdep.1
    have := hdep.2
    omega
  have hf : a.1 + E'.2.2.2.2.1 ≤ R.cells ∧ a.2 + E'.2.2.2.2.2.1 ≤ R.slots := by rw [hOk.2.2.2.2.2.2.2.1]; exact hroom
  have hW8 : (st.map fun v => v.category).sum ≤ 8 := by have := cat_sum st; omega
  have hAA : ∀ q, va_A ((pre ++ AW b cur) ++ AW (b + cur.length) [d]) (b + cur.length + 1) q → A q := by
    rintro q (⟨k, en, hke⟩ | hq)
    · exact hD.2 k _ hke
    · exact hA q (Nat.le_trans hS1.1 (by omega))
  rw [hret] at hM hmem
  refine bb_back (cur := cur ++ [d]) (pre' := pre ++ AW b cur) (b' := b + cur.length) (blk' := blk' G.2 (b + cur.length)) (cur2 := cur ++ blk' G.2 (b + cur.length)) (A2 := va_A ((pre ++ AW b cur) ++ AW (b + cur.length) [d]) (b + cur.length + 1)) (as := (Value.ref (b + cur.length) :: []).toArray) (by rw [AW_app, List.append_assoc]) (by rw [List.length_append]; omega) k hOk hIn1 hL hAA ?_
  have hp : PreS s H (va_Pc [.ref (b + cur.length)] (fun U => U.heap.size = b + cur.length + 1 ∧ (va_P G.1 vwCl ((pre ++ AW b cur) ++ AW (b + cur.length) [d]) U.heap ∧ va_K G.1 vwCl (tysO G.2) U ∧ AOs U) ∧ va_D (fun _ => True) ((pre ++ AW b cur) ++ AW (b + cur.length) [d]))) [.ref (b + cur.length)] := ⟨fun a U g mk q => by obtain ⟨q0, q1, ⟨qP, qK, qO⟩, qD⟩ := q; exact ⟨q0, q1, ⟨qP, va_K.moved (u := U) (U := U.calling g mk a) (Vm.Alike.refl U.vm) qK, AOs.vmeq (u := U) (U := U.calling g mk a) rfl qO⟩, qD⟩, fun U hU hW => ⟨rfl, by rw [hU]; exact hz2, ⟨by rw [hU]; exact hP, va_K.moved hW.alike hK, hOk.2.2.2.2.2.2.2.2.1.warm hW⟩, hD.weaken (fun _ _ _ _ => trivial)⟩⟩
  rcases hl with hl | hl
  · exact va_runI (As := []) (n := 0) ⟨hOk.1, hOk.2.1, hOk.2.2.1, hOk.2.2.2.2.1, hts⟩ hM ⟨callB_of _ hts (tb_in hmem) rfl rfl rfl (hts _ hini) (hts _ hl) ⟨hds.1, hds.2.1, hds.2.2⟩ hR, hn, hts _ hi⟩ hp rfl rfl hL.1 rfl (lv_room hW8) hd hf
  · exact va_runIN (As := []) (n := 0) ⟨hOk.1, hOk.2.1, hOk.2.2.1, hOk.2.2.2.2.1, hts⟩ hM ⟨va_cnB _ hts (tb_in hmem) rfl rfl rfl (hOk.2.2.2.2.2.2.2.2.1.2.2.2 _ hl) (hts _ hini) ⟨hds.1, hds.2.1, hds.2.2⟩ hR, hn, hts _ hi⟩ hp rfl rfl hL.1 rfl (lv_room hW8) hd hf
end BBrows3
