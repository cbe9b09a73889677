/-! whole_start: from the law's entry to its end (printed by gen_start.py) -/
theorem lt1 {w : Cond} (i : Nat) (h : tables_1_1[i]? = some w) : w ∈ lw_tbl := List.mem_append_right _ (List.mem_append_left _ (List.mem_of_getElem? h))
theorem lt2 {w : Cond} (i : Nat) (h : tables_1_2[i]? = some w) : w ∈ lw_tbl := List.mem_append_right _ (List.mem_append_right _ (List.mem_append_left _ (List.mem_of_getElem? h)))
theorem lt3 {w : Cond} (i : Nat) (h : tables_1_3[i]? = some w) : w ∈ lw_tbl := List.mem_append_right _ (List.mem_append_right _ (List.mem_append_right _ (List.mem_append_left _ (List.mem_of_getElem? h))))
theorem lt4 {w : Cond} (i : Nat) (h : tables_1_4[i]? = some w) : w ∈ lw_tbl := List.mem_append_right _ (List.mem_append_right _ (List.mem_append_right _ (List.mem_append_right _ (List.mem_append_left _ (List.mem_of_getElem? h)))))
theorem lt5 {w : Cond} (i : Nat) (h : tables_1_5[i]? = some w) : w ∈ lw_tbl := List.mem_append_right _ (List.mem_append_right _ (List.mem_append_right _ (List.mem_append_right _ (List.mem_append_right _ (List.mem_append_left _ (List.mem_of_getElem? h))))))
theorem lt6 {w : Cond} (i : Nat) (h : tables_1_6[i]? = some w) : w ∈ lw_tbl := List.mem_append_right _ (List.mem_append_right _ (List.mem_append_right _ (List.mem_append_right _ (List.mem_append_right _ (List.mem_append_right _ (List.mem_of_getElem? h))))))
theorem start_D {s : State} {args : Array Value} (htb : ∀ w ∈ TB, w.before args s = true) : ∃ D : va_G, ∀ (c : Nat) (q : vw_C), vwCl[c]? = some q → u_Kn s q.1 q.2.1 q.2.2 (D.1 c) (D.2 c) := by
  have h : ∀ c : Nat, ∃ p : ClassId × (Nat → Nat), ∀ q : vw_C, vwCl[c]? = some q → u_Kn s q.1 q.2.1 q.2.2 p.1 p.2 := by
    intro c
    by_cases hc : c < 12
    · rcases (show c = 0 ∨ c = 1 ∨ c = 2 ∨ c = 3 ∨ c = 4 ∨ c = 5 ∨ c = 6 ∨ c = 7 ∨ c = 8 ∨ c = 9 ∨ c = 10 ∨ c = 11 by omega) with rfl | rfl | rfl | rfl | rfl | rfl | rfl | rfl | rfl | rfl | rfl | rfl
      · obtain ⟨cC, iS, h⟩ := u_known htb uTB0 (htb _ k291)
        exact ⟨(cC, iS), fun q hq => by cases hq; exact h⟩
      · obtain ⟨cC, iS, h⟩ := u_known htb uTB1 (htb _ k381)
        exact ⟨(cC, iS), fun q hq => by cases hq; exact h⟩
      · obtain ⟨cC, iS, h⟩ := u_known htb uTB2 (htb _ k214)
        exact ⟨(cC, iS), fun q hq => by cases hq; exact h⟩
      · obtain ⟨cC, iS, h⟩ := u_known htb uTB3 (htb _ k362)
        exact ⟨(cC, iS), fun q hq => by cases hq; exact h⟩
      · obtain ⟨cC, iS, h⟩ := u_known htb uTB4 (htb _ k393)
        exact ⟨(cC, iS), fun q hq => by cases hq; exact h⟩
      · obtain ⟨cC, iS, h⟩ := u_known htb uTB5 (htb _ k122)
        exact ⟨(cC, iS), fun q hq => by cases hq; exact h⟩
      · obtain ⟨cC, iS, h⟩ := u_known htb uTB6 (htb _ k94)
        exact ⟨(cC, iS), fun q hq => by cases hq; exact h⟩
      · obtain ⟨cC, iS, h⟩ := u_known htb uTB7 (htb _ k313)
        exact ⟨(cC, iS), fun q hq => by cases hq; exact h⟩
      · obtain ⟨cC, iS, h⟩ := u_known htb uTB8 (htb _ k222)
        exact ⟨(cC, iS), fun q hq => by cases hq; exact h⟩
      · obtain ⟨cC, iS, h⟩ := u_known htb uTB9 (htb _ k116)
        exact ⟨(cC, iS), fun q hq => by cases hq; exact h⟩
      · obtain ⟨cC, iS, h⟩ := u_known htb uTB10 (htb _ k86)
        exact ⟨(cC, iS), fun q hq => by cases hq; exact h⟩
      · obtain ⟨cC, iS, h⟩ := u_known htb uTB11 (htb _ k1037)
        exact ⟨(cC, iS), fun q hq => by cases hq; exact h⟩
    · exact ⟨(0, fun _ => 0), fun q hq => by
        have := (List.getElem?_eq_some_iff.mp hq).1
        exact absurd this (by show ¬ c < 12; exact hc)⟩
  exact ⟨(fun c => (Classical.choose (h c)).1, fun c => (Classical.choose (h c)).2), fun c q hq => Classical.choose_spec (h c) q hq⟩
theorem start_Y {s : State} {args : Array Value} (htb : ∀ w ∈ TB, w.before args s = true) (hAO : AOs s) : ∃ Y : Nat → ClassId, ∀ (k : Nat) (q : ClassId × FieldType), (tysO Y)[k]? = some q → ArrOfT s q.1 q.2 ∧ va_RA s q.1 q.2 := by
  have prim : ∀ ty : FieldType, (Cond.arrayClass ty).before args s = true → ∃ cA : ClassId, ArrOfT s cA ty ∧ s.vm.findClass ("[" ++ ty.toString) = some cA := fun ty h => by
    obtain ⟨c, k, comp, h1, h2, h3⟩ := Cond.arrayClass_spec h
    exact ⟨c, fun n z => ⟨fun k h => (by cases h), k, h2, comp, h3⟩, h1⟩
  have obj : ∀ C : String, va_AO C s → ∃ cA : ClassId, ArrOfT s cA (.object C) ∧ va_RA s cA (.object C) := fun C h => by
    obtain ⟨comp, c, k, h1, h2, h3, h4, h5⟩ := Cond.arrayOver_spec h
    exact ⟨c, fun n z => ⟨fun k h => (by cases h), k, h3, comp, h4⟩, k, comp, h3, h4, h1, h5⟩
  obtain ⟨y0, a0, b0⟩ := prim .int (htb _ k114)
  obtain ⟨y1, a1, b1⟩ := prim .boolean (htb _ k1127)
  obtain ⟨y2, a2, b2⟩ := obj _ hAO.1
  obtain ⟨y3, a3, b3⟩ := obj _ hAO.2.1
  obtain ⟨comp, y4, k4, g1, g2, g3, g4, g5⟩ := arrayOverA_spec hAO.2.2.1
  have a4 : ArrOfT s y4 (.array .int) := fun n z => ⟨fun k h => (by cases h), k4, g3, comp, g4⟩
  refine ⟨fun k => if k = 0 then y0 else if k = 1 then y1 else if k = 2 then y2 else if k = 3 then y3 else y4, fun k q hq => ?_⟩
  have hk : k < 5 := (List.getElem?_eq_some_iff.mp hq).1
  rcases (show k = 0 ∨ k = 1 ∨ k = 2 ∨ k = 3 ∨ k = 4 by omega) with rfl | rfl | rfl | rfl | rfl
  · cases hq; exact ⟨a0, b0⟩
  · cases hq; exact ⟨a1, b1⟩
  · cases hq; exact ⟨a2, b2⟩
  · cases hq; exact ⟨a3, b3⟩
  · cases hq; exact ⟨a4, g5⟩
theorem start_AO {s : State} {args : Array Value} (hts : ∀ w ∈ lw_tbl, w.before args s = true) : AOs s := by
  refine ⟨va_AO.of (hts _ (lt2 4 rfl)), va_AO.of (hts _ (lt1 230 rfl)), hts _ (lt1 33 rfl), fun q hq => ?_⟩
  unfold NLq at hq
  rw [List.mem_cons, List.mem_cons, List.mem_cons, List.mem_cons, List.mem_cons, List.mem_cons, List.mem_cons, List.mem_cons, List.mem_cons, List.mem_cons, List.mem_cons, List.mem_cons] at hq
  rcases hq with rfl | rfl | rfl | rfl | rfl | rfl | rfl | rfl | rfl | rfl | rfl | rfl | hq
  · exact va_Nw.of rfl (hts _ (lt1 50 rfl))
  · exact va_Nw.of rfl (hts _ (lt1 56 rfl))
  · exact va_Nw.of rfl (hts _ (lt1 148 rfl))
  · exact va_Nw.of rfl (hts _ (lt1 153 rfl))
  · exact va_Nw.of rfl (hts _ (lt1 156 rfl))
  · exact va_Nw.of rfl (hts _ (lt1 231 rfl))
  · exact va_Nw.of rfl (hts _ (lt2 7 rfl))
  · exact va_Nw.of rfl (hts _ (lt2 56 rfl))
  · exact va_Nw.of rfl (hts _ (lt2 75 rfl))
  · exact va_Nw.of rfl (hts _ (lt2 87 rfl))
  · exact va_Nw.of rfl (hts _ (lt2 92 rfl))
  · exact va_Nw.of rfl (hts _ (lt2 94 rfl))
  · cases hq
theorem start_ST {s : State} {b : Nat} {A : Nat → Prop} (hA : ∀ a : Nat, a < s.heap.size → ¬ A a) (hts : ∀ w ∈ lw_tbl, w.before #[Value.ref b] s = true) (hgv : (Jvm.Cond.and given_1 narrow_1).before #[Value.ref b] s = true) : STT A s := by
  have hs := flat_of_before _ hgv
  obtain ⟨t0, e0, v0⟩ := va_Tof (tm := (Term.static "BelievedWords$Asks" "PARENTS" "[I")) (ty := .int) (N := 6) (f := fun j => .int (Int32.ofNat (stV 0 j))) (A := A) (by decide) (hs (Cond.arrayOf (Term.static "BelievedWords$Asks" "PARENTS" "[I") .int) (by decide +kernel)) (va_eqt (hs (Cond.eq (Term.length (Term.static "BelievedWords$Asks" "PARENTS" "[I")) (.int 6)) (by decide +kernel))) (fun j hj => by
    rcases (show j = 0 ∨ j = 1 ∨ j = 2 ∨ j = 3 ∨ j = 4 ∨ j = 5 by omega) with rfl | rfl | rfl | rfl | rfl | rfl
    · exact va_eqt (hs (Cond.eq (Term.elem (Term.static "BelievedWords$Asks" "PARENTS" "[I") (.int 0)) (.int 0)) (by decide +kernel))
    · exact va_eqt (hs (Cond.eq (Term.elem (Term.static "BelievedWords$Asks" "PARENTS" "[I") (.int 1)) (.int 0)) (by decide +kernel))
    · exact va_eqt (hs (Cond.eq (Term.elem (Term.static "BelievedWords$Asks" "PARENTS" "[I") (.int 2)) (.int 1)) (by decide +kernel))
    · exact va_eqt (hs (Cond.eq (Term.elem (Term.static "BelievedWords$Asks" "PARENTS" "[I") (.int 3)) (.int 1)) (by decide +kernel))
    · exact va_eqt (hs (Cond.eq (Term.elem (Term.static "BelievedWords$Asks" "PARENTS" "[I") (.int 4)) (.int 0)) (by decide +kernel))
    · exact va_eqt (hs (Cond.eq (Term.elem (Term.static "BelievedWords$Asks" "PARENTS" "[I") (.int 5)) (.int 4)) (by decide +kernel))) hA
  obtain ⟨t1, e1, v1⟩ := va_Tof (tm := (Term.static "BelievedWords$Asks" "SIZES" "[I")) (ty := .int) (N := 6) (f := fun j => .int (Int32.ofNat (stV 1 j))) (A := A) (by decide) (hs (Cond.arrayOf (Term.static "BelievedWords$Asks" "SIZES" "[I") .int) (by decide +kernel)) (va_eqt (hs (Cond.eq (Term.length (Term.static "BelievedWords$Asks" "SIZES" "[I")) (.int 6)) (by decide +kernel))) (fun j hj => by
    rcases (show j = 0 ∨ j = 1 ∨ j = 2 ∨ j = 3 ∨ j = 4 ∨ j = 5 by omega) with rfl | rfl | rfl | rfl | rfl | rfl
    · exact va_eqt (hs (Cond.eq (Term.elem (Term.static "BelievedWords$Asks" "SIZES" "[I") (.int 0)) (.int 10)) (by decide +kernel))
    · exact va_eqt (hs (Cond.eq (Term.elem (Term.static "BelievedWords$Asks" "SIZES" "[I") (.int 1)) (.int 11)) (by decide +kernel))
    · exact va_eqt (hs (Cond.eq (Term.elem (Term.static "BelievedWords$Asks" "SIZES" "[I") (.int 2)) (.int 12)) (by decide +kernel))
    · exact va_eqt (hs (Cond.eq (Term.elem (Term.static "BelievedWords$Asks" "SIZES" "[I") (.int 3)) (.int 11)) (by decide +kernel))
    · exact va_eqt (hs (Cond.eq (Term.elem (Term.static "BelievedWords$Asks" "SIZES" "[I") (.int 4)) (.int 13)) (by decide +kernel))
    · exact va_eqt (hs (Cond.eq (Term.elem (Term.static "BelievedWords$Asks" "SIZES" "[I") (.int 5)) (.int 14)) (by decide +kernel))) hA
  obtain ⟨t2, e2, v2⟩ := va_Tof (tm := (Term.static "BelievedWords$Asks" "MARKS" "[I")) (ty := .int) (N := 6) (f := fun j => .int (Int32.ofNat (stV 2 j))) (A := A) (by decide) (hs (Cond.arrayOf (Term.static "BelievedWords$Asks" "MARKS" "[I") .int) (by decide +kernel)) (va_eqt (hs (Cond.eq (Term.length (Term.static "BelievedWords$Asks" "MARKS" "[I")) (.int 6)) (by decide +kernel))) (fun j hj => by
    rcases (show j = 0 ∨ j = 1 ∨ j = 2 ∨ j = 3 ∨ j = 4 ∨ j = 5 by omega) with rfl | rfl | rfl | rfl | rfl | rfl
    · exact va_eqt (hs (Cond.eq (Term.elem (Term.static "BelievedWords$Asks" "MARKS" "[I") (.int 0)) (.int 20)) (by decide +kernel))
    · exact va_eqt (hs (Cond.eq (Term.elem (Term.static "BelievedWords$Asks" "MARKS" "[I") (.int 1)) (.int 21)) (by decide +kernel))
    · exact va_eqt (hs (Cond.eq (Term.elem (Term.static "BelievedWords$Asks" "MARKS" "[I") (.int 2)) (.int 24)) (by decide +kernel))
    · exact va_eqt (hs (Cond.eq (Term.elem (Term.static "BelievedWords$Asks" "MARKS" "[I") (.int 3)) (.int 22)) (by decide +kernel))
    · exact va_eqt (hs (Cond.eq (Term.elem (Term.static "BelievedWords$Asks" "MARKS" "[I") (.int 4)) (.int 23)) (by decide +kernel))
    · exact va_eqt (hs (Cond.eq (Term.elem (Term.static "BelievedWords$Asks" "MARKS" "[I") (.int 5)) (.int 23)) (by decide +kernel))) hA
  refine ⟨fun k => if k = 0 then t0 else if k = 1 then t1 else t2, fun k hk => ?_⟩
  rcases (show k = 0 ∨ k = 1 ∨ k = 2 by omega) with rfl | rfl | rfl
  · exact ⟨va_Zref (hts _ (lt4 203 rfl)) (hts _ (List.mem_filter.mp k78).1) e0 hA, v0⟩
  · exact ⟨va_Zref (hts _ (lt4 217 rfl)) (hts _ (List.mem_filter.mp k78).1) e1 hA, v1⟩
  · exact ⟨va_Zref (hts _ (lt4 219 rfl)) (hts _ (List.mem_filter.mp k78).1) e2 hA, v2⟩
theorem lw_ctor {y : MethodName} {E' : ME} {d : va_E} {blk' : (Nat → ClassId) → Nat → List va_E} (hS : SndB y E' d blk') {p : Program} {l : Launch} {e : Env} {s : State} {m : MethodId} {below : List Frame} {meth : Method} {c : Code} {b : Nat} {G : va_G × (Nat → ClassId)} {z : Nat} {cur : List va_E} {H : Heap} {locs : List Loc} {c1 c2 : Nat} {Q : State → Prop} {ls : Array Slot} {rest : List Value} {pc idx x : Nat}
    (hx : p.tables.exec = Jvm.exec) (hb : c.code = code) (hml : c.maxLocals = 4) (hown : s.vm.findClass RL = some m.cls) (hts : ∀ w ∈ TB, w.before #[Value.ref b] s = true) (hAO : AOs s) (hl : Cond.methodLink RL idx y ∈ TB) (hi : Cond.instanceMethod y ∈ TB) (hini : Cond.initialized y.cls ∈ TB) (hco : Cond.code y E'.1 E'.2.2.1 E'.2.2.2.1 ∈ TB) (hn : y.name = "<init>")
    (hds : y.cls ≠ "java/lang/invoke/MethodHandle" ∧ y.cls ≠ "java/lang/invoke/VarHandle" ∧ (parseMethodDescriptor y.desc).map (fun d => d.parameters.length) = some 0) (hret : E'.2.2.2.1 = none) (hE : E'.2.2.2.2.2.2 ≤ 20 ∧ E'.2.2.1 ≤ 45) (hroom : c1 + E'.2.2.2.2.1 ≤ 600000 ∧ c2 + E'.2.2.2.2.2.1 ≤ 7302250) (hW8 : (rest.map fun v => v.category).sum ≤ 8) (hxx : x = z + cur.length) (hsz : ls.size = 4)
    (hd : decode cL_law pc = .ok (.invokespecial idx, 3)) (hIn : InB G [] z (cur ++ [d]) (AL s) s H locs) (k : ∀ (H1 : Heap) (locs1 : List Loc), InB G [] z (cur ++ blk' G.2 (z + cur.length)) (AL s) s H1 locs1 → W p l e room_1 s m #[Value.ref b] below meth c H1 locs1 (c1 + E'.2.2.2.2.1) (c2 + E'.2.2.2.2.2.1) Q (F0 m (pc + 3) ls rest)) : W p l e room_1 s m #[Value.ref b] below meth c H locs c1 c2 Q (F0 m pc ls (.ref x :: rest)) := by
  subst hxx
  have hW0 : ([] ++ AW z (cur ++ [d]) : va_W) = ([] ++ AW z cur) ++ AW (z + cur.length) [d] := by rw [AW_app, List.append_assoc]
  obtain ⟨hK, hP, hD, hS1, hA, hz⟩ := hIn
  rw [hW0] at hP hD
  have hz2 : H.size = z + cur.length + 1 := by rw [hz, List.length_append]; rfl
  have hM := hS l G ([] ++ AW z cur) (z + cur.length)
  have hmem : ∀ w ∈ Cond.code y E'.1 E'.2.2.1 E'.2.2.2.1 :: TB, w ∈ TB := fun w hw => by
    rcases List.mem_cons.mp hw with h | h
    · rw [h]; exact hco
    · exact h
  have hR : (rmD E'.2.2.2.2.2.2 E'.2.2.2.2.1 E'.2.2.2.2.2.1).frames + 1 ≤ room_1.frames ∧ 8 + (E'.2.2.1 + 11) + (rmD E'.2.2.2.2.2.2 E'.2.2.2.2.1 E'.2.2.2.2.2.1).locals ≤ room_1.locals := by
    refine ⟨?_, ?_⟩
    · show E'.2.2.2.2.2.2 + 1 ≤ 2048
      have := hE.1
      omega
    · show 8 + (E'.2.2.1 + 11) + 64 * E'.2.2.2.2.2.2 ≤ 84000
      have := hE.1
      have := hE.2
      omega
  have hAA : ∀ q, va_A (([] ++ AW z cur) ++ AW (z + cur.length) [d]) (z + cur.length + 1) q → AL s q := by
    rintro q (⟨k, en, hke⟩ | hq)
    · exact hD.2 k _ hke
    · exact hA q (Nat.le_trans hS1.1 (by omega))
  rw [hret] at hM hmem
  have hp : PreS s H (va_Pc [.ref (z + cur.length)] (fun U => U.heap.size = z + cur.length + 1 ∧ (va_P G.1 vwCl (([] ++ AW z cur) ++ AW (z + cur.length) [d]) U.heap ∧ va_K G.1 vwCl (tysO G.2) U ∧ AOs U) ∧ va_D (fun _ => True) (([] ++ AW z cur) ++ AW (z + cur.length) [d]))) [.ref (z + cur.length)] := ⟨fun a U g mk q => by obtain ⟨q0, q1, ⟨qP, qK, qO⟩, qD⟩ := q; exact ⟨q0, q1, ⟨qP, va_K.moved (u := U) (U := U.calling g mk a) (Vm.Alike.refl U.vm) qK, AOs.vmeq (u := U) (U := U.calling g mk a) rfl qO⟩, qD⟩, fun U hU hW => ⟨rfl, by rw [hU]; exact hz2, ⟨by rw [hU]; exact hP, va_K.moved hW.alike hK, hAO.warm hW⟩, hD.weaken (fun _ _ _ _ => trivial)⟩⟩
  have hr : va_Run p l e room_1 s m #[Value.ref b] below meth c H locs c1 c2 E'.2.2.2.2.1 E'.2.2.2.2.2.1 (F0 m pc ls (.ref (z + cur.length) :: rest)) rest (QB G ([] ++ AW z cur) (z + cur.length) (blk' G.2 (z + cur.length)) (va_A (([] ++ AW z cur) ++ AW (z + cur.length) [d]) (z + cur.length + 1)) (Value.ref (z + cur.length) :: []).toArray) (va_A (([] ++ AW z cur) ++ AW (z + cur.length) [d]) (z + cur.length + 1)) :=
    va_runI (As := []) (n := 0) ⟨hx, hb, hml, hown, hts⟩ hM ⟨callB_of _ hts (tb_in hmem) rfl rfl rfl (hts _ hini) (hts _ hl) ⟨hds.1, hds.2.1, hds.2.2⟩ hR, hn, hts _ hi⟩ hp rfl rfl hsz rfl (lv_room hW8) hd hroom
  intro T hT X
  obtain ⟨v, st₀, t, T', Lq, h0, X', hLq, e1, e2, ⟨⟨hv, hz3, hP', hD'⟩, hz4, hkk⟩, stp⟩ := hr T hT X
  have hv2 : v = none := by injection hv
  subst hv2
  rw [h0] at hz4 hkk
  have he : (([] ++ AW z cur) ++ AW (z + cur.length) (blk' G.2 (z + cur.length)) : va_W) = [] ++ AW z (cur ++ blk' G.2 (z + cur.length)) := by rw [AW_app, List.append_assoc]
  rw [he] at hP' hD'
  have kq := k T'.heap (locs ++ Lq) ⟨hK, by rw [e1]; exact hP', hD'.weaken (fun k q hk hq => hAA _ hq), ⟨Nat.le_trans hS1.1 (by rw [e1]; exact hz4), fun q h1 h2 => by rw [e1, hkk q (Nat.lt_of_lt_of_le h1 hS1.1) (fun z => h2 (hAA q z))]; exact hS1.2.1 q h1 h2, fun q hq => by
      rcases List.mem_append.mp hq with h | h
      · exact hS1.2.2 q h
      · exact hAA _ (hLq q h)⟩, hA, by rw [e1, hz3, List.length_append, Nat.add_assoc]⟩
  obtain ⟨t2, a1, b1⟩ := kq T' rfl X'
  exact ⟨t2, stp t2 a1, b1⟩
set_option maxHeartbeats 4000000 in
theorem whole_start {p : Program} {e : Env} {s : State} {m : MethodId} {below : List Frame} {meth : Method} {c : Code} (l : Launch) (hflags : l.flags = flags0) {b L : Nat} {xs : Nat → Int32} (hL : L ≤ 448) (C0 : lw_At p s m meth c b L xs) : W p l e room_1 s m #[Value.ref b] below meth c s.heap [] 0 0 (lw_Z below #[Value.ref b] s) (entryFrame m ([Value.ref b] : List Value).toArray 4) := by
  obtain ⟨hx, hb, hret, hml, hown, hts, hX, hbl, hlocks, hgv⟩ := C0
  have hown : s.vm.findClass RL = some m.cls := hown
  have htb : ∀ w ∈ TB, w.before #[Value.ref b] s = true := fun w hw => hts w (List.mem_filter.mp hw).1
  have hAO := start_AO hts
  obtain ⟨D, hD⟩ := start_D htb
  obtain ⟨Y, hY⟩ := start_Y htb hAO
  have hK : va_K D vwCl (tysO Y) s := ⟨hD, hY⟩
  have hNw : va_Nw NWw s := va_Nw.of rfl (hts _ (lt1 120 rfl))
  have hA : ∀ a : Nat, a < s.heap.size → ¬ AL s a := fun a h => Nat.not_le.mpr h
  have hST : STT (AL s) s := start_ST hA hts hgv
  generalize hz : s.heap.size = z
  have hIn : InB (D, Y) [] z [] (AL s) s s.heap [] := ⟨hK, fun k q hq => (by cases hq), ⟨fun i j p q hp => (by cases hp), fun k q hq => (by cases hq)⟩, va_S.rf, fun q h => h, hz⟩
  have hl0 := lv_entry [Value.ref b] (n := 4) (Nat.le_of_ble_eq_true rfl)
  rw [lg_entry_eq]
  generalize (lg_sl [Value.ref b] ++ List.replicate (4 - (lg_sl [Value.ref b]).length) Slot.unset).toArray = ls at hl0 ⊢
  have hl0 : lv_has ls 4 [(0, .ref b)] := hl0
  refine W.newcK hx hb hown (htb _ k85) (htb _ k86) (htb _ k68) rfl dL_law_0 (Nat.le_of_ble_eq_true rfl) (Nat.le_of_ble_eq_true rfl) (hK.1 10 _ rfl).2.1 hIn.2.2.2.2.2 fun H1 kC hkC e1 z1 o1 => ?_
  have hIn := hIn.push (e := dfl10) (one_at ⟨_, rfl, (u_born tyX10 htb uTB10 (hK.1 10 _ rfl) hkC e1 tyX10_ok).to df10⟩) (by rw [z1, hz]; rfl) (fun q hq => o1 q (by rw [← hz]; exact hq))
  refine lv_dup hx hb dL_law_3 rfl ?_
  refine lw_ctor (cur := []) SB10 hx hb hml hown htb hAO k87 k88 k68 k89 rfl (show _ ∧ _ ∧ Option.map (fun d => d.parameters.length) (parseMethodDescriptor yX10_init.desc) = some 0 from by decide +kernel) rfl ⟨by decide, by decide⟩ ⟨Nat.le_of_ble_eq_true rfl, Nat.le_of_ble_eq_true rfl⟩ (Nat.le_of_ble_eq_true rfl) rfl hl0.1 dL_law_4 hIn (fun H locs hIn => ?_)
  have hIn : InB (D, Y) [] z (blk10 Y z) (AL s) s H locs := hIn
  refine lv_astore_n (i := 1) (lv' := [(1, .ref z), (0, .ref b)]) hx hb dL_law_7 rfl hl0 (by decide) rfl (fun ls hl1 => ?_)
  refine W.newcK hx hb hown (htb _ k1036) (htb _ k1037) (htb _ k80) rfl dL_law_8 (Nat.le_of_ble_eq_true rfl) (Nat.le_of_ble_eq_true rfl) (hK.1 11 _ rfl).2.1 hIn.2.2.2.2.2 fun H1 kC hkC e1 z1 o1 => ?_
  have hlen : (blk10 Y z).length = 110 := len10 Y z
  have hIn := hIn.push (e := dfl11) (one_at ⟨_, rfl, (u_born tyX11 htb uTB11 (hK.1 11 _ rfl) hkC e1 tyX11_ok).to df11⟩) (by rw [z1, hIn.2.2.2.2.2]) (fun q hq => o1 q (by rw [← hIn.2.2.2.2.2]; exact hq))
  refine lv_dup hx hb dL_law_11 rfl ?_
  refine lw_ctor (cur := blk10 Y z) SB11 hx hb hml hown htb hAO k1038 k1039 k80 k1040 rfl (show _ ∧ _ ∧ Option.map (fun d => d.parameters.length) (parseMethodDescriptor yX11_init.desc) = some 0 from by decide +kernel) rfl ⟨by decide, by decide⟩ ⟨Nat.le_of_ble_eq_true rfl, Nat.le_of_ble_eq_true rfl⟩ (Nat.le_of_ble_eq_true rfl) rfl hl1.1 dL_law_12 hIn (fun H locs hIn => ?_)
  rw [hlen] at hIn ⊢
  have hIn : InB (D, Y) [] z (cur0 Y z) (AL s) s H locs := hIn
  refine lv_astore_n (i := 2) (lv' := [(2, .ref (z + 110)), (1, .ref z), (0, .ref b)]) hx hb dL_law_15 rfl hl1 (by decide) rfl (fun ls hl2 => ?_)
  refine lv_iconst hx hb dL_law_16 (v := nI 0) rfl ?_
  refine lv_istore_n (i := 3) (lv' := [(3, .int (nI 0)), (2, .ref (z + 110)), (1, .ref z), (0, .ref b)]) hx hb dL_law_17 rfl hl2 (by decide) rfl (fun ls hl3 => ?_)
  obtain ⟨-, hP, hDD, hS, -, -⟩ := hIn
  have w := w0_world (Y := Y) (z := z) hP hDD
  have hbig := law_loop (bs := b) (xs := xs) hL 65 0 m0 (125, 19634) (by decide) (Nat.zero_le _) m0_ty m0_RI (by decide) (by decide)
  exact hbig p l e s m below meth c (D, Y) (ad0 z) H locs ls ⟨hx, hb, hml, hret, hown, htb, hlocks, hNw, hX, hbl⟩ ⟨hK, w.1, w.2, hS, ⟨fun q h => h, hST⟩, fun i hi => absurd hi (Nat.not_lt_zero i), Nat.zero_le _, m0_ty⟩ ⟨hl3.1, hl3.2.1, fun q hq => hl3.2.2 q (by
    have a0 : ad0 z 0 = z := rfl
    have a1 : ad0 z 110 = z + 110 := rfl
    rw [a0, a1] at hq
    simp at hq ⊢
    rcases hq with h | h | h | h
    · exact Or.inl h
    · exact Or.inr (Or.inr (Or.inr h))
    · exact Or.inr (Or.inr (Or.inl h))
    · exact Or.inr (Or.inl h))⟩ (fun v hv => by cases hv)
