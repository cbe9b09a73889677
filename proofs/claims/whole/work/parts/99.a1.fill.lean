/-! Arrays.fill, called by a constructor -/
section BBfill
variable {G : va_G × (Nat → ClassId)} {pre : va_W} {b : Nat} {E : ME} {blk : List va_E} {pc : Nat} {L : List (Nat × Value)} {st : List Value} {cur : List va_E} {a : Nat × Nat}
theorem bb_sub {L' : List (Nat × Value)} (h : ∀ q, q ∈ L' → q ∈ L) (k : BB G pre b E blk pc L' st cur a) : BB G pre b E blk pc L st cur a := by
  intro p l e R s mi args below meth c A H locs ls hOk hIn hL
  exact k p l e R s mi args below meth c A H locs ls hOk hIn ⟨hL.1, hL.2.1, fun q hq => hL.2.2 q (h q hq)⟩
/-- the cell filled up to k -/
abbrev filE (G : va_G × (Nat → ClassId)) (N : Nat) (f : Nat → Int32) (v : Int32) (k : Nat) : va_E := .inl (G.2 0, N, .inl (fun j => if j < k then v else f j))
theorem set_same {cur : List va_E} {kc : Nat} {e : va_E} (h : cur[kc]? = some e) : cur.set kc e = cur := by
  apply List.ext_getElem?
  intro i
  by_cases q : i = kc
  · subst q
    rw [List.getElem?_set_self (List.getElem?_eq_some_iff.mp h).1, h]
  · rw [List.getElem?_set_ne (Ne.symm q)]
theorem fill_walk {kc N : Nat} {f : Nat → Int32} {v : Int32} (he : cur[kc]? = some (.inl (G.2 0, N, .inl f))) (hN : N < 2147483647) : BB G pre b e_J7_fill_53178 (cur.set kc (filE G N f v N)) 0 [(0, .ref (b + kc)), (1, .int v)] [] cur (0, 0) := by
  have hlt := (List.getElem?_eq_some_iff.mp he).1
  have at_ : ∀ k, (cur.set kc (filE G N f v k))[kc]? = some (filE G N f v k) := fun k => List.getElem?_set_self hlt
  have loop : ∀ e k, N + 1 ≤ k + e → k ≤ N → BB G pre b e_J7_fill_53178 (cur.set kc (filE G N f v N)) 5 [(2, .int (nI k)), (3, .int (nI N)), (0, .ref (b + kc)), (1, .int v)] [] (cur.set kc (filE G N f v k)) (0, 0) := by
    intro e
    induction e with
    | zero => intro k z1 z2; omega
    | succ e ih =>
      intro k z1 z2
      refine bb_iload (pc := 5) 2 0 dJ7_fill_53178_5 rfl rfl ?_
      refine bb_iload (pc := 6) 3 1 dJ7_fill_53178_6 rfl rfl ?_
      refine bb_icmp_ge (pc := 7) 20 dJ7_fill_53178_7 (by decide) (fun c7 => ?_) (fun c7 => ?_)
      · rw [n_le (by omega) (by omega)] at c7
        have ek : k = N := by omega
        subst ek
        exact bb_ret (pc := 20) rfl dJ7_fill_53178_20 ⟨Nat.le_refl _, Nat.le_refl _⟩ rfl
      · rw [n_le (by omega) (by omega)] at c7
        refine bb_aload (pc := 10) 0 2 dJ7_fill_53178_10 rfl rfl ?_
        refine bb_iload (pc := 11) 2 0 dJ7_fill_53178_11 rfl rfl ?_
        refine bb_iload (pc := 12) 1 3 dJ7_fill_53178_12 rfl rfl ?_
        refine bb_iast (pc := 13) (at_ k) rfl (n_in (by omega) (by omega)) dJ7_fill_53178_13 ?_
        refine bb_iinc (pc := 14) 2 0 dJ7_fill_53178_14 rfl (n_inc k) (by decide) rfl ?_
        refine bb_goto (pc := 17) 5 dJ7_fill_53178_17 (by decide) ?_
        have e1 : upd (fun j => if j < k then v else f j) (nI k).toNatClampNeg v = (fun j => if j < k + 1 then v else f j) := by
          rw [n_cl (by omega)]
          funext j
          unfold upd
          by_cases q : j = k
          · rw [if_pos q, if_pos (by omega)]
          · rw [if_neg q]
            show (if j < k then v else f j) = _
            by_cases q2 : j < k
            · rw [if_pos q2, if_pos (by omega)]
            · rw [if_neg q2, if_neg (by omega)]
        rw [List.set_set, e1]
        exact ih (k + 1) (by omega) (by omega)
  refine bb_iconst (pc := 0) (nI 0) dJ7_fill_53178_0 (by decide) ?_
  refine bb_istore (pc := 1) (L' := [(2, .int (nI 0)), (0, .ref (b + kc)), (1, .int v)]) 2 dJ7_fill_53178_1 rfl (by decide) rfl ?_
  refine bb_aload (pc := 2) 0 1 dJ7_fill_53178_2 rfl rfl ?_
  refine bb_alen (pc := 3) he rfl dJ7_fill_53178_3 ?_
  refine bb_istore (pc := 4) (L' := [(3, .int (nI N)), (2, .int (nI 0)), (0, .ref (b + kc)), (1, .int v)]) 3 dJ7_fill_53178_4 rfl (by decide) rfl ?_
  refine bb_sub (L' := [(2, .int (nI 0)), (3, .int (nI N)), (0, .ref (b + kc)), (1, .int v)]) (fun q hq => ?_) ?_
  · simp at hq ⊢
    rcases hq with h | h | h | h
    · exact Or.inr (Or.inl h)
    · exact Or.inl h
    · exact Or.inr (Or.inr (Or.inl h))
    · exact Or.inr (Or.inr (Or.inr h))
  · have l := loop (N + 1) 0 (by omega) (Nat.zero_le _)
    rw [show filE G N f v 0 = .inl (G.2 0, N, .inl f) from by
      unfold filE
      congr 4] at l
    rw [set_same he] at l
    exact l
theorem bb_fill {kc N x idx : Nat} {f : Nat → Int32} {v : Int32} (he : cur[kc]? = some (.inl (G.2 0, N, .inl f))) (hN : N < 2147483647) (hx : x = b + kc) (hl : Cond.methodLink E.2.1 idx yJ7_fill_53178 ∈ TB) (hdep : 2 ≤ E.2.2.2.2.2.2) (hroom : a.1 ≤ E.2.2.2.2.1 ∧ a.2 ≤ E.2.2.2.2.2.1) (hst : st.length ≤ 4)
    (hd : decode E.1 pc = .ok (.invokestatic idx, 3)) (k : BB G pre b E blk (pc + 3) L st (cur.set kc (filE G N f v N)) a) : BB G pre b E blk pc L (.int v :: .ref x :: st) cur a := by
  intro p l e R s mi args below meth c A H locs ls hOk hIn hL
  subst hx
  have hts := hOk.2.2.2.2.2.1
  have hIn1 := hIn
  obtain ⟨hK, hP, hD, hS1, hA, hz⟩ := hIn
  have hM : Met l yJ7_fill_53178 (Cond.code yJ7_fill_53178 cJ7_fill_53178 4 none :: TB) (rmD 1 0 0) (va_Pc [.ref (b + kc), .int v] (fun U => U.heap.size = b + cur.length ∧ (va_P G.1 vwCl (pre ++ AW b cur) U.heap ∧ va_K G.1 vwCl (tysO G.2) U ∧ AOs U) ∧ va_D (fun _ => True) (pre ++ AW b cur))) (QB G pre b (cur.set kc (filE G N f v N)) (va_A (pre ++ AW b cur) (b + cur.length))) 0 0 (va_A (pre ++ AW b cur) (b + cur.length)) := by
    refine Met.ofW (cc := cJ7_fill_53178) (maxL := 4) (ret := none) (by decide +kernel) rfl ?_
    intro p e s mi args below meth c s₁ Bd hml hv
    obtain ⟨rfl, hsz, ⟨hP, hK, hAO⟩, hD0⟩ := hv
    have hts := atoms_spec (ws := (Cond.code yJ7_fill_53178 cJ7_fill_53178 4 none :: TB)) Bd.pre
    have hown : s.vm.findClass yJ7_fill_53178.cls = some mi.cls := findClass_of_methodNamed Bd.named
    rw [← hsz]
    have hD := hD0.self (sz := s.heap.size)
    have hA : ∀ q : Nat, s.heap.size ≤ q → va_A (pre ++ AW b cur) s.heap.size q := fun q h => Or.inr h
    have hl0 := lv_entry [Value.ref (b + kc), Value.int v] (n := 4) (Nat.le_of_ble_eq_true rfl)
    rw [lg_entry_eq]
    generalize (lg_sl [Value.ref (b + kc), Value.int v] ++ List.replicate (4 - (lg_sl [Value.ref (b + kc), Value.int v]).length) Slot.unset).toArray = ls at hl0 ⊢
    exact fill_walk he hN p l e _ s mi _ below meth c (va_A (pre ++ AW b cur) s.heap.size) s.heap [] ls ⟨Bd.exec, Bd.bytes, hml, Bd.returns, hown, fun w hw => hts w (List.mem_cons_of_mem _ hw), Bd.notSynchronized, rfl, hAO, Or.inl rfl⟩ ⟨hK, hP, hD, va_S.rf, hA, hsz⟩ hl0
  have hco : Cond.code yJ7_fill_53178 cJ7_fill_53178 4 none ∈ TB := k103
  have hmem : ∀ w ∈ Cond.code yJ7_fill_53178 cJ7_fill_53178 4 none :: TB, w ∈ TB := fun w hw => by
    rcases List.mem_cons.mp hw with h | h
    · rw [h]; exact hco
    · exact h
  have hR : (rmD 1 0 0).frames + 1 ≤ R.frames ∧ 8 + (4 + 11) + (rmD 1 0 0).locals ≤ R.locals := by
    rw [hOk.2.2.2.2.2.2.2.1]
    refine ⟨hdep, ?_⟩
    show 8 + (4 + 11) + 64 * 1 ≤ 64 * E.2.2.2.2.2.2
    omega
  have hf : a.1 + 0 ≤ R.cells ∧ a.2 + 0 ≤ R.slots := by rw [hOk.2.2.2.2.2.2.2.1]; exact hroom
  have hW8 : (st.map fun v => v.category).sum ≤ 8 := by have := cat_sum st; omega
  have hAA : ∀ q, va_A (pre ++ AW b cur) (b + cur.length) q → A q := by
    rintro q (⟨k, en, hke⟩ | hq)
    · exact hD.2 k _ hke
    · exact hA q (Nat.le_trans hS1.1 (by omega))
  refine bb_back (cur := cur) (pre' := pre) (b' := b) (mc := 0) (ms := 0) (blk' := cur.set kc (filE G N f v N)) (cur2 := cur.set kc (filE G N f v N)) (A2 := va_A (pre ++ AW b cur) (b + cur.length)) (as := [Value.ref (b + kc), Value.int v].toArray) rfl rfl k hOk hIn1 hL hAA ?_
  exact va_runS (As := [.ref (b + kc), .int v]) (n := 2) ⟨hOk.1, hOk.2.1, hOk.2.2.1, hOk.2.2.2.2.1, hts⟩ hM ⟨callB_of _ hts (tb_in hmem) rfl rfl rfl (hts _ k70) (hts _ hl) (show _ ∧ _ ∧ Option.map (fun d => d.parameters.length) (parseMethodDescriptor yJ7_fill_53178.desc) = some 2 from by decide +kernel) hR, hts _ k102⟩ ⟨fun a U g mk q => by obtain ⟨q0, q1, ⟨qP, qK, qO⟩, qD⟩ := q; exact ⟨q0, q1, ⟨qP, va_K.moved (u := U) (U := U.calling g mk a) (Vm.Alike.refl U.vm) qK, AOs.vmeq (u := U) (U := U.calling g mk a) rfl qO⟩, qD⟩, fun U hU hW => ⟨rfl, by rw [hU]; exact hz, ⟨by rw [hU]; exact hP, va_K.moved hW.alike hK, hOk.2.2.2.2.2.2.2.2.1.warm hW⟩, hD.weaken (fun _ _ _ _ => trivial)⟩⟩ rfl rfl hL.1 rfl (lv_room hW8) hd hf
end BBfill
