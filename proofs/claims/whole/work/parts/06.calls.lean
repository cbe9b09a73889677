/-! CALLS, new arrays. -/
theorem cvA_ag {ad ad' : Nat → Nat} {m : AM} (hag : ∀ i, i < m.2.2.2 → ad' i = ad i) {v : AV} (h : wt m v) : cvA ad' v = cvA ad v := by
  rcases v with x | x | q
  · rfl
  · rfl
  · show Value.ref _ = Value.ref _
    rw [hag _ h.2]
theorem wt_up {m m' : AM} (hn : m.2.2.2 ≤ m'.2.2.2) {v : AV} (h : wt m v) : wt m' v := by
  rcases v with x | x | q
  · trivial
  · trivial
  · exact ⟨h.1, Nat.lt_of_lt_of_le h.2 hn⟩
theorem LHm.up {ad ad' : Nat → Nat} {m m' : AM} {ls : Array Slot} {nL : Nat} {L : List (Option AV)} (hag : ∀ i, i < m.2.2.2 → ad' i = ad i) (hn : m.2.2.2 ≤ m'.2.2.2) (h : LHm ad m ls nL L) : LHm ad' m' ls nL L :=
  ⟨h.1, h.2.1, fun k v hk => ⟨by rw [cvA_ag hag (h.2.2 k v hk).2]; exact (h.2.2 k v hk).1, wt_up hn (h.2.2 k v hk).2⟩⟩
theorem map_ag {ad ad' : Nat → Nat} {m : AM} (hag : ∀ i, i < m.2.2.2 → ad' i = ad i) {st : List AV} (h : ∀ v, v ∈ st → wt m v) : st.map (cvA ad') = st.map (cvA ad) :=
  List.map_congr_left (fun v hv => cvA_ag hag (h v hv))
theorem b_back {E : ME} {Φ Φ' : Option AV → AM → Prop} {pc : Nat} {L : List (Option AV)} {st : List AV} {m : AM} {a : Nat × Nat} {mc ms : Nat} (hk : ∀ r m', Φ' r m' → B E Φ (pc + 3) L (r.toList ++ st) m' (a.1 + mc, a.2 + ms))
    {p : Program} {l : Launch} {e : Env} {R : Room} {s : State} {mi : MethodId} {args : Array Value} {below : List Frame} {meth : Method} {c : Code} {G : va_G × (Nat → ClassId)} {ad0 : Nat → Nat} {nx0 : Nat} {A : Nat → Prop} {ad : Nat → Nat} {H : Heap} {locs : List Loc} {ls : Array Slot} {st0 : List Value} {as : Array Value}
    (hOk : OkM E p R s mi args meth c) (hIn : InM G ad0 nx0 A ad m s H locs) (hL : LHm ad m ls E.2.2.1 L) (hst : ∀ v, v ∈ st → wt m v)
    (hr : va_Run p l e R s mi args below meth c H locs a.1 a.2 mc ms (F0 mi pc ls st0) (st.map (cvA ad)) (Qg G ad m.2.2.2 (va_A (wsO G.2 ad m) H.size) Φ' as) (va_A (wsO G.2 ad m) H.size)) :
    W p l e R s mi args below meth c H locs a.1 a.2 (MQ below (Qg G ad0 nx0 A Φ) args s E.2.2.2.2.1 E.2.2.2.2.2.1 A) (F0 mi pc ls st0) := by
  intro T hT X
  obtain ⟨v, st₀, t, T', Lq, h0, X', hLq, e1, e2, ⟨⟨r, m', ad', hv, hΦ, hwr, hty, ⟨hP', hK'⟩, hD', hnx, hag⟩, hz, hkk⟩, stp⟩ := hr T hT X
  have hv2 : v = r.map (cvA ad') := by injection hv
  subst hv2
  rw [h0] at hz hkk
  have hS := hIn.2.2.2.1
  have hAA : ∀ q, va_A (wsO G.2 ad m) H.size q → A q := by
    rintro q (⟨k, en, hke⟩ | hq)
    · exact hIn.2.2.1.2 k _ hke
    · exact hIn.2.2.2.2.1.1 q (Nat.le_trans hS.1 hq)
  have kq := hk r m' hΦ p l e R s mi args below meth c G ad0 nx0 A ad' T'.heap (locs ++ Lq) ls hOk ⟨hIn.1, by rw [e1]; exact hP', hD'.weaken (fun k q hk hq => hAA _ hq), ⟨Nat.le_trans hS.1 (by rw [e1]; exact hz), fun q h1 h2 => by rw [e1, hkk q (Nat.lt_of_lt_of_le h1 hS.1) (fun z => h2 (hAA q z))]; exact hS.2.1 q h1 h2, fun q hq => by
      rcases List.mem_append.mp hq with h | h
      · exact hS.2.2 q h
      · exact hAA _ (hLq q h)⟩, hIn.2.2.2.2.1, fun i hi => (hag i (Nat.lt_of_lt_of_le hi hIn.2.2.2.2.2.2.1)).trans (hIn.2.2.2.2.2.1 i hi), Nat.le_trans hIn.2.2.2.2.2.2.1 hnx, hty⟩ (hL.up hag hnx) (fun w hw => by
      rcases List.mem_append.mp hw with h | h
      · exact hwr w (by cases r with | none => simp at h | some z => simp at h; rw [h])
      · exact wt_up hnx (hst w h))
  obtain ⟨t2, a1, b1⟩ := kq T' rfl X'
  refine ⟨t2, stp t2 ?_, b1⟩
  have e9 : (r.toList ++ st).map (cvA ad') = (r.map (cvA ad')).toList ++ st.map (cvA ad) := by
    rw [List.map_append, map_ag hag hst]
    cases r <;> rfl
  rw [e9] at a1
  exact a1
theorem tb_in {ws : List Cond} (h : ∀ w ∈ ws, w ∈ TB) : GoodIn TB ws := fun w hw => ⟨h w hw, (tb_good w (h w hw)).2⟩
theorem b_callV {y : MethodName} {E' : ME} {Sp : List AV → AM → (Option AV → AM → Prop) → Prop} (hS : Snd y E' Sp) {E : ME} {Φ : Option AV → AM → Prop} {pc : Nat} {L : List (Option AV)} {st : List AV} {m : AM} {a : Nat × Nat} {t i idx : Nat} (av : List AV) (q : vw_C)
    (hc : vwCl[t]? = some q) (hq : q.1 = y.cls) (ht : t < 12) (hl : Cond.methodLink E.2.1 idx y ∈ TB ∨ ∃ host, Cond.methodLinkNest E.2.1 idx y host ∈ TB) (hi : Cond.instanceMethod y ∈ TB) (hse : Cond.selects y.cls y y ∈ TB) (hini : Cond.initialized y.cls ∈ TB) (hco : Cond.code y E'.1 E'.2.2.1 E'.2.2.2.1 ∈ TB)
    (hds : y.cls ≠ "java/lang/invoke/MethodHandle" ∧ y.cls ≠ "java/lang/invoke/VarHandle" ∧ (parseMethodDescriptor y.desc).map (fun d => d.parameters.length) = some av.length) (hdep : E'.2.2.2.2.2.2 + 1 ≤ E.2.2.2.2.2.2 ∧ E'.2.2.1 ≤ 45) (hroom : a.1 + E'.2.2.2.2.1 ≤ E.2.2.2.2.1 ∧ a.2 + E'.2.2.2.2.2.1 ≤ E.2.2.2.2.2.1) (hsr : st.length ≤ 4)
    (hd : decode E.1 pc = .ok (.invokevirtual idx, 3)) (hsp : Sp (vr t i :: av) m (fun r m' => B E Φ (pc + 3) L (r.toList ++ st) m' (a.1 + E'.2.2.2.2.1, a.2 + E'.2.2.2.2.2.1))) : B E Φ pc L (av.reverse ++ vr t i :: st) m a := by
  intro p l e R s mi args below meth c G ad0 nx0 A ad H locs ls hOk hIn hL hst
  have hts := hOk.2.2.2.2.2.1
  have hty := hIn.2.2.2.2.2.2.2
  have hst2 : ∀ v, v ∈ st → wt m v := fun v hv => hst v (by simp [hv])
  have hb0 : wt m (vr t i) := hst _ (by simp)
  have hav : ∀ v, v ∈ vr t i :: av → wt m v := fun v hv => hst v (by
    rcases List.mem_cons.mp hv with h | h
    · simp [h]
    · simp [h])
  have hM := hS l G ad m (vr t i :: av) _ H.size hsp hav hty
  have hce := hIn.cell hb0
  unfold celT at hce
  rw [if_pos ht] at hce
  have hmem : ∀ w ∈ Cond.code y E'.1 E'.2.2.1 E'.2.2.2.1 :: TB, w ∈ TB := fun w hw => by
    rcases List.mem_cons.mp hw with h | h
    · rw [h]; exact hco
    · exact h
  have hR : (rmD E'.2.2.2.2.2.2 E'.2.2.2.2.1 E'.2.2.2.2.2.1).frames + 1 ≤ R.frames ∧ 8 + (E'.2.2.1 + 11) + (rmD E'.2.2.2.2.2.2 E'.2.2.2.2.1 E'.2.2.2.2.2.1).locals ≤ R.locals := by
    rw [hOk.2.2.2.2.2.2.2.1]
    refine ⟨hdep.1, ?_⟩
    show 8 + (E'.2.2.1 + 11) + 64 * E'.2.2.2.2.2.2 ≤ 64 * E.2.2.2.2.2.2
    have := hdep.1
    have := hdep.2
    omega
  have hpre : PreV s H y.cls (ad i) (va_Pc ((vr t i :: av).map (cvA ad)) (fun U => U.heap.size = H.size ∧ Wd G ad m U ∧ va_D (fun _ => True) (wsO G.2 ad m))) (av.map (cvA ad)) :=
    ⟨fun a U g mk q => by obtain ⟨q0, q1, ⟨qP, qK, qN, qS⟩, qD⟩ := q; exact ⟨q0, q1, ⟨qP, va_K.moved (u := U) (U := U.calling g mk a) (Vm.Alike.refl U.vm) qK, va_Nw.same rfl rfl qN, STT.up (t := U.calling g mk a) qS (Vm.Alike.refl U.vm) (fun _ _ _ => rfl) (fun _ h => h)⟩, qD⟩, hq ▸ va_recv hIn.1 hIn.2.1 hc hce, fun U hU hW => ⟨rfl, by rw [hU], ⟨by rw [hU]; exact hIn.2.1, va_K.moved hW.alike hIn.1, nw_up hW hOk.2.2.2.2.2.2.2.2, hIn.stt hU hW.alike⟩, hIn.2.2.1.weaken (fun _ _ _ _ => trivial)⟩⟩
  have hcat := cat_le ad st
  have hW8 : ((st.map (cvA ad)).map fun v => v.category).sum ≤ 8 := by omega
  have hf : a.1 + E'.2.2.2.2.1 ≤ R.cells ∧ a.2 + E'.2.2.2.2.2.1 ≤ R.slots := by rw [hOk.2.2.2.2.2.2.2.1]; exact hroom
  have hstk : ((av.reverse ++ vr t i :: st).map (cvA ad)) = (av.map (cvA ad)).reverse ++ .ref (ad i) :: st.map (cvA ad) := by rw [List.map_append, List.map_reverse]; rfl
  rw [hstk]
  refine b_back (mc := E'.2.2.2.2.1) (ms := E'.2.2.2.2.2.1) (Φ' := fun r m' => B E Φ (pc + 3) L (r.toList ++ st) m' (a.1 + E'.2.2.2.2.1, a.2 + E'.2.2.2.2.2.1)) (fun r m' h => h) hOk hIn hL hst2 (as := (Value.ref (ad i) :: av.map (cvA ad)).toArray) ?_
  rcases hl with hl | ⟨host, hl⟩
  · exact va_runV (n := (av.map (cvA ad)).length) ⟨hOk.1, hOk.2.1, hOk.2.2.1, hOk.2.2.2.2.1, hts⟩ hM ⟨callB_of _ hts (tb_in hmem) rfl rfl rfl (hts _ hini) (hts _ hl) ⟨hds.1, hds.2.1, by rw [List.length_map]; exact hds.2.2⟩ hR, hts _ hi, hts _ hse⟩ hpre rfl rfl hL.1 rfl (lv_room hW8) hd hf
  · exact va_runVN (n := (av.map (cvA ad)).length) ⟨hOk.1, hOk.2.1, hOk.2.2.1, hOk.2.2.2.2.1, hts⟩ hM ⟨va_cnB _ hts (tb_in hmem) rfl rfl rfl (va_Nw.of rfl (hts _ hl)) (hts _ hini) ⟨hds.1, hds.2.1, by rw [List.length_map]; exact hds.2.2⟩ hR, hts _ hi, hts _ hse⟩ hpre rfl rfl hL.1 rfl (lv_room hW8) hd hf
theorem b_callS {y : MethodName} {E' : ME} {Sp : List AV → AM → (Option AV → AM → Prop) → Prop} (hS : Snd y E' Sp) {E : ME} {Φ : Option AV → AM → Prop} {pc : Nat} {L : List (Option AV)} {st : List AV} {m : AM} {a : Nat × Nat} {idx : Nat} (av : List AV)
    (hl : Cond.methodLink E.2.1 idx y ∈ TB ∨ ∃ host, Cond.methodLinkNest E.2.1 idx y host ∈ TB) (hi : Cond.static y ∈ TB) (hini : Cond.initialized y.cls ∈ TB) (hco : Cond.code y E'.1 E'.2.2.1 E'.2.2.2.1 ∈ TB)
    (hds : y.cls ≠ "java/lang/invoke/MethodHandle" ∧ y.cls ≠ "java/lang/invoke/VarHandle" ∧ (parseMethodDescriptor y.desc).map (fun d => d.parameters.length) = some av.length) (hdep : E'.2.2.2.2.2.2 + 1 ≤ E.2.2.2.2.2.2 ∧ E'.2.2.1 ≤ 45) (hroom : a.1 + E'.2.2.2.2.1 ≤ E.2.2.2.2.1 ∧ a.2 + E'.2.2.2.2.2.1 ≤ E.2.2.2.2.2.1) (hsr : st.length ≤ 4)
    (hd : decode E.1 pc = .ok (.invokestatic idx, 3)) (hsp : Sp av m (fun r m' => B E Φ (pc + 3) L (r.toList ++ st) m' (a.1 + E'.2.2.2.2.1, a.2 + E'.2.2.2.2.2.1))) : B E Φ pc L (av.reverse ++ st) m a := by
  intro p l e R s mi args below meth c G ad0 nx0 A ad H locs ls hOk hIn hL hst
  have hts := hOk.2.2.2.2.2.1
  have hty := hIn.2.2.2.2.2.2.2
  have hst2 : ∀ v, v ∈ st → wt m v := fun v hv => hst v (by simp [hv])
  have hav : ∀ v, v ∈ av → wt m v := fun v hv => hst v (by simp [hv])
  have hM := hS l G ad m av _ H.size hsp hav hty
  have hmem : ∀ w ∈ Cond.code y E'.1 E'.2.2.1 E'.2.2.2.1 :: TB, w ∈ TB := fun w hw => by
    rcases List.mem_cons.mp hw with h | h
    · rw [h]; exact hco
    · exact h
  have hR : (rmD E'.2.2.2.2.2.2 E'.2.2.2.2.1 E'.2.2.2.2.2.1).frames + 1 ≤ R.frames ∧ 8 + (E'.2.2.1 + 11) + (rmD E'.2.2.2.2.2.2 E'.2.2.2.2.1 E'.2.2.2.2.2.1).locals ≤ R.locals := by
    rw [hOk.2.2.2.2.2.2.2.1]
    refine ⟨hdep.1, ?_⟩
    show 8 + (E'.2.2.1 + 11) + 64 * E'.2.2.2.2.2.2 ≤ 64 * E.2.2.2.2.2.2
    have := hdep.1
    have := hdep.2
    omega
  have hpre : PreS s H (va_Pc (av.map (cvA ad)) (fun U => U.heap.size = H.size ∧ Wd G ad m U ∧ va_D (fun _ => True) (wsO G.2 ad m))) (av.map (cvA ad)) :=
    ⟨fun a U g mk q => by obtain ⟨q0, q1, ⟨qP, qK, qN, qS⟩, qD⟩ := q; exact ⟨q0, q1, ⟨qP, va_K.moved (u := U) (U := U.calling g mk a) (Vm.Alike.refl U.vm) qK, va_Nw.same rfl rfl qN, STT.up (t := U.calling g mk a) qS (Vm.Alike.refl U.vm) (fun _ _ _ => rfl) (fun _ h => h)⟩, qD⟩, fun U hU hW => ⟨rfl, by rw [hU], ⟨by rw [hU]; exact hIn.2.1, va_K.moved hW.alike hIn.1, nw_up hW hOk.2.2.2.2.2.2.2.2, hIn.stt hU hW.alike⟩, hIn.2.2.1.weaken (fun _ _ _ _ => trivial)⟩⟩
  have hcat := cat_le ad st
  have hW8 : ((st.map (cvA ad)).map fun v => v.category).sum ≤ 8 := by omega
  have hf : a.1 + E'.2.2.2.2.1 ≤ R.cells ∧ a.2 + E'.2.2.2.2.2.1 ≤ R.slots := by rw [hOk.2.2.2.2.2.2.2.1]; exact hroom
  have hstk : ((av.reverse ++ st).map (cvA ad)) = (av.map (cvA ad)).reverse ++ st.map (cvA ad) := by rw [List.map_append, List.map_reverse]
  rw [hstk]
  refine b_back (mc := E'.2.2.2.2.1) (ms := E'.2.2.2.2.2.1) (Φ' := fun r m' => B E Φ (pc + 3) L (r.toList ++ st) m' (a.1 + E'.2.2.2.2.1, a.2 + E'.2.2.2.2.2.1)) (fun r m' h => h) hOk hIn hL hst2 (as := (av.map (cvA ad)).toArray) ?_
  rcases hl with hl | ⟨host, hl⟩
  · exact va_runS (n := (av.map (cvA ad)).length) ⟨hOk.1, hOk.2.1, hOk.2.2.1, hOk.2.2.2.2.1, hts⟩ hM ⟨callB_of _ hts (tb_in hmem) rfl rfl rfl (hts _ hini) (hts _ hl) ⟨hds.1, hds.2.1, by rw [List.length_map]; exact hds.2.2⟩ hR, hts _ hi⟩ hpre rfl rfl hL.1 rfl (lv_room hW8) hd hf
  · exact va_runSN (n := (av.map (cvA ad)).length) ⟨hOk.1, hOk.2.1, hOk.2.2.1, hOk.2.2.2.2.1, hts⟩ hM ⟨va_cnB _ hts (tb_in hmem) rfl rfl rfl (va_Nw.of rfl (hts _ hl)) (hts _ hini) ⟨hds.1, hds.2.1, by rw [List.length_map]; exact hds.2.2⟩ hR, hts _ hi, trivial⟩ hpre rfl rfl hL.1 rfl (lv_room hW8) hd hf
theorem kd_off (t t' o : Nat) (h : ∀ j, j < 125 → KD j = t → KD (j + o) = t' ∧ j + o < 125) {m : AM} {i : Nat} (ht : t ≠ 12) (hw : wt m (vr t i)) (hm : TY m) : wt m (vr t' (i + o)) := by
  have hi : i < 125 := by
    rcases Nat.lt_or_ge i 125 with h1 | h1
    · exact h1
    · have h9 : KD i = t := hw.1
      rw [KD_ge h1] at h9
      exact absurd h9.symm ht
  have h2 := h i hi hw.1
  exact ⟨h2.1, Nat.lt_of_lt_of_le h2.2 hm.1⟩
