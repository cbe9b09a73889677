/-! rows of the constructors, continued -/
theorem AW_at : ∀ (b : Nat) (es : List va_E) (k : Nat) (x : Nat × va_E), (AW b es)[k]? = some x → x.1 = b + k ∧ es[k]? = some x.2
  | _, [], k, x, h => by cases h
  | b, e :: es, 0, x, h => by
    cases h
    exact ⟨rfl, rfl⟩
  | b, e :: es, k + 1, x, h => by
    have t := AW_at (b + 1) es k x h
    exact ⟨by omega, t.2⟩
section BBrows2
variable {G : va_G × (Nat → ClassId)} {pre : va_W} {b : Nat} {E : ME} {blk : List va_E} {pc : Nat} {L : List (Nat × Value)} {st : List Value} {cur : List va_E} {a : Nat × Nat}
theorem InB.setw {A : Nat → Prop} {s : State} {H H1 : Heap} {locs : List Loc} {kc j : Nat} {e0 e : va_E} (hIn : InB G pre b cur A s H locs) (he : cur[kc]? = some e0) (h1 : va_at G.1 vwCl (b + kc, e) H1) (z : H1.size = H.size) (oq : ∀ q : Nat, q ≠ b + kc → H1[q]? = H[q]?) : InB G pre b (cur.set kc e) A s H1 (locs ++ [⟨b + kc, j⟩]) := by
  obtain ⟨hK, hP, hD, hS, hA, hz⟩ := hIn
  have hg := WB_get (pre := pre) (b := b) he
  have q1 := hP.set hD hg h1 oq
  have q2 := hD.set (e := e) hg
  rw [WB_set] at q1 q2
  exact ⟨hK, q1, q2, hS.put z oq (hD.2 _ _ hg), hA, by rw [List.length_set, z, hz]⟩
theorem InB.pushL {A : Nat → Prop} {s : State} {H H1 : Heap} {locs : List Loc} {es : List va_E} (hIn : InB G pre b cur A s H locs) (he : va_P G.1 vwCl (AW (b + cur.length) es) H1) (z1 : H1.size = H.size + es.length) (o1 : ∀ q : Nat, q < H.size → H1[q]? = H[q]?) : InB G pre b (cur ++ es) A s H1 locs := by
  obtain ⟨hK, hP, hD, hS, hA, hz⟩ := hIn
  have hk : ∀ (k : Nat) (x : Nat × va_E), (pre ++ AW b cur)[k]? = some x → H1[x.1]? = H[x.1]? := fun k x hx => o1 x.1 ((hP k x hx).lt)
  have q1 := (hP.kept hk).app he
  have q2 : va_D A ((pre ++ AW b cur) ++ AW (b + cur.length) es) := by
    have key : ∀ (i : Nat) (p : Nat × va_E), ((pre ++ AW b cur) ++ AW (b + cur.length) es)[i]? = some p → ((pre ++ AW b cur)[i]? = some p ∧ p.1 < H.size) ∨ ((pre ++ AW b cur).length ≤ i ∧ p.1 = H.size + (i - (pre ++ AW b cur).length)) := by
      intro i p hp
      by_cases hl : i < (pre ++ AW b cur).length
      · rw [List.getElem?_append_left hl] at hp
        exact Or.inl ⟨hp, (hP i p hp).lt⟩
      · rw [List.getElem?_append_right (by omega)] at hp
        have t := AW_at _ _ _ _ hp
        exact Or.inr ⟨by omega, by rw [t.1, hz]⟩
    refine ⟨fun i j p q hp hq e => ?_, fun k q hq => ?_⟩
    · rcases key i p hp with ⟨h1, h2⟩ | ⟨h1, h2⟩
      · rcases key j q hq with ⟨h3, h4⟩ | ⟨h3, h4⟩
        · exact hD.1 i j p q h1 h3 e
        · omega
      · rcases key j q hq with ⟨h3, h4⟩ | ⟨h3, h4⟩
        · omega
        · omega
    · rcases key k q hq with ⟨h1, h2⟩ | ⟨h1, h2⟩
      · exact hD.2 k q h1
      · exact hA _ (Nat.le_trans hS.1 (by omega))
  rw [List.append_assoc, ← AW_app] at q1 q2
  exact ⟨hK, q1, q2, ⟨Nat.le_trans hS.1 (by omega), fun x h1 h2 => (o1 x (Nat.lt_of_lt_of_le h1 hS.1)).trans (hS.2.1 x h1 h2), hS.2.2⟩, hA, by rw [List.length_append]; omega⟩
theorem bb_new {t index N : Nat} {C : String} {T : u_T} (fs : List Value) (ty : Nat → FieldType) (hc : vwCl[t]? = some (C, T, N)) (hin : ∀ w ∈ u_ws C T N, w ∈ TB) (hty : ∀ k, k < N → parseFieldDescriptor (T k).2.2.1 = some (ty k)) (hcl : Cond.classLink E.2.1 index C ∈ TB) (hinst : Cond.instantiable C N ∈ TB) (hini : Cond.initialized C ∈ TB) (hfs : ∀ j, j < N → defaultValue (ty j) = vp_V fs j) (hr : a.1 + 1 ≤ E.2.2.2.2.1 ∧ a.2 + N ≤ E.2.2.2.2.2.1) (hd : decode E.1 pc = .ok (.new index, 3)) (k : BB G pre b E blk (pc + 3) L (.ref (b + cur.length) :: st) (cur ++ [.inr (t, fs)]) (a.1 + 1, a.2 + N)) : BB G pre b E blk pc L st cur a := by
  intro p l e R s mi args below meth c A H locs ls hOk hIn hL
  have hts := hOk.2.2.2.2.2.1
  have hR : a.1 + 1 ≤ R.cells ∧ a.2 + N ≤ R.slots := by rw [hOk.2.2.2.2.2.2.2.1]; exact hr
  have hKn := hIn.1.1 t _ hc
  refine W.newcK hOk.1 hOk.2.1 hOk.2.2.2.2.1 (hts _ hcl) (hts _ hinst) (hts _ hini) rfl hd hR.1 hR.2 hKn.2.1 hIn.2.2.2.2.2 fun H1 kC hkC e1 z1 o1 => ?_
  exact k p l e R s mi args below meth c A H1 locs ls hOk (hIn.push (one_at ⟨_, hc, (u_born ty hts hin hKn hkC e1 hty).to hfs⟩) (by rw [z1, hIn.2.2.2.2.2]) (fun q hq => o1 q (by rw [← hIn.2.2.2.2.2]; exact hq))) hL
theorem bb_obj {x idx : Nat} (hl : Cond.methodLink E.2.1 idx Lib.objectInit ∈ TB) (hi : Cond.instanceMethod Lib.objectInit ∈ TB) (hco : Cond.code Lib.objectInit ⟨#[0xb1]⟩ 1 none ∈ TB) (hd : decode E.1 pc = .ok (.invokespecial idx, 3)) (hdep : 1 ≤ E.2.2.2.2.2.2) (hst : st = []) (k : BB G pre b E blk (pc + 3) L st cur a) : BB G pre b E blk pc L (.ref x :: st) cur a := by
  intro p l e R s mi args below meth c A H locs ls hOk hIn hL
  subst hst
  have hts := hOk.2.2.2.2.2.1
  have hR : 1 ≤ R.frames ∧ 64 ≤ R.locals := by
    rw [hOk.2.2.2.2.2.2.2.1]
    exact ⟨hdep, by show 64 ≤ 64 * E.2.2.2.2.2.2; omega⟩
  exact W.objInit hOk.1 hOk.2.1 hOk.2.2.2.2.1 (hts _ hl) (hts _ hi) (hts _ hco) rfl (by rw [hOk.2.2.1]; exact hL.1) rfl hd hR.1 (Nat.le_trans (Nat.le_of_ble_eq_true rfl) hR.2) (k p l e R s mi args below meth c A H locs ls hOk hIn hL)
theorem bb_putF {t idx N kc x : Nat} {C : String} {T : u_T} {fs : List Value} (k : Nat) (v : Value) (ty0 : Nat → FieldType) (ty : FieldType) (hne : ¬ E.2.1 = "java/util/Arrays") (hc : vwCl[t]? = some (C, T, N)) (hk : k < N) (hin : ∀ w ∈ u_ws C T N, w ∈ TB) (hty : ∀ k, k < N → parseFieldDescriptor (T k).2.2.1 = some (ty0 k)) (hnm : ∀ a, a < N → ∀ b, b < N → a ≠ b → (T a).2.1 ≠ (T b).2.1) (hlink : Cond.fieldLink E.2.1 idx (T k).1 (T k).2.1 (T k).2.2.1 ∈ TB) (hfin : (T k).2.2.2 = true) (hdecl : (T k).1 = E.2.1) (hd2 : parseFieldDescriptor (T k).2.2.1 = some ty) (hnr : narrow ty v = v) (hfit : fits ty v = true) (hlen : k < fs.length) (he : cur[kc]? = some (.inr (t, fs))) (hx : x = b + kc) (hd : decode E.1 pc = .ok (.putfield idx, 3)) (kk : BB G pre b E blk (pc + 3) L st (cur.set kc (.inr (t, fs.set k v))) a) : BB G pre b E blk pc L (v :: .ref x :: st) cur a := by
  intro p l e R s mi args below meth c A H locs ls hOk hIn hL
  subst hx
  have hts := hOk.2.2.2.2.2.1
  have hap := va_apart (own := E.2.1) hts hin ty0 hty hnm hIn.1 hc
  obtain ⟨r, h1, cell, q1, q2, q3, q4⟩ := hIn.2.1 _ _ (WB_get he)
  have hr : r = (C, T, N) := Option.some.inj (h1.symm.trans hc)
  subst hr
  obtain ⟨hS, hfc, kC, hkC, hkind⟩ := hIn.1.1 t _ hc
  obtain ⟨cf, kf, fi, f, hi, hsl⟩ := hS k hk
  have hlay := hts _ (hin _ (u_in_lay hk))
  unfold u_lay at hlay
  rw [if_pos hfin] at hlay
  have hst := (u_facts hfc hkC (u_lays hts hin hk) hi).1
  have hcf : mi.cls = cf := by
    obtain ⟨_, _, c', _, _, _, -, -, hf', -, -, -, hown2, -⟩ := Cond.laysFinal_spec hlay
    have e1 : c' = cf := by have := hi.symm.trans hf'; simp at this; exact this.1.symm
    rw [hdecl] at hown2
    rw [← e1]; exact Option.some.inj (hOk.2.2.2.2.1.symm.trans hown2)
  have h6 := u_fits hfc hkC hkind (Or.inr hlay) hi hd2 hnr hfit
  have hini : meth.name = "<init>" := by
    rcases hOk.2.2.2.2.2.2.2.2.2 with z | z
    · exact absurd z hne
    · exact z
  refine W.putFinK hOk.1 hOk.2.1 hOk.2.2.2.2.1 (hts _ hlink) hi hst hcf hini (by rw [q2]; exact h6) q1 q3 (by rw [hsl]; exact k2_hasslot (q4 k hk)) rfl rfl hd fun H' e1 e2 e3 => ?_
  rw [hsl] at e1 ⊢
  exact kk p l e R s mi args below meth c A H' _ ls hOk (hIn.setw he ⟨_, hc, t_OB.to (V := updV (vp_V fs) k v) ⟨_, e1, q2, q3, t_set q4 hap hk v⟩ (fun j _ => vp_updV_set hlen v j)⟩ e2 e3) hL
theorem bb_put {t idx N kc x : Nat} {C : String} {T : u_T} {fs : List Value} (k : Nat) (v : Value) (ty0 : Nat → FieldType) (ty : FieldType) (hc : vwCl[t]? = some (C, T, N)) (hk : k < N) (hin : ∀ w ∈ u_ws C T N, w ∈ TB) (hty : ∀ k, k < N → parseFieldDescriptor (T k).2.2.1 = some (ty0 k)) (hnm : ∀ a, a < N → ∀ b, b < N → a ≠ b → (T a).2.1 ≠ (T b).2.1) (hlink : Cond.fieldLink E.2.1 idx (T k).1 (T k).2.1 (T k).2.2.1 ∈ TB) (hfin : (T k).2.2.2 = false) (hd2 : parseFieldDescriptor (T k).2.2.1 = some ty) (hnr : narrow ty v = v) (hfit : fits ty v = true) (hlen : k < fs.length) (he : cur[kc]? = some (.inr (t, fs))) (hx : x = b + kc) (hd : decode E.1 pc = .ok (.putfield idx, 3)) (kk : BB G pre b E blk (pc + 3) L st (cur.set kc (.inr (t, fs.set k v))) a) : BB G pre b E blk pc L (v :: .ref x :: st) cur a := by
  intro p l e R s mi args below meth c A H locs ls hOk hIn hL
  subst hx
  have hts := hOk.2.2.2.2.2.1
  have hap := va_apart (own := E.2.1) hts hin ty0 hty hnm hIn.1 hc
  obtain ⟨r, h1, cell, q1, q2, q3, q4⟩ := hIn.2.1 _ _ (WB_get he)
  have hr : r = (C, T, N) := Option.some.inj (h1.symm.trans hc)
  subst hr
  obtain ⟨hS, hfc, kC, hkC, hkind⟩ := hIn.1.1 t _ hc
  obtain ⟨cf, kf, fi, f, hi, hsl⟩ := hS k hk
  have hlay := hts _ (hin _ (u_in_lay hk))
  unfold u_lay at hlay
  rw [if_neg (by rw [hfin]; decide)] at hlay
  have hst := (u_facts hfc hkC (u_lays hts hin hk) hi).1
  have h6 := u_store hfc hkC hkind hlay hi hd2 hnr hfit
  refine W.putK hOk.1 hOk.2.1 (f := f) ⟨hOk.2.2.2.2.1, hts _ hlink, ⟨_, _, _, hi⟩, hst⟩ (by rw [q2]; exact h6) q1 q3 (by rw [hsl]; exact k2_hasslot (q4 k hk)) rfl rfl hd fun H' e1 e2 e3 => ?_
  rw [hsl] at e1 ⊢
  exact kk p l e R s mi args below meth c A H' _ ls hOk (hIn.setw he ⟨_, hc, t_OB.to (V := updV (vp_V fs) k v) ⟨_, e1, q2, q3, t_set q4 hap hk v⟩ (fun j _ => vp_updV_set hlen v j)⟩ e2 e3) hL
theorem bb_get {t idx N kc x : Nat} {C : String} {T : u_T} {fs : List Value} {v : Value} (k : Nat) (hc : vwCl[t]? = some (C, T, N)) (hk : k < N) (hin : ∀ w ∈ u_ws C T N, w ∈ TB) (hlink : Cond.fieldLink E.2.1 idx (T k).1 (T k).2.1 (T k).2.2.1 ∈ TB) (hv : fs[k]? = some v) (he : cur[kc]? = some (.inr (t, fs))) (hx : x = b + kc) (hd : decode E.1 pc = .ok (.getfield idx, 3)) (kk : BB G pre b E blk (pc + 3) L (v :: st) cur a) : BB G pre b E blk pc L (.ref x :: st) cur a := by
  intro p l e R s mi args below meth c A H locs ls hOk hIn hL
  subst hx
  have hts := hOk.2.2.2.2.2.1
  exact va_get hOk.1 hOk.2.1 hts hin hOk.2.2.2.2.1 hIn.1 hIn.2.1 (pre.length + kc) (WB_get he) hc k hk (hts _ hlink) (fun _ h => h) hv hd (kk p l e R s mi args below meth c A H locs ls hOk hIn hL)
theorem bb_iast {kc x N : Nat} {f : Nat → Int32} {i v : Int32} (he : cur[kc]? = some (.inl (G.2 0, N, .inl f))) (hx : x = b + kc) (hin : vp_in i N) (hd : decode E.1 pc = .ok (.iastore, 1)) (kk : BB G pre b E blk (pc + 1) L st (cur.set kc (.inl (G.2 0, N, .inl (upd f i.toNatClampNeg v)))) a) : BB G pre b E blk pc L (.int v :: .int i :: .ref x :: st) cur a := by
  intro p l e R s mi args below meth c A H locs ls hOk hIn hL
  subst hx
  refine W.iast hOk.1 hOk.2.1 (hIn.2.1 _ _ (WB_get he)) ((hIn.1.2 0 (G.2 0, .int) rfl).1 N (fun j => .int (f j))) (fun q => by cases q) (by show ¬ (i < 0 ∨ (arrV _ _ _).slots.size ≤ _); rw [arrV_size]; exact hin) rfl rfl hd fun H1 e1 z oq => ?_
  refine kk p l e R s mi args below meth c A H1 _ ls hOk (hIn.setw he ?_ z oq) hL
  show H1[b + kc]? = some (vp_cell _ _)
  rw [e1, vp_cell_i, vp_cell_i, arrV_store]
  congr 2
  funext q
  by_cases hq : q = i.toNatClampNeg
  · subst hq
    simp [updV, upd]
  · simp [updV, upd, hq]
theorem bb_alen {kc x N : Nat} {f : Nat → Int32} (he : cur[kc]? = some (.inl (G.2 0, N, .inl f))) (hx : x = b + kc) (hd : decode E.1 pc = .ok (.arraylength, 1)) (kk : BB G pre b E blk (pc + 1) L (.int (nI N) :: st) cur a) : BB G pre b E blk pc L (.ref x :: st) cur a := by
  intro p l e R s mi args below meth c A H locs ls hOk hIn hL
  subst hx
  exact va_alen hOk.1 hOk.2.1 hIn.1 hIn.2.1 (pre.length + kc) 0 (WB_get he) rfl rfl hd (kk p l e R s mi args below meth c A H locs ls hOk hIn hL)
theorem bb_aast {kc kv x y N t t0 : Nat} {r : vw_C} {vs : List Value} {f : Nat → Option Nat} {i : Int32} (he : cur[kc]? = some (.inl (G.2 t0, N, .inr (.inr (.inr (.inr f)))))) (hx : x = b + kc) (hty : (tysO G.2)[t0]? = some (G.2 t0, .object r.1)) (hv : cur[kv]? = some (.inr (t, vs))) (hy : y = b + kv) (hc : vwCl[t]? = some r) (hin : vp_in i N) (hd : decode E.1 pc = .ok (.aastore, 1)) (kk : BB G pre b E blk (pc + 1) L st (cur.set kc (.inl (G.2 t0, N, .inr (.inr (.inr (.inr (va_up f i.toNatClampNeg (some y)))))))) a) : BB G pre b E blk pc L (.ref y :: .int i :: .ref x :: st) cur a := by
  intro p l e R s mi args below meth c A H locs ls hOk hIn hL
  subst hx hy
  have hlt : i.toNatClampNeg < N := Nat.not_le.mp fun q => hin (Or.inr q)
  have h0 : ¬ i < 0 := fun q => hin (Or.inl q)
  obtain ⟨r', hr', cellV, g1, g2, g3, -⟩ := hIn.2.1 _ _ (WB_get hv)
  have hcls := (hIn.1.1 t r hc).2
  obtain ⟨kA, comp, k1, k2, k3, -⟩ := (hIn.1.2 t0 _ hty).2
  have hcomp : comp = G.1.1 t := Option.some.inj (k3.symm.trans hcls.1)
  subst hcomp
  obtain ⟨kC, hkC, -⟩ := hcls.2
  refine W.aast hOk.1 hOk.2.1 (hIn.2.1 _ _ (WB_get he)) (fun q h => by cases h) (fun h => by cases h) k1 k2 rfl hkC ⟨h0, by show _ < (arrV _ _ _).slots.size; rw [arrV_size]; exact hlt⟩ g1 (fun q h => by rw [g3] at h; cases h) (by rw [g2]; exact hkC) (by rw [g2]; exact va_assign hcls) rfl rfl hd fun H1 e1 z oq => ?_
  refine kk p l e R s mi args below meth c A H1 _ ls hOk (hIn.setw he ?_ z oq) hL
  show H1[b + kc]? = some (vp_cell _ _)
  rw [e1, vp_cell_q, vp_cell_q, arrV_store]
  congr 2
  funext q
  by_cases hq : q = i.toNatClampNeg
  · subst hq
    simp [updV, va_up, va_rf]
  · simp [updV, va_up, hq]
theorem bb_multi {index : Nat} (hcl : Cond.classLink E.2.1 index "[[I" ∈ TB) (harr : Cond.arrayClass FieldType.int ∈ TB) (hr : a.1 + 9 ≤ E.2.2.2.2.1 ∧ a.2 + 328 ≤ E.2.2.2.2.2.1) (hd : decode E.1 pc = .ok (.multianewarray index 2, 4)) (k : BB G pre b E blk (pc + 4) L (.ref (b + cur.length) :: st) (cur ++ (.inl (G.2 4, 8, .inr (.inr (.inr (.inr (fun i => if i < 8 then some (b + cur.length + 1 + i) else none))))) :: List.replicate 8 (.inl (G.2 0, 40, .inl (fun _ => nI 0))))) (a.1 + 9, a.2 + 328)) : BB G pre b E blk pc L (.int (nI 40) :: .int (nI 8) :: st) cur a := by
  intro p l e R s mi args below meth c A H locs ls hOk hIn hL T hT Xs
  have hts := hOk.2.2.2.2.2.1
  have hR : a.1 + 9 ≤ R.cells ∧ a.2 + 328 ≤ R.slots := by rw [hOk.2.2.2.2.2.2.2.1]; exact hr
  have h8 : (nI 8).toNatClampNeg = 8 := n_cl (by omega)
  have h40 : (nI 40).toNatClampNeg = 40 := n_cl (by omega)
  obtain ⟨vm₁, cA, comp, -, fA, fC, hO, -, X', step⟩ := Xs.multianewarray2F hOk.1 (ty := .int) hOk.2.2.2.2.1 (hts _ hcl) hOk.2.2.2.2.2.2.2.2.1.2.2.1 (hts _ harr) (g := F0 mi pc ls (.int (nI 40) :: .int (nI 8) :: st)) rfl (by rw [hOk.2.1]; exact hd) rfl (by decide) (by decide) (by rw [h8]; decide) (by rw [h40]; decide) (by rw [h40]; decide) rfl rfl (by rw [h8]; omega) (by rw [h8, h40]; omega)
  rw [h8, h40] at X' step
  have ec : comp = G.2 0 := by
    have q : s.vm.findClass ("[" ++ FieldType.int.toString) = some (G.2 0) := (hIn.1.2 0 (G.2 0, .int) rfl).2
    have q2 : s.vm.findClass ("[" ++ FieldType.int.toString) = some comp := fC
    rw [q2] at q
    exact Option.some.inj q
  have eA : cA = G.2 4 := by
    have q : s.vm.findClass ("[" ++ (FieldType.array .int).toString) = some (G.2 4) := (hIn.1.2 4 (G.2 4, .array .int) rfl).2
    rw [fA] at q
    exact Option.some.inj q
  subst ec eA
  generalize hF : Jvm.Free.Multi.fill (T.setVm vm₁) (G.2 4) (G.2 0) 8 40 (defaultValue .int) 8 = F at X' step
  have hTh : (T.setVm vm₁).heap = H := hT
  obtain ⟨f1, f2, -, -⟩ := Jvm.Free.Multi.fill_facts (T.setVm vm₁) (G.2 4) (G.2 0) 8 40 (defaultValue .int) 8
  rw [hF, hTh] at f1 f2
  have hold : ∀ x : Nat, x < H.size → F.heap[x]? = H[x]? := fun x hx => by
    have := Jvm.Free.Multi.fill_old (T.setVm vm₁) (G.2 4) (G.2 0) 8 40 (defaultValue .int) (a := x) (by rw [hTh]; exact hx) 8
    rw [hF, hTh] at this
    exact this
  have hin : Jvm.Free.Multi.innerC (G.2 0) 40 (defaultValue .int) = vp_cell (G.2 0) (40, .inl (fun _ => nI 0)) := by
    rw [vp_cell_i]
    exact arrV_new _ _ _
  have hrow : ∀ j : Nat, j < 8 → F.heap[H.size + 1 + j]? = some (vp_cell (G.2 0) (40, .inl (fun _ => nI 0))) := fun j hj => by
    have := Jvm.Free.Multi.fill_inner (T.setVm vm₁) (G.2 4) (G.2 0) 8 40 (defaultValue .int) 8 j hj
    rw [hF, hTh, hin] at this
    exact this
  have hout : Jvm.Free.Multi.outerC (G.2 4) 8 H.size 8 = vp_cell (G.2 4) (8, .inr (.inr (.inr (.inr (fun i => if i < 8 then some (H.size + 1 + i) else none))))) := by
    rw [vp_cell_q]
    have go : ∀ i : Nat, Jvm.Free.Multi.outerC (G.2 4) 8 H.size i = arrV (G.2 4) 8 (fun j => va_rf (if j < i then some (H.size + 1 + j) else none)) := by
      intro i
      induction i with
      | zero =>
        show ({ cls := G.2 4, slots := Array.replicate 8 .null, vm := .none } : Cell) = _
        rw [arrV_new]
        refine congrArg (arrV (G.2 4) 8) (funext fun j => ?_)
        simp [va_rf]
      | succ i ih =>
        show (Jvm.Free.Multi.outerC (G.2 4) 8 H.size i).setSlot i (.ref (H.size + 1 + i)) = _
        rw [ih, arrV_store]
        refine congrArg (arrV (G.2 4) 8) (funext fun j => ?_)
        by_cases e : j = i
        · subst e
          simp [updV, va_rf]
        · by_cases h : j < i
          · simp [updV, e, h, Nat.lt_succ_of_lt h]
          · simp [updV, e, h, show ¬ j < i + 1 by omega]
    exact go 8
  rw [hout] at f2
  have hz := hIn.2.2.2.2.2
  have hIn2 := hIn.pushL (es := .inl (G.2 4, 8, .inr (.inr (.inr (.inr (fun i => if i < 8 then some (b + cur.length + 1 + i) else none))))) :: List.replicate 8 (.inl (G.2 0, 40, .inl (fun _ => nI 0)))) (H1 := F.heap) (fun k x hx => by
    have t := AW_at _ _ _ _ hx
    cases k with
    | zero =>
      have e2 := t.2
      cases x with
      | mk x1 x2 =>
        cases e2
        have e1 : x1 = b + cur.length + 0 := t.1
        subst e1
        show F.heap[b + cur.length + 0]? = some (vp_cell _ _)
        rw [Nat.add_zero, ← hz]
        exact f2
    | succ k =>
      have e2 : (List.replicate 8 (Sum.inl (G.2 0, 40, .inl (fun _ => nI 0)) : va_E))[k]? = some x.2 := t.2
      have hk : k < 8 := by
        have := (List.getElem?_eq_some_iff.mp e2).1
        simpa using this
      rw [List.getElem?_replicate_of_lt hk] at e2
      cases x with
      | mk x1 x2 =>
        cases e2
        have e1 : x1 = b + cur.length + (k + 1) := t.1
        subst e1
        show F.heap[b + cur.length + (k + 1)]? = some (vp_cell _ _)
        rw [← hz, show H.size + (k + 1) = H.size + 1 + k by omega]
        exact hrow k hk) (by rw [f1]; rfl) hold
  obtain ⟨t, a1, b1⟩ := k p l e R s mi args below meth c A F.heap locs ls hOk hIn2 hL F rfl X'
  refine ⟨t, step t ?_, b1⟩
  rw [hT, hz]
  exact a1
end BBrows2
