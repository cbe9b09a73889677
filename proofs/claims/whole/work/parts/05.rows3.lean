/-! ROWS, third part: fields, further arrays, calls. -/
theorem b_get {E : ME} {Φ : Option AV → AM → Prop} {pc : Nat} {L : List (Option AV)} {st : List AV} {m : AM} {a : Nat × Nat} {t i idx : Nat} {N : Nat} {C : String} {T : u_T} (k : Nat) (v : AV) (hc : vwCl[t]? = some (C, T, N)) (ht : t < 12) (hk : k < N) (hin : ∀ w ∈ u_ws C T N, w ∈ TB) (hlink : Cond.fieldLink E.2.1 idx (T k).1 (T k).2.1 (T k).2.2.1 ∈ TB ∨ ∃ host, Cond.fieldLinkNest E.2.1 idx (T k).1 (T k).2.1 (T k).2.2.1 host ∈ TB) (hv : ∀ ad, (flds ad (m.1 i) (m.2.1 i) t i)[k]? = some (cvA ad v)) (hwt : wt m (vr t i) → TY m → wt m v) (hd : decode E.1 pc = .ok (.getfield idx, 3)) (kk : B E Φ (pc + 3) L (v :: st) m a) : B E Φ pc (L) (vr t i :: st) m a := by
  intro p l e R s mi args below meth c G ad0 nx0 A ad H locs ls hOk hIn hL hst
  have hw := hst _ List.mem_cons_self
  have hce := hIn.cell hw
  unfold celT at hce
  rw [if_pos ht] at hce
  have hts := hOk.2.2.2.2.2.1
  have kq := kk p l e R s mi args below meth c G ad0 nx0 A ad H locs ls hOk hIn hL (sw_c (hwt hw hIn.2.2.2.2.2.2.2) (sw_tl hst))
  rcases hlink with hlink | ⟨host, hlink⟩
  · exact va_get hOk.1 hOk.2.1 hts hin hOk.2.2.2.2.1 hIn.1 hIn.2.1 i hce hc k hk (hts _ hlink) (fun _ h => h) (hv ad) hd kq
  · exact va_getN hOk.1 hOk.2.1 hts hin hOk.2.2.2.2.1 hIn.1 hIn.2.1 i hce hc k hk (hts _ hlink) (fun _ h => h) (hv ad) hd kq
theorem b_getN {E : ME} {Φ : Option AV → AM → Prop} {pc : Nat} {L : List (Option AV)} {st : List AV} {m : AM} {a : Nat × Nat} {t i idx : Nat} {N : Nat} {C : String} {T : u_T} (k : Nat) (v : AV) {host : String} (hc : vwCl[t]? = some (C, T, N)) (ht : t < 12) (hk : k < N) (hin : ∀ w ∈ u_ws C T N, w ∈ TB) (hlink : Cond.fieldLinkNest E.2.1 idx (T k).1 (T k).2.1 (T k).2.2.1 host = NWw) (hv : ∀ ad, (flds ad (m.1 i) (m.2.1 i) t i)[k]? = some (cvA ad v)) (hwt : wt m (vr t i) → TY m → wt m v) (hd : decode E.1 pc = .ok (.getfield idx, 3)) (kk : B E Φ (pc + 3) L (v :: st) m a) : B E Φ pc (L) (vr t i :: st) m a := by
  intro p l e R s mi args below meth c G ad0 nx0 A ad H locs ls hOk hIn hL hst
  have hw := hst _ List.mem_cons_self
  have hce := hIn.cell hw
  unfold celT at hce
  rw [if_pos ht] at hce
  have hts := hOk.2.2.2.2.2.1
  have kq := kk p l e R s mi args below meth c G ad0 nx0 A ad H locs ls hOk hIn hL (sw_c (hwt hw hIn.2.2.2.2.2.2.2) (sw_tl hst))
  exact va_getN hOk.1 hOk.2.1 hts hin hOk.2.2.2.2.1 hIn.1 hIn.2.1 i hce hc k hk (by rw [hlink]; exact va_Nw.use rfl hOk.2.2.2.2.2.2.2.2) (fun _ h => h) (hv ad) hd kq
theorem wt_cg {m m' : AM} (hn : m'.2.2.2 = m.2.2.2) {v : AV} (h : wt m v) : wt m' v := by
  rcases v with x | x | q
  · trivial
  · trivial
  · exact ⟨h.1, by rw [hn]; exact h.2⟩
theorem LHm.cg {ad : Nat → Nat} {m m' : AM} {ls : Array Slot} {nL : Nat} {L : List (Option AV)} (hn : m'.2.2.2 = m.2.2.2) (h : LHm ad m ls nL L) : LHm ad m' ls nL L := ⟨h.1, h.2.1, fun k v hk => ⟨(h.2.2 k v hk).1, wt_cg hn (h.2.2 k v hk).2⟩⟩
theorem b_put {E : ME} {Φ : Option AV → AM → Prop} {pc : Nat} {L : List (Option AV)} {st : List AV} {m : AM} {a : Nat × Nat} {t i idx : Nat} {N : Nat} {C : String} {T : u_T} (k : Nat) (v : AV) (m' : AM) (ty0 : Nat → FieldType) (ty : FieldType) (hc : vwCl[t]? = some (C, T, N)) (ht : t < 12) (hk : k < N) (hin : ∀ w ∈ u_ws C T N, w ∈ TB) (hty : ∀ k, k < N → parseFieldDescriptor (T k).2.2.1 = some (ty0 k)) (hnm : ∀ a, a < N → ∀ b, b < N → a ≠ b → (T a).2.1 ≠ (T b).2.1) (hlink : Cond.fieldLink E.2.1 idx (T k).1 (T k).2.1 (T k).2.2.1 ∈ TB ∨ ∃ host, Cond.fieldLinkNest E.2.1 idx (T k).1 (T k).2.1 (T k).2.2.1 host ∈ TB) (hfin : (T k).2.2.2 = false) (hd2 : parseFieldDescriptor (T k).2.2.1 = some ty) (hnr : ∀ ad, narrow ty (cvA ad v) = cvA ad v) (hfit : ∀ ad, fits ty (cvA ad v) = true) (hlen : ∀ ad, k < (flds ad (m.1 i) (m.2.1 i) t i).length) (hset : ∀ ad, (flds ad (m.1 i) (m.2.1 i) t i).set k (cvA ad v) = flds ad (m'.1 i) (m'.2.1 i) t i) (hn : m'.2.2.2 = m.2.2.2) (ho : ∀ (Y : Nat → ClassId) (ad : Nat → Nat) (a : Nat), a ≠ i → cel Y ad m' a = cel Y ad m a) (hTY : wt m v → TY m → TY m') (hd : decode E.1 pc = .ok (.putfield idx, 3)) (kk : B E Φ (pc + 3) L st m' a) : B E Φ pc (L) (v :: vr t i :: st) m a := by
  intro p l e R s mi args below meth c G ad0 nx0 A ad H locs ls hOk hIn hL hst
  have hw := hst _ (List.mem_cons_of_mem _ List.mem_cons_self)
  have hce := hIn.cell hw
  unfold celT at hce
  rw [if_pos ht] at hce
  have hts := hOk.2.2.2.2.2.1
  have he : cel G.2 ad m' i = .inr (t, (flds ad (m.1 i) (m.2.1 i) t i).set k (cvA ad v)) := by
    unfold cel celT
    rw [hw.1, if_pos ht, hset ad]
  have kq : ∀ (H1 : Heap) (locs1 : List Loc), va_P G.1 vwCl ((wsO G.2 ad m).set i (ad i, .inr (t, (flds ad (m.1 i) (m.2.1 i) t i).set k (cvA ad v)))) H1 → va_D A ((wsO G.2 ad m).set i (ad i, .inr (t, (flds ad (m.1 i) (m.2.1 i) t i).set k (cvA ad v)))) → va_S A s.heap H1 locs1 → _ :=
    fun H1 locs1 hP hD hS => kk p l e R s mi args below meth c G ad0 nx0 A ad H1 locs1 ls hOk (hIn.setw hn he (fun a h => ho _ _ a h) (hTY (hst _ List.mem_cons_self) hIn.2.2.2.2.2.2.2) hP hD hS) (hL.cg hn) (fun w hw => wt_cg hn (hst w (List.mem_cons_of_mem _ (List.mem_cons_of_mem _ hw))))
  rcases hlink with hlink | ⟨host, hlink⟩
  · exact va_put hOk.1 hOk.2.1 hts hin ty0 hty hnm hOk.2.2.2.2.1 hIn.1 hIn.2.1 hIn.2.2.1 hIn.2.2.2.1 i hce hc k hk (hts _ hlink) (fun _ h => h) hfin hd2 (hnr ad) (hfit ad) (hlen ad) hd kq
  · exact va_putN hOk.1 hOk.2.1 hts hin ty0 hty hnm hOk.2.2.2.2.1 hIn.1 hIn.2.1 hIn.2.2.1 hIn.2.2.2.1 i hce hc k hk (hts _ hlink) (fun _ h => h) hfin hd2 (hnr ad) (hfit ad) (hlen ad) hd kq
theorem b_aldI {E : ME} {Φ : Option AV → AM → Prop} {pc : Nat} {L : List (Option AV)} {st : List AV} {m : AM} {a : Nat × Nat} {i : Nat} {x : Int32} (hin : vp_in x 8) (hd : decode E.1 pc = .ok (.aaload, 1)) (k : B E Φ (pc + 1) L (vr 140 (i + 1 + x.toNatClampNeg) :: st) m a) : B E Φ pc (L) (vi x :: vr 15 i :: st) m a := by
  intro p l e R s mi args below meth c G ad0 nx0 A ad H locs ls hOk hIn hL hst
  have hw := hst _ (List.mem_cons_of_mem _ List.mem_cons_self)
  have hc := hIn.cell hw
  unfold celT at hc
  have hlt : x.toNatClampNeg < 8 := Nat.not_le.mp fun q => hin (Or.inr q)
  have hi : i < 125 := by
    rcases Nat.lt_or_ge i 125 with h | h
    · exact h
    · have h9 : KD i = 15 := hw.1
      rw [KD_ge h] at h9
      omega
  have h5 := TY.nx hIn.2.2.2.2.2.2.2
  rw [if_neg (by omega), if_neg (by omega), if_neg (by omega), if_neg (by omega), if_pos rfl] at hc
  have hq : ∀ i, i < 125 → KD i = 15 → ∀ j, j < 8 → KD (i + 1 + j) = 140 ∧ i + 1 + j < 125 := by decide +kernel
  have h6 := hq i hi hw.1 _ hlt
  have kq := k p l e R s mi args below meth c G ad0 nx0 A ad H locs ls hOk hIn hL (sw_c (v := vr 140 (i + 1 + x.toNatClampNeg)) ⟨h6.1, Nat.lt_of_lt_of_le h6.2 h5⟩ (sw_tl (sw_tl hst)))
  exact W.aald (v := .ref (ad (i + 1 + x.toNatClampNeg))) (ty := .array .int) hOk.1 hOk.2.1 (hIn.2.1 i _ hc) ((hIn.1.2 4 (G.2 4, .array .int) rfl).1 8 (fun j => va_rf (if j < 8 then some (ad (i + 1 + j)) else none))) rfl (fun q => by cases q) (by show ¬ (x < 0 ∨ (arrV _ _ _).slots.size ≤ _); rw [arrV_size]; exact hin) (by show (arrV _ _ _).slots[_]? = _; rw [arrV_read _ _ hlt]; simp only [if_pos hlt]; rfl) rfl rfl hd kq
theorem b_zast {E : ME} {Φ : Option AV → AM → Prop} {pc : Nat} {L : List (Option AV)} {st : List AV} {m : AM} {a : Nat × Nat} {t i : Nat} {x y : Int32} (ht : 20000 ≤ t) (hin : vp_in x (t - 20000)) (hy : y = 0 ∨ y = 1) (hd : decode E.1 pc = .ok (.bastore, 1)) (k : B E Φ (pc + 1) L st (mset m i x.toNatClampNeg y) a) : B E Φ pc (L) (vi y :: vi x :: vr t i :: st) m a := by
  intro p l e R s mi args below meth c G ad0 nx0 A ad H locs ls hOk hIn hL hst
  have hw := hst _ (List.mem_cons_of_mem _ (List.mem_cons_of_mem _ List.mem_cons_self))
  have hc := hIn.cell hw
  have hz : vp_nar .boolean y = y := by rcases hy with rfl | rfl <;> rfl
  have he : cel G.2 ad (mset m i x.toNatClampNeg y) i = .inl (G.2 1, t - 20000, .inl (upd (m.1 i) x.toNatClampNeg (vp_nar .boolean y))) := by
    unfold cel celT
    rw [hw.1, if_neg (by omega), if_neg (by omega), if_neg (by omega), if_neg (by omega), if_neg (by omega), if_neg (by omega), mset_upd, hz]
  unfold celT at hc
  rw [if_neg (by omega), if_neg (by omega), if_neg (by omega), if_neg (by omega), if_neg (by omega), if_neg (by omega)] at hc
  exact va_zast hOk.1 hOk.2.1 hIn.1 hIn.2.1 hIn.2.2.1 hIn.2.2.2.1 i 1 hc rfl hin hd (fun H1 locs1 hP hD hS => k p l e R s mi args below meth c G ad0 nx0 A ad H1 locs1 ls hOk (hIn.setw rfl he (fun a h => cel_mset_ne _ _ h) hIn.2.2.2.2.2.2.2 hP hD hS) hL (sw_tl (sw_tl (sw_tl hst))))
theorem b_alen {E : ME} {Φ : Option AV → AM → Prop} {pc : Nat} {L : List (Option AV)} {st : List AV} {m : AM} {a : Nat × Nat} {t i : Nat} (v : Int32) (ht : 100 ≤ t ∧ t < 20000) (hv : Int32.ofNat (t - 100) = v) (hd : decode E.1 pc = .ok (.arraylength, 1)) (k : B E Φ (pc + 1) L (vi v :: st) m a) : B E Φ pc (L) (vr t i :: st) m a := by
  intro p l e R s mi args below meth c G ad0 nx0 A ad H locs ls hOk hIn hL hst
  have hw := hst _ List.mem_cons_self
  have hc := hIn.cell hw
  unfold celT at hc
  rw [if_neg (by omega), if_neg (by omega), if_neg (by omega), if_neg (by omega), if_neg (by omega), if_pos ht.2] at hc
  exact va_alen hOk.1 hOk.2.1 hIn.1 hIn.2.1 i 0 hc rfl hv hd (k p l e R s mi args below meth c G ad0 nx0 A ad H locs ls hOk hIn hL (sw_i (sw_tl hst)))
theorem b_alenD {E : ME} {Φ : Option AV → AM → Prop} {pc : Nat} {L : List (Option AV)} {st : List AV} {m : AM} {a : Nat × Nat} {i : Nat} (hd : decode E.1 pc = .ok (.arraylength, 1)) (k : B E Φ (pc + 1) L (vi (Int32.ofNat (m.2.2.1 i)) :: st) m a) : B E Φ pc (L) (vr 12 i :: st) m a := by
  intro p l e R s mi args below meth c G ad0 nx0 A ad H locs ls hOk hIn hL hst
  have hw := hst _ List.mem_cons_self
  have hc := hIn.cell hw
  unfold celT at hc
  rw [if_neg (by omega), if_pos rfl] at hc
  exact va_alen hOk.1 hOk.2.1 hIn.1 hIn.2.1 i 0 hc rfl rfl hd (k p l e R s mi args below meth c G ad0 nx0 A ad H locs ls hOk hIn hL (sw_i (sw_tl hst)))
theorem cat_le (ad : Nat → Nat) : ∀ st : List AV, ((st.map (cvA ad)).map fun v => v.category).sum ≤ 2 * st.length
  | [] => by simp
  | v :: st => by
    have h := cat_le ad st
    simp only [List.map_cons, List.sum_cons, List.length_cons]
    have h2 : (cvA ad v).category ≤ 2 := by rw [cvA_cat]; rcases v with x | x | q <;> simp
    omega
theorem b_mmax {E : ME} {Φ : Option AV → AM → Prop} {pc : Nat} {L : List (Option AV)} {st : List AV} {m : AM} {a : Nat × Nat} {idx : Nat} {x y : Int32} (hlink : Cond.methodLink E.2.1 idx Lib.Math.max.name ∈ TB) (hst' : Cond.static Lib.Math.max.name ∈ TB) (hini : Cond.initialized "java/lang/Math" ∈ TB) (hco : Cond.code Lib.Math.max.name Lib.Math.max.code 2 (some .int) ∈ TB) (hR : 1 ≤ E.2.2.2.2.2.2) (hsr : st.length ≤ 8) (ha : a.1 ≤ E.2.2.2.2.1 ∧ a.2 ≤ E.2.2.2.2.2.1) (hd : decode E.1 pc = .ok (.invokestatic idx, 3)) (k : B E Φ (pc + 3) L (vi (if x < y then y else x) :: st) m a) : B E Φ pc (L) (vi y :: vi x :: st) m a := by
  intro p l e R s mi args below meth c G ad0 nx0 A ad H locs ls hOk hIn hL hst
  have hts := hOk.2.2.2.2.2.1
  have hcat := cat_le ad st
  refine va_mmax hOk.1 hOk.2.1 (by rw [hOk.2.2.1]; exact hL.1.symm) hOk.2.2.2.2.1 (hts _ hlink) (hts _ hst') (hts _ hini) (hts _ hco) (by rw [hOk.2.2.2.2.2.2.2.1]; exact hR) (by rw [hOk.2.2.2.2.2.2.2.1]; show _ ≤ 64 * _; omega) (by rw [hOk.2.2.2.2.2.2.2.1]; exact ha.1) (by rw [hOk.2.2.2.2.2.2.2.1]; exact ha.2) hd ?_
  exact k p l e R s mi args below meth c G ad0 nx0 A ad H locs ls hOk hIn hL (sw_i (sw_tl (sw_tl hst)))
theorem b_mmin {E : ME} {Φ : Option AV → AM → Prop} {pc : Nat} {L : List (Option AV)} {st : List AV} {m : AM} {a : Nat × Nat} {idx : Nat} {x y : Int32} (hlink : Cond.methodLink E.2.1 idx Lib.Math.min.name ∈ TB) (hst' : Cond.static Lib.Math.min.name ∈ TB) (hini : Cond.initialized "java/lang/Math" ∈ TB) (hco : Cond.code Lib.Math.min.name Lib.Math.min.code 2 (some .int) ∈ TB) (hR : 1 ≤ E.2.2.2.2.2.2) (hsr : st.length ≤ 8) (ha : a.1 ≤ E.2.2.2.2.1 ∧ a.2 ≤ E.2.2.2.2.2.1) (hd : decode E.1 pc = .ok (.invokestatic idx, 3)) (k : B E Φ (pc + 3) L (vi (if y < x then y else x) :: st) m a) : B E Φ pc (L) (vi y :: vi x :: st) m a := by
  intro p l e R s mi args below meth c G ad0 nx0 A ad H locs ls hOk hIn hL hst
  have hts := hOk.2.2.2.2.2.1
  have hcat := cat_le ad st
  refine va_mmin hOk.1 hOk.2.1 (by rw [hOk.2.2.1]; exact hL.1.symm) hOk.2.2.2.2.1 (hts _ hlink) (hts _ hst') (hts _ hini) (hts _ hco) (by rw [hOk.2.2.2.2.2.2.2.1]; exact hR) (by rw [hOk.2.2.2.2.2.2.2.1]; show _ ≤ 64 * _; omega) (by rw [hOk.2.2.2.2.2.2.2.1]; exact ha.1) (by rw [hOk.2.2.2.2.2.2.2.1]; exact ha.2) hd ?_
  exact k p l e R s mi args below meth c G ad0 nx0 A ad H locs ls hOk hIn hL (sw_i (sw_tl (sw_tl hst)))
/-- the length of an int array by its tag -/
def alT (m : AM) (t i : Nat) : Nat := if t = 12 then m.2.2.1 i else t - 100
theorem InM.arr {G : va_G × (Nat → ClassId)} {ad0 : Nat → Nat} {nx0 : Nat} {A : Nat → Prop} {ad : Nat → Nat} {m : AM} {s : State} {H : Heap} {locs : List Loc} (h : InM G ad0 nx0 A ad m s H locs) {t i : Nat} (ht : t = 12 ∨ 100 ≤ t ∧ t < 20000) (hw : wt m (vr t i)) :
    (wsO G.2 ad m)[i]? = some (ad i, .inl (G.2 0, alT m t i, .inl (m.1 i))) := by
  have hc := h.cell hw
  unfold celT at hc
  unfold alT
  rcases ht with rfl | ht
  · rw [if_neg (by omega), if_pos rfl] at hc
    rw [if_pos rfl]
    exact hc
  · rw [if_neg (by omega), if_neg (by omega), if_neg (by omega), if_neg (by omega), if_neg (by omega), if_pos ht.2] at hc
    rw [if_neg (by omega)]
    exact hc
def aset (m : AM) (i : Nat) (f : Nat → Int32) : AM := (fun a => if a = i then f else m.1 a, m.2)
theorem aset_at (m : AM) (i : Nat) (f : Nat → Int32) : (aset m i f).1 i = f := by simp [aset]
theorem aset_ne (m : AM) {i a : Nat} (f : Nat → Int32) (h : a ≠ i) : (aset m i f).1 a = m.1 a := by simp [aset, h]
theorem cel_aset_ne {Y : Nat → ClassId} {ad : Nat → Nat} {m : AM} {i a : Nat} (f : Nat → Int32) (h : a ≠ i) : cel Y ad (aset m i f) a = cel Y ad m a := by
  unfold cel
  rw [aset_ne m f h]
  rfl
theorem b_acopy {E : ME} {Φ : Option AV → AM → Prop} {pc : Nat} {L : List (Option AV)} {st : List AV} {m : AM} {a : Nat × Nat} {t0 i0 t1 i1 idx : Nat} {sp dp n : Int32} (ht0 : t0 = 12 ∨ 100 ≤ t0 ∧ t0 < 20000) (ht1 : t1 = 12 ∨ 100 ≤ t1 ∧ t1 < 20000) (hlink : Cond.methodLink E.2.1 idx arraycopyName ∈ TB) (hnat : Cond.native arraycopyName ∈ TB) (hstat : Cond.static arraycopyName ∈ TB) (hini : Cond.initialized "java/lang/System" ∈ TB) (h1 : ¬ sp < 0) (h2 : ¬ dp < 0) (h3 : ¬ n < 0) (h4 : sp.toNatClampNeg + n.toNatClampNeg ≤ alT m t0 i0) (h5 : dp.toNatClampNeg + n.toNatClampNeg ≤ alT m t1 i1) (hR : 1 ≤ E.2.2.2.2.2.2) (hsr : st.length ≤ 8) (hd : decode E.1 pc = .ok (.invokestatic idx, 3)) (k : B E Φ (pc + 3) L st (aset m i1 (va_cpy (m.1 i0) (m.1 i1) sp.toNatClampNeg dp.toNatClampNeg n.toNatClampNeg)) a) : B E Φ pc (L) (vi n :: vi dp :: vr t1 i1 :: vi sp :: vr t0 i0 :: st) m a := by
  intro p l e R s mi args below meth c G ad0 nx0 A ad H locs ls hOk hIn hL hst
  have hts := hOk.2.2.2.2.2.1
  have hcat := cat_le ad st
  have hw1 : wt m (vr t1 i1) := hst _ (by simp)
  have hw0 : wt m (vr t0 i0) := hst _ (by simp)
  have hc0 := hIn.arr ht0 hw0
  have hc1 := hIn.arr ht1 hw1
  have he : cel G.2 ad (aset m i1 (va_cpy (m.1 i0) (m.1 i1) sp.toNatClampNeg dp.toNatClampNeg n.toNatClampNeg)) i1 = .inl (G.2 0, alT m t1 i1, .inl (va_cpy (m.1 i0) (m.1 i1) sp.toNatClampNeg dp.toNatClampNeg n.toNatClampNeg)) := by
    unfold cel celT alT
    rw [hw1.1, aset_at]
    rcases ht1 with rfl | ht1
    · rw [if_neg (by omega), if_pos rfl, if_pos rfl]
      rfl
    · rw [if_neg (by omega), if_neg (by omega), if_neg (by omega), if_neg (by omega), if_neg (by omega), if_pos ht1.2, if_neg (by omega)]
  have hF : 1 ≤ R.frames := by rw [hOk.2.2.2.2.2.2.2.1]; exact hR
  have h9 : nativeFrameWords "java/lang/System" "arraycopy" 5 ≤ 24 := by decide +kernel
  have hLo : ((st.map (cvA ad)).map fun v => v.category).sum + (nativeFrameWords "java/lang/System" "arraycopy" 5 + 11) ≤ R.locals := by
    rw [hOk.2.2.2.2.2.2.2.1]
    show _ ≤ 64 * _
    omega
  refine va_copyi hOk.1 hOk.2.1 (by rw [hOk.2.2.1]; exact hL.1.symm) hOk.2.2.2.2.1 (hts _ hlink) (hts _ hnat) (hts _ hstat) (hts _ hini) hIn.1 hIn.2.1 hIn.2.2.1 hIn.2.2.2.1 i0 i1 0 0 hc0 hc1 rfl rfl rfl h1 h2 h3 h4 h5 (fun _ _ => rfl) hF hLo hd ?_
  intro H1 locs1 hP hD hS
  exact k p l e R s mi args below meth c G ad0 nx0 A ad H1 locs1 ls hOk (hIn.setw rfl he (fun a h => cel_aset_ne _ h) hIn.2.2.2.2.2.2.2 hP hD hS) hL (fun w hw => hst w (by simp [hw]))
