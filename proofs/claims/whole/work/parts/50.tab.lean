/-! the static tables, read -/
theorem b_tabAtN {E : ME} {Φ : Option AV → AM → Prop} {pc : Nat} {L : List (Option AV)} {st : List AV} {m : AM} {a : Nat × Nat} {k4 : Fin 4} {idx : Nat} {x : Int32} (k j : Nat) (hk : k < 3) (hl : Cond.fieldLink E.2.1 idx "BelievedWords$Asks" (stN k) "[I" ∈ TB) (hx : L[j]? = some (some (vi x))) (hin : vp_in x 6) (hd0 : decode E.1 pc = .ok (.getstatic idx, 3)) (hd1 : decode E.1 (pc + 3) = .ok (.iload_n k4, 1)) (hd2 : decode E.1 (pc + 4) = .ok (.iaload, 1)) (kk : B E Φ (pc + 5) L (vi (nI (stV k x.toNatClampNeg)) :: st) m a) (hj : (k4 : Nat) = j := by rfl) : B E Φ pc L st m a := by
  intro p l e R s mi args below meth c G ad0 nx0 A ad H locs ls hOk hIn hL hst
  obtain ⟨r, hr⟩ := hIn.2.2.2.2.1.2
  refine va_gets hOk.1 hOk.2.1 (hr k hk).1 hIn.2.2.2.1 hOk.2.2.2.2.1 (hOk.2.2.2.2.2.1 _ hl) (fun _ h => h) hd0 ?_
  refine lv_iload_n hOk.1 hOk.2.1 hd1 hj (hL.2.2 _ _ hx).1 ?_
  refine va_ti hOk.1 hOk.2.1 (hr k hk).2 hIn.2.2.2.1 hin rfl hd2 ?_
  exact kk p l e R s mi args below meth c G ad0 nx0 A ad H locs ls hOk hIn hL (sw_i hst)
theorem b_tabAtG {E : ME} {Φ : Option AV → AM → Prop} {pc : Nat} {L : List (Option AV)} {st : List AV} {m : AM} {a : Nat × Nat} {idx : Nat} {x : Int32} (k j : Nat) (hk : k < 3) (hl : Cond.fieldLink E.2.1 idx "BelievedWords$Asks" (stN k) "[I" ∈ TB) (hx : L[j]? = some (some (vi x))) (hin : vp_in x 6) (hd0 : decode E.1 pc = .ok (.getstatic idx, 3)) (hd1 : decode E.1 (pc + 3) = .ok (.iload j, 2)) (hd2 : decode E.1 (pc + 5) = .ok (.iaload, 1)) (kk : B E Φ (pc + 6) L (vi (nI (stV k x.toNatClampNeg)) :: st) m a) : B E Φ pc L st m a := by
  intro p l e R s mi args below meth c G ad0 nx0 A ad H locs ls hOk hIn hL hst
  obtain ⟨r, hr⟩ := hIn.2.2.2.2.1.2
  refine va_gets hOk.1 hOk.2.1 (hr k hk).1 hIn.2.2.2.1 hOk.2.2.2.2.1 (hOk.2.2.2.2.2.1 _ hl) (fun _ h => h) hd0 ?_
  refine lv_iload hOk.1 hOk.2.1 hd1 (hL.2.2 _ _ hx).1 ?_
  refine va_ti hOk.1 hOk.2.1 (hr k hk).2 hIn.2.2.2.1 hin rfl hd2 ?_
  exact kk p l e R s mi args below meth c G ad0 nx0 A ad H locs ls hOk hIn hL (sw_i hst)
theorem b_tabLen {E : ME} {Φ : Option AV → AM → Prop} {pc : Nat} {L : List (Option AV)} {st : List AV} {m : AM} {a : Nat × Nat} {idx : Nat} (k : Nat) (hk : k < 3) (hl : Cond.fieldLink E.2.1 idx "BelievedWords$Asks" (stN k) "[I" ∈ TB) (hd0 : decode E.1 pc = .ok (.getstatic idx, 3)) (hd1 : decode E.1 (pc + 3) = .ok (.arraylength, 1)) (kk : B E Φ (pc + 4) L (vi (nI 6) :: st) m a) : B E Φ pc L st m a := by
  intro p l e R s mi args below meth c G ad0 nx0 A ad H locs ls hOk hIn hL hst
  obtain ⟨r, hr⟩ := hIn.2.2.2.2.1.2
  refine va_gets hOk.1 hOk.2.1 (hr k hk).1 hIn.2.2.2.1 hOk.2.2.2.2.1 (hOk.2.2.2.2.2.1 _ hl) (fun _ h => h) hd0 ?_
  refine va_tlen hOk.1 hOk.2.1 (hr k hk).2 hIn.2.2.2.1 (v := nI 6) rfl hd1 ?_
  exact kk p l e R s mi args below meth c G ad0 nx0 A ad H locs ls hOk hIn hL (sw_i hst)
/-! THE TRACE: how many, which -/
def bg (T : Nat × (Nat → Nat)) (x : Nat) : Nat × (Nat → Nat) := if T.1 < 16 then (T.1 + 1, upC T.2 T.1 x) else T
def CTr (m : AM) (T : Nat × (Nat → Nat)) : Prop := m.1 108 1 = nI T.1 ∧ T.1 ≤ 16 ∧ ∀ k, k < T.1 → m.1 109 k = nI (T.2 k)
def MTr (m : AM) (T : Nat × (Nat → Nat)) : Prop := m.1 110 27 = nI T.1 ∧ T.1 ≤ 16 ∧ ∀ k, k < T.1 → m.1 124 k = nI (T.2 k)
def T0 : Nat × (Nat → Nat) := (0, fun _ => 0)
def qsV (q c : Nat) : Int32 := if q = 5 then nI 2 * (nI c - nI 100) else nI c - nI 100
def qsT (q : Nat) (T : Nat × (Nat → Nat)) : Nat × (Nat → Nat) := if q = 5 then bg (bg (bg T 14) 13) 10 else bg (bg T 13) 10
def mkV (q c so p : Nat) : Int32 := if 4 ≤ q then nI p - qsV q c else if q = 1 then nI (p + so) else if q = 3 then nI (p + so) - nI 1000 else nI 2 * nI (p + so)
def mkT (q : Nat) (T : Nat × (Nat → Nat)) : Nat × (Nat → Nat) := if 4 ≤ q then qsT q (bg (bg T 23) 20) else if q = 1 then bg (bg T 21) 20 else if q = 3 then bg (bg (bg T 22) 21) 20 else bg (bg (bg T 24) 21) 20
def szV (q c so p : Nat) : Int32 := if 4 ≤ q then qsV q c else if q = 2 then -(nI c + mkV q c so p) else nI c + mkV q c so p
def szT (q : Nat) (T : Nat × (Nat → Nat)) : Nat × (Nat → Nat) := if 4 ≤ q then qsT q T else if q = 2 then mkT q (bg (bg (bg T 12) 11) 10) else mkT q (bg (bg T 11) 10)
def askV (C : Nat → Nat) (p w : Int32) : Int32 := if (inB p (C 4) && inB w 2) = true then (if w = nI 0 then szV (C (40 + 2 * p.toNatClampNeg)) (C (41 + 2 * p.toNatClampNeg)) (C 1) p.toNatClampNeg else mkV (C (40 + 2 * p.toNatClampNeg)) (C (41 + 2 * p.toNatClampNeg)) (C 1) p.toNatClampNeg) else -1000001
def askT (C : Nat → Nat) (p w : Int32) (T : Nat × (Nat → Nat)) : Nat × (Nat → Nat) := if (inB p (C 4) && inB w 2) = true then (if w = nI 0 then szT (C (40 + 2 * p.toNatClampNeg)) T0 else mkT (C (40 + 2 * p.toNatClampNeg)) T0) else T
theorem CTr.fr {l : List Nat} {m m2 : AM} {T : Nat × (Nat → Nat)} (h : CTr m T) (hf : Fr l m m2) (h1 : 108 ∉ l) (h2 : 109 ∉ l) : CTr m2 T := by
  unfold CTr
  rw [hf.2 108 h1, hf.2 109 h2]
  exact h
/-! the class: leave, traced, trace -/
abbrev e_X1_leave : ME := (cX1_leave, (RX1, (2, (none, (0, (0, 1))))))
theorem dX1_leave_0 : decode cX1_leave 0 = .ok (.aload_n 0, 1) := by decide +kernel
theorem dX1_leave_1 : decode cX1_leave 1 = .ok (.getfield 18, 3) := by decide +kernel
theorem dX1_leave_4 : decode cX1_leave 4 = .ok (.bipush 16, 2) := by decide +kernel
theorem dX1_leave_6 : decode cX1_leave 6 = .ok (.if_icmp .ge 23, 3) := by decide +kernel
theorem dX1_leave_9 : decode cX1_leave 9 = .ok (.aload_n 0, 1) := by decide +kernel
theorem dX1_leave_10 : decode cX1_leave 10 = .ok (.getfield 9, 3) := by decide +kernel
theorem dX1_leave_13 : decode cX1_leave 13 = .ok (.aload_n 0, 1) := by decide +kernel
theorem dX1_leave_14 : decode cX1_leave 14 = .ok (.getfield 18, 3) := by decide +kernel
theorem dX1_leave_17 : decode cX1_leave 17 = .ok (.iload_n 1, 1) := by decide +kernel
theorem dX1_leave_18 : decode cX1_leave 18 = .ok (.iastore, 1) := by decide +kernel
theorem dX1_leave_19 : decode cX1_leave 19 = .ok (.aload_n 0, 1) := by decide +kernel
theorem dX1_leave_20 : decode cX1_leave 20 = .ok (.dup, 1) := by decide +kernel
theorem dX1_leave_21 : decode cX1_leave 21 = .ok (.getfield 18, 3) := by decide +kernel
theorem dX1_leave_24 : decode cX1_leave 24 = .ok (.iconst 1, 1) := by decide +kernel
theorem dX1_leave_25 : decode cX1_leave 25 = .ok (.iadd, 1) := by decide +kernel
theorem dX1_leave_26 : decode cX1_leave 26 = .ok (.putfield 18, 3) := by decide +kernel
theorem dX1_leave_29 : decode cX1_leave 29 = .ok (.return_, 1) := by decide +kernel
def Sp_X1_leave (av : List AV) (m : AM) (Φ : Option AV → AM → Prop) : Prop := ∃ x, av = [vr 1 108, vi x] ∧ ∃ T k, CTr m T ∧ x = nI k ∧ ∀ m2, Fr [108, 109] m m2 → CTr m2 (bg T k) → Φ none m2
set_option maxRecDepth 20000 in
set_option maxHeartbeats 4000000 in
theorem S_X1_leave : Snd yX1_leave e_X1_leave Sp_X1_leave := by
  refine Snd.of (by decide +kernel) rfl ?_ ?_
  · rintro av m Φ ⟨x, rfl, _⟩; exact Nat.le_of_ble_eq_true rfl
  rintro av m Φ ⟨x, rfl, T, k, hT, rfl, h⟩ hav hty
  show B e_X1_leave Φ 0 [some (vr 1 108), some (vi (nI k))] [] m (0, 0)
  have h1 := hT.1
  have h2 := hT.2.1
  unfold bg at h
  refine b_aloadN (pc := 0) 0 dX1_leave_0 rfl rfl ?_
  refine gf1_1 (pc := 1) k387 dX1_leave_1 ?_
  refine b_bipush (pc := 4) (nI 16) dX1_leave_4 (by decide) ?_
  refine b_icmp_ge (pc := 6) 29 dX1_leave_6 (by decide) (fun c6 => ?_) (fun c6 => ?_)
  refine b_vret (pc := 29) rfl dX1_leave_29 ⟨Nat.le_of_ble_eq_true rfl, Nat.le_of_ble_eq_true rfl⟩ ?_
  rotate_left -- leaf 0: return at 29
  refine b_aloadN (pc := 9) 0 dX1_leave_9 rfl rfl ?_
  refine gf1_0 (pc := 10) 109 rfl k386 dX1_leave_10 ?_
  refine b_aloadN (pc := 13) 0 dX1_leave_13 rfl rfl ?_
  refine gf1_1 (pc := 14) k387 dX1_leave_14 ?_
  refine b_iloadN (pc := 17) 1 dX1_leave_17 rfl rfl ?_
  refine b_iast (pc := 18) (by decide) ?_ dX1_leave_18 ?_
  rotate_left -- leaf 1: index at 18
  refine b_aloadN (pc := 19) 0 dX1_leave_19 rfl rfl ?_
  refine b_dup_r (pc := 20) dX1_leave_20 ?_
  refine gf1_1 (pc := 21) k387 dX1_leave_21 ?_
  refine b_iconst (pc := 24) (nI 1) dX1_leave_24 (by decide) ?_
  refine b_iadd (pc := 25) dX1_leave_25 ?_
  refine pf1_1 (pc := 26) k387 dX1_leave_26 ?_
  refine b_vret (pc := 29) rfl dX1_leave_29 ⟨Nat.le_of_ble_eq_true rfl, Nat.le_of_ble_eq_true rfl⟩ ?_
  rotate_left -- leaf 2: return at 29
  -- leaves: 0 return at 29; 1 index at 18; 2 return at 29
  · rw [h1, n_le (by omega) (by omega)] at c6
    rw [if_neg (by omega)] at h
    exact h m (Fr.rf _ m) hT
  · rw [h1, n_le (by omega) (by omega)] at c6
    rw [h1]; exact n_in (by omega) (by omega)
  · rw [h1, n_le (by omega) (by omega)] at c6
    rw [if_pos (by omega)] at h
    rw [h1, n_cl (by omega)]
    refine h _ (((Fr.rf _ m).ms (by simp)).ms (by simp)) ⟨?_, by show T.1 + 1 ≤ 16; omega, fun j hj => ?_⟩
    · rw [mset_at, if_pos rfl, mset_ne _ _ _ (by decide), h1, n_add]
    · have hj2 : j < T.1 + 1 := hj
      rw [mset_ne _ _ _ (by decide), mset_at]
      show _ = nI (upC T.2 T.1 k j)
      unfold upC
      by_cases e : j = T.1
      · rw [if_pos e, if_pos e]
      · rw [if_neg e, if_neg e]
        exact hT.2.2 j (by omega)
theorem call_X1_leave {E : ME} {Φ : Option AV → AM → Prop} {pc : Nat} {L : List (Option AV)} {st : List AV} {m : AM} {a : Nat × Nat} {idx : Nat} {x0 : AV} {i : Nat} (hl : Cond.methodLink E.2.1 idx yX1_leave ∈ TB) (hdep : 1 + 1 ≤ E.2.2.2.2.2.2) (hroom : a.1 + 0 ≤ E.2.2.2.2.1 ∧ a.2 + 0 ≤ E.2.2.2.2.2.1) (hsr : st.length ≤ 4) (hd : decode E.1 pc = .ok (.invokevirtual idx, 3)) (hsp : Sp_X1_leave [vr 1 i, x0] m (fun r m2 => B E Φ (pc + 3) L (r.toList ++ st) m2 a)) : B E Φ pc L (x0 :: vr 1 i :: st) m a := b_callV S_X1_leave [x0] (RX1, TX1, 2) rfl rfl (by decide) (Or.inl hl) k1013 k29 k78 k1014 (show _ ∧ _ ∧ Option.map (fun d => d.parameters.length) (parseMethodDescriptor yX1_leave.desc) = some 1 from by decide +kernel) ⟨hdep, by decide⟩ hroom hsr hd hsp
def traceV (T : Nat × (Nat → Nat)) (i : Int32) : Int32 := if inB i T.1 = true then nI (T.2 i.toNatClampNeg) else -1000000
abbrev e_X1_traced : ME := (cX1_traced, (RX1, (2, ((some .int), (0, (0, 1))))))
theorem dX1_traced_0 : decode cX1_traced 0 = .ok (.iload_n 1, 1) := by decide +kernel
theorem dX1_traced_1 : decode cX1_traced 1 = .ok (.ifCond .lt 20, 3) := by decide +kernel
theorem dX1_traced_4 : decode cX1_traced 4 = .ok (.iload_n 1, 1) := by decide +kernel
theorem dX1_traced_5 : decode cX1_traced 5 = .ok (.aload_n 0, 1) := by decide +kernel
theorem dX1_traced_6 : decode cX1_traced 6 = .ok (.getfield 18, 3) := by decide +kernel
theorem dX1_traced_9 : decode cX1_traced 9 = .ok (.if_icmp .ge 12, 3) := by decide +kernel
theorem dX1_traced_12 : decode cX1_traced 12 = .ok (.aload_n 0, 1) := by decide +kernel
theorem dX1_traced_13 : decode cX1_traced 13 = .ok (.getfield 9, 3) := by decide +kernel
theorem dX1_traced_16 : decode cX1_traced 16 = .ok (.iload_n 1, 1) := by decide +kernel
theorem dX1_traced_17 : decode cX1_traced 17 = .ok (.iaload, 1) := by decide +kernel
theorem dX1_traced_18 : decode cX1_traced 18 = .ok (.goto 5, 3) := by decide +kernel
theorem dX1_traced_21 : decode cX1_traced 21 = .ok (.ldc 22, 2) := by decide +kernel
theorem dX1_traced_23 : decode cX1_traced 23 = .ok (.ireturn, 1) := by decide +kernel
def Sp_X1_traced (av : List AV) (m : AM) (Φ : Option AV → AM → Prop) : Prop := ∃ x, av = [vr 1 108, vi x] ∧ ∃ T, CTr m T ∧ Φ (some (vi (traceV T x))) m
set_option maxRecDepth 20000 in
set_option maxHeartbeats 4000000 in
theorem S_X1_traced : Snd yX1_traced e_X1_traced Sp_X1_traced := by
  refine Snd.of (by decide +kernel) rfl ?_ ?_
  · rintro av m Φ ⟨x, rfl, _⟩; exact Nat.le_of_ble_eq_true rfl
  rintro av m Φ ⟨x, rfl, T, hT, h⟩ hav hty
  show B e_X1_traced Φ 0 [some (vr 1 108), some (vi x)] [] m (0, 0)
  have h1 := hT.1
  have h2 := hT.2.1
  unfold traceV at h
  refine b_iloadN (pc := 0) 1 dX1_traced_0 rfl rfl ?_
  refine b_if_lt (pc := 1) 21 dX1_traced_1 (by decide) (fun c1 => ?_) (fun c1 => ?_)
  refine b_ldc (pc := 21) k1023 dX1_traced_21 ?_
  refine b_iret (pc := 23) rfl dX1_traced_23 ⟨Nat.le_of_ble_eq_true rfl, Nat.le_of_ble_eq_true rfl⟩ ?_
  rotate_left -- leaf 0: return at 23
  refine b_iloadN (pc := 4) 1 dX1_traced_4 rfl rfl ?_
  refine b_aloadN (pc := 5) 0 dX1_traced_5 rfl rfl ?_
  refine gf1_1 (pc := 6) k387 dX1_traced_6 ?_
  refine b_icmp_ge (pc := 9) 21 dX1_traced_9 (by decide) (fun c9 => ?_) (fun c9 => ?_)
  refine b_ldc (pc := 21) k1023 dX1_traced_21 ?_
  refine b_iret (pc := 23) rfl dX1_traced_23 ⟨Nat.le_of_ble_eq_true rfl, Nat.le_of_ble_eq_true rfl⟩ ?_
  rotate_left -- leaf 1: return at 23
  refine b_aloadN (pc := 12) 0 dX1_traced_12 rfl rfl ?_
  refine gf1_0 (pc := 13) 109 rfl k386 dX1_traced_13 ?_
  refine b_iloadN (pc := 16) 1 dX1_traced_16 rfl rfl ?_
  refine b_iald (pc := 17) (by decide) ?_ dX1_traced_17 ?_
  rotate_left -- leaf 2: index at 17
  refine b_goto (pc := 18) 23 dX1_traced_18 (by decide) ?_
  refine b_iret (pc := 23) rfl dX1_traced_23 ⟨Nat.le_of_ble_eq_true rfl, Nat.le_of_ble_eq_true rfl⟩ ?_
  rotate_left -- leaf 3: return at 23
  -- leaves: 0 return at 23; 1 return at 23; 2 index at 17; 3 return at 23
  · rw [inB_f1 c1] at h; exact h
  · rw [h1] at c9
    rw [inB_f2 c9] at h; exact h
  · rw [h1] at c9
    obtain ⟨j, hj, rfl⟩ := (inB_iff (by omega)).mp (inB_t c1 c9)
    exact n_in (by omega) (by omega)
  · rw [h1] at c9
    have q := inB_t c1 c9
    rw [q, if_pos rfl] at h
    obtain ⟨j, hj, rfl⟩ := (inB_iff (by omega)).mp q
    rw [n_cl (by omega)] at h ⊢
    rw [hT.2.2 j hj]
    exact h
theorem call_X1_traced {E : ME} {Φ : Option AV → AM → Prop} {pc : Nat} {L : List (Option AV)} {st : List AV} {m : AM} {a : Nat × Nat} {idx : Nat} {x0 : AV} {i : Nat} (hl : Cond.methodLink E.2.1 idx yX1_traced ∈ TB) (hdep : 1 + 1 ≤ E.2.2.2.2.2.2) (hroom : a.1 + 0 ≤ E.2.2.2.2.1 ∧ a.2 + 0 ≤ E.2.2.2.2.2.1) (hsr : st.length ≤ 4) (hd : decode E.1 pc = .ok (.invokevirtual idx, 3)) (hsp : Sp_X1_traced [vr 1 i, x0] m (fun r m2 => B E Φ (pc + 3) L (r.toList ++ st) m2 a)) : B E Φ pc L (x0 :: vr 1 i :: st) m a := b_callV S_X1_traced [x0] (RX1, TX1, 2) rfl rfl (by decide) (Or.inl hl) k1020 k1021 k78 k1022 (show _ ∧ _ ∧ Option.map (fun d => d.parameters.length) (parseMethodDescriptor yX1_traced.desc) = some 1 from by decide +kernel) ⟨hdep, by decide⟩ hroom hsr hd hsp
abbrev e_X10_trace : ME := (cX10_trace, (RX10, (2, ((some .int), (0, (0, 8))))))
theorem dX10_trace_0 : decode cX10_trace 0 = .ok (.aload_n 0, 1) := by decide +kernel
theorem dX10_trace_1 : decode cX10_trace 1 = .ok (.getfield 60, 3) := by decide +kernel
theorem dX10_trace_4 : decode cX10_trace 4 = .ok (.iload_n 1, 1) := by decide +kernel
theorem dX10_trace_5 : decode cX10_trace 5 = .ok (.invokevirtual 309, 3) := by decide +kernel
theorem dX10_trace_8 : decode cX10_trace 8 = .ok (.ireturn, 1) := by decide +kernel
def Sp_X10_trace (av : List AV) (m : AM) (Φ : Option AV → AM → Prop) : Prop := ∃ x, av = [vr 10 0, vi x] ∧ ∃ T, CTr m T ∧ Φ (some (vi (traceV T x))) m
set_option maxRecDepth 20000 in
set_option maxHeartbeats 4000000 in
theorem S_X10_trace : Snd yX10_trace e_X10_trace Sp_X10_trace := by
  refine Snd.of (by decide +kernel) rfl ?_ ?_
  · rintro av m Φ ⟨x, rfl, _⟩; exact Nat.le_of_ble_eq_true rfl
  rintro av m Φ ⟨x, rfl, T, hT, h⟩ hav hty
  show B e_X10_trace Φ 0 [some (vr 10 0), some (vi x)] [] m (0, 0)
  refine b_aloadN (pc := 0) 0 dX10_trace_0 rfl rfl ?_
  refine gf10_7 (pc := 1) 108 rfl k422 dX10_trace_1 ?_
  refine b_iloadN (pc := 4) 1 dX10_trace_4 rfl rfl ?_
  refine call_X1_traced (pc := 5) k1019 (by decide) ⟨Nat.le_of_ble_eq_true rfl, Nat.le_of_ble_eq_true rfl⟩ (Nat.le_of_ble_eq_true rfl) dX10_trace_5 ?_
  refine ⟨_, rfl, _, hT, ?_⟩
  refine b_iret (pc := 8) rfl dX10_trace_8 ⟨Nat.le_of_ble_eq_true rfl, Nat.le_of_ble_eq_true rfl⟩ ?_
  rotate_left -- leaf 0: return at 8
  -- leaves: 0 return at 8
  exact h
theorem call_X10_trace {E : ME} {Φ : Option AV → AM → Prop} {pc : Nat} {L : List (Option AV)} {st : List AV} {m : AM} {a : Nat × Nat} {idx : Nat} {x0 : AV} {i : Nat} (hl : Cond.methodLink E.2.1 idx yX10_trace ∈ TB) (hdep : 8 + 1 ≤ E.2.2.2.2.2.2) (hroom : a.1 + 0 ≤ E.2.2.2.2.1 ∧ a.2 + 0 ≤ E.2.2.2.2.2.1) (hsr : st.length ≤ 4) (hd : decode E.1 pc = .ok (.invokevirtual idx, 3)) (hsp : Sp_X10_trace [vr 10 i, x0] m (fun r m2 => B E Φ (pc + 3) L (r.toList ++ st) m2 a)) : B E Φ pc L (x0 :: vr 10 i :: st) m a := b_callV S_X10_trace [x0] (RX10, TX10, 9) rfl rfl (by decide) (Or.inl hl) k1016 k1017 k68 k1018 (show _ ∧ _ ∧ Option.map (fun d => d.parameters.length) (parseMethodDescriptor yX10_trace.desc) = some 1 from by decide +kernel) ⟨hdep, by decide⟩ hroom hsr hd hsp
