/-! THE LAW'S OWN JUDGEMENT: as B, but the script in local 0, the class's object in 1, the reference's in 2, the place in 3; its end is the claim's -/
theorem rmm1 {a b k N : Nat} (h : a + k ≤ N) (hb : b ≤ k) : a + b ≤ N := by omega
theorem rmm2 {a b c k N : Nat} (h : a + k ≤ N) (hb : b ≤ k) (hc : c = 0) : a + b + c ≤ N := by omega
theorem rmm3 {a b c k : Nat} (hb : b ≤ k) (hc : c = 0) : a + b + c ≤ a + k := by omega
def OkL (p : Program) (s : State) (mi : MethodId) (meth : Method) (c : Code) (bs n : Nat) (xs : Nat → Int32) : Prop :=
  p.tables.exec = Jvm.exec ∧ c.code = code ∧ c.maxLocals = 4 ∧ meth.sig.returnType = ret ∧ s.vm.findClass RL = some mi.cls ∧ (∀ w ∈ TB, w.before #[Value.ref bs] s = true) ∧ meth.locks = false ∧ va_Nw NWw s ∧ va_X bs n xs s s.heap ∧ bs < s.heap.size
abbrev AL (s : State) : Nat → Prop := fun q => s.heap.size ≤ q
abbrev LL (bs x y : Nat) (i : Int32) : List (Nat × Value) := [(3, .int i), (0, .ref bs), (1, .ref x), (2, .ref y)]
def BL (bs n : Nat) (xs : Nat → Int32) (pc : Nat) (i : Int32) (st : List AV) (m : AM) (a : Nat × Nat) : Prop :=
  ∀ (p : Program) (l : Launch) (e : Env) (s : State) (mi : MethodId) (below : List Frame) (meth : Method) (c : Code) (G : va_G × (Nat → ClassId)) (ad : Nat → Nat) (H : Heap) (locs : List Loc) (ls : Array Slot),
    OkL p s mi meth c bs n xs → InM G (fun _ => 0) 0 (AL s) ad m s H locs → lv_has ls 4 (LL bs (ad 0) (ad 110) i) → (∀ v, v ∈ st → wt m v) →
      W p l e room_1 s mi #[Value.ref bs] below meth c H locs a.1 a.2 (lw_Z below #[Value.ref bs] s) (F0 mi pc ls (st.map (cvA ad)))
section BLrows
variable {bs n pc : Nat} {xs : Nat → Int32} {i : Int32} {st : List AV} {m : AM} {a : Nat × Nat}
theorem l_x (hty : TY m) (hd : decode cL_law pc = .ok (.aload_n 1, 1)) (k : BL bs n xs (pc + 1) i (vr 10 0 :: st) m a) : BL bs n xs pc i st m a := by
  intro p l e s mi below meth c G ad H locs ls hOk hIn hL hst
  exact lv_aload_n hOk.1 hOk.2.1 hd rfl (lv_at hL 2 rfl) (k p l e s mi below meth c G ad H locs ls hOk hIn hL (sw_c ⟨by decide +kernel, Nat.lt_of_lt_of_le (by decide) hty.1⟩ hst))
theorem l_m (hty : TY m) (hd : decode cL_law pc = .ok (.aload_n 2, 1)) (k : BL bs n xs (pc + 1) i (vr 11 110 :: st) m a) : BL bs n xs pc i st m a := by
  intro p l e s mi below meth c G ad H locs ls hOk hIn hL hst
  exact lv_aload_n hOk.1 hOk.2.1 hd rfl (lv_at hL 3 rfl) (k p l e s mi below meth c G ad H locs ls hOk hIn hL (sw_c ⟨by decide +kernel, Nat.lt_of_lt_of_le (by decide) hty.1⟩ hst))
theorem l_scrc {j : Nat} {q : Int} (k : Nat) (hk : j + k < n) (hn : n < 2147483648) (h0 : decode cL_law pc = .ok (.aload_n 0, 1)) (h1 : decode cL_law (pc + 1) = .ok (.iload_n 3, 1)) (h2 : decode cL_law (pc + 2) = .ok (.iconst q, 1)) (hq : Int32.ofInt q = nI k) (h3 : decode cL_law (pc + 3) = .ok (.iadd, 1)) (h4 : decode cL_law (pc + 4) = .ok (.iaload, 1)) (kk : BL bs n xs (pc + 5) (nI j) (vi (xs (j + k)) :: st) m a) : BL bs n xs pc (nI j) st m a := by
  intro p l e s mi below meth c G ad H locs ls hOk hIn hL hst
  refine lv_aload_n hOk.1 hOk.2.1 h0 rfl (lv_at hL 1 rfl) ?_
  refine lv_iload_n hOk.1 hOk.2.1 h1 rfl (lv_at hL 0 rfl) ?_
  refine lv_iconst hOk.1 hOk.2.1 h2 hq ?_
  refine lv_iadd hOk.1 hOk.2.1 h3 ?_
  rw [n_add]
  have hX := hOk.2.2.2.2.2.2.2.2
  refine va_sld hOk.1 hOk.2.1 (A := AL s) hX.1 hX.2 (by have := hX.2; show ¬ s.heap.size ≤ bs; omega) hIn.2.2.2.1 (n_in hk hn) h4 ?_
  rw [n_cl (by omega)]
  exact kk p l e s mi below meth c G ad H locs ls hOk hIn hL (sw_i hst)
theorem l_scrp {j : Nat} {q : Int} (k : Nat) (hk : j + k < n) (hn : n < 2147483648) (h0 : decode cL_law pc = .ok (.aload_n 0, 1)) (h1 : decode cL_law (pc + 1) = .ok (.iload_n 3, 1)) (h2 : decode cL_law (pc + 2) = .ok (.bipush q, 2)) (hq : (Int8.ofInt q).toInt32 = nI k) (h3 : decode cL_law (pc + 4) = .ok (.iadd, 1)) (h4 : decode cL_law (pc + 5) = .ok (.iaload, 1)) (kk : BL bs n xs (pc + 6) (nI j) (vi (xs (j + k)) :: st) m a) : BL bs n xs pc (nI j) st m a := by
  intro p l e s mi below meth c G ad H locs ls hOk hIn hL hst
  refine lv_aload_n hOk.1 hOk.2.1 h0 rfl (lv_at hL 1 rfl) ?_
  refine lv_iload_n hOk.1 hOk.2.1 h1 rfl (lv_at hL 0 rfl) ?_
  refine lv_bipush hOk.1 hOk.2.1 h2 hq ?_
  refine lv_iadd hOk.1 hOk.2.1 h3 ?_
  rw [n_add]
  have hX := hOk.2.2.2.2.2.2.2.2
  refine va_sld hOk.1 hOk.2.1 (A := AL s) hX.1 hX.2 (by have := hX.2; show ¬ s.heap.size ≤ bs; omega) hIn.2.2.2.1 (n_in hk hn) h4 ?_
  rw [n_cl (by omega)]
  exact kk p l e s mi below meth c G ad H locs ls hOk hIn hL (sw_i hst)
theorem l_scr0 {j : Nat} (hk : j < n) (hn : n < 2147483648) (h0 : decode cL_law pc = .ok (.aload_n 0, 1)) (h1 : decode cL_law (pc + 1) = .ok (.iload_n 3, 1)) (h4 : decode cL_law (pc + 2) = .ok (.iaload, 1)) (kk : BL bs n xs (pc + 3) (nI j) (vi (xs j) :: st) m a) : BL bs n xs pc (nI j) st m a := by
  intro p l e s mi below meth c G ad H locs ls hOk hIn hL hst
  refine lv_aload_n hOk.1 hOk.2.1 h0 rfl (lv_at hL 1 rfl) ?_
  refine lv_iload_n hOk.1 hOk.2.1 h1 rfl (lv_at hL 0 rfl) ?_
  have hX := hOk.2.2.2.2.2.2.2.2
  refine va_sld hOk.1 hOk.2.1 (A := AL s) hX.1 hX.2 (by have := hX.2; show ¬ s.heap.size ≤ bs; omega) hIn.2.2.2.1 (n_in hk hn) h4 ?_
  rw [n_cl (by omega)]
  exact kk p l e s mi below meth c G ad H locs ls hOk hIn hL (sw_i hst)
theorem l_eq {v : Int32} {off : Int} (tgt : Nat) (hd : decode cL_law pc = .ok (.if_icmp .eq off, 3)) (ht : (pc : Int) + off = (tgt : Int)) (k : BL bs n xs tgt i st m a) : BL bs n xs pc i (vi v :: vi v :: st) m a := by
  intro p l e s mi below meth c G ad H locs ls hOk hIn hL hst
  exact lv_icmp_eq hOk.1 hOk.2.1 hd ht (fun _ => k p l e s mi below meth c G ad H locs ls hOk hIn hL (sw_tl (sw_tl hst))) (fun h => absurd rfl h)
theorem l_lcmp {x y : Int64} (hd : decode cL_law pc = .ok (.lcmp, 1)) (k : BL bs n xs (pc + 1) i (vi (lg_cmp x y) :: st) m a) : BL bs n xs pc i (vl y :: vl x :: st) m a := by
  intro p l e s mi below meth c G ad H locs ls hOk hIn hL hst
  exact W.lcmp hOk.1 hOk.2.1 hd (k p l e s mi below meth c G ad H locs ls hOk hIn hL (sw_i (sw_tl (sw_tl hst))))
theorem l_ifeq {v : Int32} {off : Int} (tgt : Nat) (hd : decode cL_law pc = .ok (.ifCond .eq off, 3)) (ht : (pc : Int) + off = (tgt : Int)) (hv : v = 0) (k : BL bs n xs tgt i st m a) : BL bs n xs pc i (vi v :: st) m a := by
  intro p l e s mi below meth c G ad H locs ls hOk hIn hL hst
  exact lv_if_eq hOk.1 hOk.2.1 hd ht (fun _ => k p l e s mi below meth c G ad H locs ls hOk hIn hL (sw_tl hst)) (fun h => absurd hv h)
theorem l_goto {off : Int} (tgt : Nat) (hd : decode cL_law pc = .ok (.goto off, 3)) (ht : (pc : Int) + off = (tgt : Int)) (k : BL bs n xs tgt i st m a) : BL bs n xs pc i st m a := by
  intro p l e s mi below meth c G ad H locs ls hOk hIn hL hst
  exact lv_goto hOk.1 hOk.2.1 hd ht (k p l e s mi below meth c G ad H locs ls hOk hIn hL hst)
theorem l_inc {v : Int32} {q : Int} (hd : decode cL_law pc = .ok (.iinc 3 q, 3)) (hv : i + Int32.ofInt q = v) (k : BL bs n xs (pc + 3) v st m a) : BL bs n xs pc i st m a := by
  intro p l e s mi below meth c G ad H locs ls hOk hIn hL hst
  exact lv_iinc hOk.1 hOk.2.1 hd hL (k := 0) rfl hv (by decide) rfl (fun ls' h' => k p l e s mi below meth c G ad H locs ls' hOk hIn h' hst)
theorem l_iload (hd : decode cL_law pc = .ok (.iload_n 3, 1)) (k : BL bs n xs (pc + 1) i (vi i :: st) m a) : BL bs n xs pc i st m a := by
  intro p l e s mi below meth c G ad H locs ls hOk hIn hL hst
  exact lv_iload_n hOk.1 hOk.2.1 hd rfl (lv_at hL 0 rfl) (k p l e s mi below meth c G ad H locs ls hOk hIn hL (sw_i hst))
theorem l_len (h0 : decode cL_law pc = .ok (.aload_n 0, 1)) (h1 : decode cL_law (pc + 1) = .ok (.arraylength, 1)) (k : BL bs n xs (pc + 2) i (vi (nI n) :: st) m a) : BL bs n xs pc i st m a := by
  intro p l e s mi below meth c G ad H locs ls hOk hIn hL hst
  refine lv_aload_n hOk.1 hOk.2.1 h0 rfl (lv_at hL 1 rfl) ?_
  have hX := hOk.2.2.2.2.2.2.2.2
  exact va_slen hOk.1 hOk.2.1 (A := AL s) hX.1 hX.2 (by have := hX.2; show ¬ s.heap.size ≤ bs; omega) hIn.2.2.2.1 h1 (k p l e s mi below meth c G ad H locs ls hOk hIn hL (sw_i hst))
theorem l_bipush {q : Int} (v : Int32) (hd : decode cL_law pc = .ok (.bipush q, 2)) (hv : (Int8.ofInt q).toInt32 = v) (k : BL bs n xs (pc + 2) i (vi v :: st) m a) : BL bs n xs pc i st m a := by
  intro p l e s mi below meth c G ad H locs ls hOk hIn hL hst
  exact lv_bipush hOk.1 hOk.2.1 hd hv (k p l e s mi below meth c G ad H locs ls hOk hIn hL (sw_i hst))
theorem l_isub {x y : Int32} (hd : decode cL_law pc = .ok (.isub, 1)) (k : BL bs n xs (pc + 1) i (vi (x - y) :: st) m a) : BL bs n xs pc i (vi y :: vi x :: st) m a := by
  intro p l e s mi below meth c G ad H locs ls hOk hIn hL hst
  exact lv_isub hOk.1 hOk.2.1 hd (k p l e s mi below meth c G ad H locs ls hOk hIn hL (sw_i (sw_tl (sw_tl hst))))
theorem l_iand {x y : Int32} (hd : decode cL_law pc = .ok (.iand, 1)) (k : BL bs n xs (pc + 1) i (vi (x &&& y) :: st) m a) : BL bs n xs pc i (vi y :: vi x :: st) m a := by
  intro p l e s mi below meth c G ad H locs ls hOk hIn hL hst
  exact lv_iand hOk.1 hOk.2.1 hd (k p l e s mi below meth c G ad H locs ls hOk hIn hL (sw_i (sw_tl (sw_tl hst))))
theorem l_gt {x y : Int32} {off : Int} (tgt : Nat) (hd : decode cL_law pc = .ok (.if_icmp .gt off, 3)) (ht : (pc : Int) + off = (tgt : Int)) (kt : y < x → BL bs n xs tgt i st m a) (kf : ¬ y < x → BL bs n xs (pc + 3) i st m a) : BL bs n xs pc i (vi y :: vi x :: st) m a := by
  intro p l e s mi below meth c G ad H locs ls hOk hIn hL hst
  exact lv_icmp_gt hOk.1 hOk.2.1 hd ht (fun h => kt h p l e s mi below meth c G ad H locs ls hOk hIn hL (sw_tl (sw_tl hst))) (fun h => kf h p l e s mi below meth c G ad H locs ls hOk hIn hL (sw_tl (sw_tl hst)))
theorem l_tabIn {dflt lo hi : Int} {offs : Array Int} {len : Nat} {x : Int32} {off : Int} (tgt : Nat) (hd : decode cL_law pc = .ok (.tableswitch dflt lo hi offs, len)) (h1 : ¬ x.toInt < lo) (h2 : ¬ hi < x.toInt) (ho : offs[(x.toInt - lo).toNat]? = some off) (ht : (pc : Int) + off = (tgt : Int)) (k : BL bs n xs tgt i st m a) : BL bs n xs pc i (vi x :: st) m a := by
  intro p l e s mi below meth c G ad H locs ls hOk hIn hL hst
  exact lv_tableIn hOk.1 hOk.2.1 hd h1 h2 ho ht (k p l e s mi below meth c G ad H locs ls hOk hIn hL (sw_tl hst))
theorem l_tabOut {dflt lo hi : Int} {offs : Array Int} {len : Nat} {x : Int32} (tgt : Nat) (hd : decode cL_law pc = .ok (.tableswitch dflt lo hi offs, len)) (h : x.toInt < lo ∨ hi < x.toInt) (ht : (pc : Int) + dflt = (tgt : Int)) (k : BL bs n xs tgt i st m a) : BL bs n xs pc i (vi x :: st) m a := by
  intro p l e s mi below meth c G ad H locs ls hOk hIn hL hst
  exact lv_tableOut hOk.1 hOk.2.1 hd h ht (k p l e s mi below meth c G ad H locs ls hOk hIn hL (sw_tl hst))
theorem l_end (ha : a.1 ≤ 600000 ∧ a.2 ≤ 7302250) (h0 : decode cL_law pc = .ok (.iconst 1, 1)) (h1 : decode cL_law (pc + 1) = .ok (.ireturn, 1)) : BL bs n xs pc i [] m a := by
  intro p l e s mi below meth c G ad H locs ls hOk hIn hL hst
  refine lv_iconst hOk.1 hOk.2.1 h0 rfl ?_
  refine va_forget (fun q hq => hIn.2.2.2.1.2.2 q hq) ?_
  refine W.widen ha.1 ha.2 ?_
  exact lw_ret hOk.1 hOk.2.1 hOk.2.2.2.1 hOk.2.2.2.2.2.2.1 h1
theorem l_call {y : MethodName} {E' : ME} {Sp : List AV → AM → (Option AV → AM → Prop) → Prop} (hS : Snd y E' Sp) {Φ' : Option AV → AM → Prop} {t ix idx : Nat} (av : List AV) (q : vw_C)
    (hc : vwCl[t]? = some q) (hq : q.1 = y.cls) (ht : t < 12) (hl : Cond.methodLink RL idx y ∈ TB) (hi : Cond.instanceMethod y ∈ TB) (hse : Cond.selects y.cls y y ∈ TB) (hini : Cond.initialized y.cls ∈ TB) (hco : Cond.code y E'.1 E'.2.2.1 E'.2.2.2.1 ∈ TB)
    (hds : y.cls ≠ "java/lang/invoke/MethodHandle" ∧ y.cls ≠ "java/lang/invoke/VarHandle" ∧ (parseMethodDescriptor y.desc).map (fun d => d.parameters.length) = some av.length) (hE : E'.2.2.2.2.2.2 ≤ 20 ∧ E'.2.2.1 ≤ 45) (hroom : a.1 + E'.2.2.2.2.1 ≤ 600000 ∧ a.2 + E'.2.2.2.2.2.1 ≤ 7302250) (hsr : st.length ≤ 4)
    (hd : decode cL_law pc = .ok (.invokevirtual idx, 3)) (hsp : Sp (vr t ix :: av) m Φ') (hk : ∀ r m', Φ' r m' → TY m' → BL bs n xs (pc + 3) i (r.toList ++ st) m' (a.1 + E'.2.2.2.2.1, a.2 + E'.2.2.2.2.2.1)) : BL bs n xs pc i (av.reverse ++ vr t ix :: st) m a := by
  intro p l e s mi below meth c G ad H locs ls hOk hIn hL hst
  have hts := hOk.2.2.2.2.2.1
  have hty := hIn.2.2.2.2.2.2.2
  have hst2 : ∀ v, v ∈ st → wt m v := fun v hv => hst v (by simp [hv])
  have hb0 : wt m (vr t ix) := hst _ (by simp)
  have hav : ∀ v, v ∈ vr t ix :: av → wt m v := fun v hv => hst v (by
    rcases List.mem_cons.mp hv with h | h
    · simp [h]
    · simp [h])
  have hM := hS l G ad m (vr t ix :: av) Φ' H.size hsp hav hty
  have hce := hIn.cell hb0
  unfold celT at hce
  rw [if_pos ht] at hce
  have hmem : ∀ w ∈ Cond.code y E'.1 E'.2.2.1 E'.2.2.2.1 :: TB, w ∈ TB := fun w hw => by
    rcases List.mem_cons.mp hw with h | h
    · rw [h]; exact hco
    · exact h
  have hR : (rmD E'.2.2.2.2.2.2 E'.2.2.2.2.1 E'.2.2.2.2.2.1).frames + 1 ≤ room_1.frames ∧ 8 + (E'.2.2.1 + 11) + (rmD E'.2.2.2.2.2.2 E'.2.2.2.2.1 E'.2.2.2.2.2.1).locals ≤ room_1.locals := by
    refine ⟨?_, ?_⟩
    · show E'.2.2.2.2.2.2 + 1 ≤ 2048
      have := hE.1
      omega
    · show 8 + (E'.2.2.1 + 11) + 64 * E'.2.2.2.2.2.2 ≤ 84000
      have := hE.1
      have := hE.2
      omega
  have hpre : PreV s H y.cls (ad ix) (va_Pc ((vr t ix :: av).map (cvA ad)) (fun U => U.heap.size = H.size ∧ Wd G ad m U ∧ va_D (fun _ => True) (wsO G.2 ad m))) (av.map (cvA ad)) :=
    ⟨fun a U g mk q => by obtain ⟨q0, q1, ⟨qP, qK, qN, qS⟩, qD⟩ := q; exact ⟨q0, q1, ⟨qP, va_K.moved (u := U) (U := U.calling g mk a) (Vm.Alike.refl U.vm) qK, va_Nw.same rfl rfl qN, STT.up (t := U.calling g mk a) qS (Vm.Alike.refl U.vm) (fun _ _ _ => rfl) (fun _ h => h)⟩, qD⟩, hq ▸ va_recv hIn.1 hIn.2.1 hc hce, fun U hU hW => ⟨rfl, by rw [hU], ⟨by rw [hU]; exact hIn.2.1, va_K.moved hW.alike hIn.1, nw_up hW hOk.2.2.2.2.2.2.2.1, hIn.stt hU hW.alike⟩, hIn.2.2.1.weaken (fun _ _ _ _ => trivial)⟩⟩
  have hcat := cat_le ad st
  have hW8 : ((st.map (cvA ad)).map fun v => v.category).sum ≤ 8 := by omega
  have hr : va_Run p l e room_1 s mi #[Value.ref bs] below meth c H locs a.1 a.2 E'.2.2.2.2.1 E'.2.2.2.2.2.1 (F0 mi pc ls ((av.map (cvA ad)).reverse ++ .ref (ad ix) :: st.map (cvA ad))) (st.map (cvA ad)) (Qg G ad m.2.2.2 (va_A (wsO G.2 ad m) H.size) Φ' (Value.ref (ad ix) :: av.map (cvA ad)).toArray) (va_A (wsO G.2 ad m) H.size) :=
    va_runV (n := (av.map (cvA ad)).length) ⟨hOk.1, hOk.2.1, hOk.2.2.1, hOk.2.2.2.2.1, hts⟩ hM ⟨callB_of _ hts (tb_in hmem) rfl rfl rfl (hts _ hini) (hts _ hl) ⟨hds.1, hds.2.1, by rw [List.length_map]; exact hds.2.2⟩ hR, hts _ hi, hts _ hse⟩ hpre rfl rfl hL.1 rfl (lv_room hW8) hd hroom
  have hstk : ((av.reverse ++ vr t ix :: st).map (cvA ad)) = (av.map (cvA ad)).reverse ++ .ref (ad ix) :: st.map (cvA ad) := by rw [List.map_append, List.map_reverse]; rfl
  rw [hstk]
  intro T hT X
  obtain ⟨v, st₀, t', T', Lq, h0, X', hLq, e1, e2, ⟨⟨r, m', ad', hv, hΦ, hwr, hty', ⟨hP', hK'⟩, hD', hnx, hag⟩, hz, hkk⟩, stp⟩ := hr T hT X
  have hv2 : v = r.map (cvA ad') := by injection hv
  subst hv2
  rw [h0] at hz hkk
  have hS1 := hIn.2.2.2.1
  have hAA : ∀ q, va_A (wsO G.2 ad m) H.size q → AL s q := by
    rintro q (⟨k, en, hke⟩ | hq)
    · exact hIn.2.2.1.2 k _ hke
    · exact Nat.le_trans hS1.1 hq
  have a0 : ad' 0 = ad 0 := hag 0 (Nat.lt_of_lt_of_le (by decide) hty.1)
  have a110 : ad' 110 = ad 110 := hag 110 (Nat.lt_of_lt_of_le (by decide) hty.1)
  have kq := hk r m' hΦ hty' p l e s mi below meth c G ad' T'.heap (locs ++ Lq) ls hOk ⟨hIn.1, by rw [e1]; exact hP', hD'.weaken (fun k q hk hq => hAA _ hq), ⟨Nat.le_trans hS1.1 (by rw [e1]; exact hz), fun q h1 h2 => by rw [e1, hkk q (Nat.lt_of_lt_of_le h1 hS1.1) (fun z => h2 (hAA q z))]; exact hS1.2.1 q h1 h2, fun q hq => by
      rcases List.mem_append.mp hq with h | h
      · exact hS1.2.2 q h
      · exact hAA _ (hLq q h)⟩, hIn.2.2.2.2.1, fun i hi => absurd hi (Nat.not_lt_zero i), Nat.zero_le _, hty'⟩ (by rw [a0, a110]; exact hL) (fun w hw => by
      rcases List.mem_append.mp hw with h | h
      · exact hwr w (by cases r with | none => simp at h | some z => simp at h; rw [h])
      · exact wt_up hnx (hst2 w h))
  obtain ⟨t2, a1, b1⟩ := kq T' rfl X'
  refine ⟨t2, stp t2 ?_, b1⟩
  have e9 : (r.toList ++ st).map (cvA ad') = (r.map (cvA ad')).toList ++ st.map (cvA ad) := by
    rw [List.map_append, map_ag hag hst2]
    cases r <;> rfl
  rw [e9] at a1
  exact a1
end BLrows
