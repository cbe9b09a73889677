/-! rows for int arrays by tag and own length alike; Arrays.fill; what stays -/
theorem b_alenA {E : ME} {Φ : Option AV → AM → Prop} {pc : Nat} {L : List (Option AV)} {st : List AV} {m : AM} {a : Nat × Nat} {t i : Nat} (ht : t = 12 ∨ 100 ≤ t ∧ t < 20000) (hd : decode E.1 pc = .ok (.arraylength, 1)) (k : B E Φ (pc + 1) L (vi (nI (alT m t i)) :: st) m a) : B E Φ pc L (vr t i :: st) m a := by
  intro p l e R s mi args below meth c G ad0 nx0 A ad H locs ls hOk hIn hL hst
  have hw := hst _ List.mem_cons_self
  have hc := hIn.arr ht hw
  exact va_alen hOk.1 hOk.2.1 hIn.1 hIn.2.1 i 0 hc rfl rfl hd (k p l e R s mi args below meth c G ad0 nx0 A ad H locs ls hOk hIn hL (sw_i (sw_tl hst)))
theorem b_ialdA {E : ME} {Φ : Option AV → AM → Prop} {pc : Nat} {L : List (Option AV)} {st : List AV} {m : AM} {a : Nat × Nat} {t i : Nat} {x : Int32} (ht : t = 12 ∨ 100 ≤ t ∧ t < 20000) (hin : vp_in x (alT m t i)) (hd : decode E.1 pc = .ok (.iaload, 1)) (k : B E Φ (pc + 1) L (vi (m.1 i x.toNatClampNeg) :: st) m a) : B E Φ pc L (vi x :: vr t i :: st) m a := by
  intro p l e R s mi args below meth c G ad0 nx0 A ad H locs ls hOk hIn hL hst
  have hw := hst _ (List.mem_cons_of_mem _ List.mem_cons_self)
  have hc := hIn.arr ht hw
  exact va_iald hOk.1 hOk.2.1 hIn.1 hIn.2.1 i 0 hc rfl hin hd (k p l e R s mi args below meth c G ad0 nx0 A ad H locs ls hOk hIn hL (sw_i (sw_tl (sw_tl hst))))
theorem b_iastA {E : ME} {Φ : Option AV → AM → Prop} {pc : Nat} {L : List (Option AV)} {st : List AV} {m : AM} {a : Nat × Nat} {t i : Nat} {x y : Int32} (ht : t = 12 ∨ 100 ≤ t ∧ t < 20000) (hin : vp_in x (alT m t i)) (hd : decode E.1 pc = .ok (.iastore, 1)) (k : B E Φ (pc + 1) L st (mset m i x.toNatClampNeg y) a) : B E Φ pc L (vi y :: vi x :: vr t i :: st) m a := by
  rcases ht with rfl | ht
  · exact b_iastD hin hd k
  · refine b_iast ht ?_ hd k
    unfold alT at hin
    rw [if_neg (by omega)] at hin
    exact hin
theorem mset_of_aset (m : AM) (i j : Nat) (f : Nat → Int32) (x : Int32) : mset (aset m i f) i j x = aset m i (upd f j x) := by
  rw [mset_aset, aset_at, aset_aset]
theorem aset_self (m : AM) (i : Nat) (f : Nat → Int32) (h : f = m.1 i) : aset m i f = m := by
  subst h
  unfold aset
  have e : (fun a => if a = i then m.1 i else m.1 a) = m.1 := by funext a; by_cases q : a = i <;> simp [q]
  rw [e]
def fillF (f : Nat → Int32) (n : Nat) (v : Int32) : Nat → Int32 := fun k => if k < n then v else f k
abbrev e_J7_fill_53178 : ME := (cJ7_fill_53178, ("java/util/Arrays", (4, (none, (0, (0, 1))))))
theorem dJ7_fill_53178_0 : decode cJ7_fill_53178 0 = .ok (.iconst 0, 1) := by decide +kernel
theorem dJ7_fill_53178_1 : decode cJ7_fill_53178 1 = .ok (.istore_n 2, 1) := by decide +kernel
theorem dJ7_fill_53178_2 : decode cJ7_fill_53178 2 = .ok (.aload_n 0, 1) := by decide +kernel
theorem dJ7_fill_53178_3 : decode cJ7_fill_53178 3 = .ok (.arraylength, 1) := by decide +kernel
theorem dJ7_fill_53178_4 : decode cJ7_fill_53178 4 = .ok (.istore_n 3, 1) := by decide +kernel
theorem dJ7_fill_53178_5 : decode cJ7_fill_53178 5 = .ok (.iload_n 2, 1) := by decide +kernel
theorem dJ7_fill_53178_6 : decode cJ7_fill_53178 6 = .ok (.iload_n 3, 1) := by decide +kernel
theorem dJ7_fill_53178_7 : decode cJ7_fill_53178 7 = .ok (.if_icmp .ge 13, 3) := by decide +kernel
theorem dJ7_fill_53178_10 : decode cJ7_fill_53178 10 = .ok (.aload_n 0, 1) := by decide +kernel
theorem dJ7_fill_53178_11 : decode cJ7_fill_53178 11 = .ok (.iload_n 2, 1) := by decide +kernel
theorem dJ7_fill_53178_12 : decode cJ7_fill_53178 12 = .ok (.iload_n 1, 1) := by decide +kernel
theorem dJ7_fill_53178_13 : decode cJ7_fill_53178 13 = .ok (.iastore, 1) := by decide +kernel
theorem dJ7_fill_53178_14 : decode cJ7_fill_53178 14 = .ok (.iinc 2 1, 3) := by decide +kernel
theorem dJ7_fill_53178_17 : decode cJ7_fill_53178 17 = .ok (.goto (-12), 3) := by decide +kernel
theorem dJ7_fill_53178_20 : decode cJ7_fill_53178 20 = .ok (.return_, 1) := by decide +kernel
def Sp_J7_fill_53178 (av : List AV) (m : AM) (Φ : Option AV → AM → Prop) : Prop := ∃ t i v, av = [vr t i, vi v] ∧ (t = 12 ∨ 100 ≤ t ∧ t < 20000) ∧ alT m t i < 100000 ∧ Φ none (aset m i (fillF (m.1 i) (alT m t i) v))
set_option maxRecDepth 20000 in
set_option maxHeartbeats 4000000 in
theorem S_J7_fill_53178 : Snd yJ7_fill_53178 e_J7_fill_53178 Sp_J7_fill_53178 := by
  refine Snd.of (by decide +kernel) rfl ?_ ?_
  · rintro av m Φ ⟨t, i, v, rfl, _⟩; exact Nat.le_of_ble_eq_true rfl
  rintro av m Φ ⟨t, i, v, rfl, ht, hn, h⟩ hav hty
  show B e_J7_fill_53178 Φ 0 [some (vr t i), some (vi v), none, none] [] m (0, 0)
  have loop : ∀ n j, alT m t i + 1 ≤ j + n → j ≤ alT m t i → B e_J7_fill_53178 Φ 5 [some (vr t i), some (vi v), some (vi (nI j)), some (vi (nI (alT m t i)))] [] (aset m i (fillF (m.1 i) j v)) (0, 0) := by
    intro n
    induction n with
    | zero => intro j h1 h2; omega
    | succ n ih =>
      intro j h1 h2
      refine b_iloadN (pc := 5) 2 dJ7_fill_53178_5 rfl rfl ?_
      refine b_iloadN (pc := 6) 3 dJ7_fill_53178_6 rfl rfl ?_
      refine b_icmp_ge (pc := 7) 20 dJ7_fill_53178_7 (by decide) (fun c7 => ?_) (fun c7 => ?_)
      · refine b_vret (pc := 20) rfl dJ7_fill_53178_20 ⟨Nat.le_of_ble_eq_true rfl, Nat.le_of_ble_eq_true rfl⟩ ?_
        rw [n_le (by omega) (by omega)] at c7
        rw [show alT m t i = j by omega] at h
        exact h
      · rw [n_le (by omega) (by omega)] at c7
        refine b_aloadN (pc := 10) 0 dJ7_fill_53178_10 rfl rfl ?_
        refine b_iloadN (pc := 11) 2 dJ7_fill_53178_11 rfl rfl ?_
        refine b_iloadN (pc := 12) 1 dJ7_fill_53178_12 rfl rfl ?_
        refine b_iastA (pc := 13) ht ?_ dJ7_fill_53178_13 ?_
        · exact n_in (show j < alT (aset m i (fillF (m.1 i) j v)) t i from (by show j < alT m t i; omega)) (by show alT m t i < _; omega)
        refine inc2 (pc := 14) notL_i (by decide) dJ7_fill_53178_14 ?_
        refine b_goto (pc := 17) 5 dJ7_fill_53178_17 (by decide) ?_
        rw [n_inc, n_cl (by omega), mset_of_aset]
        have e : upd (fillF (m.1 i) j v) j v = fillF (m.1 i) (j + 1) v := by
          funext k
          unfold upd fillF
          by_cases q : k = j
          · subst q; simp
          · by_cases q2 : k < j
            · simp [q, q2, show k < j + 1 by omega]
            · simp [q, q2, show ¬ k < j + 1 by omega]
        rw [e]
        exact ih (j + 1) (by omega) (by omega)
  refine b_iconst (pc := 0) (nI 0) dJ7_fill_53178_0 (by decide) ?_
  refine siN2 (pc := 1) rfl notL_i (by decide) dJ7_fill_53178_1 ?_
  refine b_aloadN (pc := 2) 0 dJ7_fill_53178_2 rfl rfl ?_
  refine b_alenA (pc := 3) ht dJ7_fill_53178_3 ?_
  refine siN3 (pc := 4) rfl notL_i (by decide) dJ7_fill_53178_4 ?_
  have h0 := loop (alT m t i + 1) 0 (by omega) (by omega)
  rw [aset_self m i _ (by funext k; simp [fillF])] at h0
  exact h0
theorem call_J7_fill_53178 {E : ME} {Φ : Option AV → AM → Prop} {pc : Nat} {L : List (Option AV)} {st : List AV} {m : AM} {a : Nat × Nat} {idx : Nat} {x0 x1 : AV} (hl : Cond.methodLink E.2.1 idx yJ7_fill_53178 ∈ TB) (hdep : 1 + 1 ≤ E.2.2.2.2.2.2) (hroom : a.1 + 0 ≤ E.2.2.2.2.1 ∧ a.2 + 0 ≤ E.2.2.2.2.2.1) (hsr : st.length ≤ 4) (hd : decode E.1 pc = .ok (.invokestatic idx, 3)) (hsp : Sp_J7_fill_53178 [x0, x1] m (fun r m2 => B E Φ (pc + 3) L (r.toList ++ st) m2 a)) : B E Φ pc L (x1 :: x0 :: st) m a := b_callS S_J7_fill_53178 [x0, x1] (Or.inl hl) k102 k70 k103 (show _ ∧ _ ∧ Option.map (fun d => d.parameters.length) (parseMethodDescriptor yJ7_fill_53178.desc) = some 2 from by decide +kernel) ⟨hdep, by decide⟩ hroom hsr hd hsp
/-- what stays: all but the ints of the cells l -/
def Fr (l : List Nat) (m m2 : AM) : Prop := m2.2 = m.2 ∧ ∀ a, a ∉ l → m2.1 a = m.1 a
theorem Fr.rf (l : List Nat) (m : AM) : Fr l m m := ⟨rfl, fun _ _ => rfl⟩
theorem Fr.tr {l l2 : List Nat} {m m2 m3 : AM} (h : Fr l m m2) (h2 : Fr l2 m2 m3) : Fr (l ++ l2) m m3 := ⟨h2.1.trans h.1, fun a ha => (h2.2 a (fun q => ha (List.mem_append_right _ q))).trans (h.2 a (fun q => ha (List.mem_append_left _ q)))⟩
theorem Fr.mono {l l2 : List Nat} {m m2 : AM} (h : Fr l m m2) (hl : ∀ a, a ∈ l → a ∈ l2) : Fr l2 m m2 := ⟨h.1, fun a ha => h.2 a (fun q => ha (hl a q))⟩
theorem Fr.ms {l : List Nat} {m m2 : AM} (h : Fr l m m2) {i j : Nat} {x : Int32} (hi : i ∈ l) : Fr l m (mset m2 i j x) := ⟨h.1, fun a ha => by
  have q : a ≠ i := fun e => ha (by rw [e]; exact hi)
  rw [mset_ne m2 j x q]
  exact h.2 a ha⟩
theorem Fr.as {l : List Nat} {m m2 : AM} (h : Fr l m m2) {i : Nat} {f : Nat → Int32} (hi : i ∈ l) : Fr l m (aset m2 i f) := ⟨h.1, fun a ha => by
  have q : a ≠ i := fun e => ha (by rw [e]; exact hi)
  rw [aset_ne m2 f q]
  exact h.2 a ha⟩
theorem CU.fr {C : Nat → Nat} {m m2 : AM} (h : CU C m m2) : Fr [30] m m2 := ⟨h.two, fun a ha => h.ne (fun e => ha (by simp [e]))⟩
abbrev e_X8_become : ME := (cX8_become, (RX8, (2, (none, (0, (0, 1))))))
theorem dX8_become_0 : decode cX8_become 0 = .ok (.aload_n 1, 1) := by decide +kernel
theorem dX8_become_1 : decode cX8_become 1 = .ok (.getfield 9, 3) := by decide +kernel
theorem dX8_become_4 : decode cX8_become 4 = .ok (.iconst 0, 1) := by decide +kernel
theorem dX8_become_5 : decode cX8_become 5 = .ok (.aload_n 0, 1) := by decide +kernel
theorem dX8_become_6 : decode cX8_become 6 = .ok (.getfield 9, 3) := by decide +kernel
theorem dX8_become_9 : decode cX8_become 9 = .ok (.iconst 0, 1) := by decide +kernel
theorem dX8_become_10 : decode cX8_become 10 = .ok (.iconst 5, 1) := by decide +kernel
theorem dX8_become_11 : decode cX8_become 11 = .ok (.invokestatic 37, 3) := by decide +kernel
theorem dX8_become_14 : decode cX8_become 14 = .ok (.aload_n 0, 1) := by decide +kernel
theorem dX8_become_15 : decode cX8_become 15 = .ok (.aload_n 1, 1) := by decide +kernel
theorem dX8_become_16 : decode cX8_become 16 = .ok (.getfield 21, 3) := by decide +kernel
theorem dX8_become_19 : decode cX8_become 19 = .ok (.putfield 21, 3) := by decide +kernel
theorem dX8_become_22 : decode cX8_become 22 = .ok (.aload_n 0, 1) := by decide +kernel
theorem dX8_become_23 : decode cX8_become 23 = .ok (.aload_n 1, 1) := by decide +kernel
theorem dX8_become_24 : decode cX8_become 24 = .ok (.getfield 25, 3) := by decide +kernel
theorem dX8_become_27 : decode cX8_become 27 = .ok (.putfield 25, 3) := by decide +kernel
theorem dX8_become_30 : decode cX8_become 30 = .ok (.aload_n 0, 1) := by decide +kernel
theorem dX8_become_31 : decode cX8_become 31 = .ok (.aload_n 1, 1) := by decide +kernel
theorem dX8_become_32 : decode cX8_become 32 = .ok (.getfield 28, 3) := by decide +kernel
theorem dX8_become_35 : decode cX8_become 35 = .ok (.putfield 28, 3) := by decide +kernel
theorem dX8_become_38 : decode cX8_become 38 = .ok (.aload_n 0, 1) := by decide +kernel
theorem dX8_become_39 : decode cX8_become 39 = .ok (.aload_n 1, 1) := by decide +kernel
theorem dX8_become_40 : decode cX8_become 40 = .ok (.getfield 31, 3) := by decide +kernel
theorem dX8_become_43 : decode cX8_become 43 = .ok (.putfield 31, 3) := by decide +kernel
theorem dX8_become_46 : decode cX8_become 46 = .ok (.aload_n 0, 1) := by decide +kernel
theorem dX8_become_47 : decode cX8_become 47 = .ok (.aload_n 1, 1) := by decide +kernel
theorem dX8_become_48 : decode cX8_become 48 = .ok (.getfield 34, 3) := by decide +kernel
theorem dX8_become_51 : decode cX8_become 51 = .ok (.putfield 34, 3) := by decide +kernel
theorem dX8_become_54 : decode cX8_become 54 = .ok (.return_, 1) := by decide +kernel
def Sp_X8_become (av : List AV) (m : AM) (Φ : Option AV → AM → Prop) : Prop := ∃ i j, av = [vr 8 i, vr 8 j] ∧ (i ≠ j ∧ i + 1 ≠ j ∧ j + 1 ≠ i) ∧ ∀ m2, Fr [i, i + 1] m m2 → (∀ k, 1 ≤ k → k ≤ 5 → m2.1 i k = m.1 j k) → (∀ p, p < 5 → m2.1 (i + 1) p = m.1 (j + 1) p) → Φ none m2
set_option maxRecDepth 20000 in
set_option maxHeartbeats 4000000 in
theorem S_X8_become : Snd yX8_become e_X8_become Sp_X8_become := by
  refine Snd.of (by decide +kernel) rfl ?_ ?_
  · rintro av m Φ ⟨i, j, rfl, _⟩; exact Nat.le_of_ble_eq_true rfl
  rintro av m Φ ⟨i, j, rfl, hij, h⟩ hav hty
  show B e_X8_become Φ 0 [some (vr 8 i), some (vr 8 j)] [] m (0, 0)
  refine b_aloadN (pc := 0) 1 dX8_become_0 rfl rfl ?_
  refine gf8_0 (pc := 1) _ rfl k227 dX8_become_1 ?_
  refine b_iconst (pc := 4) (nI 0) dX8_become_4 (by decide) ?_
  refine b_aloadN (pc := 5) 0 dX8_become_5 rfl rfl ?_
  refine gf8_0 (pc := 6) _ rfl k227 dX8_become_6 ?_
  refine b_iconst (pc := 9) (nI 0) dX8_become_9 (by decide) ?_
  refine b_iconst (pc := 10) (nI 5) dX8_become_10 (by decide) ?_
  refine b_acopy (pc := 11) (by decide) (by decide) k637 k495 k494 k81 ?_ ?_ ?_ ?_ ?_ (by decide) (by decide) dX8_become_11 ?_
  rotate_left -- leaf 0: arraycopy sp at 11
  rotate_left -- leaf 1: arraycopy dp at 11
  rotate_left -- leaf 2: arraycopy n at 11
  rotate_left -- leaf 3: arraycopy from at 11
  rotate_left -- leaf 4: arraycopy to at 11
  refine b_aloadN (pc := 14) 0 dX8_become_14 rfl rfl ?_
  refine b_aloadN (pc := 15) 1 dX8_become_15 rfl rfl ?_
  refine gf8_1 (pc := 16) k231 dX8_become_16 ?_
  refine pf8_1 (pc := 19) k231 dX8_become_19 ?_
  refine b_aloadN (pc := 22) 0 dX8_become_22 rfl rfl ?_
  refine b_aloadN (pc := 23) 1 dX8_become_23 rfl rfl ?_
  refine gf8_2 (pc := 24) k237 dX8_become_24 ?_
  refine pf8_2 (pc := 27) k237 dX8_become_27 ?_
  refine b_aloadN (pc := 30) 0 dX8_become_30 rfl rfl ?_
  refine b_aloadN (pc := 31) 1 dX8_become_31 rfl rfl ?_
  refine gf8_3 (pc := 32) k242 dX8_become_32 ?_
  refine pf8_3 (pc := 35) k242 dX8_become_35 ?_
  refine b_aloadN (pc := 38) 0 dX8_become_38 rfl rfl ?_
  refine b_aloadN (pc := 39) 1 dX8_become_39 rfl rfl ?_
  refine gf8_4 (pc := 40) k245 dX8_become_40 ?_
  refine pf8_4 (pc := 43) k245 dX8_become_43 ?_
  refine b_aloadN (pc := 46) 0 dX8_become_46 rfl rfl ?_
  refine b_aloadN (pc := 47) 1 dX8_become_47 rfl rfl ?_
  refine gf8_5 (pc := 48) k248 dX8_become_48 ?_
  refine pf8_5 (pc := 51) k248 dX8_become_51 ?_
  refine b_vret (pc := 54) rfl dX8_become_54 ⟨Nat.le_of_ble_eq_true rfl, Nat.le_of_ble_eq_true rfl⟩ ?_
  rotate_left -- leaf 5: return at 54
  -- leaves: 0 arraycopy sp at 11; 1 arraycopy dp at 11; 2 arraycopy n at 11; 3 arraycopy from at 11; 4 arraycopy to at 11; 5 return at 54
  · decide
  · decide
  · decide
  · exact (show (nI 0).toNatClampNeg + (nI 5).toNatClampNeg ≤ 5 from by decide)
  · exact (show (nI 0).toNatClampNeg + (nI 5).toNatClampNeg ≤ 5 from by decide)
  · have e1 : ¬ j = i := fun e => hij.1 e.symm
    have e2 : ¬ j = i + 1 := fun e => hij.2.1 e.symm
    refine h _ (((((((Fr.rf _ m).as (by simp)).ms (by simp)).ms (by simp)).ms (by simp)).ms (by simp)).ms (by simp)) (fun k h1 h2 => ?_) (fun p hp => ?_)
    · rcases (by omega : k = 1 ∨ k = 2 ∨ k = 3 ∨ k = 4 ∨ k = 5) with rfl | rfl | rfl | rfl | rfl <;> simp [mset, aset, e1, e2]
    · have e3 : va_cpy (m.1 (j + 1)) (m.1 (i + 1)) (nI 0).toNatClampNeg (nI 0).toNatClampNeg (nI 5).toNatClampNeg p = m.1 (j + 1) p := by
        rw [n_cl (by omega), n_cl (by omega)]
        simp [va_cpy, hp]
      simp [mset, aset, e3]
theorem call_X8_become {E : ME} {Φ : Option AV → AM → Prop} {pc : Nat} {L : List (Option AV)} {st : List AV} {m : AM} {a : Nat × Nat} {idx : Nat} {x0 : AV} {i : Nat} (hl : Cond.methodLink E.2.1 idx yX8_become ∈ TB) (hdep : 1 + 1 ≤ E.2.2.2.2.2.2) (hroom : a.1 + 0 ≤ E.2.2.2.2.1 ∧ a.2 + 0 ≤ E.2.2.2.2.2.1) (hsr : st.length ≤ 4) (hd : decode E.1 pc = .ok (.invokevirtual idx, 3)) (hsp : Sp_X8_become [vr 8 i, x0] m (fun r m2 => B E Φ (pc + 3) L (r.toList ++ st) m2 a)) : B E Φ pc L (x0 :: vr 8 i :: st) m a := b_callV S_X8_become [x0] (RX8, TX8, 6) rfl rfl (by decide) (Or.inl hl) k634 k635 k74 k636 (show _ ∧ _ ∧ Option.map (fun d => d.parameters.length) (parseMethodDescriptor yX8_become.desc) = some 1 from by decide +kernel) ⟨hdep, by decide⟩ hroom hsr hd hsp
abbrev e_X8_begin : ME := (cX8_begin, (RX8, (2, (none, (0, (0, 2))))))
theorem dX8_begin_0 : decode cX8_begin 0 = .ok (.aload_n 0, 1) := by decide +kernel
theorem dX8_begin_1 : decode cX8_begin 1 = .ok (.getfield 9, 3) := by decide +kernel
theorem dX8_begin_4 : decode cX8_begin 4 = .ok (.iconst 0, 1) := by decide +kernel
theorem dX8_begin_5 : decode cX8_begin 5 = .ok (.invokestatic 15, 3) := by decide +kernel
theorem dX8_begin_8 : decode cX8_begin 8 = .ok (.aload_n 0, 1) := by decide +kernel
theorem dX8_begin_9 : decode cX8_begin 9 = .ok (.iload_n 1, 1) := by decide +kernel
theorem dX8_begin_10 : decode cX8_begin 10 = .ok (.putfield 21, 3) := by decide +kernel
theorem dX8_begin_13 : decode cX8_begin 13 = .ok (.aload_n 0, 1) := by decide +kernel
theorem dX8_begin_14 : decode cX8_begin 14 = .ok (.iconst 0, 1) := by decide +kernel
theorem dX8_begin_15 : decode cX8_begin 15 = .ok (.putfield 25, 3) := by decide +kernel
theorem dX8_begin_18 : decode cX8_begin 18 = .ok (.aload_n 0, 1) := by decide +kernel
theorem dX8_begin_19 : decode cX8_begin 19 = .ok (.iconst 0, 1) := by decide +kernel
theorem dX8_begin_20 : decode cX8_begin 20 = .ok (.putfield 28, 3) := by decide +kernel
theorem dX8_begin_23 : decode cX8_begin 23 = .ok (.aload_n 0, 1) := by decide +kernel
theorem dX8_begin_24 : decode cX8_begin 24 = .ok (.iconst 0, 1) := by decide +kernel
theorem dX8_begin_25 : decode cX8_begin 25 = .ok (.putfield 31, 3) := by decide +kernel
theorem dX8_begin_28 : decode cX8_begin 28 = .ok (.aload_n 0, 1) := by decide +kernel
theorem dX8_begin_29 : decode cX8_begin 29 = .ok (.iconst 0, 1) := by decide +kernel
theorem dX8_begin_30 : decode cX8_begin 30 = .ok (.putfield 34, 3) := by decide +kernel
theorem dX8_begin_33 : decode cX8_begin 33 = .ok (.return_, 1) := by decide +kernel
def Sp_X8_begin (av : List AV) (m : AM) (Φ : Option AV → AM → Prop) : Prop := ∃ i x, av = [vr 8 i, vi x] ∧ ∀ m2, Fr [i, i + 1] m m2 → m2.1 i 1 = x → (∀ k, 2 ≤ k → k ≤ 5 → m2.1 i k = nI 0) → (∀ p, p < 5 → m2.1 (i + 1) p = nI 0) → Φ none m2
set_option maxRecDepth 20000 in
set_option maxHeartbeats 4000000 in
theorem S_X8_begin : Snd yX8_begin e_X8_begin Sp_X8_begin := by
  refine Snd.of (by decide +kernel) rfl ?_ ?_
  · rintro av m Φ ⟨i, x, rfl, _⟩; exact Nat.le_of_ble_eq_true rfl
  rintro av m Φ ⟨i, x, rfl, h⟩ hav hty
  show B e_X8_begin Φ 0 [some (vr 8 i), some (vi x)] [] m (0, 0)
  refine b_aloadN (pc := 0) 0 dX8_begin_0 rfl rfl ?_
  refine gf8_0 (pc := 1) _ rfl k227 dX8_begin_1 ?_
  refine b_iconst (pc := 4) (nI 0) dX8_begin_4 (by decide) ?_
  refine call_J7_fill_53178 (pc := 5) k598 (by decide) ⟨Nat.le_of_ble_eq_true rfl, Nat.le_of_ble_eq_true rfl⟩ (Nat.le_of_ble_eq_true rfl) dX8_begin_5 ?_
  refine ⟨_, _, _, rfl, ?_, ?_, ?_⟩
  exact Or.inr ⟨by decide, by decide⟩
  exact (Nat.le_of_ble_eq_true rfl)
  refine b_aloadN (pc := 8) 0 dX8_begin_8 rfl rfl ?_
  refine b_iloadN (pc := 9) 1 dX8_begin_9 rfl rfl ?_
  refine pf8_1 (pc := 10) k231 dX8_begin_10 ?_
  refine b_aloadN (pc := 13) 0 dX8_begin_13 rfl rfl ?_
  refine b_iconst (pc := 14) (nI 0) dX8_begin_14 (by decide) ?_
  refine pf8_2 (pc := 15) k237 dX8_begin_15 ?_
  refine b_aloadN (pc := 18) 0 dX8_begin_18 rfl rfl ?_
  refine b_iconst (pc := 19) (nI 0) dX8_begin_19 (by decide) ?_
  refine pf8_3 (pc := 20) k242 dX8_begin_20 ?_
  refine b_aloadN (pc := 23) 0 dX8_begin_23 rfl rfl ?_
  refine b_iconst (pc := 24) (nI 0) dX8_begin_24 (by decide) ?_
  refine pf8_4 (pc := 25) k245 dX8_begin_25 ?_
  refine b_aloadN (pc := 28) 0 dX8_begin_28 rfl rfl ?_
  refine b_iconst (pc := 29) (nI 0) dX8_begin_29 (by decide) ?_
  refine pf8_5 (pc := 30) k248 dX8_begin_30 ?_
  refine b_vret (pc := 33) rfl dX8_begin_33 ⟨Nat.le_of_ble_eq_true rfl, Nat.le_of_ble_eq_true rfl⟩ ?_
  rotate_left -- leaf 0: return at 33
  -- leaves: 0 return at 33
  refine h _ ((((((Fr.rf _ m).as (by simp)).ms (by simp)).ms (by simp)).ms (by simp)).ms (by simp) |>.ms (by simp)) (by simp [mset, aset]) (fun k h1 h2 => ?_) (fun p hp => ?_)
  · rcases (by omega : k = 2 ∨ k = 3 ∨ k = 4 ∨ k = 5) with rfl | rfl | rfl | rfl <;> simp [mset, aset]
  · have e3 : fillF (m.1 (i + 1)) (alT m 105 (i + 1)) (nI 0) p = nI 0 := by
      have e4 : alT m 105 (i + 1) = 5 := rfl
      rw [e4]
      simp [fillF, hp]
    simp [mset, aset, e3]
theorem call_X8_begin {E : ME} {Φ : Option AV → AM → Prop} {pc : Nat} {L : List (Option AV)} {st : List AV} {m : AM} {a : Nat × Nat} {idx : Nat} {x0 : AV} {i : Nat} (hl : Cond.methodLink E.2.1 idx yX8_begin ∈ TB) (hdep : 2 + 1 ≤ E.2.2.2.2.2.2) (hroom : a.1 + 0 ≤ E.2.2.2.2.1 ∧ a.2 + 0 ≤ E.2.2.2.2.2.1) (hsr : st.length ≤ 4) (hd : decode E.1 pc = .ok (.invokevirtual idx, 3)) (hsp : Sp_X8_begin [vr 8 i, x0] m (fun r m2 => B E Φ (pc + 3) L (r.toList ++ st) m2 a)) : B E Φ pc L (x0 :: vr 8 i :: st) m a := b_callV S_X8_begin [x0] (RX8, TX8, 6) rfl rfl (by decide) (Or.inl hl) k595 k596 k74 k597 (show _ ∧ _ ∧ Option.map (fun d => d.parameters.length) (parseMethodDescriptor yX8_begin.desc) = some 1 from by decide +kernel) ⟨hdep, by decide⟩ hroom hsr hd hsp
abbrev e_X5_become : ME := (cX5_become, (RX5, (2, (none, (0, (0, 1))))))
theorem dX5_become_0 : decode cX5_become 0 = .ok (.aload_n 1, 1) := by decide +kernel
theorem dX5_become_1 : decode cX5_become 1 = .ok (.getfield 9, 3) := by decide +kernel
theorem dX5_become_4 : decode cX5_become 4 = .ok (.iconst 0, 1) := by decide +kernel
theorem dX5_become_5 : decode cX5_become 5 = .ok (.aload_n 0, 1) := by decide +kernel
theorem dX5_become_6 : decode cX5_become 6 = .ok (.getfield 9, 3) := by decide +kernel
theorem dX5_become_9 : decode cX5_become 9 = .ok (.iconst 0, 1) := by decide +kernel
theorem dX5_become_10 : decode cX5_become 10 = .ok (.bipush 8, 2) := by decide +kernel
theorem dX5_become_12 : decode cX5_become 12 = .ok (.invokestatic 40, 3) := by decide +kernel
theorem dX5_become_15 : decode cX5_become 15 = .ok (.aload_n 1, 1) := by decide +kernel
theorem dX5_become_16 : decode cX5_become 16 = .ok (.getfield 15, 3) := by decide +kernel
theorem dX5_become_19 : decode cX5_become 19 = .ok (.iconst 0, 1) := by decide +kernel
theorem dX5_become_20 : decode cX5_become 20 = .ok (.aload_n 0, 1) := by decide +kernel
theorem dX5_become_21 : decode cX5_become 21 = .ok (.getfield 15, 3) := by decide +kernel
theorem dX5_become_24 : decode cX5_become 24 = .ok (.iconst 0, 1) := by decide +kernel
theorem dX5_become_25 : decode cX5_become 25 = .ok (.bipush 8, 2) := by decide +kernel
theorem dX5_become_27 : decode cX5_become 27 = .ok (.invokestatic 40, 3) := by decide +kernel
theorem dX5_become_30 : decode cX5_become 30 = .ok (.aload_n 1, 1) := by decide +kernel
theorem dX5_become_31 : decode cX5_become 31 = .ok (.getfield 18, 3) := by decide +kernel
theorem dX5_become_34 : decode cX5_become 34 = .ok (.iconst 0, 1) := by decide +kernel
theorem dX5_become_35 : decode cX5_become 35 = .ok (.aload_n 0, 1) := by decide +kernel
theorem dX5_become_36 : decode cX5_become 36 = .ok (.getfield 18, 3) := by decide +kernel
theorem dX5_become_39 : decode cX5_become 39 = .ok (.iconst 0, 1) := by decide +kernel
theorem dX5_become_40 : decode cX5_become 40 = .ok (.bipush 8, 2) := by decide +kernel
theorem dX5_become_42 : decode cX5_become 42 = .ok (.invokestatic 40, 3) := by decide +kernel
theorem dX5_become_45 : decode cX5_become 45 = .ok (.aload_n 1, 1) := by decide +kernel
theorem dX5_become_46 : decode cX5_become 46 = .ok (.getfield 21, 3) := by decide +kernel
theorem dX5_become_49 : decode cX5_become 49 = .ok (.iconst 0, 1) := by decide +kernel
theorem dX5_become_50 : decode cX5_become 50 = .ok (.aload_n 0, 1) := by decide +kernel
theorem dX5_become_51 : decode cX5_become 51 = .ok (.getfield 21, 3) := by decide +kernel
theorem dX5_become_54 : decode cX5_become 54 = .ok (.iconst 0, 1) := by decide +kernel
theorem dX5_become_55 : decode cX5_become 55 = .ok (.iconst 5, 1) := by decide +kernel
theorem dX5_become_56 : decode cX5_become 56 = .ok (.invokestatic 40, 3) := by decide +kernel
theorem dX5_become_59 : decode cX5_become 59 = .ok (.aload_n 0, 1) := by decide +kernel
theorem dX5_become_60 : decode cX5_become 60 = .ok (.aload_n 1, 1) := by decide +kernel
theorem dX5_become_61 : decode cX5_become 61 = .ok (.getfield 24, 3) := by decide +kernel
theorem dX5_become_64 : decode cX5_become 64 = .ok (.putfield 24, 3) := by decide +kernel
theorem dX5_become_67 : decode cX5_become 67 = .ok (.aload_n 0, 1) := by decide +kernel
theorem dX5_become_68 : decode cX5_become 68 = .ok (.aload_n 1, 1) := by decide +kernel
theorem dX5_become_69 : decode cX5_become 69 = .ok (.getfield 28, 3) := by decide +kernel
theorem dX5_become_72 : decode cX5_become 72 = .ok (.putfield 28, 3) := by decide +kernel
theorem dX5_become_75 : decode cX5_become 75 = .ok (.aload_n 0, 1) := by decide +kernel
theorem dX5_become_76 : decode cX5_become 76 = .ok (.aload_n 1, 1) := by decide +kernel
theorem dX5_become_77 : decode cX5_become 77 = .ok (.getfield 31, 3) := by decide +kernel
theorem dX5_become_80 : decode cX5_become 80 = .ok (.putfield 31, 3) := by decide +kernel
theorem dX5_become_83 : decode cX5_become 83 = .ok (.aload_n 0, 1) := by decide +kernel
theorem dX5_become_84 : decode cX5_become 84 = .ok (.aload_n 1, 1) := by decide +kernel
theorem dX5_become_85 : decode cX5_become 85 = .ok (.getfield 34, 3) := by decide +kernel
theorem dX5_become_88 : decode cX5_become 88 = .ok (.putfield 34, 3) := by decide +kernel
theorem dX5_become_91 : decode cX5_become 91 = .ok (.aload_n 0, 1) := by decide +kernel
theorem dX5_become_92 : decode cX5_become 92 = .ok (.aload_n 1, 1) := by decide +kernel
theorem dX5_become_93 : decode cX5_become 93 = .ok (.getfield 37, 3) := by decide +kernel
theorem dX5_become_96 : decode cX5_become 96 = .ok (.putfield 37, 3) := by decide +kernel
theorem dX5_become_99 : decode cX5_become 99 = .ok (.return_, 1) := by decide +kernel
def Sp_X5_become (av : List AV) (m : AM) (Φ : Option AV → AM → Prop) : Prop := ∃ i j, av = [vr 5 i, vr 5 j] ∧ (i + 4 < j ∨ j + 4 < i) ∧ ∀ m2, Fr [i, i + 1, i + 2, i + 3, i + 4] m m2 → (∀ k, 4 ≤ k → k ≤ 8 → m2.1 i k = m.1 j k) → (∀ p, p < 8 → m2.1 (i + 1) p = m.1 (j + 1) p ∧ m2.1 (i + 2) p = m.1 (j + 2) p ∧ m2.1 (i + 3) p = m.1 (j + 3) p) → (∀ p, p < 5 → m2.1 (i + 4) p = m.1 (j + 4) p) → Φ none m2
set_option maxRecDepth 20000 in
set_option maxHeartbeats 4000000 in
theorem S_X5_become : Snd yX5_become e_X5_become Sp_X5_become := by
  refine Snd.of (by decide +kernel) rfl ?_ ?_
  · rintro av m Φ ⟨i, j, rfl, _⟩; exact Nat.le_of_ble_eq_true rfl
  rintro av m Φ ⟨i, j, rfl, hij, h⟩ hav hty
  show B e_X5_become Φ 0 [some (vr 5 i), some (vr 5 j)] [] m (0, 0)
  have c8 : ∀ f g : Nat → Int32, ∀ p, p < 8 → va_cpy f g (nI 0).toNatClampNeg (nI 0).toNatClampNeg (nI 8).toNatClampNeg p = f p := by
    intro f g p hp
    rw [n_cl (by omega), n_cl (by omega)]
    simp [va_cpy, hp]
  have c5 : ∀ f g : Nat → Int32, ∀ p, p < 5 → va_cpy f g (nI 0).toNatClampNeg (nI 0).toNatClampNeg (nI 5).toNatClampNeg p = f p := by
    intro f g p hp
    rw [n_cl (by omega), n_cl (by omega)]
    simp [va_cpy, hp]
  refine b_aloadN (pc := 0) 1 dX5_become_0 rfl rfl ?_
  refine gf5_0 (pc := 1) _ rfl k127 dX5_become_1 ?_
  refine b_iconst (pc := 4) (nI 0) dX5_become_4 (by decide) ?_
  refine b_aloadN (pc := 5) 0 dX5_become_5 rfl rfl ?_
  refine gf5_0 (pc := 6) _ rfl k127 dX5_become_6 ?_
  refine b_iconst (pc := 9) (nI 0) dX5_become_9 (by decide) ?_
  refine b_bipush (pc := 10) (nI 8) dX5_become_10 (by decide) ?_
  refine b_acopy (pc := 12) (by decide) (by decide) k593 k495 k494 k81 ?_ ?_ ?_ ?_ ?_ (by decide) (by decide) dX5_become_12 ?_
  rotate_left -- leaf 0: arraycopy sp at 12
  rotate_left -- leaf 1: arraycopy dp at 12
  rotate_left -- leaf 2: arraycopy n at 12
  rotate_left -- leaf 3: arraycopy from at 12
  rotate_left -- leaf 4: arraycopy to at 12
  refine b_aloadN (pc := 15) 1 dX5_become_15 rfl rfl ?_
  refine gf5_1 (pc := 16) _ rfl k130 dX5_become_16 ?_
  refine b_iconst (pc := 19) (nI 0) dX5_become_19 (by decide) ?_
  refine b_aloadN (pc := 20) 0 dX5_become_20 rfl rfl ?_
  refine gf5_1 (pc := 21) _ rfl k130 dX5_become_21 ?_
  refine b_iconst (pc := 24) (nI 0) dX5_become_24 (by decide) ?_
  refine b_bipush (pc := 25) (nI 8) dX5_become_25 (by decide) ?_
  refine b_acopy (pc := 27) (by decide) (by decide) k593 k495 k494 k81 ?_ ?_ ?_ ?_ ?_ (by decide) (by decide) dX5_become_27 ?_
  rotate_left -- leaf 5: arraycopy sp at 27
  rotate_left -- leaf 6: arraycopy dp at 27
  rotate_left -- leaf 7: arraycopy n at 27
  rotate_left -- leaf 8: arraycopy from at 27
  rotate_left -- leaf 9: arraycopy to at 27
  refine b_aloadN (pc := 30) 1 dX5_become_30 rfl rfl ?_
  refine gf5_2 (pc := 31) _ rfl k133 dX5_become_31 ?_
  refine b_iconst (pc := 34) (nI 0) dX5_become_34 (by decide) ?_
  refine b_aloadN (pc := 35) 0 dX5_become_35 rfl rfl ?_
  refine gf5_2 (pc := 36) _ rfl k133 dX5_become_36 ?_
  refine b_iconst (pc := 39) (nI 0) dX5_become_39 (by decide) ?_
  refine b_bipush (pc := 40) (nI 8) dX5_become_40 (by decide) ?_
  refine b_acopy (pc := 42) (by decide) (by decide) k593 k495 k494 k81 ?_ ?_ ?_ ?_ ?_ (by decide) (by decide) dX5_become_42 ?_
  rotate_left -- leaf 10: arraycopy sp at 42
  rotate_left -- leaf 11: arraycopy dp at 42
  rotate_left -- leaf 12: arraycopy n at 42
  rotate_left -- leaf 13: arraycopy from at 42
  rotate_left -- leaf 14: arraycopy to at 42
  refine b_aloadN (pc := 45) 1 dX5_become_45 rfl rfl ?_
  refine gf5_3 (pc := 46) _ rfl k136 dX5_become_46 ?_
  refine b_iconst (pc := 49) (nI 0) dX5_become_49 (by decide) ?_
  refine b_aloadN (pc := 50) 0 dX5_become_50 rfl rfl ?_
  refine gf5_3 (pc := 51) _ rfl k136 dX5_become_51 ?_
  refine b_iconst (pc := 54) (nI 0) dX5_become_54 (by decide) ?_
  refine b_iconst (pc := 55) (nI 5) dX5_become_55 (by decide) ?_
  refine b_acopy (pc := 56) (by decide) (by decide) k593 k495 k494 k81 ?_ ?_ ?_ ?_ ?_ (by decide) (by decide) dX5_become_56 ?_
  rotate_left -- leaf 15: arraycopy sp at 56
  rotate_left -- leaf 16: arraycopy dp at 56
  rotate_left -- leaf 17: arraycopy n at 56
  rotate_left -- leaf 18: arraycopy from at 56
  rotate_left -- leaf 19: arraycopy to at 56
  refine b_aloadN (pc := 59) 0 dX5_become_59 rfl rfl ?_
  refine b_aloadN (pc := 60) 1 dX5_become_60 rfl rfl ?_
  refine gf5_4 (pc := 61) k142 dX5_become_61 ?_
  refine pf5_4 (pc := 64) k142 dX5_become_64 ?_
  refine b_aloadN (pc := 67) 0 dX5_become_67 rfl rfl ?_
  refine b_aloadN (pc := 68) 1 dX5_become_68 rfl rfl ?_
  refine gf5_5 (pc := 69) k148 dX5_become_69 ?_
  refine pf5_5 (pc := 72) k148 dX5_become_72 ?_
  refine b_aloadN (pc := 75) 0 dX5_become_75 rfl rfl ?_
  refine b_aloadN (pc := 76) 1 dX5_become_76 rfl rfl ?_
  refine gf5_6 (pc := 77) k151 dX5_become_77 ?_
  refine pf5_6 (pc := 80) k151 dX5_become_80 ?_
  refine b_aloadN (pc := 83) 0 dX5_become_83 rfl rfl ?_
  refine b_aloadN (pc := 84) 1 dX5_become_84 rfl rfl ?_
  refine gf5_7 (pc := 85) k156 dX5_become_85 ?_
  refine pf5_7 (pc := 88) k156 dX5_become_88 ?_
  refine b_aloadN (pc := 91) 0 dX5_become_91 rfl rfl ?_
  refine b_aloadN (pc := 92) 1 dX5_become_92 rfl rfl ?_
  refine gf5_8 (pc := 93) k160 dX5_become_93 ?_
  refine pf5_8 (pc := 96) k160 dX5_become_96 ?_
  refine b_vret (pc := 99) rfl dX5_become_99 ⟨Nat.le_of_ble_eq_true rfl, Nat.le_of_ble_eq_true rfl⟩ ?_
  rotate_left -- leaf 20: return at 99
  -- leaves: 0 arraycopy sp at 12; 1 arraycopy dp at 12; 2 arraycopy n at 12; 3 arraycopy from at 12; 4 arraycopy to at 12; 5 arraycopy sp at 27; 6 arraycopy dp at 27; 7 arraycopy n at 27; 8 arraycopy from at 27; 9 arraycopy to at 27; 10 arraycopy sp at 42; 11 arraycopy dp at 42; 12 arraycopy n at 42; 13 arraycopy from at 42; 14 arraycopy to at 42; 15 arraycopy sp at 56; 16 arraycopy dp at 56; 17 arraycopy n at 56; 18 arraycopy from at 56; 19 arraycopy to at 56; 20 return at 99
  · decide
  · decide
  · decide
  · exact (show (nI 0).toNatClampNeg + (nI 8).toNatClampNeg ≤ 8 from by decide)
  · exact (show (nI 0).toNatClampNeg + (nI 8).toNatClampNeg ≤ 8 from by decide)
  · decide
  · decide
  · decide
  · exact (show (nI 0).toNatClampNeg + (nI 8).toNatClampNeg ≤ 8 from by decide)
  · exact (show (nI 0).toNatClampNeg + (nI 8).toNatClampNeg ≤ 8 from by decide)
  · decide
  · decide
  · decide
  · exact (show (nI 0).toNatClampNeg + (nI 8).toNatClampNeg ≤ 8 from by decide)
  · exact (show (nI 0).toNatClampNeg + (nI 8).toNatClampNeg ≤ 8 from by decide)
  · decide
  · decide
  · decide
  · exact (show (nI 0).toNatClampNeg + (nI 5).toNatClampNeg ≤ 5 from by decide)
  · exact (show (nI 0).toNatClampNeg + (nI 5).toNatClampNeg ≤ 5 from by decide)
  · have a0 : ¬ j = i := by omega
    have a1 : ¬ j = i + 1 := by omega
    have a2 : ¬ j = i + 2 := by omega
    have a3 : ¬ j = i + 3 := by omega
    have a4 : ¬ j = i + 4 := by omega
    have b1 : ¬ j + 1 = i + 2 := by omega
    have b2 : ¬ j + 1 = i + 3 := by omega
    have b3 : ¬ j + 2 = i + 1 := by omega
    have b4 : ¬ j + 2 = i + 3 := by omega
    have b5 : ¬ j + 3 = i + 1 := by omega
    have b6 : ¬ j + 3 = i + 2 := by omega
    have b7 : ¬ j + 4 = i + 1 := by omega
    have b8 : ¬ j + 4 = i + 2 := by omega
    have b9 : ¬ j + 4 = i + 3 := by omega
    refine h _ (((((((((((Fr.rf _ m).as (by simp)).as (by simp)).as (by simp)).as (by simp)).ms (by simp)).ms (by simp)).ms (by simp)).ms (by simp)).ms (by simp))) (fun k h1 h2 => ?_) (fun p hp => ⟨?_, ?_, ?_⟩) (fun p hp => ?_)
    · rcases (by omega : k = 4 ∨ k = 5 ∨ k = 6 ∨ k = 7 ∨ k = 8) with rfl | rfl | rfl | rfl | rfl <;> simp [mset, aset, a0, a1, a2, a3, a4]
    · simp [mset, aset, c8 _ _ p hp]
    · simp [mset, aset, c8 _ _ p hp, b3]
    · simp [mset, aset, c8 _ _ p hp, b5, b6]
    · simp [mset, aset, c5 _ _ p hp, b7, b8, b9]
theorem call_X5_become {E : ME} {Φ : Option AV → AM → Prop} {pc : Nat} {L : List (Option AV)} {st : List AV} {m : AM} {a : Nat × Nat} {idx : Nat} {x0 : AV} {i : Nat} (hl : Cond.methodLink E.2.1 idx yX5_become ∈ TB) (hdep : 1 + 1 ≤ E.2.2.2.2.2.2) (hroom : a.1 + 0 ≤ E.2.2.2.2.1 ∧ a.2 + 0 ≤ E.2.2.2.2.2.1) (hsr : st.length ≤ 4) (hd : decode E.1 pc = .ok (.invokevirtual idx, 3)) (hsp : Sp_X5_become [vr 5 i, x0] m (fun r m2 => B E Φ (pc + 3) L (r.toList ++ st) m2 a)) : B E Φ pc L (x0 :: vr 5 i :: st) m a := b_callV S_X5_become [x0] (RX5, TX5, 9) rfl rfl (by decide) (Or.inl hl) k590 k591 k72 k592 (show _ ∧ _ ∧ Option.map (fun d => d.parameters.length) (parseMethodDescriptor yX5_become.desc) = some 1 from by decide +kernel) ⟨hdep, by decide⟩ hroom hsr hd hsp
