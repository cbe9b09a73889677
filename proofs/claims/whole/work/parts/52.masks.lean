/-! the reference: began, trace, plainSize, quietSize, markOf, sizeOf, ask, isOf, as -/
theorem MTr.fm {li ls : List Nat} {m m2 : AM} {T : Nat × (Nat → Nat)} (hf : Fm li ls m m2) (h : MTr m T) (hn : 124 ∉ li) (h8 : 27 ∉ ls) : MTr m2 T := by
  unfold MTr
  rw [hf.2.2 27 h8, hf.2.1 124 (by decide) hn]
  exact h
theorem Fm.tr2 {li ls : List Nat} {m m2 m3 : AM} (h : Fm li ls m m2) (h2 : Fm li ls m2 m3) : Fm li ls m m3 := h.tr h2
abbrev e_X11_began : ME := (cX11_began, (RX11, (2, (none, (0, (0, 1))))))
theorem dX11_began_0 : decode cX11_began 0 = .ok (.aload_n 0, 1) := by decide +kernel
theorem dX11_began_1 : decode cX11_began 1 = .ok (.getfield 264, 3) := by decide +kernel
theorem dX11_began_4 : decode cX11_began 4 = .ok (.bipush 16, 2) := by decide +kernel
theorem dX11_began_6 : decode cX11_began 6 = .ok (.if_icmp .ge 23, 3) := by decide +kernel
theorem dX11_began_9 : decode cX11_began 9 = .ok (.aload_n 0, 1) := by decide +kernel
theorem dX11_began_10 : decode cX11_began 10 = .ok (.getfield 50, 3) := by decide +kernel
theorem dX11_began_13 : decode cX11_began 13 = .ok (.aload_n 0, 1) := by decide +kernel
theorem dX11_began_14 : decode cX11_began 14 = .ok (.getfield 264, 3) := by decide +kernel
theorem dX11_began_17 : decode cX11_began 17 = .ok (.iload_n 1, 1) := by decide +kernel
theorem dX11_began_18 : decode cX11_began 18 = .ok (.iastore, 1) := by decide +kernel
theorem dX11_began_19 : decode cX11_began 19 = .ok (.aload_n 0, 1) := by decide +kernel
theorem dX11_began_20 : decode cX11_began 20 = .ok (.dup, 1) := by decide +kernel
theorem dX11_began_21 : decode cX11_began 21 = .ok (.getfield 264, 3) := by decide +kernel
theorem dX11_began_24 : decode cX11_began 24 = .ok (.iconst 1, 1) := by decide +kernel
theorem dX11_began_25 : decode cX11_began 25 = .ok (.iadd, 1) := by decide +kernel
theorem dX11_began_26 : decode cX11_began 26 = .ok (.putfield 264, 3) := by decide +kernel
theorem dX11_began_29 : decode cX11_began 29 = .ok (.return_, 1) := by decide +kernel
def Sp_X11_began (av : List AV) (m : AM) (Φ : Option AV → AM → Prop) : Prop := ∃ x, av = [vr 11 110, vi x] ∧ ∃ T k, MTr m T ∧ x = nI k ∧ ∀ m2, Fm [124] [27] m m2 → MTr m2 (bg T k) → Φ none m2
set_option maxRecDepth 20000 in
set_option maxHeartbeats 4000000 in
theorem S_X11_began : Snd yX11_began e_X11_began Sp_X11_began := by
  refine Snd.of (by decide +kernel) rfl ?_ ?_
  · rintro av m Φ ⟨x, rfl, _⟩; exact Nat.le_of_ble_eq_true rfl
  rintro av m Φ ⟨x, rfl, T, k, hT, rfl, h⟩ hav hty
  show B e_X11_began Φ 0 [some (vr 11 110), some (vi (nI k))] [] m (0, 0)
  have h1 := hT.1
  have h2 := hT.2.1
  unfold bg at h
  refine b_aloadN (pc := 0) 0 dX11_began_0 rfl rfl ?_
  refine gf11_27 (pc := 1) k1069 dX11_began_1 ?_
  refine b_bipush (pc := 4) (nI 16) dX11_began_4 (by decide) ?_
  refine b_icmp_ge (pc := 6) 29 dX11_began_6 (by decide) (fun c6 => ?_) (fun c6 => ?_)
  refine b_vret (pc := 29) rfl dX11_began_29 ⟨Nat.le_of_ble_eq_true rfl, Nat.le_of_ble_eq_true rfl⟩ ?_
  rotate_left -- leaf 0: return at 29
  refine b_aloadN (pc := 9) 0 dX11_began_9 rfl rfl ?_
  refine gf11_26 (pc := 10) 124 rfl k1068 dX11_began_10 ?_
  refine b_aloadN (pc := 13) 0 dX11_began_13 rfl rfl ?_
  refine gf11_27 (pc := 14) k1069 dX11_began_14 ?_
  refine b_iloadN (pc := 17) 1 dX11_began_17 rfl rfl ?_
  refine b_iast (pc := 18) (by decide) ?_ dX11_began_18 ?_
  rotate_left -- leaf 1: index at 18
  refine b_aloadN (pc := 19) 0 dX11_began_19 rfl rfl ?_
  refine b_dup_r (pc := 20) dX11_began_20 ?_
  refine gf11_27 (pc := 21) k1069 dX11_began_21 ?_
  refine b_iconst (pc := 24) (nI 1) dX11_began_24 (by decide) ?_
  refine b_iadd (pc := 25) dX11_began_25 ?_
  refine pf11_27 (pc := 26) k1069 dX11_began_26 ?_
  refine b_vret (pc := 29) rfl dX11_began_29 ⟨Nat.le_of_ble_eq_true rfl, Nat.le_of_ble_eq_true rfl⟩ ?_
  rotate_left -- leaf 2: return at 29
  -- leaves: 0 return at 29; 1 index at 18; 2 return at 29
  · rw [h1, n_le (by omega) (by omega)] at c6
    rw [if_neg (by omega)] at h
    exact h m (Fm.rf _ _ m) hT
  · rw [h1, n_le (by omega) (by omega)] at c6
    rw [h1]; exact n_in (by omega) (by omega)
  · rw [h1, n_le (by omega) (by omega)] at c6
    rw [if_pos (by omega)] at h
    rw [h1, n_cl (by omega)]
    refine h _ (((Fm.rf _ _ m).ms (by decide) (by simp)).m0 (by simp)) ⟨?_, by show T.1 + 1 ≤ 16; omega, fun j hj => ?_⟩
    · rw [mset_at, if_pos rfl, mset_ne _ _ _ (by decide), h1, n_add]
    · have hj2 : j < T.1 + 1 := hj
      rw [mset_ne _ _ _ (by decide), mset_at]
      show _ = nI (upC T.2 T.1 k j)
      unfold upC
      by_cases e : j = T.1
      · rw [if_pos e, if_pos e]
      · rw [if_neg e, if_neg e]
        exact hT.2.2 j (by omega)
theorem call_X11_began {E : ME} {Φ : Option AV → AM → Prop} {pc : Nat} {L : List (Option AV)} {st : List AV} {m : AM} {a : Nat × Nat} {idx : Nat} {x0 : AV} {i : Nat} (hl : Cond.methodLink E.2.1 idx yX11_began ∈ TB) (hdep : 1 + 1 ≤ E.2.2.2.2.2.2) (hroom : a.1 + 0 ≤ E.2.2.2.2.1 ∧ a.2 + 0 ≤ E.2.2.2.2.2.1) (hsr : st.length ≤ 4) (hd : decode E.1 pc = .ok (.invokevirtual idx, 3)) (hsp : Sp_X11_began [vr 11 i, x0] m (fun r m2 => B E Φ (pc + 3) L (r.toList ++ st) m2 a)) : B E Φ pc L (x0 :: vr 11 i :: st) m a := b_callV S_X11_began [x0] (RX11, TX11, 28) rfl rfl (by decide) (Or.inl hl) k1429 k64 k80 k1430 (show _ ∧ _ ∧ Option.map (fun d => d.parameters.length) (parseMethodDescriptor yX11_began.desc) = some 1 from by decide +kernel) ⟨hdep, by decide⟩ hroom hsr hd hsp
abbrev e_X11_trace : ME := (cX11_trace, (RX11, (2, ((some .int), (0, (0, 8))))))
theorem dX11_trace_0 : decode cX11_trace 0 = .ok (.aload_n 0, 1) := by decide +kernel
theorem dX11_trace_1 : decode cX11_trace 1 = .ok (.iconst 0, 1) := by decide +kernel
theorem dX11_trace_2 : decode cX11_trace 2 = .ok (.putfield 53, 3) := by decide +kernel
theorem dX11_trace_5 : decode cX11_trace 5 = .ok (.iload_n 1, 1) := by decide +kernel
theorem dX11_trace_6 : decode cX11_trace 6 = .ok (.i2l, 1) := by decide +kernel
theorem dX11_trace_7 : decode cX11_trace 7 = .ok (.lconst 0, 1) := by decide +kernel
theorem dX11_trace_8 : decode cX11_trace 8 = .ok (.aload_n 0, 1) := by decide +kernel
theorem dX11_trace_9 : decode cX11_trace 9 = .ok (.getfield 264, 3) := by decide +kernel
theorem dX11_trace_12 : decode cX11_trace 12 = .ok (.iconst 1, 1) := by decide +kernel
theorem dX11_trace_13 : decode cX11_trace 13 = .ok (.isub, 1) := by decide +kernel
theorem dX11_trace_14 : decode cX11_trace 14 = .ok (.i2l, 1) := by decide +kernel
theorem dX11_trace_15 : decode cX11_trace 15 = .ok (.invokestatic 63, 3) := by decide +kernel
theorem dX11_trace_18 : decode cX11_trace 18 = .ok (.ifCond .eq 12, 3) := by decide +kernel
theorem dX11_trace_21 : decode cX11_trace 21 = .ok (.aload_n 0, 1) := by decide +kernel
theorem dX11_trace_22 : decode cX11_trace 22 = .ok (.getfield 50, 3) := by decide +kernel
theorem dX11_trace_25 : decode cX11_trace 25 = .ok (.iload_n 1, 1) := by decide +kernel
theorem dX11_trace_26 : decode cX11_trace 26 = .ok (.iaload, 1) := by decide +kernel
theorem dX11_trace_27 : decode cX11_trace 27 = .ok (.goto 5, 3) := by decide +kernel
theorem dX11_trace_30 : decode cX11_trace 30 = .ok (.ldc 96, 2) := by decide +kernel
theorem dX11_trace_32 : decode cX11_trace 32 = .ok (.ireturn, 1) := by decide +kernel
def Sp_X11_trace (av : List AV) (m : AM) (Φ : Option AV → AM → Prop) : Prop := ∃ x, av = [vr 11 110, vi x] ∧ ∃ T, MTr m T ∧ Φ (some (vi (traceV T x))) (mset m 110 0 (nI 0))
set_option maxRecDepth 20000 in
set_option maxHeartbeats 4000000 in
theorem S_X11_trace : Snd yX11_trace e_X11_trace Sp_X11_trace := by
  refine Snd.of (by decide +kernel) rfl ?_ ?_
  · rintro av m Φ ⟨x, rfl, _⟩; exact Nat.le_of_ble_eq_true rfl
  rintro av m Φ ⟨x, rfl, T, hT0, h⟩ hav hty
  show B e_X11_trace Φ 0 [some (vr 11 110), some (vi x)] [] m (0, 0)
  have hT : MTr (mset m 110 0 (nI 0)) T := hT0.fm ((Fm.rf [] [0] m).m0 (by simp)) (by simp) (by simp)
  have h1 := hT.1
  have h2 := hT.2.1
  unfold traceV at h
  cases q : inB x T.1 with
  | true =>
    rw [q, if_pos rfl] at h
    obtain ⟨j, hj, rfl⟩ := (inB_iff (by omega)).mp q
    rw [n_cl (by omega)] at h
    refine b_aloadN (pc := 0) 0 dX11_trace_0 rfl rfl ?_
    refine b_iconst (pc := 1) (nI 0) dX11_trace_1 (by decide) ?_
    refine pf11_0 (pc := 2) k1042 dX11_trace_2 ?_
    refine b_iloadN (pc := 5) 1 dX11_trace_5 rfl rfl ?_
    refine b_i2l (pc := 6) dX11_trace_6 ?_
    refine b_lconst (pc := 7) 0 dX11_trace_7 (by decide) ?_
    refine b_aloadN (pc := 8) 0 dX11_trace_8 rfl rfl ?_
    refine gf11_27 (pc := 9) k1069 dX11_trace_9 ?_
    refine b_iconst (pc := 12) (nI 1) dX11_trace_12 (by decide) ?_
    refine b_isub (pc := 13) dX11_trace_13 ?_
    refine b_i2l (pc := 14) dX11_trace_14 ?_
    refine call_X11_in (pc := 15) k1136 (by decide) ⟨Nat.le_of_ble_eq_true rfl, Nat.le_of_ble_eq_true rfl⟩ (Nat.le_of_ble_eq_true rfl) dX11_trace_15 ?_
    refine ⟨_, _, _, rfl, ?_⟩
    refine b_if_eq (pc := 18) 30 dX11_trace_18 (by decide) (fun c18 => ?_) (fun c18 => ?_)
    refine b_ldc (pc := 30) k1180 dX11_trace_30 ?_
    refine b_iret (pc := 32) rfl dX11_trace_32 ⟨Nat.le_of_ble_eq_true rfl, Nat.le_of_ble_eq_true rfl⟩ ?_
    rotate_left -- leaf 0: return at 32
    refine b_aloadN (pc := 21) 0 dX11_trace_21 rfl rfl ?_
    refine gf11_26 (pc := 22) 124 rfl k1068 dX11_trace_22 ?_
    refine b_iloadN (pc := 25) 1 dX11_trace_25 rfl rfl ?_
    refine b_iald (pc := 26) (by decide) ?_ dX11_trace_26 ?_
    rotate_left -- leaf 1: index at 26
    refine b_goto (pc := 27) 32 dX11_trace_27 (by decide) ?_
    refine b_iret (pc := 32) rfl dX11_trace_32 ⟨Nat.le_of_ble_eq_true rfl, Nat.le_of_ble_eq_true rfl⟩ ?_
    rotate_left -- leaf 2: return at 32
    -- leaves: 0 return at 32; 1 index at 26; 2 return at 32
    · rw [h1, inL (by omega), q] at c18; exact absurd c18 (by decide)
    · exact n_in (by omega) (by omega)
    · rw [n_cl (by omega), hT.2.2 j hj]; exact h
  | false =>
    rw [q] at h
    refine b_aloadN (pc := 0) 0 dX11_trace_0 rfl rfl ?_
    refine b_iconst (pc := 1) (nI 0) dX11_trace_1 (by decide) ?_
    refine pf11_0 (pc := 2) k1042 dX11_trace_2 ?_
    refine b_iloadN (pc := 5) 1 dX11_trace_5 rfl rfl ?_
    refine b_i2l (pc := 6) dX11_trace_6 ?_
    refine b_lconst (pc := 7) 0 dX11_trace_7 (by decide) ?_
    refine b_aloadN (pc := 8) 0 dX11_trace_8 rfl rfl ?_
    refine gf11_27 (pc := 9) k1069 dX11_trace_9 ?_
    refine b_iconst (pc := 12) (nI 1) dX11_trace_12 (by decide) ?_
    refine b_isub (pc := 13) dX11_trace_13 ?_
    refine b_i2l (pc := 14) dX11_trace_14 ?_
    refine call_X11_in (pc := 15) k1136 (by decide) ⟨Nat.le_of_ble_eq_true rfl, Nat.le_of_ble_eq_true rfl⟩ (Nat.le_of_ble_eq_true rfl) dX11_trace_15 ?_
    refine ⟨_, _, _, rfl, ?_⟩
    refine b_if_eq (pc := 18) 30 dX11_trace_18 (by decide) (fun c18 => ?_) (fun c18 => ?_)
    refine b_ldc (pc := 30) k1180 dX11_trace_30 ?_
    refine b_iret (pc := 32) rfl dX11_trace_32 ⟨Nat.le_of_ble_eq_true rfl, Nat.le_of_ble_eq_true rfl⟩ ?_
    rotate_left -- leaf 0: return at 32
    rotate_left -- leaf 1: at 21
    -- leaves: 0 return at 32; 1 at 21
    · exact h
    · rw [h1, inL (by omega), q] at c18; exact absurd rfl c18
theorem call_X11_trace {E : ME} {Φ : Option AV → AM → Prop} {pc : Nat} {L : List (Option AV)} {st : List AV} {m : AM} {a : Nat × Nat} {idx : Nat} {x0 : AV} {i : Nat} (hl : Cond.methodLink E.2.1 idx yX11_trace ∈ TB) (hdep : 8 + 1 ≤ E.2.2.2.2.2.2) (hroom : a.1 + 0 ≤ E.2.2.2.2.1 ∧ a.2 + 0 ≤ E.2.2.2.2.2.1) (hsr : st.length ≤ 4) (hd : decode E.1 pc = .ok (.invokevirtual idx, 3)) (hsp : Sp_X11_trace [vr 11 i, x0] m (fun r m2 => B E Φ (pc + 3) L (r.toList ++ st) m2 a)) : B E Φ pc L (x0 :: vr 11 i :: st) m a := b_callV S_X11_trace [x0] (RX11, TX11, 28) rfl rfl (by decide) (Or.inl hl) k1440 k1441 k80 k1442 (show _ ∧ _ ∧ Option.map (fun d => d.parameters.length) (parseMethodDescriptor yX11_trace.desc) = some 1 from by decide +kernel) ⟨hdep, by decide⟩ hroom hsr hd hsp
abbrev e_X11_plainSize : ME := (cX11_plainSize, (RX11, (2, ((some .int), (0, (0, 2))))))
theorem dX11_plainSize_0 : decode cX11_plainSize 0 = .ok (.aload_n 0, 1) := by decide +kernel
theorem dX11_plainSize_1 : decode cX11_plainSize 1 = .ok (.bipush 10, 2) := by decide +kernel
theorem dX11_plainSize_3 : decode cX11_plainSize 3 = .ok (.invokevirtual 267, 3) := by decide +kernel
theorem dX11_plainSize_6 : decode cX11_plainSize 6 = .ok (.aload_n 0, 1) := by decide +kernel
theorem dX11_plainSize_7 : decode cX11_plainSize 7 = .ok (.getfield 19, 3) := by decide +kernel
theorem dX11_plainSize_10 : decode cX11_plainSize 10 = .ok (.bipush 40, 2) := by decide +kernel
theorem dX11_plainSize_12 : decode cX11_plainSize 12 = .ok (.iconst 2, 1) := by decide +kernel
theorem dX11_plainSize_13 : decode cX11_plainSize 13 = .ok (.iload_n 1, 1) := by decide +kernel
theorem dX11_plainSize_14 : decode cX11_plainSize 14 = .ok (.imul, 1) := by decide +kernel
theorem dX11_plainSize_15 : decode cX11_plainSize 15 = .ok (.iadd, 1) := by decide +kernel
theorem dX11_plainSize_16 : decode cX11_plainSize 16 = .ok (.iconst 1, 1) := by decide +kernel
theorem dX11_plainSize_17 : decode cX11_plainSize 17 = .ok (.iadd, 1) := by decide +kernel
theorem dX11_plainSize_18 : decode cX11_plainSize 18 = .ok (.iaload, 1) := by decide +kernel
theorem dX11_plainSize_19 : decode cX11_plainSize 19 = .ok (.ireturn, 1) := by decide +kernel
def Sp_X11_plainSize (av : List AV) (m : AM) (Φ : Option AV → AM → Prop) : Prop := ∃ x, av = [vr 11 110, vi x] ∧ ∃ C p T, MC m C ∧ x = nI p ∧ p < 5 ∧ MTr m T ∧ ∀ m2, Fm [124] [27] m m2 → MTr m2 (bg T 10) → Φ (some (vi (nI (C (41 + 2 * p))))) m2
set_option maxRecDepth 20000 in
set_option maxHeartbeats 4000000 in
theorem S_X11_plainSize : Snd yX11_plainSize e_X11_plainSize Sp_X11_plainSize := by
  refine Snd.of (by decide +kernel) rfl ?_ ?_
  · rintro av m Φ ⟨x, rfl, _⟩; exact Nat.le_of_ble_eq_true rfl
  rintro av m Φ ⟨x, rfl, C, p, T, hM, rfl, hp, hT, h⟩ hav hty
  show B e_X11_plainSize Φ 0 [some (vr 11 110), some (vi (nI p))] [] m (0, 0)
  refine b_aloadN (pc := 0) 0 dX11_plainSize_0 rfl rfl ?_
  refine b_bipush (pc := 1) (nI 10) dX11_plainSize_1 (by decide) ?_
  refine call_X11_began (pc := 3) k1427 (by decide) ⟨Nat.le_of_ble_eq_true rfl, Nat.le_of_ble_eq_true rfl⟩ (Nat.le_of_ble_eq_true rfl) dX11_plainSize_3 ?_
  refine ⟨_, rfl, _, _, hT, rfl, fun m3 fm3 tr3 => ?_⟩
  have hT := tr3
  have hM := MC.fm fm3 hM (by simp)
  refine b_aloadN (pc := 6) 0 dX11_plainSize_6 rfl rfl ?_
  refine gf11_5 (pc := 7) 114 rfl k1047 dX11_plainSize_7 ?_
  refine b_bipush (pc := 10) (nI 40) dX11_plainSize_10 (by decide) ?_
  refine b_iconst (pc := 12) (nI 2) dX11_plainSize_12 (by decide) ?_
  refine b_iloadN (pc := 13) 1 dX11_plainSize_13 rfl rfl ?_
  refine b_imul (pc := 14) dX11_plainSize_14 ?_
  refine b_iadd (pc := 15) dX11_plainSize_15 ?_
  refine b_iconst (pc := 16) (nI 1) dX11_plainSize_16 (by decide) ?_
  refine b_iadd (pc := 17) dX11_plainSize_17 ?_
  refine b_iald (pc := 18) (by decide) ?_ dX11_plainSize_18 ?_
  rotate_left -- leaf 0: index at 18
  refine b_iret (pc := 19) rfl dX11_plainSize_19 ⟨Nat.le_of_ble_eq_true rfl, Nat.le_of_ble_eq_true rfl⟩ ?_
  rotate_left -- leaf 1: return at 19
  -- leaves: 0 index at 18; 1 return at 19
  · rw [n_mul, n_add, n_add]; exact n_in (by omega) (by omega)
  · rw [n_mul, n_add, n_add, n_cl (by omega), hM _ (by omega), show 40 + 2 * p + 1 = 41 + 2 * p by omega]
    exact h m3 fm3 tr3
theorem call_X11_plainSize {E : ME} {Φ : Option AV → AM → Prop} {pc : Nat} {L : List (Option AV)} {st : List AV} {m : AM} {a : Nat × Nat} {idx : Nat} {x0 : AV} {i : Nat} (hl : Cond.methodLink E.2.1 idx yX11_plainSize ∈ TB) (hdep : 2 + 1 ≤ E.2.2.2.2.2.2) (hroom : a.1 + 0 ≤ E.2.2.2.2.1 ∧ a.2 + 0 ≤ E.2.2.2.2.2.1) (hsr : st.length ≤ 4) (hd : decode E.1 pc = .ok (.invokevirtual idx, 3)) (hsp : Sp_X11_plainSize [vr 11 i, x0] m (fun r m2 => B E Φ (pc + 3) L (r.toList ++ st) m2 a)) : B E Φ pc L (x0 :: vr 11 i :: st) m a := b_callV S_X11_plainSize [x0] (RX11, TX11, 28) rfl rfl (by decide) (Or.inl hl) k1433 k65 k80 k1434 (show _ ∧ _ ∧ Option.map (fun d => d.parameters.length) (parseMethodDescriptor yX11_plainSize.desc) = some 1 from by decide +kernel) ⟨hdep, by decide⟩ hroom hsr hd hsp
abbrev e_X11_quietSize : ME := (cX11_quietSize, (RX11, (4, ((some .int), (0, (0, 3))))))
theorem dX11_quietSize_0 : decode cX11_quietSize 0 = .ok (.aload_n 0, 1) := by decide +kernel
theorem dX11_quietSize_1 : decode cX11_quietSize 1 = .ok (.iload_n 1, 1) := by decide +kernel
theorem dX11_quietSize_2 : decode cX11_quietSize 2 = .ok (.invokevirtual 169, 3) := by decide +kernel
theorem dX11_quietSize_5 : decode cX11_quietSize 5 = .ok (.iconst 5, 1) := by decide +kernel
theorem dX11_quietSize_6 : decode cX11_quietSize 6 = .ok (.if_icmp .ne 7, 3) := by decide +kernel
theorem dX11_quietSize_9 : decode cX11_quietSize 9 = .ok (.iconst 1, 1) := by decide +kernel
theorem dX11_quietSize_10 : decode cX11_quietSize 10 = .ok (.goto 4, 3) := by decide +kernel
theorem dX11_quietSize_13 : decode cX11_quietSize 13 = .ok (.iconst 0, 1) := by decide +kernel
theorem dX11_quietSize_14 : decode cX11_quietSize 14 = .ok (.istore_n 2, 1) := by decide +kernel
theorem dX11_quietSize_15 : decode cX11_quietSize 15 = .ok (.iload_n 2, 1) := by decide +kernel
theorem dX11_quietSize_16 : decode cX11_quietSize 16 = .ok (.ifCond .eq 9, 3) := by decide +kernel
theorem dX11_quietSize_19 : decode cX11_quietSize 19 = .ok (.aload_n 0, 1) := by decide +kernel
theorem dX11_quietSize_20 : decode cX11_quietSize 20 = .ok (.bipush 14, 2) := by decide +kernel
theorem dX11_quietSize_22 : decode cX11_quietSize 22 = .ok (.invokevirtual 267, 3) := by decide +kernel
theorem dX11_quietSize_25 : decode cX11_quietSize 25 = .ok (.aload_n 0, 1) := by decide +kernel
theorem dX11_quietSize_26 : decode cX11_quietSize 26 = .ok (.bipush 13, 2) := by decide +kernel
theorem dX11_quietSize_28 : decode cX11_quietSize 28 = .ok (.invokevirtual 267, 3) := by decide +kernel
theorem dX11_quietSize_31 : decode cX11_quietSize 31 = .ok (.aload_n 0, 1) := by decide +kernel
theorem dX11_quietSize_32 : decode cX11_quietSize 32 = .ok (.iload_n 1, 1) := by decide +kernel
theorem dX11_quietSize_33 : decode cX11_quietSize 33 = .ok (.invokevirtual 270, 3) := by decide +kernel
theorem dX11_quietSize_36 : decode cX11_quietSize 36 = .ok (.bipush 100, 2) := by decide +kernel
theorem dX11_quietSize_38 : decode cX11_quietSize 38 = .ok (.isub, 1) := by decide +kernel
theorem dX11_quietSize_39 : decode cX11_quietSize 39 = .ok (.istore_n 3, 1) := by decide +kernel
theorem dX11_quietSize_40 : decode cX11_quietSize 40 = .ok (.iload_n 2, 1) := by decide +kernel
theorem dX11_quietSize_41 : decode cX11_quietSize 41 = .ok (.ifCond .eq 9, 3) := by decide +kernel
theorem dX11_quietSize_44 : decode cX11_quietSize 44 = .ok (.iconst 2, 1) := by decide +kernel
theorem dX11_quietSize_45 : decode cX11_quietSize 45 = .ok (.iload_n 3, 1) := by decide +kernel
theorem dX11_quietSize_46 : decode cX11_quietSize 46 = .ok (.imul, 1) := by decide +kernel
theorem dX11_quietSize_47 : decode cX11_quietSize 47 = .ok (.goto 4, 3) := by decide +kernel
theorem dX11_quietSize_50 : decode cX11_quietSize 50 = .ok (.iload_n 3, 1) := by decide +kernel
theorem dX11_quietSize_51 : decode cX11_quietSize 51 = .ok (.ireturn, 1) := by decide +kernel
def Sp_X11_quietSize (av : List AV) (m : AM) (Φ : Option AV → AM → Prop) : Prop := ∃ x, av = [vr 11 110, vi x] ∧ ∃ C p T, MC m C ∧ x = nI p ∧ p < 5 ∧ C (40 + 2 * p) ≤ 5 ∧ MTr m T ∧ ∀ m2, Fm [124] [27] m m2 → MTr m2 (qsT (C (40 + 2 * p)) T) → Φ (some (vi (qsV (C (40 + 2 * p)) (C (41 + 2 * p))))) m2
set_option maxRecDepth 20000 in
set_option maxHeartbeats 4000000 in
theorem S_X11_quietSize : Snd yX11_quietSize e_X11_quietSize Sp_X11_quietSize := by
  refine Snd.of (by decide +kernel) rfl ?_ ?_
  · rintro av m Φ ⟨x, rfl, _⟩; exact Nat.le_of_ble_eq_true rfl
  rintro av m Φ ⟨x, rfl, C, p, T, hM, rfl, hp, hq, hT, h⟩ hav hty
  show B e_X11_quietSize Φ 0 [some (vr 11 110), some (vi (nI p)), none, none] [] m (0, 0)
  unfold qsT qsV at h
  have tl : ∀ (m1 : AM) T1 b, MC m1 C → MTr m1 T1 → b ≤ 1 → (∀ m2, Fm [124] [27] m1 m2 → MTr m2 (bg (bg T1 13) 10) → Φ (some (vi (if b = 1 then nI 2 * (nI (C (41 + 2 * p)) - nI 100) else nI (C (41 + 2 * p)) - nI 100))) m2) → B e_X11_quietSize Φ 25 [some (vr 11 110), some (vi (nI p)), some (vi (nI b)), none] [] m1 (0, 0) := by
    intro m1 T1 b hM hT hb hk
    refine b_aloadN (pc := 25) 0 dX11_quietSize_25 rfl rfl ?_
    refine b_bipush (pc := 26) (nI 13) dX11_quietSize_26 (by decide) ?_
    refine call_X11_began (pc := 28) k1427 (by decide) ⟨Nat.le_of_ble_eq_true rfl, Nat.le_of_ble_eq_true rfl⟩ (Nat.le_of_ble_eq_true rfl) dX11_quietSize_28 ?_
    refine ⟨_, rfl, _, _, hT, rfl, fun m28 fm28 tr28 => ?_⟩
    have hT := tr28
    have hM := MC.fm fm28 hM (by simp)
    refine b_aloadN (pc := 31) 0 dX11_quietSize_31 rfl rfl ?_
    refine b_iloadN (pc := 32) 1 dX11_quietSize_32 rfl rfl ?_
    refine call_X11_plainSize (pc := 33) k1431 (by decide) ⟨Nat.le_of_ble_eq_true rfl, Nat.le_of_ble_eq_true rfl⟩ (Nat.le_of_ble_eq_true rfl) dX11_quietSize_33 ?_
    refine ⟨_, rfl, C, p, _, hM, rfl, ?_, hT, fun m33 fm33 tr33 => ?_⟩
    rotate_left -- leaf 0: person of X11_plainSize at 33
    have hT := tr33
    have hM := MC.fm fm33 hM (by simp)
    refine b_bipush (pc := 36) (nI 100) dX11_quietSize_36 (by decide) ?_
    refine b_isub (pc := 38) dX11_quietSize_38 ?_
    refine siN3 (pc := 39) rfl notL_i (by decide) dX11_quietSize_39 ?_
    refine b_iloadN (pc := 40) 2 dX11_quietSize_40 rfl rfl ?_
    refine b_if_eq (pc := 41) 50 dX11_quietSize_41 (by decide) (fun c41 => ?_) (fun c41 => ?_)
    refine b_iloadN (pc := 50) 3 dX11_quietSize_50 rfl rfl ?_
    refine b_iret (pc := 51) rfl dX11_quietSize_51 ⟨Nat.le_of_ble_eq_true rfl, Nat.le_of_ble_eq_true rfl⟩ ?_
    rotate_left -- leaf 1: return at 51
    refine b_iconst (pc := 44) (nI 2) dX11_quietSize_44 (by decide) ?_
    refine b_iloadN (pc := 45) 3 dX11_quietSize_45 rfl rfl ?_
    refine b_imul (pc := 46) dX11_quietSize_46 ?_
    refine b_goto (pc := 47) 51 dX11_quietSize_47 (by decide) ?_
    refine b_iret (pc := 51) rfl dX11_quietSize_51 ⟨Nat.le_of_ble_eq_true rfl, Nat.le_of_ble_eq_true rfl⟩ ?_
    rotate_left -- leaf 2: return at 51
    -- leaves: 0 person of X11_plainSize at 33; 1 return at 51; 2 return at 51
    · exact hp
    · rw [n_eq0 (by omega)] at c41
      have t := hk m33 (fm28.tr2 fm33) tr33
      rw [if_neg (by omega)] at t
      exact t
    · rw [n_eq0 (by omega)] at c41
      have t := hk m33 (fm28.tr2 fm33) tr33
      rw [if_pos (by omega)] at t
      exact t
  by_cases e : C (40 + 2 * p) = 5
  · rw [e, if_pos rfl, if_pos rfl] at h
    refine b_aloadN (pc := 0) 0 dX11_quietSize_0 rfl rfl ?_
    refine b_iloadN (pc := 1) 1 dX11_quietSize_1 rfl rfl ?_
    refine call_X11_kindOf (pc := 2) k1245 (by decide) ⟨Nat.le_of_ble_eq_true rfl, Nat.le_of_ble_eq_true rfl⟩ (Nat.le_of_ble_eq_true rfl) dX11_quietSize_2 ?_
    refine ⟨_, rfl, C, p, hM, rfl, ?_, ?_⟩
    rotate_left -- leaf 0: person of X11_kindOf at 2
    refine b_iconst (pc := 5) (nI 5) dX11_quietSize_5 (by decide) ?_
    refine b_icmp_ne (pc := 6) 13 dX11_quietSize_6 (by decide) (fun c6 => ?_) (fun c6 => ?_)
    rotate_left -- leaf 1: at 13
    refine b_iconst (pc := 9) (nI 1) dX11_quietSize_9 (by decide) ?_
    refine b_goto (pc := 10) 14 dX11_quietSize_10 (by decide) ?_
    refine siN2 (pc := 14) rfl notL_i (by decide) dX11_quietSize_14 ?_
    refine b_iloadN (pc := 15) 2 dX11_quietSize_15 rfl rfl ?_
    refine b_if_eq (pc := 16) 25 dX11_quietSize_16 (by decide) (fun c16 => ?_) (fun c16 => ?_)
    rotate_left -- leaf 2: at 25
    refine b_aloadN (pc := 19) 0 dX11_quietSize_19 rfl rfl ?_
    refine b_bipush (pc := 20) (nI 14) dX11_quietSize_20 (by decide) ?_
    refine call_X11_began (pc := 22) k1427 (by decide) ⟨Nat.le_of_ble_eq_true rfl, Nat.le_of_ble_eq_true rfl⟩ (Nat.le_of_ble_eq_true rfl) dX11_quietSize_22 ?_
    refine ⟨_, rfl, _, _, hT, rfl, fun m22 fm22 tr22 => ?_⟩
    have hT := tr22
    have hM := MC.fm fm22 hM (by simp)
    rotate_left -- leaf 3: at 25
    -- leaves: 0 person of X11_kindOf at 2; 1 at 13; 2 at 25; 3 at 25
    · exact hp
    · rw [n_eq (by omega) (by omega)] at c6; exact absurd e c6
    · exact absurd c16 (by decide)
    · exact tl m22 _ 1 hM hT (by omega) (fun m2 a b => by
        rw [if_pos rfl]
        exact h m2 (fm22.tr2 a) b)
  · rw [if_neg e, if_neg e] at h
    refine b_aloadN (pc := 0) 0 dX11_quietSize_0 rfl rfl ?_
    refine b_iloadN (pc := 1) 1 dX11_quietSize_1 rfl rfl ?_
    refine call_X11_kindOf (pc := 2) k1245 (by decide) ⟨Nat.le_of_ble_eq_true rfl, Nat.le_of_ble_eq_true rfl⟩ (Nat.le_of_ble_eq_true rfl) dX11_quietSize_2 ?_
    refine ⟨_, rfl, C, p, hM, rfl, ?_, ?_⟩
    rotate_left -- leaf 0: person of X11_kindOf at 2
    refine b_iconst (pc := 5) (nI 5) dX11_quietSize_5 (by decide) ?_
    refine b_icmp_ne (pc := 6) 13 dX11_quietSize_6 (by decide) (fun c6 => ?_) (fun c6 => ?_)
    refine b_iconst (pc := 13) (nI 0) dX11_quietSize_13 (by decide) ?_
    refine siN2 (pc := 14) rfl notL_i (by decide) dX11_quietSize_14 ?_
    refine b_iloadN (pc := 15) 2 dX11_quietSize_15 rfl rfl ?_
    refine b_if_eq (pc := 16) 25 dX11_quietSize_16 (by decide) (fun c16 => ?_) (fun c16 => ?_)
    rotate_left -- leaf 1: at 25
    refine b_aloadN (pc := 19) 0 dX11_quietSize_19 rfl rfl ?_
    refine b_bipush (pc := 20) (nI 14) dX11_quietSize_20 (by decide) ?_
    refine call_X11_began (pc := 22) k1427 (by decide) ⟨Nat.le_of_ble_eq_true rfl, Nat.le_of_ble_eq_true rfl⟩ (Nat.le_of_ble_eq_true rfl) dX11_quietSize_22 ?_
    refine ⟨_, rfl, _, _, hT, rfl, fun m22 fm22 tr22 => ?_⟩
    have hT := tr22
    have hM := MC.fm fm22 hM (by simp)
    rotate_left -- leaf 2: at 25
    rotate_left -- leaf 3: at 9
    -- leaves: 0 person of X11_kindOf at 2; 1 at 25; 2 at 25; 3 at 9
    · exact hp
    · exact tl m _ 0 hM hT (by omega) (fun m2 a b => by
        rw [if_neg (by omega)]
        exact h m2 a b)
    · exact absurd rfl c16
    · rw [n_eq (by omega) (by omega)] at c6; exact absurd c6 e
theorem call_X11_quietSize {E : ME} {Φ : Option AV → AM → Prop} {pc : Nat} {L : List (Option AV)} {st : List AV} {m : AM} {a : Nat × Nat} {idx : Nat} {x0 : AV} {i : Nat} (hl : Cond.methodLink E.2.1 idx yX11_quietSize ∈ TB) (hdep : 3 + 1 ≤ E.2.2.2.2.2.2) (hroom : a.1 + 0 ≤ E.2.2.2.2.1 ∧ a.2 + 0 ≤ E.2.2.2.2.2.1) (hsr : st.length ≤ 4) (hd : decode E.1 pc = .ok (.invokevirtual idx, 3)) (hsp : Sp_X11_quietSize [vr 11 i, x0] m (fun r m2 => B E Φ (pc + 3) L (r.toList ++ st) m2 a)) : B E Φ pc L (x0 :: vr 11 i :: st) m a := b_callV S_X11_quietSize [x0] (RX11, TX11, 28) rfl rfl (by decide) (Or.inl hl) k1425 k63 k80 k1426 (show _ ∧ _ ∧ Option.map (fun d => d.parameters.length) (parseMethodDescriptor yX11_quietSize.desc) = some 1 from by decide +kernel) ⟨hdep, by decide⟩ hroom hsr hd hsp
abbrev e_X11_markOf : ME := (cX11_markOf, (RX11, (4, ((some .int), (0, (0, 4))))))
theorem dX11_markOf_0 : decode cX11_markOf 0 = .ok (.aload_n 0, 1) := by decide +kernel
theorem dX11_markOf_1 : decode cX11_markOf 1 = .ok (.iload_n 1, 1) := by decide +kernel
theorem dX11_markOf_2 : decode cX11_markOf 2 = .ok (.invokevirtual 169, 3) := by decide +kernel
theorem dX11_markOf_5 : decode cX11_markOf 5 = .ok (.istore_n 2, 1) := by decide +kernel
theorem dX11_markOf_6 : decode cX11_markOf 6 = .ok (.iload_n 2, 1) := by decide +kernel
theorem dX11_markOf_7 : decode cX11_markOf 7 = .ok (.iconst 4, 1) := by decide +kernel
theorem dX11_markOf_8 : decode cX11_markOf 8 = .ok (.if_icmp .lt 23, 3) := by decide +kernel
theorem dX11_markOf_11 : decode cX11_markOf 11 = .ok (.aload_n 0, 1) := by decide +kernel
theorem dX11_markOf_12 : decode cX11_markOf 12 = .ok (.bipush 23, 2) := by decide +kernel
theorem dX11_markOf_14 : decode cX11_markOf 14 = .ok (.invokevirtual 267, 3) := by decide +kernel
theorem dX11_markOf_17 : decode cX11_markOf 17 = .ok (.aload_n 0, 1) := by decide +kernel
theorem dX11_markOf_18 : decode cX11_markOf 18 = .ok (.bipush 20, 2) := by decide +kernel
theorem dX11_markOf_20 : decode cX11_markOf 20 = .ok (.invokevirtual 267, 3) := by decide +kernel
theorem dX11_markOf_23 : decode cX11_markOf 23 = .ok (.iload_n 1, 1) := by decide +kernel
theorem dX11_markOf_24 : decode cX11_markOf 24 = .ok (.aload_n 0, 1) := by decide +kernel
theorem dX11_markOf_25 : decode cX11_markOf 25 = .ok (.iload_n 1, 1) := by decide +kernel
theorem dX11_markOf_26 : decode cX11_markOf 26 = .ok (.invokevirtual 273, 3) := by decide +kernel
theorem dX11_markOf_29 : decode cX11_markOf 29 = .ok (.isub, 1) := by decide +kernel
theorem dX11_markOf_30 : decode cX11_markOf 30 = .ok (.ireturn, 1) := by decide +kernel
theorem dX11_markOf_31 : decode cX11_markOf 31 = .ok (.iload_n 2, 1) := by decide +kernel
theorem dX11_markOf_32 : decode cX11_markOf 32 = .ok (.iconst 1, 1) := by decide +kernel
theorem dX11_markOf_33 : decode cX11_markOf 33 = .ok (.if_icmp .eq 19, 3) := by decide +kernel
theorem dX11_markOf_36 : decode cX11_markOf 36 = .ok (.aload_n 0, 1) := by decide +kernel
theorem dX11_markOf_37 : decode cX11_markOf 37 = .ok (.iload_n 2, 1) := by decide +kernel
theorem dX11_markOf_38 : decode cX11_markOf 38 = .ok (.iconst 3, 1) := by decide +kernel
theorem dX11_markOf_39 : decode cX11_markOf 39 = .ok (.if_icmp .ne 8, 3) := by decide +kernel
theorem dX11_markOf_42 : decode cX11_markOf 42 = .ok (.bipush 22, 2) := by decide +kernel
theorem dX11_markOf_44 : decode cX11_markOf 44 = .ok (.goto 5, 3) := by decide +kernel
theorem dX11_markOf_47 : decode cX11_markOf 47 = .ok (.bipush 24, 2) := by decide +kernel
theorem dX11_markOf_49 : decode cX11_markOf 49 = .ok (.invokevirtual 267, 3) := by decide +kernel
theorem dX11_markOf_52 : decode cX11_markOf 52 = .ok (.aload_n 0, 1) := by decide +kernel
theorem dX11_markOf_53 : decode cX11_markOf 53 = .ok (.bipush 21, 2) := by decide +kernel
theorem dX11_markOf_55 : decode cX11_markOf 55 = .ok (.invokevirtual 267, 3) := by decide +kernel
theorem dX11_markOf_58 : decode cX11_markOf 58 = .ok (.aload_n 0, 1) := by decide +kernel
theorem dX11_markOf_59 : decode cX11_markOf 59 = .ok (.bipush 20, 2) := by decide +kernel
theorem dX11_markOf_61 : decode cX11_markOf 61 = .ok (.invokevirtual 267, 3) := by decide +kernel
theorem dX11_markOf_64 : decode cX11_markOf 64 = .ok (.iload_n 1, 1) := by decide +kernel
theorem dX11_markOf_65 : decode cX11_markOf 65 = .ok (.aload_n 0, 1) := by decide +kernel
theorem dX11_markOf_66 : decode cX11_markOf 66 = .ok (.getfield 19, 3) := by decide +kernel
theorem dX11_markOf_69 : decode cX11_markOf 69 = .ok (.iconst 1, 1) := by decide +kernel
theorem dX11_markOf_70 : decode cX11_markOf 70 = .ok (.iaload, 1) := by decide +kernel
theorem dX11_markOf_71 : decode cX11_markOf 71 = .ok (.iadd, 1) := by decide +kernel
theorem dX11_markOf_72 : decode cX11_markOf 72 = .ok (.istore_n 3, 1) := by decide +kernel
theorem dX11_markOf_73 : decode cX11_markOf 73 = .ok (.iload_n 2, 1) := by decide +kernel
theorem dX11_markOf_74 : decode cX11_markOf 74 = .ok (.iconst 1, 1) := by decide +kernel
theorem dX11_markOf_75 : decode cX11_markOf 75 = .ok (.if_icmp .ne 7, 3) := by decide +kernel
theorem dX11_markOf_78 : decode cX11_markOf 78 = .ok (.iload_n 3, 1) := by decide +kernel
theorem dX11_markOf_79 : decode cX11_markOf 79 = .ok (.goto 19, 3) := by decide +kernel
theorem dX11_markOf_82 : decode cX11_markOf 82 = .ok (.iload_n 2, 1) := by decide +kernel
theorem dX11_markOf_83 : decode cX11_markOf 83 = .ok (.iconst 3, 1) := by decide +kernel
theorem dX11_markOf_84 : decode cX11_markOf 84 = .ok (.if_icmp .ne 11, 3) := by decide +kernel
theorem dX11_markOf_87 : decode cX11_markOf 87 = .ok (.iload_n 3, 1) := by decide +kernel
theorem dX11_markOf_88 : decode cX11_markOf 88 = .ok (.sipush 1000, 3) := by decide +kernel
theorem dX11_markOf_91 : decode cX11_markOf 91 = .ok (.isub, 1) := by decide +kernel
theorem dX11_markOf_92 : decode cX11_markOf 92 = .ok (.goto 6, 3) := by decide +kernel
theorem dX11_markOf_95 : decode cX11_markOf 95 = .ok (.iconst 2, 1) := by decide +kernel
theorem dX11_markOf_96 : decode cX11_markOf 96 = .ok (.iload_n 3, 1) := by decide +kernel
theorem dX11_markOf_97 : decode cX11_markOf 97 = .ok (.imul, 1) := by decide +kernel
theorem dX11_markOf_98 : decode cX11_markOf 98 = .ok (.ireturn, 1) := by decide +kernel
def Sp_X11_markOf (av : List AV) (m : AM) (Φ : Option AV → AM → Prop) : Prop := ∃ x, av = [vr 11 110, vi x] ∧ ∃ C p T, MC m C ∧ x = nI p ∧ p < 5 ∧ C (40 + 2 * p) ≤ 5 ∧ MTr m T ∧ ∀ m2, Fm [124] [27] m m2 → MTr m2 (mkT (C (40 + 2 * p)) T) → Φ (some (vi (mkV (C (40 + 2 * p)) (C (41 + 2 * p)) (C 1) p))) m2
set_option maxRecDepth 20000 in
set_option maxHeartbeats 4000000 in
theorem S_X11_markOf : Snd yX11_markOf e_X11_markOf Sp_X11_markOf := by
  refine Snd.of (by decide +kernel) rfl ?_ ?_
  · rintro av m Φ ⟨x, rfl, _⟩; exact Nat.le_of_ble_eq_true rfl
  rintro av m Φ ⟨x, rfl, C, p, T, hM, rfl, hp, hq, hT, h⟩ hav hty
  show B e_X11_markOf Φ 0 [some (vr 11 110), some (vi (nI p)), none, none] [] m (0, 0)
  by_cases h4 : 4 ≤ C (40 + 2 * p)
  · unfold mkT mkV at h
    rw [if_pos h4, if_pos h4] at h
    refine b_aloadN (pc := 0) 0 dX11_markOf_0 rfl rfl ?_
    refine b_iloadN (pc := 1) 1 dX11_markOf_1 rfl rfl ?_
    refine call_X11_kindOf (pc := 2) k1245 (by decide) ⟨Nat.le_of_ble_eq_true rfl, Nat.le_of_ble_eq_true rfl⟩ (Nat.le_of_ble_eq_true rfl) dX11_markOf_2 ?_
    refine ⟨_, rfl, C, p, hM, rfl, ?_, ?_⟩
    rotate_left -- leaf 0: person of X11_kindOf at 2
    refine siN2 (pc := 5) rfl notL_i (by decide) dX11_markOf_5 ?_
    refine b_iloadN (pc := 6) 2 dX11_markOf_6 rfl rfl ?_
    refine b_iconst (pc := 7) (nI 4) dX11_markOf_7 (by decide) ?_
    refine b_icmp_lt (pc := 8) 31 dX11_markOf_8 (by decide) (fun c8 => ?_) (fun c8 => ?_)
    rotate_left -- leaf 1: at 31
    refine b_aloadN (pc := 11) 0 dX11_markOf_11 rfl rfl ?_
    refine b_bipush (pc := 12) (nI 23) dX11_markOf_12 (by decide) ?_
    refine call_X11_began (pc := 14) k1427 (by decide) ⟨Nat.le_of_ble_eq_true rfl, Nat.le_of_ble_eq_true rfl⟩ (Nat.le_of_ble_eq_true rfl) dX11_markOf_14 ?_
    refine ⟨_, rfl, _, _, hT, rfl, fun m14 fm14 tr14 => ?_⟩
    have hT := tr14
    have hM := MC.fm fm14 hM (by simp)
    refine b_aloadN (pc := 17) 0 dX11_markOf_17 rfl rfl ?_
    refine b_bipush (pc := 18) (nI 20) dX11_markOf_18 (by decide) ?_
    refine call_X11_began (pc := 20) k1427 (by decide) ⟨Nat.le_of_ble_eq_true rfl, Nat.le_of_ble_eq_true rfl⟩ (Nat.le_of_ble_eq_true rfl) dX11_markOf_20 ?_
    refine ⟨_, rfl, _, _, hT, rfl, fun m20 fm20 tr20 => ?_⟩
    have hT := tr20
    have hM := MC.fm fm20 hM (by simp)
    refine b_iloadN (pc := 23) 1 dX11_markOf_23 rfl rfl ?_
    refine b_aloadN (pc := 24) 0 dX11_markOf_24 rfl rfl ?_
    refine b_iloadN (pc := 25) 1 dX11_markOf_25 rfl rfl ?_
    refine call_X11_quietSize (pc := 26) k1423 (by decide) ⟨Nat.le_of_ble_eq_true rfl, Nat.le_of_ble_eq_true rfl⟩ (Nat.le_of_ble_eq_true rfl) dX11_markOf_26 ?_
    refine ⟨_, rfl, C, p, _, hM, rfl, ?_, ?_, hT, fun m26 fm26 tr26 => ?_⟩
    rotate_left -- leaf 2: person of X11_quietSize at 26
    rotate_left -- leaf 3: kind of X11_quietSize at 26
    have hT := tr26
    have hM := MC.fm fm26 hM (by simp)
    refine b_isub (pc := 29) dX11_markOf_29 ?_
    refine b_iret (pc := 30) rfl dX11_markOf_30 ⟨Nat.le_of_ble_eq_true rfl, Nat.le_of_ble_eq_true rfl⟩ ?_
    rotate_left -- leaf 4: return at 30
    -- leaves: 0 person of X11_kindOf at 2; 1 at 31; 2 person of X11_quietSize at 26; 3 kind of X11_quietSize at 26; 4 return at 30
    · exact hp
    · rw [n_lt (by omega) (by omega)] at c8; omega
    · exact hp
    · exact hq
    · exact h m26 ((fm14.tr2 fm20).tr2 fm26) tr26
  · have tl : ∀ (m1 : AM) T1, MC m1 C → MTr m1 T1 → (∀ m2, Fm [124] [27] m1 m2 → MTr m2 (bg (bg T1 21) 20) → Φ (some (vi (mkV (C (40 + 2 * p)) (C (41 + 2 * p)) (C 1) p))) m2) → B e_X11_markOf Φ 52 [some (vr 11 110), some (vi (nI p)), some (vi (nI (C (40 + 2 * p)))), none] [] m1 (0, 0) := by
      intro m1 T1 hM hT hk
      unfold mkV at hk
      rw [if_neg h4] at hk
      refine b_aloadN (pc := 52) 0 dX11_markOf_52 rfl rfl ?_
      refine b_bipush (pc := 53) (nI 21) dX11_markOf_53 (by decide) ?_
      refine call_X11_began (pc := 55) k1427 (by decide) ⟨Nat.le_of_ble_eq_true rfl, Nat.le_of_ble_eq_true rfl⟩ (Nat.le_of_ble_eq_true rfl) dX11_markOf_55 ?_
      refine ⟨_, rfl, _, _, hT, rfl, fun m55 fm55 tr55 => ?_⟩
      have hT := tr55
      have hM := MC.fm fm55 hM (by simp)
      refine b_aloadN (pc := 58) 0 dX11_markOf_58 rfl rfl ?_
      refine b_bipush (pc := 59) (nI 20) dX11_markOf_59 (by decide) ?_
      refine call_X11_began (pc := 61) k1427 (by decide) ⟨Nat.le_of_ble_eq_true rfl, Nat.le_of_ble_eq_true rfl⟩ (Nat.le_of_ble_eq_true rfl) dX11_markOf_61 ?_
      refine ⟨_, rfl, _, _, hT, rfl, fun m61 fm61 tr61 => ?_⟩
      have hT := tr61
      have hM := MC.fm fm61 hM (by simp)
      refine b_iloadN (pc := 64) 1 dX11_markOf_64 rfl rfl ?_
      refine b_aloadN (pc := 65) 0 dX11_markOf_65 rfl rfl ?_
      refine gf11_5 (pc := 66) 114 rfl k1047 dX11_markOf_66 ?_
      refine b_iconst (pc := 69) (nI 1) dX11_markOf_69 (by decide) ?_
      refine b_iald (pc := 70) (by decide) ?_ dX11_markOf_70 ?_
      rotate_left -- leaf 0: index at 70
      refine b_iadd (pc := 71) dX11_markOf_71 ?_
      refine siN3 (pc := 72) rfl notL_i (by decide) dX11_markOf_72 ?_
      refine b_iloadN (pc := 73) 2 dX11_markOf_73 rfl rfl ?_
      refine b_iconst (pc := 74) (nI 1) dX11_markOf_74 (by decide) ?_
      refine b_icmp_ne (pc := 75) 82 dX11_markOf_75 (by decide) (fun c75 => ?_) (fun c75 => ?_)
      refine b_iloadN (pc := 82) 2 dX11_markOf_82 rfl rfl ?_
      refine b_iconst (pc := 83) (nI 3) dX11_markOf_83 (by decide) ?_
      refine b_icmp_ne (pc := 84) 95 dX11_markOf_84 (by decide) (fun c84 => ?_) (fun c84 => ?_)
      refine b_iconst (pc := 95) (nI 2) dX11_markOf_95 (by decide) ?_
      refine b_iloadN (pc := 96) 3 dX11_markOf_96 rfl rfl ?_
      refine b_imul (pc := 97) dX11_markOf_97 ?_
      refine b_iret (pc := 98) rfl dX11_markOf_98 ⟨Nat.le_of_ble_eq_true rfl, Nat.le_of_ble_eq_true rfl⟩ ?_
      rotate_left -- leaf 1: return at 98
      refine b_iloadN (pc := 87) 3 dX11_markOf_87 rfl rfl ?_
      refine b_sipush (pc := 88) (nI 1000) dX11_markOf_88 (by decide) ?_
      refine b_isub (pc := 91) dX11_markOf_91 ?_
      refine b_goto (pc := 92) 98 dX11_markOf_92 (by decide) ?_
      refine b_iret (pc := 98) rfl dX11_markOf_98 ⟨Nat.le_of_ble_eq_true rfl, Nat.le_of_ble_eq_true rfl⟩ ?_
      rotate_left -- leaf 2: return at 98
      refine b_iloadN (pc := 78) 3 dX11_markOf_78 rfl rfl ?_
      refine b_goto (pc := 79) 98 dX11_markOf_79 (by decide) ?_
      refine b_iret (pc := 98) rfl dX11_markOf_98 ⟨Nat.le_of_ble_eq_true rfl, Nat.le_of_ble_eq_true rfl⟩ ?_
      rotate_left -- leaf 3: return at 98
      -- leaves: 0 index at 70; 1 return at 98; 2 return at 98; 3 return at 98
      · exact n_in (by omega) (by omega)
      · rw [n_eq (by omega) (by omega)] at c75 c84
        rw [if_neg c75, if_neg c84] at hk
        rw [n_cl (by omega), hM 1 (by omega), n_add]
        exact hk m61 (fm55.tr2 fm61) tr61
      · rw [n_eq (by omega) (by omega)] at c75 c84
        rw [if_neg c75, if_pos c84] at hk
        rw [n_cl (by omega), hM 1 (by omega), n_add]
        exact hk m61 (fm55.tr2 fm61) tr61
      · rw [n_eq (by omega) (by omega)] at c75
        rw [if_pos c75] at hk
        rw [n_cl (by omega), hM 1 (by omega), n_add]
        exact hk m61 (fm55.tr2 fm61) tr61
    have hT2 : mkT (C (40 + 2 * p)) T = if C (40 + 2 * p) = 1 then bg (bg T 21) 20 else if C (40 + 2 * p) = 3 then bg (bg (bg T 22) 21) 20 else bg (bg (bg T 24) 21) 20 := by
      unfold mkT
      rw [if_neg h4]
    rw [hT2] at h
    refine b_aloadN (pc := 0) 0 dX11_markOf_0 rfl rfl ?_
    refine b_iloadN (pc := 1) 1 dX11_markOf_1 rfl rfl ?_
    refine call_X11_kindOf (pc := 2) k1245 (by decide) ⟨Nat.le_of_ble_eq_true rfl, Nat.le_of_ble_eq_true rfl⟩ (Nat.le_of_ble_eq_true rfl) dX11_markOf_2 ?_
    refine ⟨_, rfl, C, p, hM, rfl, ?_, ?_⟩
    rotate_left -- leaf 0: person of X11_kindOf at 2
    refine siN2 (pc := 5) rfl notL_i (by decide) dX11_markOf_5 ?_
    refine b_iloadN (pc := 6) 2 dX11_markOf_6 rfl rfl ?_
    refine b_iconst (pc := 7) (nI 4) dX11_markOf_7 (by decide) ?_
    refine b_icmp_lt (pc := 8) 31 dX11_markOf_8 (by decide) (fun c8 => ?_) (fun c8 => ?_)
    refine b_iloadN (pc := 31) 2 dX11_markOf_31 rfl rfl ?_
    refine b_iconst (pc := 32) (nI 1) dX11_markOf_32 (by decide) ?_
    refine b_icmp_eq (pc := 33) 52 dX11_markOf_33 (by decide) (fun c33 => ?_) (fun c33 => ?_)
    rotate_left -- leaf 1: at 52
    refine b_aloadN (pc := 36) 0 dX11_markOf_36 rfl rfl ?_
    refine b_iloadN (pc := 37) 2 dX11_markOf_37 rfl rfl ?_
    refine b_iconst (pc := 38) (nI 3) dX11_markOf_38 (by decide) ?_
    refine b_icmp_ne (pc := 39) 47 dX11_markOf_39 (by decide) (fun c39 => ?_) (fun c39 => ?_)
    refine b_bipush (pc := 47) (nI 24) dX11_markOf_47 (by decide) ?_
    refine call_X11_began (pc := 49) k1427 (by decide) ⟨Nat.le_of_ble_eq_true rfl, Nat.le_of_ble_eq_true rfl⟩ (Nat.le_of_ble_eq_true rfl) dX11_markOf_49 ?_
    refine ⟨_, rfl, _, _, hT, rfl, fun m49 fm49 tr49 => ?_⟩
    have hT := tr49
    have hM := MC.fm fm49 hM (by simp)
    rotate_left -- leaf 2: at 52
    refine b_bipush (pc := 42) (nI 22) dX11_markOf_42 (by decide) ?_
    refine b_goto (pc := 44) 49 dX11_markOf_44 (by decide) ?_
    refine call_X11_began (pc := 49) k1427 (by decide) ⟨Nat.le_of_ble_eq_true rfl, Nat.le_of_ble_eq_true rfl⟩ (Nat.le_of_ble_eq_true rfl) dX11_markOf_49 ?_
    refine ⟨_, rfl, _, _, hT, rfl, fun m49 fm49 tr49 => ?_⟩
    have hT := tr49
    have hM := MC.fm fm49 hM (by simp)
    rotate_left -- leaf 3: at 52
    rotate_left -- leaf 4: at 11
    -- leaves: 0 person of X11_kindOf at 2; 1 at 52; 2 at 52; 3 at 52; 4 at 11
    · exact hp
    · rw [n_eq (by omega) (by omega)] at c33
      rw [if_pos c33] at h
      exact tl m _ hM hT h
    · rw [n_eq (by omega) (by omega)] at c33 c39
      rw [if_neg c33, if_neg c39] at h
      exact tl m49 _ hM hT (fun m2 a b => h m2 (fm49.tr2 a) b)
    · rw [n_eq (by omega) (by omega)] at c33 c39
      rw [if_neg c33, if_pos c39] at h
      exact tl m49 _ hM hT (fun m2 a b => h m2 (fm49.tr2 a) b)
    · have c8 := Int32.not_lt.mp c8
      rw [n_le (by omega) (by omega)] at c8; omega
theorem call_X11_markOf {E : ME} {Φ : Option AV → AM → Prop} {pc : Nat} {L : List (Option AV)} {st : List AV} {m : AM} {a : Nat × Nat} {idx : Nat} {x0 : AV} {i : Nat} (hl : Cond.methodLink E.2.1 idx yX11_markOf ∈ TB) (hdep : 4 + 1 ≤ E.2.2.2.2.2.2) (hroom : a.1 + 0 ≤ E.2.2.2.2.1 ∧ a.2 + 0 ≤ E.2.2.2.2.2.1) (hsr : st.length ≤ 4) (hd : decode E.1 pc = .ok (.invokevirtual idx, 3)) (hsp : Sp_X11_markOf [vr 11 i, x0] m (fun r m2 => B E Φ (pc + 3) L (r.toList ++ st) m2 a)) : B E Φ pc L (x0 :: vr 11 i :: st) m a := b_callV S_X11_markOf [x0] (RX11, TX11, 28) rfl rfl (by decide) (Or.inl hl) k1437 k66 k80 k1438 (show _ ∧ _ ∧ Option.map (fun d => d.parameters.length) (parseMethodDescriptor yX11_markOf.desc) = some 1 from by decide +kernel) ⟨hdep, by decide⟩ hroom hsr hd hsp
abbrev e_X11_sizeOf : ME := (cX11_sizeOf, (RX11, (4, ((some .int), (0, (0, 5))))))
theorem dX11_sizeOf_0 : decode cX11_sizeOf 0 = .ok (.aload_n 0, 1) := by decide +kernel
theorem dX11_sizeOf_1 : decode cX11_sizeOf 1 = .ok (.iload_n 1, 1) := by decide +kernel
theorem dX11_sizeOf_2 : decode cX11_sizeOf 2 = .ok (.invokevirtual 169, 3) := by decide +kernel
theorem dX11_sizeOf_5 : decode cX11_sizeOf 5 = .ok (.istore_n 2, 1) := by decide +kernel
theorem dX11_sizeOf_6 : decode cX11_sizeOf 6 = .ok (.iload_n 2, 1) := by decide +kernel
theorem dX11_sizeOf_7 : decode cX11_sizeOf 7 = .ok (.iconst 4, 1) := by decide +kernel
theorem dX11_sizeOf_8 : decode cX11_sizeOf 8 = .ok (.if_icmp .lt 9, 3) := by decide +kernel
theorem dX11_sizeOf_11 : decode cX11_sizeOf 11 = .ok (.aload_n 0, 1) := by decide +kernel
theorem dX11_sizeOf_12 : decode cX11_sizeOf 12 = .ok (.iload_n 1, 1) := by decide +kernel
theorem dX11_sizeOf_13 : decode cX11_sizeOf 13 = .ok (.invokevirtual 273, 3) := by decide +kernel
theorem dX11_sizeOf_16 : decode cX11_sizeOf 16 = .ok (.ireturn, 1) := by decide +kernel
theorem dX11_sizeOf_17 : decode cX11_sizeOf 17 = .ok (.iload_n 2, 1) := by decide +kernel
theorem dX11_sizeOf_18 : decode cX11_sizeOf 18 = .ok (.iconst 2, 1) := by decide +kernel
theorem dX11_sizeOf_19 : decode cX11_sizeOf 19 = .ok (.if_icmp .ne 9, 3) := by decide +kernel
theorem dX11_sizeOf_22 : decode cX11_sizeOf 22 = .ok (.aload_n 0, 1) := by decide +kernel
theorem dX11_sizeOf_23 : decode cX11_sizeOf 23 = .ok (.bipush 12, 2) := by decide +kernel
theorem dX11_sizeOf_25 : decode cX11_sizeOf 25 = .ok (.invokevirtual 267, 3) := by decide +kernel
theorem dX11_sizeOf_28 : decode cX11_sizeOf 28 = .ok (.aload_n 0, 1) := by decide +kernel
theorem dX11_sizeOf_29 : decode cX11_sizeOf 29 = .ok (.bipush 11, 2) := by decide +kernel
theorem dX11_sizeOf_31 : decode cX11_sizeOf 31 = .ok (.invokevirtual 267, 3) := by decide +kernel
theorem dX11_sizeOf_34 : decode cX11_sizeOf 34 = .ok (.aload_n 0, 1) := by decide +kernel
theorem dX11_sizeOf_35 : decode cX11_sizeOf 35 = .ok (.iload_n 1, 1) := by decide +kernel
theorem dX11_sizeOf_36 : decode cX11_sizeOf 36 = .ok (.invokevirtual 270, 3) := by decide +kernel
theorem dX11_sizeOf_39 : decode cX11_sizeOf 39 = .ok (.istore_n 3, 1) := by decide +kernel
theorem dX11_sizeOf_40 : decode cX11_sizeOf 40 = .ok (.iload_n 3, 1) := by decide +kernel
theorem dX11_sizeOf_41 : decode cX11_sizeOf 41 = .ok (.aload_n 0, 1) := by decide +kernel
theorem dX11_sizeOf_42 : decode cX11_sizeOf 42 = .ok (.iload_n 1, 1) := by decide +kernel
theorem dX11_sizeOf_43 : decode cX11_sizeOf 43 = .ok (.invokevirtual 276, 3) := by decide +kernel
theorem dX11_sizeOf_46 : decode cX11_sizeOf 46 = .ok (.iadd, 1) := by decide +kernel
theorem dX11_sizeOf_47 : decode cX11_sizeOf 47 = .ok (.istore_n 3, 1) := by decide +kernel
theorem dX11_sizeOf_48 : decode cX11_sizeOf 48 = .ok (.iload_n 2, 1) := by decide +kernel
theorem dX11_sizeOf_49 : decode cX11_sizeOf 49 = .ok (.iconst 2, 1) := by decide +kernel
theorem dX11_sizeOf_50 : decode cX11_sizeOf 50 = .ok (.if_icmp .ne 8, 3) := by decide +kernel
theorem dX11_sizeOf_53 : decode cX11_sizeOf 53 = .ok (.iload_n 3, 1) := by decide +kernel
theorem dX11_sizeOf_54 : decode cX11_sizeOf 54 = .ok (.ineg, 1) := by decide +kernel
theorem dX11_sizeOf_55 : decode cX11_sizeOf 55 = .ok (.goto 4, 3) := by decide +kernel
theorem dX11_sizeOf_58 : decode cX11_sizeOf 58 = .ok (.iload_n 3, 1) := by decide +kernel
theorem dX11_sizeOf_59 : decode cX11_sizeOf 59 = .ok (.ireturn, 1) := by decide +kernel
def Sp_X11_sizeOf (av : List AV) (m : AM) (Φ : Option AV → AM → Prop) : Prop := ∃ x, av = [vr 11 110, vi x] ∧ ∃ C p T, MC m C ∧ x = nI p ∧ p < 5 ∧ C (40 + 2 * p) ≤ 5 ∧ MTr m T ∧ ∀ m2, Fm [124] [27] m m2 → MTr m2 (szT (C (40 + 2 * p)) T) → Φ (some (vi (szV (C (40 + 2 * p)) (C (41 + 2 * p)) (C 1) p))) m2
set_option maxRecDepth 20000 in
set_option maxHeartbeats 4000000 in
theorem S_X11_sizeOf : Snd yX11_sizeOf e_X11_sizeOf Sp_X11_sizeOf := by
  refine Snd.of (by decide +kernel) rfl ?_ ?_
  · rintro av m Φ ⟨x, rfl, _⟩; exact Nat.le_of_ble_eq_true rfl
  rintro av m Φ ⟨x, rfl, C, p, T, hM, rfl, hp, hq, hT, h⟩ hav hty
  show B e_X11_sizeOf Φ 0 [some (vr 11 110), some (vi (nI p)), none, none] [] m (0, 0)
  unfold szT szV at h
  by_cases h4 : 4 ≤ C (40 + 2 * p)
  · rw [if_pos h4, if_pos h4] at h
    refine b_aloadN (pc := 0) 0 dX11_sizeOf_0 rfl rfl ?_
    refine b_iloadN (pc := 1) 1 dX11_sizeOf_1 rfl rfl ?_
    refine call_X11_kindOf (pc := 2) k1245 (by decide) ⟨Nat.le_of_ble_eq_true rfl, Nat.le_of_ble_eq_true rfl⟩ (Nat.le_of_ble_eq_true rfl) dX11_sizeOf_2 ?_
    refine ⟨_, rfl, C, p, hM, rfl, ?_, ?_⟩
    rotate_left -- leaf 0: person of X11_kindOf at 2
    refine siN2 (pc := 5) rfl notL_i (by decide) dX11_sizeOf_5 ?_
    refine b_iloadN (pc := 6) 2 dX11_sizeOf_6 rfl rfl ?_
    refine b_iconst (pc := 7) (nI 4) dX11_sizeOf_7 (by decide) ?_
    refine b_icmp_lt (pc := 8) 17 dX11_sizeOf_8 (by decide) (fun c8 => ?_) (fun c8 => ?_)
    rotate_left -- leaf 1: at 17
    refine b_aloadN (pc := 11) 0 dX11_sizeOf_11 rfl rfl ?_
    refine b_iloadN (pc := 12) 1 dX11_sizeOf_12 rfl rfl ?_
    refine call_X11_quietSize (pc := 13) k1423 (by decide) ⟨Nat.le_of_ble_eq_true rfl, Nat.le_of_ble_eq_true rfl⟩ (Nat.le_of_ble_eq_true rfl) dX11_sizeOf_13 ?_
    refine ⟨_, rfl, C, p, _, hM, rfl, ?_, ?_, hT, fun m13 fm13 tr13 => ?_⟩
    rotate_left -- leaf 2: person of X11_quietSize at 13
    rotate_left -- leaf 3: kind of X11_quietSize at 13
    have hT := tr13
    have hM := MC.fm fm13 hM (by simp)
    refine b_iret (pc := 16) rfl dX11_sizeOf_16 ⟨Nat.le_of_ble_eq_true rfl, Nat.le_of_ble_eq_true rfl⟩ ?_
    rotate_left -- leaf 4: return at 16
    -- leaves: 0 person of X11_kindOf at 2; 1 at 17; 2 person of X11_quietSize at 13; 3 kind of X11_quietSize at 13; 4 return at 16
    · exact hp
    · rw [n_lt (by omega) (by omega)] at c8; omega
    · exact hp
    · exact hq
    · exact h m13 fm13 tr13
  · rw [if_neg h4, if_neg h4] at h
    have tl : ∀ (m1 : AM) T1, MC m1 C → MTr m1 T1 → (∀ m2, Fm [124] [27] m1 m2 → MTr m2 (mkT (C (40 + 2 * p)) (bg (bg T1 11) 10)) → Φ (some (vi (if C (40 + 2 * p) = 2 then -(nI (C (41 + 2 * p)) + mkV (C (40 + 2 * p)) (C (41 + 2 * p)) (C 1) p) else nI (C (41 + 2 * p)) + mkV (C (40 + 2 * p)) (C (41 + 2 * p)) (C 1) p))) m2) → B e_X11_sizeOf Φ 28 [some (vr 11 110), some (vi (nI p)), some (vi (nI (C (40 + 2 * p)))), none] [] m1 (0, 0) := by
      intro m1 T1 hM hT hk
      refine b_aloadN (pc := 28) 0 dX11_sizeOf_28 rfl rfl ?_
      refine b_bipush (pc := 29) (nI 11) dX11_sizeOf_29 (by decide) ?_
      refine call_X11_began (pc := 31) k1427 (by decide) ⟨Nat.le_of_ble_eq_true rfl, Nat.le_of_ble_eq_true rfl⟩ (Nat.le_of_ble_eq_true rfl) dX11_sizeOf_31 ?_
      refine ⟨_, rfl, _, _, hT, rfl, fun m31 fm31 tr31 => ?_⟩
      have hT := tr31
      have hM := MC.fm fm31 hM (by simp)
      refine b_aloadN (pc := 34) 0 dX11_sizeOf_34 rfl rfl ?_
      refine b_iloadN (pc := 35) 1 dX11_sizeOf_35 rfl rfl ?_
      refine call_X11_plainSize (pc := 36) k1431 (by decide) ⟨Nat.le_of_ble_eq_true rfl, Nat.le_of_ble_eq_true rfl⟩ (Nat.le_of_ble_eq_true rfl) dX11_sizeOf_36 ?_
      refine ⟨_, rfl, C, p, _, hM, rfl, ?_, hT, fun m36 fm36 tr36 => ?_⟩
      rotate_left -- leaf 0: person of X11_plainSize at 36
      have hT := tr36
      have hM := MC.fm fm36 hM (by simp)
      refine siN3 (pc := 39) rfl notL_i (by decide) dX11_sizeOf_39 ?_
      refine b_iloadN (pc := 40) 3 dX11_sizeOf_40 rfl rfl ?_
      refine b_aloadN (pc := 41) 0 dX11_sizeOf_41 rfl rfl ?_
      refine b_iloadN (pc := 42) 1 dX11_sizeOf_42 rfl rfl ?_
      refine call_X11_markOf (pc := 43) k1435 (by decide) ⟨Nat.le_of_ble_eq_true rfl, Nat.le_of_ble_eq_true rfl⟩ (Nat.le_of_ble_eq_true rfl) dX11_sizeOf_43 ?_
      refine ⟨_, rfl, C, p, _, hM, rfl, ?_, ?_, hT, fun m43 fm43 tr43 => ?_⟩
      rotate_left -- leaf 1: person of X11_markOf at 43
      rotate_left -- leaf 2: kind of X11_markOf at 43
      have hT := tr43
      have hM := MC.fm fm43 hM (by simp)
      refine b_iadd (pc := 46) dX11_sizeOf_46 ?_
      refine siN3 (pc := 47) rfl notL_i (by decide) dX11_sizeOf_47 ?_
      refine b_iloadN (pc := 48) 2 dX11_sizeOf_48 rfl rfl ?_
      refine b_iconst (pc := 49) (nI 2) dX11_sizeOf_49 (by decide) ?_
      refine b_icmp_ne (pc := 50) 58 dX11_sizeOf_50 (by decide) (fun c50 => ?_) (fun c50 => ?_)
      refine b_iloadN (pc := 58) 3 dX11_sizeOf_58 rfl rfl ?_
      refine b_iret (pc := 59) rfl dX11_sizeOf_59 ⟨Nat.le_of_ble_eq_true rfl, Nat.le_of_ble_eq_true rfl⟩ ?_
      rotate_left -- leaf 3: return at 59
      refine b_iloadN (pc := 53) 3 dX11_sizeOf_53 rfl rfl ?_
      refine b_ineg (pc := 54) dX11_sizeOf_54 ?_
      refine b_goto (pc := 55) 59 dX11_sizeOf_55 (by decide) ?_
      refine b_iret (pc := 59) rfl dX11_sizeOf_59 ⟨Nat.le_of_ble_eq_true rfl, Nat.le_of_ble_eq_true rfl⟩ ?_
      rotate_left -- leaf 4: return at 59
      -- leaves: 0 person of X11_plainSize at 36; 1 person of X11_markOf at 43; 2 kind of X11_markOf at 43; 3 return at 59; 4 return at 59
      · exact hp
      · exact hp
      · exact hq
      · rw [n_eq (by omega) (by omega)] at c50
        rw [if_neg c50] at hk
        exact hk m43 ((fm31.tr2 fm36).tr2 fm43) tr43
      · rw [n_eq (by omega) (by omega)] at c50
        rw [if_pos c50] at hk
        exact hk m43 ((fm31.tr2 fm36).tr2 fm43) tr43
    refine b_aloadN (pc := 0) 0 dX11_sizeOf_0 rfl rfl ?_
    refine b_iloadN (pc := 1) 1 dX11_sizeOf_1 rfl rfl ?_
    refine call_X11_kindOf (pc := 2) k1245 (by decide) ⟨Nat.le_of_ble_eq_true rfl, Nat.le_of_ble_eq_true rfl⟩ (Nat.le_of_ble_eq_true rfl) dX11_sizeOf_2 ?_
    refine ⟨_, rfl, C, p, hM, rfl, ?_, ?_⟩
    rotate_left -- leaf 0: person of X11_kindOf at 2
    refine siN2 (pc := 5) rfl notL_i (by decide) dX11_sizeOf_5 ?_
    refine b_iloadN (pc := 6) 2 dX11_sizeOf_6 rfl rfl ?_
    refine b_iconst (pc := 7) (nI 4) dX11_sizeOf_7 (by decide) ?_
    refine b_icmp_lt (pc := 8) 17 dX11_sizeOf_8 (by decide) (fun c8 => ?_) (fun c8 => ?_)
    refine b_iloadN (pc := 17) 2 dX11_sizeOf_17 rfl rfl ?_
    refine b_iconst (pc := 18) (nI 2) dX11_sizeOf_18 (by decide) ?_
    refine b_icmp_ne (pc := 19) 28 dX11_sizeOf_19 (by decide) (fun c19 => ?_) (fun c19 => ?_)
    rotate_left -- leaf 1: at 28
    refine b_aloadN (pc := 22) 0 dX11_sizeOf_22 rfl rfl ?_
    refine b_bipush (pc := 23) (nI 12) dX11_sizeOf_23 (by decide) ?_
    refine call_X11_began (pc := 25) k1427 (by decide) ⟨Nat.le_of_ble_eq_true rfl, Nat.le_of_ble_eq_true rfl⟩ (Nat.le_of_ble_eq_true rfl) dX11_sizeOf_25 ?_
    refine ⟨_, rfl, _, _, hT, rfl, fun m25 fm25 tr25 => ?_⟩
    have hT := tr25
    have hM := MC.fm fm25 hM (by simp)
    rotate_left -- leaf 2: at 28
    rotate_left -- leaf 3: at 11
    -- leaves: 0 person of X11_kindOf at 2; 1 at 28; 2 at 28; 3 at 11
    · exact hp
    · rw [n_eq (by omega) (by omega)] at c19
      refine tl m _ hM hT (fun m2 a b => ?_)
      rw [if_neg c19, if_neg c19] at h
      rw [if_neg c19]
      exact h m2 a b
    · rw [n_eq (by omega) (by omega)] at c19
      refine tl m25 _ hM hT (fun m2 a b => ?_)
      rw [if_pos c19, if_pos c19] at h
      rw [if_pos c19]
      exact h m2 (fm25.tr2 a) b
    · have c8 := Int32.not_lt.mp c8
      rw [n_le (by omega) (by omega)] at c8; omega
theorem call_X11_sizeOf {E : ME} {Φ : Option AV → AM → Prop} {pc : Nat} {L : List (Option AV)} {st : List AV} {m : AM} {a : Nat × Nat} {idx : Nat} {x0 : AV} {i : Nat} (hl : Cond.methodLink E.2.1 idx yX11_sizeOf ∈ TB) (hdep : 5 + 1 ≤ E.2.2.2.2.2.2) (hroom : a.1 + 0 ≤ E.2.2.2.2.1 ∧ a.2 + 0 ≤ E.2.2.2.2.2.1) (hsr : st.length ≤ 4) (hd : decode E.1 pc = .ok (.invokevirtual idx, 3)) (hsp : Sp_X11_sizeOf [vr 11 i, x0] m (fun r m2 => B E Φ (pc + 3) L (r.toList ++ st) m2 a)) : B E Φ pc L (x0 :: vr 11 i :: st) m a := b_callV S_X11_sizeOf [x0] (RX11, TX11, 28) rfl rfl (by decide) (Or.inl hl) k1421 k62 k80 k1422 (show _ ∧ _ ∧ Option.map (fun d => d.parameters.length) (parseMethodDescriptor yX11_sizeOf.desc) = some 1 from by decide +kernel) ⟨hdep, by decide⟩ hroom hsr hd hsp
abbrev e_X11_ask : ME := (cX11_ask, (RX11, (3, ((some .int), (0, (0, 8))))))
theorem dX11_ask_0 : decode cX11_ask 0 = .ok (.aload_n 0, 1) := by decide +kernel
theorem dX11_ask_1 : decode cX11_ask 1 = .ok (.iconst 0, 1) := by decide +kernel
theorem dX11_ask_2 : decode cX11_ask 2 = .ok (.putfield 53, 3) := by decide +kernel
theorem dX11_ask_5 : decode cX11_ask 5 = .ok (.aload_n 0, 1) := by decide +kernel
theorem dX11_ask_6 : decode cX11_ask 6 = .ok (.iload_n 1, 1) := by decide +kernel
theorem dX11_ask_7 : decode cX11_ask 7 = .ok (.invokevirtual 176, 3) := by decide +kernel
theorem dX11_ask_10 : decode cX11_ask 10 = .ok (.ifCond .eq 13, 3) := by decide +kernel
theorem dX11_ask_13 : decode cX11_ask 13 = .ok (.iload_n 2, 1) := by decide +kernel
theorem dX11_ask_14 : decode cX11_ask 14 = .ok (.i2l, 1) := by decide +kernel
theorem dX11_ask_15 : decode cX11_ask 15 = .ok (.lconst 0, 1) := by decide +kernel
theorem dX11_ask_16 : decode cX11_ask 16 = .ok (.lconst 1, 1) := by decide +kernel
theorem dX11_ask_17 : decode cX11_ask 17 = .ok (.invokestatic 63, 3) := by decide +kernel
theorem dX11_ask_20 : decode cX11_ask 20 = .ok (.ifCond .ne 6, 3) := by decide +kernel
theorem dX11_ask_23 : decode cX11_ask 23 = .ok (.ldc 73, 2) := by decide +kernel
theorem dX11_ask_25 : decode cX11_ask 25 = .ok (.ireturn, 1) := by decide +kernel
theorem dX11_ask_26 : decode cX11_ask 26 = .ok (.aload_n 0, 1) := by decide +kernel
theorem dX11_ask_27 : decode cX11_ask 27 = .ok (.iconst 0, 1) := by decide +kernel
theorem dX11_ask_28 : decode cX11_ask 28 = .ok (.putfield 264, 3) := by decide +kernel
theorem dX11_ask_31 : decode cX11_ask 31 = .ok (.iload_n 2, 1) := by decide +kernel
theorem dX11_ask_32 : decode cX11_ask 32 = .ok (.ifCond .ne 11, 3) := by decide +kernel
theorem dX11_ask_35 : decode cX11_ask 35 = .ok (.aload_n 0, 1) := by decide +kernel
theorem dX11_ask_36 : decode cX11_ask 36 = .ok (.iload_n 1, 1) := by decide +kernel
theorem dX11_ask_37 : decode cX11_ask 37 = .ok (.invokevirtual 279, 3) := by decide +kernel
theorem dX11_ask_40 : decode cX11_ask 40 = .ok (.goto 8, 3) := by decide +kernel
theorem dX11_ask_43 : decode cX11_ask 43 = .ok (.aload_n 0, 1) := by decide +kernel
theorem dX11_ask_44 : decode cX11_ask 44 = .ok (.iload_n 1, 1) := by decide +kernel
theorem dX11_ask_45 : decode cX11_ask 45 = .ok (.invokevirtual 276, 3) := by decide +kernel
theorem dX11_ask_48 : decode cX11_ask 48 = .ok (.ireturn, 1) := by decide +kernel
def Sp_X11_ask (av : List AV) (m : AM) (Φ : Option AV → AM → Prop) : Prop := ∃ p w, av = [vr 11 110, vi p, vi w] ∧ ∃ C T, MCo m C ∧ MTr m T ∧ ∀ m2, Fm [124] [0, 27] m m2 → MTr m2 (askT C p w T) → Φ (some (vi (askV C p w))) m2
set_option maxRecDepth 20000 in
set_option maxHeartbeats 4000000 in
theorem S_X11_ask : Snd yX11_ask e_X11_ask Sp_X11_ask := by
  refine Snd.of (by decide +kernel) rfl ?_ ?_
  · rintro av m Φ ⟨p, w, rfl, _⟩; exact Nat.le_of_ble_eq_true rfl
  rintro av m Φ ⟨p, w, rfl, C, T, hC0, hT0, h⟩ hav hty
  show B e_X11_ask Φ 0 [some (vr 11 110), some (vi p), some (vi w)] [] m (0, 0)
  have hC : MCo (mset m 110 0 (nI 0)) C := hC0.ms (by decide)
  have f0 : Fm [124] [0, 27] m (mset m 110 0 (nI 0)) := (Fm.rf _ _ m).m0 (by simp)
  have hT1 : MTr (mset m 110 0 (nI 0)) T := hT0.fm ((Fm.rf [] [0] m).m0 (by simp)) (by simp) (by simp)
  have hle := hC.le
  by_cases hpw : (inB p (C 4) && inB w 2) = true
  · unfold askV askT at h
    rw [if_pos hpw, if_pos hpw] at h
    rw [Bool.and_eq_true] at hpw
    obtain ⟨p, hj, rfl⟩ := (inB_iff (by omega)).mp hpw.1
    rw [n_cl (by omega)] at h
    have hv := hC.op (Or.inr (Or.inr (by omega)))
    have hq := (hv.2.2.2.2.2.2.2.2.2 p hj).1
    have hT : MTr (mset (mset m 110 0 (nI 0)) 110 27 (nI 0)) T0 := ⟨by rw [mset_at, if_pos rfl]; rfl, by decide, fun k hk => absurd hk (Nat.not_lt_zero k)⟩
    have hM : MC (mset (mset m 110 0 (nI 0)) 110 27 (nI 0)) C := MC.ms hC.1 (by decide)
    have f1 : Fm [124] [0, 27] m (mset (mset m 110 0 (nI 0)) 110 27 (nI 0)) := f0.m0 (by simp)
    refine b_aloadN (pc := 0) 0 dX11_ask_0 rfl rfl ?_
    refine b_iconst (pc := 1) (nI 0) dX11_ask_1 (by decide) ?_
    refine pf11_0 (pc := 2) k1042 dX11_ask_2 ?_
    refine b_aloadN (pc := 5) 0 dX11_ask_5 rfl rfl ?_
    refine b_iloadN (pc := 6) 1 dX11_ask_6 rfl rfl ?_
    refine call_X11_isPerson (pc := 7) k1229 (by decide) ⟨Nat.le_of_ble_eq_true rfl, Nat.le_of_ble_eq_true rfl⟩ (Nat.le_of_ble_eq_true rfl) dX11_ask_7 ?_
    refine ⟨_, rfl, _, hC.1 4 (by omega), ?_, ?_⟩
    rotate_left -- leaf 0: small of X11_isPerson at 7
    refine b_if_eq (pc := 10) 23 dX11_ask_10 (by decide) (fun c10 => ?_) (fun c10 => ?_)
    refine b_ldc (pc := 23) k1140 dX11_ask_23 ?_
    refine b_iret (pc := 25) rfl dX11_ask_25 ⟨Nat.le_of_ble_eq_true rfl, Nat.le_of_ble_eq_true rfl⟩ ?_
    rotate_left -- leaf 1: return at 25
    refine b_iloadN (pc := 13) 2 dX11_ask_13 rfl rfl ?_
    refine b_i2l (pc := 14) dX11_ask_14 ?_
    refine b_lconst (pc := 15) 0 dX11_ask_15 (by decide) ?_
    refine b_lconst (pc := 16) 1 dX11_ask_16 (by decide) ?_
    refine call_X11_in (pc := 17) k1136 (by decide) ⟨Nat.le_of_ble_eq_true rfl, Nat.le_of_ble_eq_true rfl⟩ (Nat.le_of_ble_eq_true rfl) dX11_ask_17 ?_
    refine ⟨_, _, _, rfl, ?_⟩
    refine b_if_ne (pc := 20) 26 dX11_ask_20 (by decide) (fun c20 => ?_) (fun c20 => ?_)
    refine b_aloadN (pc := 26) 0 dX11_ask_26 rfl rfl ?_
    refine b_iconst (pc := 27) (nI 0) dX11_ask_27 (by decide) ?_
    refine pf11_27 (pc := 28) k1069 dX11_ask_28 ?_
    refine b_iloadN (pc := 31) 2 dX11_ask_31 rfl rfl ?_
    refine b_if_ne (pc := 32) 43 dX11_ask_32 (by decide) (fun c32 => ?_) (fun c32 => ?_)
    refine b_aloadN (pc := 43) 0 dX11_ask_43 rfl rfl ?_
    refine b_iloadN (pc := 44) 1 dX11_ask_44 rfl rfl ?_
    refine call_X11_markOf (pc := 45) k1435 (by decide) ⟨Nat.le_of_ble_eq_true rfl, Nat.le_of_ble_eq_true rfl⟩ (Nat.le_of_ble_eq_true rfl) dX11_ask_45 ?_
    refine ⟨_, rfl, C, p, _, hM, rfl, ?_, ?_, hT, fun m45 fm45 tr45 => ?_⟩
    rotate_left -- leaf 2: person of X11_markOf at 45
    rotate_left -- leaf 3: kind of X11_markOf at 45
    have hT := tr45
    have hM := MC.fm fm45 hM (by simp)
    refine b_iret (pc := 48) rfl dX11_ask_48 ⟨Nat.le_of_ble_eq_true rfl, Nat.le_of_ble_eq_true rfl⟩ ?_
    rotate_left -- leaf 4: return at 48
    refine b_aloadN (pc := 35) 0 dX11_ask_35 rfl rfl ?_
    refine b_iloadN (pc := 36) 1 dX11_ask_36 rfl rfl ?_
    refine call_X11_sizeOf (pc := 37) k1419 (by decide) ⟨Nat.le_of_ble_eq_true rfl, Nat.le_of_ble_eq_true rfl⟩ (Nat.le_of_ble_eq_true rfl) dX11_ask_37 ?_
    refine ⟨_, rfl, C, p, _, hM, rfl, ?_, ?_, hT, fun m37 fm37 tr37 => ?_⟩
    rotate_left -- leaf 5: person of X11_sizeOf at 37
    rotate_left -- leaf 6: kind of X11_sizeOf at 37
    have hT := tr37
    have hM := MC.fm fm37 hM (by simp)
    refine b_goto (pc := 40) 48 dX11_ask_40 (by decide) ?_
    refine b_iret (pc := 48) rfl dX11_ask_48 ⟨Nat.le_of_ble_eq_true rfl, Nat.le_of_ble_eq_true rfl⟩ ?_
    rotate_left -- leaf 7: return at 48
    refine b_ldc (pc := 23) k1140 dX11_ask_23 ?_
    refine b_iret (pc := 25) rfl dX11_ask_25 ⟨Nat.le_of_ble_eq_true rfl, Nat.le_of_ble_eq_true rfl⟩ ?_
    rotate_left -- leaf 8: return at 25
    -- leaves: 0 small of X11_isPerson at 7; 1 return at 25; 2 person of X11_markOf at 45; 3 kind of X11_markOf at 45; 4 return at 48; 5 person of X11_sizeOf at 37; 6 kind of X11_sizeOf at 37; 7 return at 48; 8 return at 25
    · omega
    · rw [hpw.1] at c10; exact absurd c10 (by decide)
    · omega
    · exact hq.2
    · have t := h m45 (f1.tr2 (fm45.mono (by simp) (by simp)))
      rw [if_neg (show ¬ w = nI 0 from c32), if_neg (show ¬ w = nI 0 from c32)] at t
      exact t tr45
    · omega
    · exact hq.2
    · have t := h m37 (f1.tr2 (fm37.mono (by simp) (by simp)))
      rw [if_pos (show w = nI 0 from c32), if_pos (show w = nI 0 from c32)] at t
      exact t tr37
    · rw [inLc 2 rfl (by omega), hpw.2] at c20; exact absurd c20 (by decide)
  · unfold askV askT at h
    rw [if_neg hpw, if_neg hpw] at h
    refine b_aloadN (pc := 0) 0 dX11_ask_0 rfl rfl ?_
    refine b_iconst (pc := 1) (nI 0) dX11_ask_1 (by decide) ?_
    refine pf11_0 (pc := 2) k1042 dX11_ask_2 ?_
    refine b_aloadN (pc := 5) 0 dX11_ask_5 rfl rfl ?_
    refine b_iloadN (pc := 6) 1 dX11_ask_6 rfl rfl ?_
    refine call_X11_isPerson (pc := 7) k1229 (by decide) ⟨Nat.le_of_ble_eq_true rfl, Nat.le_of_ble_eq_true rfl⟩ (Nat.le_of_ble_eq_true rfl) dX11_ask_7 ?_
    refine ⟨_, rfl, _, hC.1 4 (by omega), ?_, ?_⟩
    rotate_left -- leaf 0: small of X11_isPerson at 7
    refine b_if_eq (pc := 10) 23 dX11_ask_10 (by decide) (fun c10 => ?_) (fun c10 => ?_)
    refine b_ldc (pc := 23) k1140 dX11_ask_23 ?_
    refine b_iret (pc := 25) rfl dX11_ask_25 ⟨Nat.le_of_ble_eq_true rfl, Nat.le_of_ble_eq_true rfl⟩ ?_
    rotate_left -- leaf 1: return at 25
    refine b_iloadN (pc := 13) 2 dX11_ask_13 rfl rfl ?_
    refine b_i2l (pc := 14) dX11_ask_14 ?_
    refine b_lconst (pc := 15) 0 dX11_ask_15 (by decide) ?_
    refine b_lconst (pc := 16) 1 dX11_ask_16 (by decide) ?_
    refine call_X11_in (pc := 17) k1136 (by decide) ⟨Nat.le_of_ble_eq_true rfl, Nat.le_of_ble_eq_true rfl⟩ (Nat.le_of_ble_eq_true rfl) dX11_ask_17 ?_
    refine ⟨_, _, _, rfl, ?_⟩
    refine b_if_ne (pc := 20) 26 dX11_ask_20 (by decide) (fun c20 => ?_) (fun c20 => ?_)
    rotate_left -- leaf 2: at 26
    refine b_ldc (pc := 23) k1140 dX11_ask_23 ?_
    refine b_iret (pc := 25) rfl dX11_ask_25 ⟨Nat.le_of_ble_eq_true rfl, Nat.le_of_ble_eq_true rfl⟩ ?_
    rotate_left -- leaf 3: return at 25
    -- leaves: 0 small of X11_isPerson at 7; 1 return at 25; 2 at 26; 3 return at 25
    · omega
    · exact h _ f0 hT1
    · rw [inLc 2 rfl (by omega)] at c20
      exact absurd (by rw [bT c10, bT c20]; rfl) hpw
    · exact h _ f0 hT1
theorem call_X11_ask {E : ME} {Φ : Option AV → AM → Prop} {pc : Nat} {L : List (Option AV)} {st : List AV} {m : AM} {a : Nat × Nat} {idx : Nat} {x0 x1 : AV} {i : Nat} (hl : Cond.methodLink E.2.1 idx yX11_ask ∈ TB) (hdep : 8 + 1 ≤ E.2.2.2.2.2.2) (hroom : a.1 + 0 ≤ E.2.2.2.2.1 ∧ a.2 + 0 ≤ E.2.2.2.2.2.1) (hsr : st.length ≤ 4) (hd : decode E.1 pc = .ok (.invokevirtual idx, 3)) (hsp : Sp_X11_ask [vr 11 i, x0, x1] m (fun r m2 => B E Φ (pc + 3) L (r.toList ++ st) m2 a)) : B E Φ pc L (x1 :: x0 :: vr 11 i :: st) m a := b_callV S_X11_ask [x0, x1] (RX11, TX11, 28) rfl rfl (by decide) (Or.inl hl) k1416 k1417 k80 k1418 (show _ ∧ _ ∧ Option.map (fun d => d.parameters.length) (parseMethodDescriptor yX11_ask.desc) = some 2 from by decide +kernel) ⟨hdep, by decide⟩ hroom hsr hd hsp
theorem isOf_it : ∀ q, 1 ≤ q → q ≤ 5 → ∀ w, w ≤ 5 → (itK 6 q w = w ↔ (w = 0 ∨ q = w ∨ (w = 1 ∧ q < 4) ∨ (w = 4 ∧ q = 5))) := by
  have z : ∀ q, q < 6 → ∀ w, w < 6 → 1 ≤ q → decide (itK 6 q w = w) = (decide (w = 0) || (decide (q = w) || ((decide (w = 1) && decide (q < 4)) || (decide (w = 4) && decide (q = 5))))) := by decide
  intro q h1 h2 w h3
  have e := z q (by omega) w (by omega) h1
  have e2 : itK 6 q w = w ↔ decide (itK 6 q w = w) = true := ⟨fun h => decide_eq_true h, fun h => of_decide_eq_true h⟩
  rw [e2, e]
  simp only [Bool.or_eq_true, Bool.and_eq_true, decide_eq_true_eq]
abbrev e_X11_isOf : ME := (cX11_isOf, (RX11, (2, ((some .boolean), (0, (0, 1))))))
theorem dX11_isOf_0 : decode cX11_isOf 0 = .ok (.iload_n 1, 1) := by decide +kernel
theorem dX11_isOf_1 : decode cX11_isOf 1 = .ok (.ifCond .eq 28, 3) := by decide +kernel
theorem dX11_isOf_4 : decode cX11_isOf 4 = .ok (.iload_n 0, 1) := by decide +kernel
theorem dX11_isOf_5 : decode cX11_isOf 5 = .ok (.iload_n 1, 1) := by decide +kernel
theorem dX11_isOf_6 : decode cX11_isOf 6 = .ok (.if_icmp .eq 23, 3) := by decide +kernel
theorem dX11_isOf_9 : decode cX11_isOf 9 = .ok (.iload_n 1, 1) := by decide +kernel
theorem dX11_isOf_10 : decode cX11_isOf 10 = .ok (.iconst 1, 1) := by decide +kernel
theorem dX11_isOf_11 : decode cX11_isOf 11 = .ok (.if_icmp .ne 8, 3) := by decide +kernel
theorem dX11_isOf_14 : decode cX11_isOf 14 = .ok (.iload_n 0, 1) := by decide +kernel
theorem dX11_isOf_15 : decode cX11_isOf 15 = .ok (.iconst 4, 1) := by decide +kernel
theorem dX11_isOf_16 : decode cX11_isOf 16 = .ok (.if_icmp .lt 13, 3) := by decide +kernel
theorem dX11_isOf_19 : decode cX11_isOf 19 = .ok (.iload_n 1, 1) := by decide +kernel
theorem dX11_isOf_20 : decode cX11_isOf 20 = .ok (.iconst 4, 1) := by decide +kernel
theorem dX11_isOf_21 : decode cX11_isOf 21 = .ok (.if_icmp .ne 12, 3) := by decide +kernel
theorem dX11_isOf_24 : decode cX11_isOf 24 = .ok (.iload_n 0, 1) := by decide +kernel
theorem dX11_isOf_25 : decode cX11_isOf 25 = .ok (.iconst 5, 1) := by decide +kernel
theorem dX11_isOf_26 : decode cX11_isOf 26 = .ok (.if_icmp .ne 7, 3) := by decide +kernel
theorem dX11_isOf_29 : decode cX11_isOf 29 = .ok (.iconst 1, 1) := by decide +kernel
theorem dX11_isOf_30 : decode cX11_isOf 30 = .ok (.goto 4, 3) := by decide +kernel
theorem dX11_isOf_33 : decode cX11_isOf 33 = .ok (.iconst 0, 1) := by decide +kernel
theorem dX11_isOf_34 : decode cX11_isOf 34 = .ok (.ireturn, 1) := by decide +kernel
def Sp_X11_isOf (av : List AV) (m : AM) (Φ : Option AV → AM → Prop) : Prop := ∃ x y, av = [vi x, vi y] ∧ ∃ q w, x = nI q ∧ y = nI w ∧ (1 ≤ q ∧ q ≤ 5) ∧ w ≤ 5 ∧ Φ (some (vi (nI (if decide (itK 6 q w = w) = true then 1 else 0)))) m
set_option maxRecDepth 20000 in
set_option maxHeartbeats 4000000 in
theorem S_X11_isOf : Snd yX11_isOf e_X11_isOf Sp_X11_isOf := by
  refine Snd.of (by decide +kernel) rfl ?_ ?_
  · rintro av m Φ ⟨x, y, rfl, _⟩; exact Nat.le_of_ble_eq_true rfl
  rintro av m Φ ⟨x, y, rfl, q, w, rfl, rfl, hq, hw, h⟩ hav hty
  show B e_X11_isOf Φ 0 [some (vi (nI q)), some (vi (nI w))] [] m (0, 0)
  have hi := isOf_it q hq.1 hq.2 w hw
  refine b_iloadN (pc := 0) 1 dX11_isOf_0 rfl rfl ?_
  refine b_if_eq (pc := 1) 29 dX11_isOf_1 (by decide) (fun c1 => ?_) (fun c1 => ?_)
  rotate_left -- leaf 0: at 29
  refine b_iloadN (pc := 4) 0 dX11_isOf_4 rfl rfl ?_
  refine b_iloadN (pc := 5) 1 dX11_isOf_5 rfl rfl ?_
  refine b_icmp_eq (pc := 6) 29 dX11_isOf_6 (by decide) (fun c6 => ?_) (fun c6 => ?_)
  rotate_left -- leaf 1: at 29
  refine b_iloadN (pc := 9) 1 dX11_isOf_9 rfl rfl ?_
  refine b_iconst (pc := 10) (nI 1) dX11_isOf_10 (by decide) ?_
  refine b_icmp_ne (pc := 11) 19 dX11_isOf_11 (by decide) (fun c11 => ?_) (fun c11 => ?_)
  refine b_iloadN (pc := 19) 1 dX11_isOf_19 rfl rfl ?_
  refine b_iconst (pc := 20) (nI 4) dX11_isOf_20 (by decide) ?_
  refine b_icmp_ne (pc := 21) 33 dX11_isOf_21 (by decide) (fun c21 => ?_) (fun c21 => ?_)
  rotate_left -- leaf 2: at 33
  refine b_iloadN (pc := 24) 0 dX11_isOf_24 rfl rfl ?_
  refine b_iconst (pc := 25) (nI 5) dX11_isOf_25 (by decide) ?_
  refine b_icmp_ne (pc := 26) 33 dX11_isOf_26 (by decide) (fun c26 => ?_) (fun c26 => ?_)
  rotate_left -- leaf 3: at 33
  rotate_left -- leaf 4: at 29
  refine b_iloadN (pc := 14) 0 dX11_isOf_14 rfl rfl ?_
  refine b_iconst (pc := 15) (nI 4) dX11_isOf_15 (by decide) ?_
  refine b_icmp_lt (pc := 16) 29 dX11_isOf_16 (by decide) (fun c16 => ?_) (fun c16 => ?_)
  rotate_left -- leaf 5: at 29
  refine b_iloadN (pc := 19) 1 dX11_isOf_19 rfl rfl ?_
  refine b_iconst (pc := 20) (nI 4) dX11_isOf_20 (by decide) ?_
  refine b_icmp_ne (pc := 21) 33 dX11_isOf_21 (by decide) (fun c21 => ?_) (fun c21 => ?_)
  rotate_left -- leaf 6: at 33
  refine b_iloadN (pc := 24) 0 dX11_isOf_24 rfl rfl ?_
  refine b_iconst (pc := 25) (nI 5) dX11_isOf_25 (by decide) ?_
  refine b_icmp_ne (pc := 26) 33 dX11_isOf_26 (by decide) (fun c26 => ?_) (fun c26 => ?_)
  rotate_left -- leaf 7: at 33
  rotate_left -- leaf 8: at 29
  -- leaves: 0 at 29; 1 at 29; 2 at 33; 3 at 33; 4 at 29; 5 at 29; 6 at 33; 7 at 33; 8 at 29
  · rw [n_eq0 (by omega)] at c1
    rw [decide_eq_true (hi.mpr (Or.inl c1))] at h
    refine b_iconst (pc := 29) (nI 1) dX11_isOf_29 (by decide) ?_
    refine b_goto (pc := 30) 34 dX11_isOf_30 (by decide) ?_
    refine b_zret (pc := 34) rfl ?_ dX11_isOf_34 ⟨Nat.le_of_ble_eq_true rfl, Nat.le_of_ble_eq_true rfl⟩ ?_
    rotate_left -- leaf 0: bool at 34
    rotate_left -- leaf 1: return at 34
    -- leaves: 0 bool at 34; 1 return at 34
    · exact Or.inr rfl
    · exact h
  · rw [n_eq (by omega) (by omega)] at c6
    rw [decide_eq_true (hi.mpr (Or.inr (Or.inl c6)))] at h
    refine b_iconst (pc := 29) (nI 1) dX11_isOf_29 (by decide) ?_
    refine b_goto (pc := 30) 34 dX11_isOf_30 (by decide) ?_
    refine b_zret (pc := 34) rfl ?_ dX11_isOf_34 ⟨Nat.le_of_ble_eq_true rfl, Nat.le_of_ble_eq_true rfl⟩ ?_
    rotate_left -- leaf 0: bool at 34
    rotate_left -- leaf 1: return at 34
    -- leaves: 0 bool at 34; 1 return at 34
    · exact Or.inr rfl
    · exact h
  · rw [n_eq0 (by omega)] at c1
    rw [n_eq (by omega) (by omega)] at c6 c11 c21
    rw [decide_eq_false (fun z => by have := hi.mp z; omega)] at h
    refine b_iconst (pc := 33) (nI 0) dX11_isOf_33 (by decide) ?_
    refine b_zret (pc := 34) rfl ?_ dX11_isOf_34 ⟨Nat.le_of_ble_eq_true rfl, Nat.le_of_ble_eq_true rfl⟩ ?_
    rotate_left -- leaf 0: bool at 34
    rotate_left -- leaf 1: return at 34
    -- leaves: 0 bool at 34; 1 return at 34
    · exact Or.inl rfl
    · exact h
  · rw [n_eq0 (by omega)] at c1
    rw [n_eq (by omega) (by omega)] at c6 c11 c21 c26
    rw [decide_eq_false (fun z => by have := hi.mp z; omega)] at h
    refine b_iconst (pc := 33) (nI 0) dX11_isOf_33 (by decide) ?_
    refine b_zret (pc := 34) rfl ?_ dX11_isOf_34 ⟨Nat.le_of_ble_eq_true rfl, Nat.le_of_ble_eq_true rfl⟩ ?_
    rotate_left -- leaf 0: bool at 34
    rotate_left -- leaf 1: return at 34
    -- leaves: 0 bool at 34; 1 return at 34
    · exact Or.inl rfl
    · exact h
  · rw [n_eq (by omega) (by omega)] at c21 c26
    rw [decide_eq_true (hi.mpr (by omega))] at h
    refine b_iconst (pc := 29) (nI 1) dX11_isOf_29 (by decide) ?_
    refine b_goto (pc := 30) 34 dX11_isOf_30 (by decide) ?_
    refine b_zret (pc := 34) rfl ?_ dX11_isOf_34 ⟨Nat.le_of_ble_eq_true rfl, Nat.le_of_ble_eq_true rfl⟩ ?_
    rotate_left -- leaf 0: bool at 34
    rotate_left -- leaf 1: return at 34
    -- leaves: 0 bool at 34; 1 return at 34
    · exact Or.inr rfl
    · exact h
  · rw [n_eq (by omega) (by omega)] at c11
    rw [n_lt (by omega) (by omega)] at c16
    rw [decide_eq_true (hi.mpr (by omega))] at h
    refine b_iconst (pc := 29) (nI 1) dX11_isOf_29 (by decide) ?_
    refine b_goto (pc := 30) 34 dX11_isOf_30 (by decide) ?_
    refine b_zret (pc := 34) rfl ?_ dX11_isOf_34 ⟨Nat.le_of_ble_eq_true rfl, Nat.le_of_ble_eq_true rfl⟩ ?_
    rotate_left -- leaf 0: bool at 34
    rotate_left -- leaf 1: return at 34
    -- leaves: 0 bool at 34; 1 return at 34
    · exact Or.inr rfl
    · exact h
  · rw [n_eq0 (by omega)] at c1
    rw [n_eq (by omega) (by omega)] at c6 c11 c21
    rw [n_lt (by omega) (by omega)] at c16
    rw [decide_eq_false (fun z => by have := hi.mp z; omega)] at h
    refine b_iconst (pc := 33) (nI 0) dX11_isOf_33 (by decide) ?_
    refine b_zret (pc := 34) rfl ?_ dX11_isOf_34 ⟨Nat.le_of_ble_eq_true rfl, Nat.le_of_ble_eq_true rfl⟩ ?_
    rotate_left -- leaf 0: bool at 34
    rotate_left -- leaf 1: return at 34
    -- leaves: 0 bool at 34; 1 return at 34
    · exact Or.inl rfl
    · exact h
  · rw [n_eq (by omega) (by omega)] at c11 c21
    omega
  · rw [n_eq (by omega) (by omega)] at c11 c21
    omega
theorem call_X11_isOf {E : ME} {Φ : Option AV → AM → Prop} {pc : Nat} {L : List (Option AV)} {st : List AV} {m : AM} {a : Nat × Nat} {idx : Nat} {x0 x1 : AV} (hl : Cond.methodLink E.2.1 idx yX11_isOf ∈ TB) (hdep : 1 + 1 ≤ E.2.2.2.2.2.2) (hroom : a.1 + 0 ≤ E.2.2.2.2.1 ∧ a.2 + 0 ≤ E.2.2.2.2.2.1) (hsr : st.length ≤ 4) (hd : decode E.1 pc = .ok (.invokestatic idx, 3)) (hsp : Sp_X11_isOf [x0, x1] m (fun r m2 => B E Φ (pc + 3) L (r.toList ++ st) m2 a)) : B E Φ pc L (x1 :: x0 :: st) m a := b_callS S_X11_isOf [x0, x1] (Or.inl hl) k1413 k80 k1414 (show _ ∧ _ ∧ Option.map (fun d => d.parameters.length) (parseMethodDescriptor yX11_isOf.desc) = some 2 from by decide +kernel) ⟨hdep, by decide⟩ hroom hsr hd hsp
