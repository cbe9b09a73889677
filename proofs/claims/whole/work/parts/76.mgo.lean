/-! the reference's search: its cells -/
def wtP (C : Nat → Nat) (bc : Nat) : Nat := if bc = 0 then 1 else C 2
theorem wtP_ok {C : Nat → Nat} (hv : VC C) (bc : Nat) : 1 ≤ wtP C bc ∧ wtP C bc ≤ 9 := by
  have h := hv.2.2.1
  unfold wtP
  split <;> omega
def LbR (m : AM) (P : Nat) (lab : Nat → Option (Nat × Nat)) (w : Nat → Bool) : Prop := (∀ n, n < 4096 → (lab n = none → m.1 118 n = -1000000) ∧ (∀ x, lab n = some x → m.1 118 n = nI (P * x.1) ∧ m.1 119 n = nI x.2) ∧ m.1 120 n = nI (if w n = true then 1 else 0)) ∧ (∀ n x, lab n = some x → n < 4096 ∧ x.1 ≤ 6 * cntL lab 4096 ∧ x.2 < 100) ∧ ∀ n, w n = true → lab n ≠ none
def QuR (m : AM) (w : Nat → Bool) (a len : Nat) (Q : Nat → Nat) : Prop := a ≤ 4096 ∧ m.1 110 22 = nI a ∧ m.1 110 23 = nI ((a + len) % 4097) ∧ len = cntS w 4096 ∧ (∀ i, i < len → m.1 121 ((a + i) % 4097) = nI (Q i) ∧ Q i < 4096 ∧ w (Q i) = true) ∧ ∀ i j, i < len → j < len → Q i = Q j → i = j
def setW (w : Nat → Bool) (v : Nat) (b : Bool) : Nat → Bool := fun n => if n = v then b else w n
theorem setW_at (w : Nat → Bool) (v : Nat) (b : Bool) : setW w v b v = b := if_pos rfl
theorem setW_ne (w : Nat → Bool) {v n : Nat} (b : Bool) (h : n ≠ v) : setW w v b n = w n := if_neg h
theorem cntS_le (w : Nat → Bool) (n : Nat) : cntS w n ≤ n := by
  have := sumN_le (f := fun i => if w i = true then 1 else 0) 1 n (fun i _ => by
    show (if w i = true then 1 else 0) ≤ 1
    split <;> omega)
  rw [Nat.mul_one] at this
  exact this
theorem sumN_one {f g : Nat → Nat} {v : Nat} (h : ∀ i, i ≠ v → f i = g i) : ∀ n, v < n → sumN n f + g v = sumN n g + f v
  | 0, hv => absurd hv (Nat.not_lt_zero _)
  | n + 1, hv => by
    show sumN n f + f n + g v = sumN n g + g n + f v
    by_cases q : v = n
    · subst q
      rw [sumN_cg v (fun i hi => h i (by omega))]
      omega
    · have ih := sumN_one h n (by omega)
      have e := h n (fun z => q z.symm)
      omega
theorem cntS_on {w : Nat → Bool} {v N : Nat} (hv : v < N) (hw : w v = false) : cntS (setW w v true) N = cntS w N + 1 := by
  have := sumN_one (f := fun i => if setW w v true i = true then 1 else 0) (g := fun i => if w i = true then 1 else 0) (v := v) (fun i hi => by
    show (if setW w v true i = true then 1 else 0) = if w i = true then 1 else 0
    rw [setW_ne w true hi]) N hv
  rw [setW_at, hw, if_neg (by decide), if_pos rfl] at this
  exact this
theorem cntS_off {w : Nat → Bool} {v N : Nat} (hv : v < N) (hw : w v = true) : cntS (setW w v false) N + 1 = cntS w N := by
  have := sumN_one (f := fun i => if setW w v false i = true then 1 else 0) (g := fun i => if w i = true then 1 else 0) (v := v) (fun i hi => by
    show (if setW w v false i = true then 1 else 0) = if w i = true then 1 else 0
    rw [setW_ne w false hi]) N hv
  rw [setW_at, hw, if_pos rfl, if_neg (by decide)] at this
  exact this
theorem cntS_0 {w : Nat → Bool} {N : Nat} (h : cntS w N = 0) : ∀ n, n < N → w n = false := by
  intro n hn
  cases e : w n with
  | false => rfl
  | true =>
    have p : 0 < sumN N (fun i => if w i = true then 1 else 0) := (sumN_pos N).mpr ⟨n, hn, by rw [if_pos e]; omega⟩
    unfold cntS at h
    omega
/-- what is yet to be gained at a state -/
def rkL (x : Option (Nat × Nat)) : Nat := match x with
  | none => 2457800
  | some x => 100 * x.1 + x.2
def MuL (lab : Nat → Option (Nat × Nat)) (len : Nat) : Nat := 2 * sumN 4096 (fun n => rkL (lab n)) + len
def betL (lab : Nat → Option (Nat × Nat)) (v : Nat) (z : Nat × Nat) : Prop := ∀ x, lab v = some x → ¬ (x.1 < z.1 ∨ (x.1 = z.1 ∧ x.2 ≤ z.2))
theorem entL_bet {lab : Nat → Option (Nat × Nat)} {v : Nat} {z : Nat × Nat} (h : betL lab v z) : entL lab v z v = some z := by
  rw [entL_v]
  cases e : lab v with
  | none => rfl
  | some x => exact if_neg (h x e)
theorem entL_wor {lab : Nat → Option (Nat × Nat)} {v : Nat} {x z : Nat × Nat} (e : lab v = some x) (h : x.1 < z.1 ∨ (x.1 = z.1 ∧ x.2 ≤ z.2)) : entL lab v z = lab := by
  funext n
  by_cases q : n = v
  · rw [q, entL_v, e]
    exact if_pos h
  · exact entL_ne lab z q
theorem MuL_ent {lab : Nat → Option (Nat × Nat)} {v : Nat} {z : Nat × Nat} (hv : v < 4096) (hb : betL lab v z) (hz : z.1 ≤ 24576 ∧ z.2 < 100) (hl : ∀ x, lab v = some x → x.2 < 100) (len : Nat) : MuL (entL lab v z) (len + 1) < MuL lab len := by
  have s := sumN_one (f := fun n => rkL (entL lab v z n)) (g := fun n => rkL (lab n)) (v := v) (fun i hi => by
    show rkL (entL lab v z i) = rkL (lab i)
    rw [entL_ne lab z hi]) 4096 hv
  rw [entL_bet hb] at s
  have r : rkL (some z) < rkL (lab v) := by
    cases e : lab v with
    | none =>
      show 100 * z.1 + z.2 < 2457800
      omega
    | some x =>
      have a := hb x e
      have b := hl x e
      show 100 * z.1 + z.2 < 100 * x.1 + x.2
      omega
  unfold MuL
  omega
theorem QuR.push {m M : AM} {w : Nat → Bool} {a len v : Nat} {Q : Nat → Nat} (h : QuR m w a len Q) (hv : v < 4096) (hw : w v = false) (e1 : M.1 121 = upd (m.1 121) ((a + len) % 4097) (nI v)) (e2 : M.1 110 22 = m.1 110 22) (e3 : M.1 110 23 = nI ((a + (len + 1)) % 4097)) : QuR M (setW w v true) a (len + 1) (fun i => if i = len then v else Q i) := by
  obtain ⟨h1, h2, h3, h4, h5, h6⟩ := h
  have c1 := cntS_on hv hw
  have c2 := cntS_le (setW w v true) 4096
  refine ⟨h1, e2.trans h2, e3, by rw [c1, ← h4], fun i hi => ?_, fun i j hi hj e => ?_⟩
  · rw [e1]
    dsimp only
    by_cases q : i = len
    · subst q
      rw [pk_us, if_pos rfl]
      exact ⟨rfl, hv, setW_at w v true⟩
    · have k := h5 i (by omega)
      rw [pk_un (by omega), if_neg q]
      refine ⟨k.1, k.2.1, ?_⟩
      by_cases z : Q i = v
      · rw [z]; exact setW_at w v true
      · rw [setW_ne w true z]; exact k.2.2
  · dsimp only at e
    by_cases q : i = len
    · by_cases r : j = len
      · omega
      · rw [if_pos q, if_neg r] at e
        have k := (h5 j (by omega)).2.2
        rw [← e, hw] at k
        cases k
    · by_cases r : j = len
      · rw [if_neg q, if_pos r] at e
        have k := (h5 i (by omega)).2.2
        rw [e, hw] at k
        cases k
      · rw [if_neg q, if_neg r] at e
        exact h6 i j (by omega) (by omega) e
theorem QuR.pop {m M : AM} {w : Nat → Bool} {a len : Nat} {Q : Nat → Nat} (h : QuR m w a (len + 1) Q) (e1 : M.1 121 = m.1 121) (e2 : M.1 110 22 = nI (if a = 4096 then 0 else a + 1)) (e3 : M.1 110 23 = m.1 110 23) : QuR M (setW w (Q 0) false) (if a = 4096 then 0 else a + 1) len (fun i => Q (i + 1)) := by
  obtain ⟨h1, h2, h3, h4, h5, h6⟩ := h
  have k0 := h5 0 (by omega)
  have c1 := cntS_off k0.2.1 k0.2.2
  have cl := cntS_le w 4096
  refine ⟨by split <;> omega, e2, ?_, by omega, fun i hi => ?_, fun i j hi hj e => ?_⟩
  · rw [e3, h3]
    congr 1
    split <;> omega
  · have k := h5 (i + 1) (by omega)
    have p : ((if a = 4096 then 0 else a + 1) + i) % 4097 = (a + (i + 1)) % 4097 := by
      split <;> omega
    rw [p, e1]
    refine ⟨k.1, k.2.1, ?_⟩
    have ne : Q (i + 1) ≠ Q 0 := fun z => by
      have := h6 (i + 1) 0 (by omega) (by omega) z
      omega
    rw [setW_ne w false ne]
    exact k.2.2
  · have := h6 (i + 1) (j + 1) (by omega) (by omega) e
    omega
abbrev e_X11_clearStates : ME := (cX11_clearStates, (RX11, (2, (none, (0, (0, 1))))))
theorem dX11_clearStates_0 : decode cX11_clearStates 0 = .ok (.iconst 0, 1) := by decide +kernel
theorem dX11_clearStates_1 : decode cX11_clearStates 1 = .ok (.istore_n 1, 1) := by decide +kernel
theorem dX11_clearStates_2 : decode cX11_clearStates 2 = .ok (.iload_n 1, 1) := by decide +kernel
theorem dX11_clearStates_3 : decode cX11_clearStates 3 = .ok (.sipush 4096, 3) := by decide +kernel
theorem dX11_clearStates_6 : decode cX11_clearStates 6 = .ok (.if_icmp .ge 32, 3) := by decide +kernel
theorem dX11_clearStates_9 : decode cX11_clearStates 9 = .ok (.aload_n 0, 1) := by decide +kernel
theorem dX11_clearStates_10 : decode cX11_clearStates 10 = .ok (.getfield 31, 3) := by decide +kernel
theorem dX11_clearStates_13 : decode cX11_clearStates 13 = .ok (.iload_n 1, 1) := by decide +kernel
theorem dX11_clearStates_14 : decode cX11_clearStates 14 = .ok (.ldc 96, 2) := by decide +kernel
theorem dX11_clearStates_16 : decode cX11_clearStates 16 = .ok (.iastore, 1) := by decide +kernel
theorem dX11_clearStates_17 : decode cX11_clearStates 17 = .ok (.aload_n 0, 1) := by decide +kernel
theorem dX11_clearStates_18 : decode cX11_clearStates 18 = .ok (.getfield 34, 3) := by decide +kernel
theorem dX11_clearStates_21 : decode cX11_clearStates 21 = .ok (.iload_n 1, 1) := by decide +kernel
theorem dX11_clearStates_22 : decode cX11_clearStates 22 = .ok (.ldc 96, 2) := by decide +kernel
theorem dX11_clearStates_24 : decode cX11_clearStates 24 = .ok (.iastore, 1) := by decide +kernel
theorem dX11_clearStates_25 : decode cX11_clearStates 25 = .ok (.aload_n 0, 1) := by decide +kernel
theorem dX11_clearStates_26 : decode cX11_clearStates 26 = .ok (.getfield 37, 3) := by decide +kernel
theorem dX11_clearStates_29 : decode cX11_clearStates 29 = .ok (.iload_n 1, 1) := by decide +kernel
theorem dX11_clearStates_30 : decode cX11_clearStates 30 = .ok (.iconst 0, 1) := by decide +kernel
theorem dX11_clearStates_31 : decode cX11_clearStates 31 = .ok (.bastore, 1) := by decide +kernel
theorem dX11_clearStates_32 : decode cX11_clearStates 32 = .ok (.iinc 1 1, 3) := by decide +kernel
theorem dX11_clearStates_35 : decode cX11_clearStates 35 = .ok (.goto (-33), 3) := by decide +kernel
theorem dX11_clearStates_38 : decode cX11_clearStates 38 = .ok (.return_, 1) := by decide +kernel
def Sp_X11_clearStates (av : List AV) (m : AM) (Φ : Option AV → AM → Prop) : Prop := av = [vr 11 110] ∧ ∀ m2, Fm [118, 119, 120] [] m m2 → (∀ n, n < 4096 → m2.1 118 n = -1000000 ∧ m2.1 120 n = nI 0) → Φ none m2
set_option maxRecDepth 20000 in
set_option maxHeartbeats 4000000 in
theorem S_X11_clearStates : Snd yX11_clearStates e_X11_clearStates Sp_X11_clearStates := by
  refine Snd.of (by decide +kernel) rfl ?_ ?_
  · rintro av m Φ ⟨rfl, _⟩; exact Nat.le_of_ble_eq_true rfl
  rintro av m Φ ⟨rfl, h⟩ hav hty
  show B e_X11_clearStates Φ 0 [some (vr 11 110), none] [] m (0, 0)
  have loop : ∀ e k m2, 4097 ≤ k + e → k ≤ 4096 → Fm [118, 119, 120] [] m m2 → (∀ n, n < k → m2.1 118 n = -1000000 ∧ m2.1 120 n = nI 0) → B e_X11_clearStates Φ 2 [some (vr 11 110), some (vi (nI k))] [] m2 (0, 0) := by
    intro e
    induction e with
    | zero => intro k m2 z1 z2; omega
    | succ e ih =>
      intro k m2 z1 z2 hF hC
      by_cases hk : k < 4096
      · skip
        refine b_iloadN (pc := 2) 1 dX11_clearStates_2 rfl rfl ?_
        refine b_sipush (pc := 3) (nI 4096) dX11_clearStates_3 (by decide) ?_
        refine b_icmp_ge (pc := 6) 38 dX11_clearStates_6 (by decide) (fun c6 => ?_) (fun c6 => ?_)
        rotate_left -- leaf 0: at 38
        refine b_aloadN (pc := 9) 0 dX11_clearStates_9 rfl rfl ?_
        refine gf11_18 (pc := 10) 118 rfl k1060 dX11_clearStates_10 ?_
        refine b_iloadN (pc := 13) 1 dX11_clearStates_13 rfl rfl ?_
        refine b_ldc (pc := 14) k1180 dX11_clearStates_14 ?_
        refine b_iast (pc := 16) (by decide) ?_ dX11_clearStates_16 ?_
        rotate_left -- leaf 1: index at 16
        refine b_aloadN (pc := 17) 0 dX11_clearStates_17 rfl rfl ?_
        refine gf11_19 (pc := 18) 119 rfl k1061 dX11_clearStates_18 ?_
        refine b_iloadN (pc := 21) 1 dX11_clearStates_21 rfl rfl ?_
        refine b_ldc (pc := 22) k1180 dX11_clearStates_22 ?_
        refine b_iast (pc := 24) (by decide) ?_ dX11_clearStates_24 ?_
        rotate_left -- leaf 2: index at 24
        refine b_aloadN (pc := 25) 0 dX11_clearStates_25 rfl rfl ?_
        refine gf11_20 (pc := 26) 120 rfl k1062 dX11_clearStates_26 ?_
        refine b_iloadN (pc := 29) 1 dX11_clearStates_29 rfl rfl ?_
        refine b_iconst (pc := 30) (nI 0) dX11_clearStates_30 (by decide) ?_
        refine b_zast (pc := 31) (by decide) ?_ ?_ dX11_clearStates_31 ?_
        rotate_left -- leaf 3: index at 31
        rotate_left -- leaf 4: bool at 31
        refine inc1 (pc := 32) notL_r (by decide) dX11_clearStates_32 ?_
        refine b_goto (pc := 35) 2 dX11_clearStates_35 (by decide) ?_
        rotate_left -- leaf 5: at 2
        -- leaves: 0 at 38; 1 index at 16; 2 index at 24; 3 index at 31; 4 bool at 31; 5 at 2
        · rw [n_le (by omega) (by omega)] at c6; omega
        · exact n_in (by omega) (by omega)
        · exact n_in (by omega) (by omega)
        · exact n_in (by omega) (by omega)
        · exact Or.inl rfl
        · rw [n_inc, n_cl (by omega)]
          refine ih (k + 1) _ (by omega) (by omega) (((hF.ms (by decide) (by simp)).ms (by decide) (by simp)).ms (by decide) (by simp)) (fun n hn => ?_)
          rw [mset_ne _ _ _ (show 118 ≠ 120 by decide), mset_ne _ _ _ (show 118 ≠ 119 by decide), mset_at, mset_at, mset_ne _ _ _ (show 120 ≠ 119 by decide), mset_ne _ _ _ (show 120 ≠ 118 by decide)]
          by_cases q : n = k
          · rw [if_pos q, if_pos q]
            exact ⟨rfl, rfl⟩
          · rw [if_neg q, if_neg q]
            exact hC n (by omega)
      · have ek : k = 4096 := by omega
        subst ek
        refine b_iloadN (pc := 2) 1 dX11_clearStates_2 rfl rfl ?_
        refine b_sipush (pc := 3) (nI 4096) dX11_clearStates_3 (by decide) ?_
        refine b_icmp_ge (pc := 6) 38 dX11_clearStates_6 (by decide) (fun c6 => ?_) (fun c6 => ?_)
        refine b_vret (pc := 38) rfl dX11_clearStates_38 ⟨Nat.le_of_ble_eq_true rfl, Nat.le_of_ble_eq_true rfl⟩ ?_
        rotate_left -- leaf 0: return at 38
        rotate_left -- leaf 1: at 9
        -- leaves: 0 return at 38; 1 at 9
        · exact h m2 hF hC
        · rw [n_le (by omega) (by omega)] at c6; omega
  refine b_iconst (pc := 0) (nI 0) dX11_clearStates_0 (by decide) ?_
  refine siN1 (pc := 1) rfl notL_r (by decide) dX11_clearStates_1 ?_
  rotate_left -- leaf 0: at 2
  -- leaves: 0 at 2
  exact loop 4097 0 m (by omega) (by omega) (Fm.rf _ _ m) (fun n hn => absurd hn (Nat.not_lt_zero n))
theorem call_X11_clearStates {E : ME} {Φ : Option AV → AM → Prop} {pc : Nat} {L : List (Option AV)} {st : List AV} {m : AM} {a : Nat × Nat} {idx : Nat} {i : Nat} (hl : Cond.methodLink E.2.1 idx yX11_clearStates ∈ TB) (hdep : 1 + 1 ≤ E.2.2.2.2.2.2) (hroom : a.1 + 0 ≤ E.2.2.2.2.1 ∧ a.2 + 0 ≤ E.2.2.2.2.2.1) (hsr : st.length ≤ 4) (hd : decode E.1 pc = .ok (.invokevirtual idx, 3)) (hsp : Sp_X11_clearStates [vr 11 i] m (fun r m2 => B E Φ (pc + 3) L (r.toList ++ st) m2 a)) : B E Φ pc L (vr 11 i :: st) m a := b_callV S_X11_clearStates [] (RX11, TX11, 28) rfl rfl (by decide) (Or.inl hl) k1331 k57 k80 k1332 (show _ ∧ _ ∧ Option.map (fun d => d.parameters.length) (parseMethodDescriptor yX11_clearStates.desc) = some 0 from by decide +kernel) ⟨hdep, by decide⟩ hroom hsr hd hsp
