/-! THE CLASS'S COURT: what its cells hold (law at i, standing at i) of a court C -/
def LawR (m : AM) (i : Nat) (C : Nat → Nat) : Prop := m.1 i 4 = nI (C 0) ∧ m.1 i 6 = nI (C 2) ∧ m.1 i 7 = nI (C 3) ∧ m.1 i 8 = nI (C 4) ∧ (∀ r, r < C 3 → m.1 (i + 1) r = nI (C (8 + 4 * r)) ∧ m.1 (i + 2) r = nI (C (9 + 4 * r)) ∧ m.1 (i + 3) r = nI (C (10 + 4 * r))) ∧ ∀ p, p < C 4 → m.1 (i + 4) p = nI (C (40 + 2 * p))
def StkR (x : Int32) (C : Nat → Nat) : Prop := ∃ k, k < 256 ∧ x = nI k ∧ ∀ r, r < 8 → k.testBit r = decide (r < C 3 ∧ C (11 + 4 * r) = 1)
def StR (m : AM) (i : Nat) (C : Nat → Nat) : Prop := m.1 i 1 = nI (C 1) ∧ m.1 i 2 = nI (C 5) ∧ m.1 i 3 = nI (C 7) ∧ m.1 i 4 = nI (C 6) ∧ StkR (m.1 i 5) C ∧ ∀ p, p < C 4 → m.1 (i + 1) p = nI (C (41 + 2 * p))
def MadR (m : AM) (C : Nat → Nat) : Prop := ∀ f, f < 6 → m.1 28 f = nI (madeF C 0 f (C 3)) ∧ m.1 29 f = nI (madeF C 1 f (C 3))
def CacR (m : AM) (C : Nat → Nat) : Prop := ∀ s, s < 64 → m.1 30 s = -1 ∨ m.1 30 s = oI (setN C s)
/-- an open court on the bench -/
def BR (m : AM) (C : Nat → Nat) : Prop := VC C ∧ LawR m 21 C ∧ StR m 26 C ∧ MadR m C ∧ CacR m C
/-! grow -/
def gStep (C : Nat → Nat) (f g : Nat) : Nat := if g.testBit f = true then g ||| madeF C 0 f (C 3) else g
def gRnd (C : Nat → Nat) : Nat → Nat → Nat
  | 0, g => g
  | f + 1, g => gStep C f (gRnd C f g)
theorem madeF_sub {C : Nat → Nat} {d f : Nat} (hd : Clo C (C 3) d) (hf : d.testBit f = true) : sub (madeF C 0 f (C 3)) d := fun i h => by
  obtain ⟨k, hk, h1, h2, h3, h4⟩ := (madeF_bit C 0 f i (C 3)).mp h
  subst h3
  subst h4
  exact hd k hk ⟨h1, h2⟩ hf
theorem gStep_le {C : Nat → Nat} {f g d : Nat} (hd : Clo C (C 3) d) (h : sub g d) : sub (gStep C f g) d := by
  unfold gStep
  split
  · next q => exact sub_orL h (madeF_sub hd (h _ q))
  · exact h
theorem gStep_ge (C : Nat → Nat) (f g : Nat) : sub g (gStep C f g) := by
  unfold gStep
  split
  · exact sub_or
  · exact sub_rf g
theorem gRnd_le {C : Nat → Nat} {d : Nat} (hd : Clo C (C 3) d) : ∀ f g, sub g d → sub (gRnd C f g) d
  | 0, g, h => h
  | f + 1, g, h => gStep_le hd (gRnd_le hd f g h)
theorem gRnd_ge (C : Nat → Nat) : ∀ f g, sub g (gRnd C f g)
  | 0, g => sub_rf g
  | f + 1, g => sub_tr (gRnd_ge C f g) (gStep_ge C f _)
theorem gStep_lt {C : Nat → Nat} (hv : VC C) {f g : Nat} (h : g < 64) : gStep C f g < 64 := by
  unfold gStep
  split
  · exact or_lt64 h (madeF_lt hv.hv 0 f _ (Nat.le_refl _))
  · exact h
theorem gRnd_lt {C : Nat → Nat} (hv : VC C) : ∀ f g, g < 64 → gRnd C f g < 64
  | 0, g, h => h
  | f + 1, g, h => gStep_lt hv (gRnd_lt hv f g h)
theorem gRnd_fix {C : Nat → Nat} : ∀ n g, gRnd C n g = g → ∀ f, f < n → g.testBit f = true → sub (madeF C 0 f (C 3)) g
  | 0, g, _ => fun f hf => absurd hf (Nat.not_lt_zero f)
  | n + 1, g, h => by
    have h1 : gRnd C n g = g := sub_eq (by
      have := gStep_ge C n (gRnd C n g)
      rw [show gStep C n (gRnd C n g) = g from h] at this
      exact this) (gRnd_ge C n g)
    intro f hf hb
    rcases Nat.lt_or_ge f n with q | q
    · exact gRnd_fix n g h1 f q hb
    · have e : f = n := by omega
      subst e
      have h3 : gStep C f g = g := by
        have : gRnd C (f + 1) g = gStep C f (gRnd C f g) := rfl
        rw [h1] at this
        rw [← this]; exact h
      unfold gStep at h3
      rw [if_pos hb] at h3
      intro i hi
      rw [← h3, Nat.testBit_or, hi, Bool.or_true]
theorem gRnd_clo {C : Nat → Nat} (hv : VC C) {g : Nat} (h : gRnd C (C 0) g = g) : Clo C (C 3) g := fun k hk ha hb =>
  gRnd_fix _ _ h _ ((hv.2.2.2.2.2.2.2.2.1 k hk).2.1) hb _ ((madeF_bit C 0 _ _ _).mpr ⟨k, hk, ha.1, ha.2, rfl, rfl⟩)
theorem gRnd_same {C : Nat → Nat} {g : Nat} (h : Clo C (C 3) g) (n : Nat) : gRnd C n g = g := sub_eq (gRnd_le h n g (sub_rf g)) (gRnd_ge C n g)
theorem tbit_and1 (g f : Nat) (hg : g < 2147483648) (hf : f < 32) : (nI g >>> (nI f &&& 31)) &&& nI 1 = nI (if g.testBit f = true then 1 else 0) := by
  rw [n_shr hg hf, n_and, n_bit1]
abbrev e_X2_grow : ME := (cX2_grow, (RX2, (6, ((some .int), (0, (0, 1))))))
theorem dX2_grow_0 : decode cX2_grow 0 = .ok (.iload_n 1, 1) := by decide +kernel
theorem dX2_grow_1 : decode cX2_grow 1 = .ok (.istore_n 2, 1) := by decide +kernel
theorem dX2_grow_2 : decode cX2_grow 2 = .ok (.iconst (-1), 1) := by decide +kernel
theorem dX2_grow_3 : decode cX2_grow 3 = .ok (.istore_n 3, 1) := by decide +kernel
theorem dX2_grow_4 : decode cX2_grow 4 = .ok (.iconst 0, 1) := by decide +kernel
theorem dX2_grow_5 : decode cX2_grow 5 = .ok (.istore 4, 2) := by decide +kernel
theorem dX2_grow_7 : decode cX2_grow 7 = .ok (.iload 4, 2) := by decide +kernel
theorem dX2_grow_9 : decode cX2_grow 9 = .ok (.bipush 6, 2) := by decide +kernel
theorem dX2_grow_11 : decode cX2_grow 11 = .ok (.if_icmp .gt 61, 3) := by decide +kernel
theorem dX2_grow_14 : decode cX2_grow 14 = .ok (.iload_n 2, 1) := by decide +kernel
theorem dX2_grow_15 : decode cX2_grow 15 = .ok (.iload_n 3, 1) := by decide +kernel
theorem dX2_grow_16 : decode cX2_grow 16 = .ok (.if_icmp .eq 56, 3) := by decide +kernel
theorem dX2_grow_19 : decode cX2_grow 19 = .ok (.iload_n 2, 1) := by decide +kernel
theorem dX2_grow_20 : decode cX2_grow 20 = .ok (.istore_n 3, 1) := by decide +kernel
theorem dX2_grow_21 : decode cX2_grow 21 = .ok (.iconst 0, 1) := by decide +kernel
theorem dX2_grow_22 : decode cX2_grow 22 = .ok (.istore 5, 2) := by decide +kernel
theorem dX2_grow_24 : decode cX2_grow 24 = .ok (.iload 5, 2) := by decide +kernel
theorem dX2_grow_26 : decode cX2_grow 26 = .ok (.aload_n 0, 1) := by decide +kernel
theorem dX2_grow_27 : decode cX2_grow 27 = .ok (.getfield 12, 3) := by decide +kernel
theorem dX2_grow_30 : decode cX2_grow 30 = .ok (.getfield 35, 3) := by decide +kernel
theorem dX2_grow_33 : decode cX2_grow 33 = .ok (.if_icmp .ge 33, 3) := by decide +kernel
theorem dX2_grow_36 : decode cX2_grow 36 = .ok (.iload_n 2, 1) := by decide +kernel
theorem dX2_grow_37 : decode cX2_grow 37 = .ok (.iload_n 2, 1) := by decide +kernel
theorem dX2_grow_38 : decode cX2_grow 38 = .ok (.iload 5, 2) := by decide +kernel
theorem dX2_grow_40 : decode cX2_grow 40 = .ok (.ishr, 1) := by decide +kernel
theorem dX2_grow_41 : decode cX2_grow 41 = .ok (.iconst 1, 1) := by decide +kernel
theorem dX2_grow_42 : decode cX2_grow 42 = .ok (.iand, 1) := by decide +kernel
theorem dX2_grow_43 : decode cX2_grow 43 = .ok (.iconst 1, 1) := by decide +kernel
theorem dX2_grow_44 : decode cX2_grow 44 = .ok (.if_icmp .ne 13, 3) := by decide +kernel
theorem dX2_grow_47 : decode cX2_grow 47 = .ok (.aload_n 0, 1) := by decide +kernel
theorem dX2_grow_48 : decode cX2_grow 48 = .ok (.getfield 25, 3) := by decide +kernel
theorem dX2_grow_51 : decode cX2_grow 51 = .ok (.iload 5, 2) := by decide +kernel
theorem dX2_grow_53 : decode cX2_grow 53 = .ok (.iaload, 1) := by decide +kernel
theorem dX2_grow_54 : decode cX2_grow 54 = .ok (.goto 4, 3) := by decide +kernel
theorem dX2_grow_57 : decode cX2_grow 57 = .ok (.iconst 0, 1) := by decide +kernel
theorem dX2_grow_58 : decode cX2_grow 58 = .ok (.ior, 1) := by decide +kernel
theorem dX2_grow_59 : decode cX2_grow 59 = .ok (.istore_n 2, 1) := by decide +kernel
theorem dX2_grow_60 : decode cX2_grow 60 = .ok (.iinc 5 1, 3) := by decide +kernel
theorem dX2_grow_63 : decode cX2_grow 63 = .ok (.goto (-39), 3) := by decide +kernel
theorem dX2_grow_66 : decode cX2_grow 66 = .ok (.iinc 4 1, 3) := by decide +kernel
theorem dX2_grow_69 : decode cX2_grow 69 = .ok (.goto (-62), 3) := by decide +kernel
theorem dX2_grow_72 : decode cX2_grow 72 = .ok (.iload_n 2, 1) := by decide +kernel
theorem dX2_grow_73 : decode cX2_grow 73 = .ok (.ireturn, 1) := by decide +kernel
def Sp_X2_grow (av : List AV) (m : AM) (Φ : Option AV → AM → Prop) : Prop := ∃ s, av = [vr 2 20, vi s] ∧ ∃ C k, BR m C ∧ s = nI k ∧ k < 64 ∧ Φ (some (vi (nI (closedN C k)))) m
set_option maxRecDepth 20000 in
set_option maxHeartbeats 4000000 in
theorem S_X2_grow : Snd yX2_grow e_X2_grow Sp_X2_grow := by
  refine Snd.of (by decide +kernel) rfl ?_ ?_
  · rintro av m Φ ⟨s, rfl, _⟩; exact Nat.le_of_ble_eq_true rfl
  rintro av m Φ ⟨s, rfl, C, k, hB, rfl, hk, h⟩ hav hty
  show B e_X2_grow Φ 0 [some (vr 2 20), some (vi (nI k)), none, none, none, none] [] m (0, 0)
  obtain ⟨hv, hL, hS, hM, hC⟩ := hB
  have hf0 : C 0 ≤ 6 := hv.1.2
  have outer : ∀ n t g x3 o5, 8 ≤ t + n → t ≤ 7 → g < 64 → sub k g → (∀ d, sub k d → Clo C (C 3) d → sub g d) → (Clo C (C 3) g ∨ t ≤ pc6 g) → (nI g = x3 → Clo C (C 3) g) → B e_X2_grow Φ 7 [some (vr 2 20), some (vi (nI k)), some (vi (nI g)), some (vi x3), some (vi (nI t)), o5] [] m (0, 0) := by
    intro n
    induction n with
    | zero => intro t g x3 o5 h1 h2; omega
    | succ n ih =>
      intro t g x3 o5 h1 h2 h3 h4 h5 h6 h7
      have done : Clo C (C 3) g → Φ (some (vi (nI g))) m := fun e => by
        rw [closedN_uni hv.hv hk h4 e h5]; exact h
      have inner : t ≤ 6 → ∀ n f, C 0 + 1 ≤ f + n → f ≤ C 0 → B e_X2_grow Φ 24 [some (vr 2 20), some (vi (nI k)), some (vi (nI (gRnd C f g))), some (vi (nI g)), some (vi (nI t)), some (vi (nI f))] [] m (0, 0) := by
        intro ht n
        induction n with
        | zero => intro f h8 h9; omega
        | succ n ih2 =>
          intro f h8 h9
          have hg := gRnd_lt hv f g h3
          refine b_iloadG (pc := 24) 5 dX2_grow_24 rfl ?_
          refine b_aloadN (pc := 26) 0 dX2_grow_26 rfl rfl ?_
          refine gf2_0 (pc := 27) 21 rfl k264 dX2_grow_27 ?_
          refine gf5_4 (pc := 30) k143 dX2_grow_30 ?_
          refine b_icmp_ge (pc := 33) 66 dX2_grow_33 (by decide) (fun c33 => ?_) (fun c33 => ?_)
          refine inc4 (pc := 66) notL_i (by decide) dX2_grow_66 ?_
          refine b_goto (pc := 69) 7 dX2_grow_69 (by decide) ?_
          rotate_left -- leaf 0: at 7
          refine b_iloadN (pc := 36) 2 dX2_grow_36 rfl rfl ?_
          refine b_iloadN (pc := 37) 2 dX2_grow_37 rfl rfl ?_
          refine b_iloadG (pc := 38) 5 dX2_grow_38 rfl ?_
          refine b_ishr (pc := 40) dX2_grow_40 ?_
          refine b_iconst (pc := 41) (nI 1) dX2_grow_41 (by decide) ?_
          refine b_iand (pc := 42) dX2_grow_42 ?_
          refine b_iconst (pc := 43) (nI 1) dX2_grow_43 (by decide) ?_
          refine b_icmp_ne (pc := 44) 57 dX2_grow_44 (by decide) (fun c44 => ?_) (fun c44 => ?_)
          refine b_iconst (pc := 57) (nI 0) dX2_grow_57 (by decide) ?_
          refine b_ior (pc := 58) dX2_grow_58 ?_
          refine siN2 (pc := 59) rfl notL_i (by decide) dX2_grow_59 ?_
          refine inc5 (pc := 60) notL_i (by decide) dX2_grow_60 ?_
          refine b_goto (pc := 63) 24 dX2_grow_63 (by decide) ?_
          rotate_left -- leaf 1: at 24
          refine b_aloadN (pc := 47) 0 dX2_grow_47 rfl rfl ?_
          refine gf2_2 (pc := 48) 28 rfl k276 dX2_grow_48 ?_
          refine b_iloadG (pc := 51) 5 dX2_grow_51 rfl ?_
          refine b_iald (pc := 53) (by decide) ?_ dX2_grow_53 ?_
          rotate_left -- leaf 2: index at 53
          refine b_goto (pc := 54) 58 dX2_grow_54 (by decide) ?_
          refine b_ior (pc := 58) dX2_grow_58 ?_
          refine siN2 (pc := 59) rfl notL_i (by decide) dX2_grow_59 ?_
          refine inc5 (pc := 60) notL_i (by decide) dX2_grow_60 ?_
          refine b_goto (pc := 63) 24 dX2_grow_63 (by decide) ?_
          rotate_left -- leaf 3: at 24
          -- leaves: 0 at 7; 1 at 24; 2 index at 53; 3 at 24
          · rw [hL.1, n_le (by omega) (by omega)] at c33
            have e : f = C 0 := by omega
            subst e
            rw [n_inc]
            refine ih (t + 1) (gRnd C (C 0) g) (nI g) _ (by omega) (by omega) hg (sub_tr h4 (gRnd_ge C _ g)) (fun d q1 q2 => gRnd_le q2 _ _ (h5 d q1 q2)) ?_ ?_
            · by_cases e : gRnd C (C 0) g = g
              · left; rw [e]; exact gRnd_clo hv e
              · rcases h6 with h6 | h6
                · exact absurd (gRnd_same h6 _) e
                · right
                  have := pc6_lt h3 hg (gRnd_ge C (C 0) g) (Ne.symm e)
                  omega
            · intro e
              rw [n_eq (by omega) (by omega)] at e
              rw [e]; exact gRnd_clo hv e
          · rw [hL.1, n_le (by omega) (by omega)] at c33
            rw [tbit_and1 _ _ (by omega) (by omega)] at c44
            have e : gRnd C (f + 1) g = gRnd C f g := by
              show gStep C f (gRnd C f g) = _
              unfold gStep
              rw [if_neg]
              intro q
              rw [if_pos q] at c44
              exact c44 rfl
            rw [n_or, Nat.or_zero, n_inc]
            have h10 := ih2 (f + 1) (by omega) (by omega)
            rw [e] at h10
            exact h10
          · rw [hL.1, n_le (by omega) (by omega)] at c33
            exact n_in (by omega) (by omega)
          · rw [hL.1, n_le (by omega) (by omega)] at c33
            rw [tbit_and1 _ _ (by omega) (by omega)] at c44
            have q : (gRnd C f g).testBit f = true := by
              by_cases q : (gRnd C f g).testBit f = true
              · exact q
              · rw [if_neg q] at c44
                exact absurd c44 (by decide)
            have e : gRnd C (f + 1) g = gRnd C f g ||| madeF C 0 f (C 3) := by
              show gStep C f (gRnd C f g) = _
              unfold gStep
              rw [if_pos q]
            rw [n_cl (by omega), (hM f (by omega)).1, n_or, n_inc, ← e]
            exact ih2 (f + 1) (by omega) (by omega)
      refine b_iloadG (pc := 7) 4 dX2_grow_7 rfl ?_
      refine b_bipush (pc := 9) (nI 6) dX2_grow_9 (by decide) ?_
      refine b_icmp_gt (pc := 11) 72 dX2_grow_11 (by decide) (fun c11 => ?_) (fun c11 => ?_)
      refine b_iloadN (pc := 72) 2 dX2_grow_72 rfl rfl ?_
      refine b_iret (pc := 73) rfl dX2_grow_73 ⟨Nat.le_of_ble_eq_true rfl, Nat.le_of_ble_eq_true rfl⟩ ?_
      rotate_left -- leaf 0: return at 73
      refine b_iloadN (pc := 14) 2 dX2_grow_14 rfl rfl ?_
      refine b_iloadN (pc := 15) 3 dX2_grow_15 rfl rfl ?_
      refine b_icmp_eq (pc := 16) 72 dX2_grow_16 (by decide) (fun c16 => ?_) (fun c16 => ?_)
      refine b_iloadN (pc := 72) 2 dX2_grow_72 rfl rfl ?_
      refine b_iret (pc := 73) rfl dX2_grow_73 ⟨Nat.le_of_ble_eq_true rfl, Nat.le_of_ble_eq_true rfl⟩ ?_
      rotate_left -- leaf 1: return at 73
      refine b_iloadN (pc := 19) 2 dX2_grow_19 rfl rfl ?_
      refine siN3 (pc := 20) rfl notL_i (by decide) dX2_grow_20 ?_
      refine b_iconst (pc := 21) (nI 0) dX2_grow_21 (by decide) ?_
      refine siG5 (pc := 22) notL_i (by decide) dX2_grow_22 ?_
      rotate_left -- leaf 2: at 24
      -- leaves: 0 return at 73; 1 return at 73; 2 at 24
      · rw [n_lt (by omega) (by omega)] at c11
        refine done ?_
        rcases h6 with h6 | h6
        · exact h6
        · have := pc6_le g h3
          omega
      · exact done (h7 c16)
      · rw [n_lt (by omega) (by omega)] at c11
        exact inner (by omega) (C 0 + 1) 0 (by omega) (by omega)
  refine b_iloadN (pc := 0) 1 dX2_grow_0 rfl rfl ?_
  refine siN2 (pc := 1) rfl notL_i (by decide) dX2_grow_1 ?_
  refine b_iconst (pc := 2) (-1) dX2_grow_2 (by decide) ?_
  refine siN3 (pc := 3) rfl notL_i (by decide) dX2_grow_3 ?_
  refine b_iconst (pc := 4) (nI 0) dX2_grow_4 (by decide) ?_
  refine siG4 (pc := 5) notL_i (by decide) dX2_grow_5 ?_
  rotate_left -- leaf 0: at 7
  -- leaves: 0 at 7
  exact outer 8 0 k (-1) none (by omega) (by omega) hk (sub_rf k) (fun d q _ => q) (Or.inr (Nat.zero_le _)) (fun e => absurd e (n_ne_m1 (by omega)))
theorem call_X2_grow {E : ME} {Φ : Option AV → AM → Prop} {pc : Nat} {L : List (Option AV)} {st : List AV} {m : AM} {a : Nat × Nat} {idx : Nat} {x0 : AV} {i : Nat} (hl : Cond.methodLink E.2.1 idx yX2_grow ∈ TB) (hdep : 1 + 1 ≤ E.2.2.2.2.2.2) (hroom : a.1 + 0 ≤ E.2.2.2.2.1 ∧ a.2 + 0 ≤ E.2.2.2.2.2.1) (hsr : st.length ≤ 4) (hd : decode E.1 pc = .ok (.invokevirtual idx, 3)) (hsp : Sp_X2_grow [vr 2 i, x0] m (fun r m2 => B E Φ (pc + 3) L (r.toList ++ st) m2 a)) : B E Φ pc L (x0 :: vr 2 i :: st) m a := b_callV S_X2_grow [x0] (RX2, TX2, 5) rfl rfl (by decide) (Or.inl hl) k681 k13 k73 k682 (show _ ∧ _ ∧ Option.map (fun d => d.parameters.length) (parseMethodDescriptor yX2_grow.desc) = some 1 from by decide +kernel) ⟨hdep, by decide⟩ hroom hsr hd hsp
