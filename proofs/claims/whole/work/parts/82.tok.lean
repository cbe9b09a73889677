/-! the tape: what stands at a place of it; the class's steps -/
def TapC (m : AM) (T : Nat → Nat) (n : Nat) : Prop := m.1 13 2 = nI n ∧ n ≤ 120 ∧ ∀ k, k < n → m.1 19 k = nI (T k) ∧ T k < 256
abbrev dgP (T : Nat → Nat) (n p : Nat) : Prop := p < n ∧ 48 ≤ T p ∧ T p ≤ 57
def endF (T : Nat → Nat) (n : Nat) : Nat → Nat → Nat
  | 0, p => p
  | e + 1, p => if dgP T n p then endF T n e (p + 1) else p
def endT (T : Nat → Nat) (n p : Nat) : Nat := endF T n 121 p
theorem endF_is {T : Nat → Nat} {n k : Nat} (hk : ¬ dgP T n k) : ∀ e p, p ≤ k → k < p + e → (∀ j, p ≤ j → j < k → dgP T n j) → endF T n e p = k
  | 0, p, h1, h2, h3 => by omega
  | e + 1, p, h1, h2, h3 => by
    unfold endF
    by_cases q : p = k
    · subst q
      rw [if_neg hk]
    · rw [if_pos (h3 p (Nat.le_refl _) (by omega))]
      exact endF_is hk e (p + 1) (by omega) (by omega) (fun j a b => h3 j (by omega) b)
theorem endT_is {T : Nat → Nat} {n p k : Nat} (hn : n ≤ 120) (h1 : p ≤ k) (h2 : k ≤ n) (hk : ¬ dgP T n k) (h3 : ∀ j, p ≤ j → j < k → dgP T n j) : endT T n p = k := endF_is hk 121 p h1 (by omega) h3
/-- what j figures from p on come to -/
def pvI (T : Nat → Nat) (p : Nat) : Nat → Int32
  | 0 => nI 0
  | 1 => nI (T p - 48)
  | 2 => nI ((T p - 48) * 10 + T (p + 1) - 48)
  | _ => -1
def symO (T : Nat → Nat) (n p : Nat) : Option Nat := if p < n ∧ ((97 ≤ T p ∧ T p ≤ 122) ∨ T p = 44 ∨ T p = 59) then some (T p) else none
def numO (T : Nat → Nat) (n p : Nat) : Option Nat := if dgP T n p ∧ endT T n p ≤ p + 2 then (if endT T n p = p + 1 then some (T p - 48) else some ((T p - 48) * 10 + T (p + 1) - 48)) else none
def bhdN (T : Nat → Nat) (n p : Nat) : Nat := if dgP T n p then endT T n p else if p < n then p + 1 else p
def mI (o : Option Nat) : Int32 := match o with
  | none => -1
  | some v => nI v
theorem endT_ok {T : Nat → Nat} {n : Nat} (hn : n ≤ 120) {p : Nat} (h : dgP T n p) : p + 1 ≤ endT T n p ∧ endT T n p ≤ n ∧ (∀ j, p ≤ j → j < endT T n p → dgP T n j) ∧ ¬ dgP T n (endT T n p) := by
  have go : ∀ e k, n ≤ k + e → p + 1 ≤ k → k ≤ n → (∀ j, p ≤ j → j < k → dgP T n j) → ∃ k, p + 1 ≤ k ∧ k ≤ n ∧ (∀ j, p ≤ j → j < k → dgP T n j) ∧ ¬ dgP T n k := by
    intro e
    induction e with
    | zero =>
      intro k a b c d
      exact ⟨k, b, c, d, fun z => by have := z.1; omega⟩
    | succ e ih =>
      intro k a b c d
      by_cases q : dgP T n k
      · exact ih (k + 1) (by omega) (by omega) q.1 (fun j a b => by
          by_cases z : j = k
          · rw [z]; exact q
          · exact d j a (by omega))
      · exact ⟨k, b, c, d, q⟩
  obtain ⟨k, a, b, c, d⟩ := go n (p + 1) (by omega) (Nat.le_refl _) h.1 (fun j a b => by rw [show j = p by omega]; exact h)
  rw [endT_is hn (by omega) b d c]
  exact ⟨a, b, c, d⟩
theorem numO_pv {T : Nat → Nat} {n p : Nat} (hn : n ≤ 120) (h : dgP T n p) : mI (numO T n p) = pvI T p (endT T n p - p) := by
  have k := endT_ok hn h
  unfold numO
  by_cases q : endT T n p ≤ p + 2
  · rw [if_pos ⟨h, q⟩]
    by_cases r : endT T n p = p + 1
    · rw [if_pos r, show endT T n p - p = 1 by omega]
      rfl
    · rw [if_neg r, show endT T n p - p = 2 by omega]
      rfl
  · rw [if_neg (fun z => q z.2)]
    obtain ⟨j, hj⟩ : ∃ j, endT T n p - p = j + 3 := ⟨endT T n p - p - 3, by omega⟩
    rw [hj]
    rfl
theorem TapC.ms {m : AM} {T : Nat → Nat} {n : Nat} (h : TapC m T n) {k : Nat} {v : Int32} (hk : k ≠ 2) : TapC (mset m 13 k v) T n := by
  unfold TapC
  rw [mset_at, if_neg (fun z => hk z.symm), mset_ne _ _ _ (show 19 ≠ 13 by decide)]
  exact h
abbrev e_X9_stepOverFigures : ME := (cX9_stepOverFigures, (RX9, (3, (none, (0, (0, 1))))))
theorem dX9_stepOverFigures_0 : decode cX9_stepOverFigures 0 = .ok (.aload_n 0, 1) := by decide +kernel
theorem dX9_stepOverFigures_1 : decode cX9_stepOverFigures 1 = .ok (.getfield 100, 3) := by decide +kernel
theorem dX9_stepOverFigures_4 : decode cX9_stepOverFigures 4 = .ok (.istore_n 1, 1) := by decide +kernel
theorem dX9_stepOverFigures_5 : decode cX9_stepOverFigures 5 = .ok (.iconst 0, 1) := by decide +kernel
theorem dX9_stepOverFigures_6 : decode cX9_stepOverFigures 6 = .ok (.istore_n 2, 1) := by decide +kernel
theorem dX9_stepOverFigures_7 : decode cX9_stepOverFigures 7 = .ok (.iload_n 1, 1) := by decide +kernel
theorem dX9_stepOverFigures_8 : decode cX9_stepOverFigures 8 = .ok (.aload_n 0, 1) := by decide +kernel
theorem dX9_stepOverFigures_9 : decode cX9_stepOverFigures 9 = .ok (.getfield 22, 3) := by decide +kernel
theorem dX9_stepOverFigures_12 : decode cX9_stepOverFigures 12 = .ok (.if_icmp .ge 60, 3) := by decide +kernel
theorem dX9_stepOverFigures_15 : decode cX9_stepOverFigures 15 = .ok (.aload_n 0, 1) := by decide +kernel
theorem dX9_stepOverFigures_16 : decode cX9_stepOverFigures 16 = .ok (.getfield 18, 3) := by decide +kernel
theorem dX9_stepOverFigures_19 : decode cX9_stepOverFigures 19 = .ok (.iload_n 1, 1) := by decide +kernel
theorem dX9_stepOverFigures_20 : decode cX9_stepOverFigures 20 = .ok (.iaload, 1) := by decide +kernel
theorem dX9_stepOverFigures_21 : decode cX9_stepOverFigures 21 = .ok (.bipush 48, 2) := by decide +kernel
theorem dX9_stepOverFigures_23 : decode cX9_stepOverFigures 23 = .ok (.if_icmp .lt 49, 3) := by decide +kernel
theorem dX9_stepOverFigures_26 : decode cX9_stepOverFigures 26 = .ok (.aload_n 0, 1) := by decide +kernel
theorem dX9_stepOverFigures_27 : decode cX9_stepOverFigures 27 = .ok (.getfield 18, 3) := by decide +kernel
theorem dX9_stepOverFigures_30 : decode cX9_stepOverFigures 30 = .ok (.iload_n 1, 1) := by decide +kernel
theorem dX9_stepOverFigures_31 : decode cX9_stepOverFigures 31 = .ok (.iaload, 1) := by decide +kernel
theorem dX9_stepOverFigures_32 : decode cX9_stepOverFigures 32 = .ok (.bipush 57, 2) := by decide +kernel
theorem dX9_stepOverFigures_34 : decode cX9_stepOverFigures 34 = .ok (.if_icmp .gt 38, 3) := by decide +kernel
theorem dX9_stepOverFigures_37 : decode cX9_stepOverFigures 37 = .ok (.iload_n 1, 1) := by decide +kernel
theorem dX9_stepOverFigures_38 : decode cX9_stepOverFigures 38 = .ok (.aload_n 0, 1) := by decide +kernel
theorem dX9_stepOverFigures_39 : decode cX9_stepOverFigures 39 = .ok (.getfield 100, 3) := by decide +kernel
theorem dX9_stepOverFigures_42 : decode cX9_stepOverFigures 42 = .ok (.isub, 1) := by decide +kernel
theorem dX9_stepOverFigures_43 : decode cX9_stepOverFigures 43 = .ok (.iconst 2, 1) := by decide +kernel
theorem dX9_stepOverFigures_44 : decode cX9_stepOverFigures 44 = .ok (.if_icmp .ge 20, 3) := by decide +kernel
theorem dX9_stepOverFigures_47 : decode cX9_stepOverFigures 47 = .ok (.iload_n 2, 1) := by decide +kernel
theorem dX9_stepOverFigures_48 : decode cX9_stepOverFigures 48 = .ok (.bipush 10, 2) := by decide +kernel
theorem dX9_stepOverFigures_50 : decode cX9_stepOverFigures 50 = .ok (.imul, 1) := by decide +kernel
theorem dX9_stepOverFigures_51 : decode cX9_stepOverFigures 51 = .ok (.aload_n 0, 1) := by decide +kernel
theorem dX9_stepOverFigures_52 : decode cX9_stepOverFigures 52 = .ok (.getfield 18, 3) := by decide +kernel
theorem dX9_stepOverFigures_55 : decode cX9_stepOverFigures 55 = .ok (.iload_n 1, 1) := by decide +kernel
theorem dX9_stepOverFigures_56 : decode cX9_stepOverFigures 56 = .ok (.iaload, 1) := by decide +kernel
theorem dX9_stepOverFigures_57 : decode cX9_stepOverFigures 57 = .ok (.iadd, 1) := by decide +kernel
theorem dX9_stepOverFigures_58 : decode cX9_stepOverFigures 58 = .ok (.bipush 48, 2) := by decide +kernel
theorem dX9_stepOverFigures_60 : decode cX9_stepOverFigures 60 = .ok (.isub, 1) := by decide +kernel
theorem dX9_stepOverFigures_61 : decode cX9_stepOverFigures 61 = .ok (.goto 4, 3) := by decide +kernel
theorem dX9_stepOverFigures_64 : decode cX9_stepOverFigures 64 = .ok (.iconst (-1), 1) := by decide +kernel
theorem dX9_stepOverFigures_65 : decode cX9_stepOverFigures 65 = .ok (.istore_n 2, 1) := by decide +kernel
theorem dX9_stepOverFigures_66 : decode cX9_stepOverFigures 66 = .ok (.iinc 1 1, 3) := by decide +kernel
theorem dX9_stepOverFigures_69 : decode cX9_stepOverFigures 69 = .ok (.goto (-62), 3) := by decide +kernel
theorem dX9_stepOverFigures_72 : decode cX9_stepOverFigures 72 = .ok (.aload_n 0, 1) := by decide +kernel
theorem dX9_stepOverFigures_73 : decode cX9_stepOverFigures 73 = .ok (.iload_n 1, 1) := by decide +kernel
theorem dX9_stepOverFigures_74 : decode cX9_stepOverFigures 74 = .ok (.putfield 36, 3) := by decide +kernel
theorem dX9_stepOverFigures_77 : decode cX9_stepOverFigures 77 = .ok (.aload_n 0, 1) := by decide +kernel
theorem dX9_stepOverFigures_78 : decode cX9_stepOverFigures 78 = .ok (.iload_n 2, 1) := by decide +kernel
theorem dX9_stepOverFigures_79 : decode cX9_stepOverFigures 79 = .ok (.putfield 57, 3) := by decide +kernel
theorem dX9_stepOverFigures_82 : decode cX9_stepOverFigures 82 = .ok (.return_, 1) := by decide +kernel
def Sp_X9_stepOverFigures (av : List AV) (m : AM) (Φ : Option AV → AM → Prop) : Prop := av = [vr 9 13] ∧ ∃ T n p, TapC m T n ∧ m.1 13 3 = nI p ∧ dgP T n p ∧ Φ none (mset (mset m 13 4 (nI (endT T n p))) 13 6 (pvI T p (endT T n p - p)))
set_option maxRecDepth 20000 in
set_option maxHeartbeats 4000000 in
theorem S_X9_stepOverFigures : Snd yX9_stepOverFigures e_X9_stepOverFigures Sp_X9_stepOverFigures := by
  refine Snd.of (by decide +kernel) rfl ?_ ?_
  · rintro av m Φ ⟨rfl, _⟩; exact Nat.le_of_ble_eq_true rfl
  rintro av m Φ ⟨rfl, T, n, p, hT, h3, hp, h⟩ hav hty
  show B e_X9_stepOverFigures Φ 0 [some (vr 9 13), none, none] [] m (0, 0)
  have hn := hT.2.1
  have hpn := hp.1
  have loop : ∀ e k, n + 1 ≤ k + e → p ≤ k → k ≤ n → (∀ j, p ≤ j → j < k → dgP T n j) → B e_X9_stepOverFigures Φ 7 [some (vr 9 13), some (vi (nI k)), some (vi (pvI T p (k - p)))] [] m (0, 0) := by
    intro e
    induction e with
    | zero => intro k z1 z2 z3; omega
    | succ e ih =>
      intro k z1 z2 z3 hd
      by_cases q : dgP T n k
      · have tk := hT.2.2 k q.1
        have hd2 : ∀ j, p ≤ j → j < k + 1 → dgP T n j := fun j a b => by
          by_cases z : j = k
          · rw [z]; exact q
          · exact hd j a (by omega)
        have q1 := q.1
        have q2 := q.2
        have nx := ih (k + 1) (by omega) (by omega) (by omega) hd2
        refine b_iloadN (pc := 7) 1 dX9_stepOverFigures_7 rfl rfl ?_
        refine b_aloadN (pc := 8) 0 dX9_stepOverFigures_8 rfl rfl ?_
        refine gf9_2 (pc := 9) k186 dX9_stepOverFigures_9 ?_
        refine b_icmp_ge (pc := 12) 72 dX9_stepOverFigures_12 (by decide) (fun c12 => ?_) (fun c12 => ?_)
        rotate_left -- leaf 0: at 72
        refine b_aloadN (pc := 15) 0 dX9_stepOverFigures_15 rfl rfl ?_
        refine gf9_1 (pc := 16) 19 rfl k185 dX9_stepOverFigures_16 ?_
        refine b_iloadN (pc := 19) 1 dX9_stepOverFigures_19 rfl rfl ?_
        refine b_iald (pc := 20) (by decide) ?_ dX9_stepOverFigures_20 ?_
        rotate_left -- leaf 1: index at 20
        refine b_bipush (pc := 21) (nI 48) dX9_stepOverFigures_21 (by decide) ?_
        refine b_icmp_lt (pc := 23) 72 dX9_stepOverFigures_23 (by decide) (fun c23 => ?_) (fun c23 => ?_)
        rotate_left -- leaf 2: at 72
        refine b_aloadN (pc := 26) 0 dX9_stepOverFigures_26 rfl rfl ?_
        refine gf9_1 (pc := 27) 19 rfl k185 dX9_stepOverFigures_27 ?_
        refine b_iloadN (pc := 30) 1 dX9_stepOverFigures_30 rfl rfl ?_
        refine b_iald (pc := 31) (by decide) ?_ dX9_stepOverFigures_31 ?_
        rotate_left -- leaf 3: index at 31
        refine b_bipush (pc := 32) (nI 57) dX9_stepOverFigures_32 (by decide) ?_
        refine b_icmp_gt (pc := 34) 72 dX9_stepOverFigures_34 (by decide) (fun c34 => ?_) (fun c34 => ?_)
        rotate_left -- leaf 4: at 72
        refine b_iloadN (pc := 37) 1 dX9_stepOverFigures_37 rfl rfl ?_
        refine b_aloadN (pc := 38) 0 dX9_stepOverFigures_38 rfl rfl ?_
        refine gf9_3 (pc := 39) k188 dX9_stepOverFigures_39 ?_
        refine b_isub (pc := 42) dX9_stepOverFigures_42 ?_
        refine b_iconst (pc := 43) (nI 2) dX9_stepOverFigures_43 (by decide) ?_
        refine b_icmp_ge (pc := 44) 64 dX9_stepOverFigures_44 (by decide) (fun c44 => ?_) (fun c44 => ?_)
        refine b_iconst (pc := 64) (-1) dX9_stepOverFigures_64 (by decide) ?_
        refine siN2 (pc := 65) rfl notL_i (by decide) dX9_stepOverFigures_65 ?_
        refine inc1 (pc := 66) notL_r (by decide) dX9_stepOverFigures_66 ?_
        refine b_goto (pc := 69) 7 dX9_stepOverFigures_69 (by decide) ?_
        rotate_left -- leaf 5: at 7
        refine b_iloadN (pc := 47) 2 dX9_stepOverFigures_47 rfl rfl ?_
        refine b_bipush (pc := 48) (nI 10) dX9_stepOverFigures_48 (by decide) ?_
        refine b_imul (pc := 50) dX9_stepOverFigures_50 ?_
        refine b_aloadN (pc := 51) 0 dX9_stepOverFigures_51 rfl rfl ?_
        refine gf9_1 (pc := 52) 19 rfl k185 dX9_stepOverFigures_52 ?_
        refine b_iloadN (pc := 55) 1 dX9_stepOverFigures_55 rfl rfl ?_
        refine b_iald (pc := 56) (by decide) ?_ dX9_stepOverFigures_56 ?_
        rotate_left -- leaf 6: index at 56
        refine b_iadd (pc := 57) dX9_stepOverFigures_57 ?_
        refine b_bipush (pc := 58) (nI 48) dX9_stepOverFigures_58 (by decide) ?_
        refine b_isub (pc := 60) dX9_stepOverFigures_60 ?_
        refine b_goto (pc := 61) 65 dX9_stepOverFigures_61 (by decide) ?_
        refine siN2 (pc := 65) rfl notL_i (by decide) dX9_stepOverFigures_65 ?_
        refine inc1 (pc := 66) notL_r (by decide) dX9_stepOverFigures_66 ?_
        refine b_goto (pc := 69) 7 dX9_stepOverFigures_69 (by decide) ?_
        rotate_left -- leaf 7: at 7
        -- leaves: 0 at 72; 1 index at 20; 2 at 72; 3 index at 31; 4 at 72; 5 at 7; 6 index at 56; 7 at 7
        · rw [hT.1, n_le (by omega) (by omega)] at c12; omega
        · exact n_in (by omega) (by omega)
        · rw [n_cl (by omega), tk.1, n_lt (by omega) (by omega)] at c23; omega
        · exact n_in (by omega) (by omega)
        · rw [n_cl (by omega), tk.1, n_lt (by omega) (by omega)] at c34; omega
        · rw [h3, n_sub z2, n_le (by omega) (by omega)] at c44
          obtain ⟨j, hj⟩ : ∃ j, k + 1 - p = j + 3 := ⟨k + 1 - p - 3, by omega⟩
          rw [hj] at nx
          rw [n_inc]
          exact nx
        · exact n_in (by omega) (by omega)
        · rw [h3, n_sub z2, n_le (by omega) (by omega)] at c44
          rw [n_inc, n_cl (by omega), tk.1]
          rcases (by omega : k = p ∨ k = p + 1) with z | z
          · subst z
            rw [show k + 1 - k = 1 by omega] at nx
            rw [Nat.sub_self, show pvI T k 0 = nI 0 from rfl, n_mul, n_add, n_sub (by omega), Nat.zero_mul, Nat.zero_add]
            exact nx
          · subst z
            rw [show p + 1 + 1 - p = 2 by omega] at nx
            have tp := (hd p (by omega) (by omega)).2
            rw [show p + 1 - p = 1 by omega, show pvI T p 1 = nI (T p - 48) from rfl, n_mul, n_add, n_sub (by omega)]
            exact nx
      · have ek := endT_is hn z2 z3 q hd
        rw [ek] at h
        have bad : ¬ nI n ≤ nI k → ¬ m.1 19 (nI k).toNatClampNeg < nI 48 → ¬ nI 57 < m.1 19 (nI k).toNatClampNeg → False := by
          intro a b c
          rw [n_le (by omega) (by omega)] at a
          have tk := hT.2.2 k (by omega)
          rw [n_cl (by omega), tk.1, n_lt (by omega) (by omega)] at b c
          exact q ⟨by omega, by omega, by omega⟩
        refine b_iloadN (pc := 7) 1 dX9_stepOverFigures_7 rfl rfl ?_
        refine b_aloadN (pc := 8) 0 dX9_stepOverFigures_8 rfl rfl ?_
        refine gf9_2 (pc := 9) k186 dX9_stepOverFigures_9 ?_
        refine b_icmp_ge (pc := 12) 72 dX9_stepOverFigures_12 (by decide) (fun c12 => ?_) (fun c12 => ?_)
        refine b_aloadN (pc := 72) 0 dX9_stepOverFigures_72 rfl rfl ?_
        refine b_iloadN (pc := 73) 1 dX9_stepOverFigures_73 rfl rfl ?_
        refine pf9_4 (pc := 74) k189 dX9_stepOverFigures_74 ?_
        refine b_aloadN (pc := 77) 0 dX9_stepOverFigures_77 rfl rfl ?_
        refine b_iloadN (pc := 78) 2 dX9_stepOverFigures_78 rfl rfl ?_
        refine pf9_6 (pc := 79) k191 dX9_stepOverFigures_79 ?_
        refine b_vret (pc := 82) rfl dX9_stepOverFigures_82 ⟨Nat.le_of_ble_eq_true rfl, Nat.le_of_ble_eq_true rfl⟩ ?_
        rotate_left -- leaf 0: return at 82
        refine b_aloadN (pc := 15) 0 dX9_stepOverFigures_15 rfl rfl ?_
        refine gf9_1 (pc := 16) 19 rfl k185 dX9_stepOverFigures_16 ?_
        refine b_iloadN (pc := 19) 1 dX9_stepOverFigures_19 rfl rfl ?_
        refine b_iald (pc := 20) (by decide) ?_ dX9_stepOverFigures_20 ?_
        rotate_left -- leaf 1: index at 20
        refine b_bipush (pc := 21) (nI 48) dX9_stepOverFigures_21 (by decide) ?_
        refine b_icmp_lt (pc := 23) 72 dX9_stepOverFigures_23 (by decide) (fun c23 => ?_) (fun c23 => ?_)
        refine b_aloadN (pc := 72) 0 dX9_stepOverFigures_72 rfl rfl ?_
        refine b_iloadN (pc := 73) 1 dX9_stepOverFigures_73 rfl rfl ?_
        refine pf9_4 (pc := 74) k189 dX9_stepOverFigures_74 ?_
        refine b_aloadN (pc := 77) 0 dX9_stepOverFigures_77 rfl rfl ?_
        refine b_iloadN (pc := 78) 2 dX9_stepOverFigures_78 rfl rfl ?_
        refine pf9_6 (pc := 79) k191 dX9_stepOverFigures_79 ?_
        refine b_vret (pc := 82) rfl dX9_stepOverFigures_82 ⟨Nat.le_of_ble_eq_true rfl, Nat.le_of_ble_eq_true rfl⟩ ?_
        rotate_left -- leaf 2: return at 82
        refine b_aloadN (pc := 26) 0 dX9_stepOverFigures_26 rfl rfl ?_
        refine gf9_1 (pc := 27) 19 rfl k185 dX9_stepOverFigures_27 ?_
        refine b_iloadN (pc := 30) 1 dX9_stepOverFigures_30 rfl rfl ?_
        refine b_iald (pc := 31) (by decide) ?_ dX9_stepOverFigures_31 ?_
        rotate_left -- leaf 3: index at 31
        refine b_bipush (pc := 32) (nI 57) dX9_stepOverFigures_32 (by decide) ?_
        refine b_icmp_gt (pc := 34) 72 dX9_stepOverFigures_34 (by decide) (fun c34 => ?_) (fun c34 => ?_)
        refine b_aloadN (pc := 72) 0 dX9_stepOverFigures_72 rfl rfl ?_
        refine b_iloadN (pc := 73) 1 dX9_stepOverFigures_73 rfl rfl ?_
        refine pf9_4 (pc := 74) k189 dX9_stepOverFigures_74 ?_
        refine b_aloadN (pc := 77) 0 dX9_stepOverFigures_77 rfl rfl ?_
        refine b_iloadN (pc := 78) 2 dX9_stepOverFigures_78 rfl rfl ?_
        refine pf9_6 (pc := 79) k191 dX9_stepOverFigures_79 ?_
        refine b_vret (pc := 82) rfl dX9_stepOverFigures_82 ⟨Nat.le_of_ble_eq_true rfl, Nat.le_of_ble_eq_true rfl⟩ ?_
        rotate_left -- leaf 4: return at 82
        refine b_iloadN (pc := 37) 1 dX9_stepOverFigures_37 rfl rfl ?_
        refine b_aloadN (pc := 38) 0 dX9_stepOverFigures_38 rfl rfl ?_
        refine gf9_3 (pc := 39) k188 dX9_stepOverFigures_39 ?_
        refine b_isub (pc := 42) dX9_stepOverFigures_42 ?_
        refine b_iconst (pc := 43) (nI 2) dX9_stepOverFigures_43 (by decide) ?_
        refine b_icmp_ge (pc := 44) 64 dX9_stepOverFigures_44 (by decide) (fun c44 => ?_) (fun c44 => ?_)
        refine b_iconst (pc := 64) (-1) dX9_stepOverFigures_64 (by decide) ?_
        refine siN2 (pc := 65) rfl notL_i (by decide) dX9_stepOverFigures_65 ?_
        refine inc1 (pc := 66) notL_r (by decide) dX9_stepOverFigures_66 ?_
        refine b_goto (pc := 69) 7 dX9_stepOverFigures_69 (by decide) ?_
        rotate_left -- leaf 5: at 7
        refine b_iloadN (pc := 47) 2 dX9_stepOverFigures_47 rfl rfl ?_
        refine b_bipush (pc := 48) (nI 10) dX9_stepOverFigures_48 (by decide) ?_
        refine b_imul (pc := 50) dX9_stepOverFigures_50 ?_
        refine b_aloadN (pc := 51) 0 dX9_stepOverFigures_51 rfl rfl ?_
        refine gf9_1 (pc := 52) 19 rfl k185 dX9_stepOverFigures_52 ?_
        refine b_iloadN (pc := 55) 1 dX9_stepOverFigures_55 rfl rfl ?_
        refine b_iald (pc := 56) (by decide) ?_ dX9_stepOverFigures_56 ?_
        rotate_left -- leaf 6: index at 56
        refine b_iadd (pc := 57) dX9_stepOverFigures_57 ?_
        refine b_bipush (pc := 58) (nI 48) dX9_stepOverFigures_58 (by decide) ?_
        refine b_isub (pc := 60) dX9_stepOverFigures_60 ?_
        refine b_goto (pc := 61) 65 dX9_stepOverFigures_61 (by decide) ?_
        refine siN2 (pc := 65) rfl notL_i (by decide) dX9_stepOverFigures_65 ?_
        refine inc1 (pc := 66) notL_r (by decide) dX9_stepOverFigures_66 ?_
        refine b_goto (pc := 69) 7 dX9_stepOverFigures_69 (by decide) ?_
        rotate_left -- leaf 7: at 7
        -- leaves: 0 return at 82; 1 index at 20; 2 return at 82; 3 index at 31; 4 return at 82; 5 at 7; 6 index at 56; 7 at 7
        · exact h
        · rw [hT.1, n_le (by omega) (by omega)] at c12
          exact n_in (by omega) (by omega)
        · exact h
        · rw [hT.1, n_le (by omega) (by omega)] at c12
          exact n_in (by omega) (by omega)
        · exact h
        · rw [hT.1] at c12
          exact (bad c12 c23 c34).elim
        · rw [hT.1] at c12
          exact (bad c12 c23 c34).elim
        · rw [hT.1] at c12
          exact (bad c12 c23 c34).elim
  refine b_aloadN (pc := 0) 0 dX9_stepOverFigures_0 rfl rfl ?_
  refine gf9_3 (pc := 1) k188 dX9_stepOverFigures_1 ?_
  refine siN1 (pc := 4) rfl notL_r (by decide) dX9_stepOverFigures_4 ?_
  refine b_iconst (pc := 5) (nI 0) dX9_stepOverFigures_5 (by decide) ?_
  refine siN2 (pc := 6) rfl notL_i (by decide) dX9_stepOverFigures_6 ?_
  rotate_left -- leaf 0: at 7
  -- leaves: 0 at 7
  rw [h3]
  have l := loop (n + 1) p (by omega) (Nat.le_refl _) (by omega) (fun j a b => by omega)
  rw [Nat.sub_self] at l
  exact l
theorem call_X9_stepOverFigures {E : ME} {Φ : Option AV → AM → Prop} {pc : Nat} {L : List (Option AV)} {st : List AV} {m : AM} {a : Nat × Nat} {idx : Nat} {i : Nat} (hl : Cond.methodLink E.2.1 idx yX9_stepOverFigures ∈ TB) (hdep : 1 + 1 ≤ E.2.2.2.2.2.2) (hroom : a.1 + 0 ≤ E.2.2.2.2.1 ∧ a.2 + 0 ≤ E.2.2.2.2.2.1) (hsr : st.length ≤ 4) (hd : decode E.1 pc = .ok (.invokevirtual idx, 3)) (hsp : Sp_X9_stepOverFigures [vr 9 i] m (fun r m2 => B E Φ (pc + 3) L (r.toList ++ st) m2 a)) : B E Φ pc L (vr 9 i :: st) m a := b_callV S_X9_stepOverFigures [] (RX9, TX9, 9) rfl rfl (by decide) (Or.inl hl) k539 k5 k71 k540 (show _ ∧ _ ∧ Option.map (fun d => d.parameters.length) (parseMethodDescriptor yX9_stepOverFigures.desc) = some 0 from by decide +kernel) ⟨hdep, by decide⟩ hroom hsr hd hsp
