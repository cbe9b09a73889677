/-! the start: the flat world is what was laid; both sides agree -/
theorem m0_ty : TY m0 := by
  refine ⟨Nat.le_refl 125, fun i k => ?_⟩
  show KD (m0R i k) = 12 ∧ m0R i k < 125
  unfold m0R
  by_cases h : i = 98
  · rw [if_pos h]
    by_cases h1 : k = 1
    · rw [if_pos h1]; exact ⟨by decide +kernel, by decide⟩
    · rw [if_neg h1]
      by_cases h2 : k = 2
      · rw [if_pos h2]; exact ⟨by decide +kernel, by decide⟩
      · rw [if_neg h2]; exact ⟨by decide +kernel, by decide⟩
  · rw [if_neg h]
    by_cases h1 : k = 0
    · rw [if_pos h1]; exact ⟨by decide +kernel, by decide⟩
    · rw [if_neg h1]
      by_cases h2 : k = 1
      · rw [if_pos h2]; exact ⟨by decide +kernel, by decide⟩
      · rw [if_neg h2]
        by_cases h3 : k = 2
        · rw [if_pos h3]; exact ⟨by decide +kernel, by decide⟩
        · rw [if_neg h3]; exact ⟨by decide +kernel, by decide⟩
theorem tau_inj {i j : Nat} (hi : i < 125) (hj : j < 125) (h : tauI i = tauI j) : i = j := by
  unfold tauI at h
  by_cases a : 82 ≤ i ∧ i ≤ 97
  · rw [if_pos a] at h
    by_cases b : 82 ≤ j ∧ j ≤ 97
    · rw [if_pos b] at h; omega
    · rw [if_neg b] at h
      by_cases c : 98 ≤ j ∧ j ≤ 109
      · rw [if_pos c] at h; omega
      · rw [if_neg c] at h; omega
  · rw [if_neg a] at h
    by_cases d : 98 ≤ i ∧ i ≤ 109
    · rw [if_pos d] at h
      by_cases b : 82 ≤ j ∧ j ≤ 97
      · rw [if_pos b] at h; omega
      · rw [if_neg b] at h
        by_cases c : 98 ≤ j ∧ j ≤ 109
        · rw [if_pos c] at h; omega
        · rw [if_neg c] at h; omega
    · rw [if_neg d] at h
      by_cases b : 82 ≤ j ∧ j ≤ 97
      · rw [if_pos b] at h; omega
      · rw [if_neg b] at h
        by_cases c : 98 ≤ j ∧ j ≤ 109
        · rw [if_pos c] at h; omega
        · rw [if_neg c] at h; omega
theorem w0_world {D : va_G} {Y : Nat → ClassId} {z : Nat} {A : Nat → Prop} {H : Heap} (hP : va_P D vwCl (AW z (cur0 Y z)) H) (hD : va_D A (AW z (cur0 Y z))) : va_P D vwCl (wsO Y (ad0 z) m0) H ∧ va_D A (wsO Y (ad0 z) m0) := by
  have at_ : ∀ (k : Nat) (q : Nat × va_E), (wsO Y (ad0 z) m0)[k]? = some q → k < 125 ∧ q.1 = z + tauI k ∧ (AW z (cur0 Y z))[tauI k]? = some q := by
    intro k q h
    have hk : k < 125 := by
      have := (List.getElem?_eq_some_iff.mp h).1
      rw [wsO_len] at this
      exact this
    rw [wsO_get (show k < m0.2.2.2 from hk)] at h
    cases h
    exact ⟨hk, rfl, AW_get z _ _ _ (w0_all Y z k hk)⟩
  refine ⟨fun k q h => hP _ _ (at_ k q h).2.2, fun i j p q hp hq e => ?_, fun k q h => hD.2 _ _ (at_ k q h).2.2⟩
  have a := at_ i p hp
  have b := at_ j q hq
  exact tau_inj a.1 b.1 (hD.1 _ _ p q a.2.2 b.2.2 e)
theorem m0_RI : RI m0 0 := by
  have o : ∀ i j, i ≠ 12 → i ≠ 111 → m0.1 i j = nI 0 := fun i j h1 h2 => by rw [m0_z h1 h2]
  have l111 : ∀ r, r < 8 → m0.1 111 r = -1 := fun r hr => by
    rcases (show r = 0 ∨ r = 1 ∨ r = 2 ∨ r = 3 ∨ r = 4 ∨ r = 5 ∨ r = 6 ∨ r = 7 by omega) with rfl | rfl | rfl | rfl | rfl | rfl | rfl | rfl <;> decide +kernel
  have l12 : ∀ r, r < 8 → m0.1 12 r = -1 := fun r hr => by
    show m0I 12 r = -1
    unfold m0I
    rw [if_pos rfl, if_pos hr]
  refine ⟨fun _ => 0, 0, 0, fun _ _ => 0, fun _ => 0, fun _ => 0, fun _ _ => nI 0, fun _ => 0, 0, (0, fun _ => 0), (0, fun _ => 0), (0, fun _ => 0), 0, nI 0, nI 0, Nat.le_refl 0, ⟨?_, ?_, ?_, ?_, ?_, ?_, ?_, ?_, ?_, ?_⟩, ?_, ?_, ?_, ?_, ?_, ?_, ?_, ?_⟩
  · exact Or.inr ⟨fun _ _ => rfl, o _ _ (by decide) (by decide), o _ _ (by decide) (by decide), o _ _ (by decide) (by decide), o _ _ (by decide) (by decide), o _ _ (by decide) (by decide)⟩
  · exact ⟨o _ _ (by decide) (by decide), by decide, o _ _ (by decide) (by decide), Nat.zero_le _, fun i hi => absurd hi (Nat.not_lt_zero i)⟩
  · exact fun r hr => ⟨fun _ => l12 r hr, fun h => absurd h (Nat.lt_irrefl 0)⟩
  · exact ⟨o _ _ (by decide) (by decide), Nat.zero_le _, fun k hk => absurd hk (Nat.not_lt_zero k)⟩
  · exact ⟨o _ _ (by decide) (by decide), Nat.zero_le _, fun k hk => absurd hk (Nat.not_lt_zero k)⟩
  · exact ⟨⟨o _ _ (by decide) (by decide), Nat.zero_le _, fun h => absurd h (show ¬ (0 : Nat) = 1 by decide)⟩, ⟨o _ _ (by decide) (by decide), Nat.zero_le _, fun h => absurd h (show ¬ (0 : Nat) = 1 by decide)⟩⟩
  · refine ⟨fun k hk => ?_, fun a b ha hb => ?_, fun i h1 h2 => ?_⟩
    · rcases (show k = 0 ∨ k = 1 ∨ k = 2 ∨ k = 3 by omega) with rfl | rfl | rfl | rfl <;> exact ⟨by decide, by decide⟩
    · rcases (show a = 0 ∨ a = 1 ∨ a = 2 ∨ a = 3 by omega) with rfl | rfl | rfl | rfl <;> rcases (show b = 0 ∨ b = 1 ∨ b = 2 ∨ b = 3 by omega) with rfl | rfl | rfl | rfl <;> decide
    · show (if 104 ≤ i ∧ i ≤ 107 then 64 else 0) = 64
      rw [if_pos ⟨h1, h2⟩]
  · refine ⟨⟨fun k h1 h2 => ?_, by decide, by decide, by decide⟩, o _ _ (by decide) (by decide), fun n hn => absurd hn (Nat.not_lt_zero n)⟩
    rcases (show k = 1 ∨ k = 2 ∨ k = 3 by omega) with rfl | rfl | rfl <;> exact ⟨⟨by decide, Or.inl (by decide)⟩, by decide, by decide⟩
  · exact o _ _ (by decide) (by decide)
  · exact o _ _ (by decide) (by decide)
  · exact ⟨fun k hk => o _ _ (by decide) (by decide), Or.inr (fun _ _ => rfl)⟩
  · exact ⟨o _ _ (by decide) (by decide), Nat.zero_le _, fun i hi => absurd hi (Nat.not_lt_zero i)⟩
  · exact fun r hr => ⟨fun _ => l111 r hr, fun h => absurd h (Nat.lt_irrefl 0)⟩
  · exact ⟨o _ _ (by decide) (by decide), Nat.zero_le _, fun k hk => absurd hk (Nat.not_lt_zero k)⟩
  · exact ⟨o _ _ (by decide) (by decide), Nat.zero_le _, fun k hk => absurd hk (Nat.not_lt_zero k)⟩
  · exact ⟨⟨o _ _ (by decide) (by decide), fun h => absurd h (show ¬ (0 : Nat) = 1 by decide)⟩, ⟨o _ _ (by decide) (by decide), fun h => absurd h (show ¬ (0 : Nat) = 1 by decide)⟩⟩
  · exact o _ _ (by decide) (by decide)
  · exact o _ _ (by decide) (by decide)
