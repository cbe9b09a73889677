/-! images -/
/-- the image whose object is i -/
def ImR (m : AM) (i : Nat) (C : Nat → Nat) : Prop := VC C ∧ LawR m (i + 1) C ∧ StR m (i + 6) C
abbrev e_X4_take : ME := (cX4_take, (RX4, (2, (none, (0, (0, 2))))))
theorem dX4_take_0 : decode cX4_take 0 = .ok (.aload_n 0, 1) := by decide +kernel
theorem dX4_take_1 : decode cX4_take 1 = .ok (.getfield 10, 3) := by decide +kernel
theorem dX4_take_4 : decode cX4_take 4 = .ok (.aload_n 1, 1) := by decide +kernel
theorem dX4_take_5 : decode cX4_take 5 = .ok (.getfield 23, 3) := by decide +kernel
theorem dX4_take_8 : decode cX4_take 8 = .ok (.invokevirtual 26, 3) := by decide +kernel
theorem dX4_take_11 : decode cX4_take 11 = .ok (.aload_n 0, 1) := by decide +kernel
theorem dX4_take_12 : decode cX4_take 12 = .ok (.getfield 19, 3) := by decide +kernel
theorem dX4_take_15 : decode cX4_take 15 = .ok (.aload_n 1, 1) := by decide +kernel
theorem dX4_take_16 : decode cX4_take 16 = .ok (.getfield 30, 3) := by decide +kernel
theorem dX4_take_19 : decode cX4_take 19 = .ok (.invokevirtual 33, 3) := by decide +kernel
theorem dX4_take_22 : decode cX4_take 22 = .ok (.aload_n 0, 1) := by decide +kernel
theorem dX4_take_23 : decode cX4_take 23 = .ok (.iconst 1, 1) := by decide +kernel
theorem dX4_take_24 : decode cX4_take 24 = .ok (.putfield 36, 3) := by decide +kernel
theorem dX4_take_27 : decode cX4_take 27 = .ok (.return_, 1) := by decide +kernel
def Sp_X4_take (av : List AV) (m : AM) (Φ : Option AV → AM → Prop) : Prop := ∃ i, av = [vr 4 i, vr 2 20] ∧ (i = 82 ∨ i = 90) ∧ ∃ C, BR m C ∧ ∀ m2, Fr [i, i + 1, i + 2, i + 3, i + 4, i + 5, i + 6, i + 7] m m2 → ImR m2 i C → m2.1 i 2 = nI 1 → Φ none m2
set_option maxRecDepth 20000 in
set_option maxHeartbeats 4000000 in
theorem S_X4_take : Snd yX4_take e_X4_take Sp_X4_take := by
  refine Snd.of (by decide +kernel) rfl ?_ ?_
  · rintro av m Φ ⟨i, rfl, _⟩; exact Nat.le_of_ble_eq_true rfl
  rintro av m Φ ⟨i, rfl, hi, C, hB, h⟩ hav hty
  show B e_X4_take Φ 0 [some (vr 4 i), some (vr 2 20)] [] m (0, 0)
  obtain ⟨hv, hL, hS, hM, hC⟩ := hB
  refine b_aloadN (pc := 0) 0 dX4_take_0 rfl rfl ?_
  refine gf4_0 (pc := 1) _ rfl k402 dX4_take_1 ?_
  refine b_aloadN (pc := 4) 1 dX4_take_4 rfl rfl ?_
  refine gf2_0 (pc := 5) 21 rfl k266 dX4_take_5 ?_
  refine call_X5_become (pc := 8) k967 (by decide) ⟨Nat.le_of_ble_eq_true rfl, Nat.le_of_ble_eq_true rfl⟩ (Nat.le_of_ble_eq_true rfl) dX4_take_8 ?_
  refine ⟨_, _, rfl, ?_, fun m8 fr8 st8 ru8 pe8 => ?_⟩
  rotate_left -- leaf 0: apart of X5_become at 8
  refine b_aloadN (pc := 11) 0 dX4_take_11 rfl rfl ?_
  refine gf4_1 (pc := 12) _ rfl k404 dX4_take_12 ?_
  refine b_aloadN (pc := 15) 1 dX4_take_15 rfl rfl ?_
  refine gf2_1 (pc := 16) 26 rfl k272 dX4_take_16 ?_
  refine call_X8_become (pc := 19) k968 (by decide) ⟨Nat.le_of_ble_eq_true rfl, Nat.le_of_ble_eq_true rfl⟩ (Nat.le_of_ble_eq_true rfl) dX4_take_19 ?_
  refine ⟨_, _, rfl, ?_, fun m19 fr19 st19 cl19 => ?_⟩
  rotate_left -- leaf 1: apart of X8_become at 19
  refine b_aloadN (pc := 22) 0 dX4_take_22 rfl rfl ?_
  refine b_iconst (pc := 23) (nI 1) dX4_take_23 (by decide) ?_
  refine pf4_2 (pc := 24) k406 ?_ dX4_take_24 ?_
  rotate_left -- leaf 2: bool at 24
  refine b_vret (pc := 27) rfl dX4_take_27 ⟨Nat.le_of_ble_eq_true rfl, Nat.le_of_ble_eq_true rfl⟩ ?_
  rotate_left -- leaf 3: return at 27
  -- leaves: 0 apart of X5_become at 8; 1 apart of X8_become at 19; 2 bool at 24; 3 return at 27
  · omega
  · omega
  · exact Or.inr rfl
  · have f1 : Fr [i, i + 1, i + 2, i + 3, i + 4, i + 5, i + 6, i + 7] m m19 := (fr8.tr fr19).mono (by simp)
    have hS8 : StR m8 26 C := hS.cg (fr8.2 _ (by simp; omega)) (fr8.2 _ (by simp; omega))
    refine h _ (f1.ms (by simp)) ⟨hv, ?_, ?_⟩ (by rw [mset_at, if_pos rfl])
    · have l8 := hL.copy hv st8 ru8 pe8
      exact l8.cg (by rw [mset_ne _ _ _ (by omega), fr19.2 _ (by simp)]) (by rw [mset_ne _ _ _ (by omega), fr19.2 _ (by simp)]) (by rw [mset_ne _ _ _ (by omega), fr19.2 _ (by simp)]) (by rw [mset_ne _ _ _ (by omega), fr19.2 _ (by simp)]) (by rw [mset_ne _ _ _ (by omega), fr19.2 _ (by simp)])
    · exact (hS8.copy hv.2.2.2.2.1.2 st19 cl19).cg (by rw [mset_ne _ _ _ (by omega)]) (by rw [mset_ne _ _ _ (by omega)])
theorem call_X4_take {E : ME} {Φ : Option AV → AM → Prop} {pc : Nat} {L : List (Option AV)} {st : List AV} {m : AM} {a : Nat × Nat} {idx : Nat} {x0 : AV} {i : Nat} (hl : Cond.methodLink E.2.1 idx yX4_take ∈ TB) (hdep : 2 + 1 ≤ E.2.2.2.2.2.2) (hroom : a.1 + 0 ≤ E.2.2.2.2.1 ∧ a.2 + 0 ≤ E.2.2.2.2.2.1) (hsr : st.length ≤ 4) (hd : decode E.1 pc = .ok (.invokevirtual idx, 3)) (hsp : Sp_X4_take [vr 4 i, x0] m (fun r m2 => B E Φ (pc + 3) L (r.toList ++ st) m2 a)) : B E Φ pc L (x0 :: vr 4 i :: st) m a := b_callV S_X4_take [x0] (RX4, TX4, 3) rfl rfl (by decide) (Or.inl hl) k964 k965 k79 k966 (show _ ∧ _ ∧ Option.map (fun d => d.parameters.length) (parseMethodDescriptor yX4_take.desc) = some 1 from by decide +kernel) ⟨hdep, by decide⟩ hroom hsr hd hsp
