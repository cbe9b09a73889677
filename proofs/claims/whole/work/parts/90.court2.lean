/-! court() of the class -/
theorem Tp.fr {li ls : List Nat} {m m2 : AM} (h : Tp li ls m m2) : Fr (13 :: li) m m2 := ⟨h.1, fun a ha => h.2.1 a (fun z => ha (by rw [z]; exact List.mem_cons_self)) (fun z => ha (List.mem_cons_of_mem _ z))⟩
theorem PV.vc {G : Nat → Nat} (h : PV G) (hz : PZ G) (h4 : 1 ≤ G 4) : VC G := by
  obtain ⟨p1, p2, p3, p4, p5, p6, p7⟩ := h
  obtain ⟨⟨a1, a2, a3⟩, z2, z3⟩ := hz
  refine ⟨p1, p2, p3, p4, ⟨h4, p5⟩, ?_, ?_, ?_, fun k hk => ?_, fun p hp => ?_⟩
  · rw [a1]; exact Nat.pow_pos (by omega)
  · rw [a3]; omega
  · rw [a2]; omega
  · exact ⟨(p6 k hk).1, (p6 k hk).2.1, (p6 k hk).2.2, Or.inl (z2 k (by omega))⟩
  · exact ⟨p7 p hp, by rw [z3 p (by omega)]; omega⟩
abbrev crtL : List Nat := [13, 14, 15, 16, 17, 18, 21, 22, 23, 24, 25, 26, 27, 28, 29, 30, 31]
abbrev e_X10_court : ME := (cX10_court, (RX10, (2, ((some .int), (0, (0, 10))))))
theorem dX10_court_0 : decode cX10_court 0 = .ok (.aload_n 0, 1) := by decide +kernel
theorem dX10_court_1 : decode cX10_court 1 = .ok (.getfield 19, 3) := by decide +kernel
theorem dX10_court_4 : decode cX10_court 4 = .ok (.invokevirtual 104, 3) := by decide +kernel
theorem dX10_court_7 : decode cX10_court 7 = .ok (.istore_n 1, 1) := by decide +kernel
theorem dX10_court_8 : decode cX10_court 8 = .ok (.aload_n 0, 1) := by decide +kernel
theorem dX10_court_9 : decode cX10_court 9 = .ok (.getfield 19, 3) := by decide +kernel
theorem dX10_court_12 : decode cX10_court 12 = .ok (.invokevirtual 108, 3) := by decide +kernel
theorem dX10_court_15 : decode cX10_court 15 = .ok (.iload_n 1, 1) := by decide +kernel
theorem dX10_court_16 : decode cX10_court 16 = .ok (.ifCond .ne 14, 3) := by decide +kernel
theorem dX10_court_19 : decode cX10_court 19 = .ok (.ldc 111, 2) := by decide +kernel
theorem dX10_court_21 : decode cX10_court 21 = .ok (.aload_n 0, 1) := by decide +kernel
theorem dX10_court_22 : decode cX10_court 22 = .ok (.getfield 19, 3) := by decide +kernel
theorem dX10_court_25 : decode cX10_court 25 = .ok (.invokevirtual 112, 3) := by decide +kernel
theorem dX10_court_28 : decode cX10_court 28 = .ok (.isub, 1) := by decide +kernel
theorem dX10_court_29 : decode cX10_court 29 = .ok (.ireturn, 1) := by decide +kernel
theorem dX10_court_30 : decode cX10_court 30 = .ok (.aload_n 0, 1) := by decide +kernel
theorem dX10_court_31 : decode cX10_court 31 = .ok (.getfield 26, 3) := by decide +kernel
theorem dX10_court_34 : decode cX10_court 34 = .ok (.aload_n 0, 1) := by decide +kernel
theorem dX10_court_35 : decode cX10_court 35 = .ok (.getfield 19, 3) := by decide +kernel
theorem dX10_court_38 : decode cX10_court 38 = .ok (.getfield 116, 3) := by decide +kernel
theorem dX10_court_41 : decode cX10_court 41 = .ok (.invokevirtual 120, 3) := by decide +kernel
theorem dX10_court_44 : decode cX10_court 44 = .ok (.aload_n 0, 1) := by decide +kernel
theorem dX10_court_45 : decode cX10_court 45 = .ok (.getfield 33, 3) := by decide +kernel
theorem dX10_court_48 : decode cX10_court 48 = .ok (.invokevirtual 124, 3) := by decide +kernel
theorem dX10_court_51 : decode cX10_court 51 = .ok (.aload_n 0, 1) := by decide +kernel
theorem dX10_court_52 : decode cX10_court 52 = .ok (.getfield 26, 3) := by decide +kernel
theorem dX10_court_55 : decode cX10_court 55 = .ok (.getfield 127, 3) := by decide +kernel
theorem dX10_court_58 : decode cX10_court 58 = .ok (.getfield 130, 3) := by decide +kernel
theorem dX10_court_61 : decode cX10_court 61 = .ok (.ireturn, 1) := by decide +kernel
def Sp_X10_court (av : List AV) (m : AM) (Φ : Option AV → AM → Prop) : Prop := av = [vr 10 0] ∧ ∃ T n, TapC m T n ∧ (∀ f pl m2, parP T n = .error (f, pl) → Tp [14, 15, 16, 17, 18] [2, 3, 4, 5, 6, 7, 8] m m2 → m2.1 13 2 = nI 0 → m2.1 13 7 = nI f → Φ (some (vi (-1000100 - nI pl))) m2) ∧ ∀ G m2, parP T n = .ok G → VC G → PZ G → Fr crtL m m2 → m2.1 13 2 = nI 0 → m2.1 13 7 = m.1 13 7 → BR m2 G → m2.1 31 1 = m.1 31 1 → m2.1 31 2 = nI 0 → Φ (some (vi (nI (G 4)))) m2
set_option maxRecDepth 20000 in
set_option maxHeartbeats 4000000 in
theorem S_X10_court : Snd yX10_court e_X10_court Sp_X10_court := by
  refine Snd.of (by decide +kernel) rfl ?_ ?_
  · rintro av m Φ ⟨rfl, _⟩; exact Nat.le_of_ble_eq_true rfl
  rintro av m Φ ⟨rfl, T, n, hT, h1, h2⟩ hav hty
  show B e_X10_court Φ 0 [some (vr 10 0), none] [] m (0, 0)
  have s30 : ∀ M G o1, parP T n = .ok G → Tp [14, 15, 16, 17, 18] [2, 3, 4, 5, 6] m M → M.1 13 2 = nI 0 → PV G → PZ G → 1 ≤ G 4 → GR M G → B e_X10_court Φ 30 [some (vr 10 0), o1] [] M (0, 0) := by
    intro M G o1 hE hF e2 hp hz h4 hL
    have hv := hp.vc hz h4
    refine b_aloadN (pc := 30) 0 dX10_court_30 rfl rfl ?_
    refine gf10_2 (pc := 31) 20 rfl k417 dX10_court_31 ?_
    refine b_aloadN (pc := 34) 0 dX10_court_34 rfl rfl ?_
    refine gf10_1 (pc := 35) 13 rfl k416 dX10_court_35 ?_
    refine gf9_0 (pc := 38) 14 rfl k184 dX10_court_38 ?_
    refine call_X2_open (pc := 41) k585 (by decide) ⟨Nat.le_of_ble_eq_true rfl, Nat.le_of_ble_eq_true rfl⟩ (Nat.le_of_ble_eq_true rfl) dX10_court_41 ?_
    refine ⟨rfl, G, hv, ?_, ?_, ?_, ?_, ?_, fun m41 fr41 hB41 => ?_⟩
    rotate_left -- leaf 0: law of X2_open at 41
    rotate_left -- leaf 1: first of X2_open at 41
    rotate_left -- leaf 2: zero of X2_open at 41
    rotate_left -- leaf 3: cells of X2_open at 41
    rotate_left -- leaf 4: struck of X2_open at 41
    refine b_aloadN (pc := 44) 0 dX10_court_44 rfl rfl ?_
    refine gf10_3 (pc := 45) 31 rfl k418 dX10_court_45 ?_
    refine call_X0_forget (pc := 48) k604 (by decide) ⟨Nat.le_of_ble_eq_true rfl, Nat.le_of_ble_eq_true rfl⟩ (Nat.le_of_ble_eq_true rfl) dX10_court_48 ?_
    refine ⟨rfl, ?_⟩
    refine b_aloadN (pc := 51) 0 dX10_court_51 rfl rfl ?_
    refine gf10_2 (pc := 52) 20 rfl k417 dX10_court_52 ?_
    refine gf2_0 (pc := 55) 21 rfl k269 dX10_court_55 ?_
    refine gf5_8 (pc := 58) k161 dX10_court_58 ?_
    refine b_iret (pc := 61) rfl dX10_court_61 ⟨Nat.le_of_ble_eq_true rfl, Nat.le_of_ble_eq_true rfl⟩ ?_
    rotate_left -- leaf 5: return at 61
    -- leaves: 0 law of X2_open at 41; 1 first of X2_open at 41; 2 zero of X2_open at 41; 3 cells of X2_open at 41; 4 struck of X2_open at 41; 5 return at 61
    · exact hL.1
    · exact hL.2
    · exact hz.1
    · exact fun p h9 => hz.2.2 p (by have := hv.2.2.2.2.1.2; omega)
    · exact fun r h9 => hz.2.1 r (by have := hv.2.2.2.1; omega)
    · have e4 := hB41.2.1.2.2.2.1
      have e21 : (mset m41 31 2 (nI 0)).1 21 8 = nI (G 4) := by
        rw [mset_ne _ _ _ (show 21 ≠ 31 by decide)]; exact e4
      rw [e21]
      refine h2 G _ hE hv hz (((hF.fr.tr fr41).mono (by decide)).ms (by simp)) ?_ ?_ (hB41.fr (fun a x y => mset_ne _ _ _ (by omega))) ?_ ?_
      · rw [mset_ne _ _ _ (show 13 ≠ 31 by decide), fr41.2 13 (by decide)]; exact e2
      · rw [mset_ne _ _ _ (show 13 ≠ 31 by decide), fr41.2 13 (by decide)]; exact hF.2.2 7 (by decide)
      · rw [mset_at, if_neg (by decide), fr41.2 31 (by decide)]; exact congrFun (hF.2.1 31 (by decide) (by decide)) 1
      · rw [mset_at, if_pos rfl]
  refine b_aloadN (pc := 0) 0 dX10_court_0 rfl rfl ?_
  refine gf10_1 (pc := 1) 13 rfl k416 dX10_court_1 ?_
  refine call_X9_read (pc := 4) k517 (by decide) ⟨Nat.le_of_ble_eq_true rfl, Nat.le_of_ble_eq_true rfl⟩ (Nat.le_of_ble_eq_true rfl) dX10_court_4 ?_
  refine ⟨rfl, T, n, hT, fun b4 m4 tp4 r4 => ?_⟩
  refine siN1 (pc := 7) rfl notL_r (by decide) dX10_court_7 ?_
  refine b_aloadN (pc := 8) 0 dX10_court_8 rfl rfl ?_
  refine gf10_1 (pc := 9) 13 rfl k416 dX10_court_9 ?_
  refine call_X9_wipe (pc := 12) k576 (by decide) ⟨Nat.le_of_ble_eq_true rfl, Nat.le_of_ble_eq_true rfl⟩ (Nat.le_of_ble_eq_true rfl) dX10_court_12 ?_
  refine ⟨rfl, ?_⟩
  refine b_iloadN (pc := 15) 1 dX10_court_15 rfl rfl ?_
  refine b_if_ne (pc := 16) 30 dX10_court_16 (by decide) (fun c16 => ?_) (fun c16 => ?_)
  rotate_left -- leaf 0: at 30
  refine b_ldc (pc := 19) k580 dX10_court_19 ?_
  refine b_aloadN (pc := 21) 0 dX10_court_21 rfl rfl ?_
  refine gf10_1 (pc := 22) 13 rfl k416 dX10_court_22 ?_
  refine call_X9_faultPlace (pc := 25) k581 (by decide) ⟨Nat.le_of_ble_eq_true rfl, Nat.le_of_ble_eq_true rfl⟩ (Nat.le_of_ble_eq_true rfl) dX10_court_25 ?_
  refine ⟨rfl, ?_⟩
  refine b_isub (pc := 28) dX10_court_28 ?_
  refine b_iret (pc := 29) rfl dX10_court_29 ⟨Nat.le_of_ble_eq_true rfl, Nat.le_of_ble_eq_true rfl⟩ ?_
  rotate_left -- leaf 1: return at 29
  -- leaves: 0 at 30; 1 return at 29
  · rcases r4 with ⟨z, ts, G, e, hp, hz, h4, hL⟩ | ⟨z, f1, pl, e, hr⟩
    · refine s30 _ G _ e ((ts.mono (fun a z => z) (fun a z => by simp at z; simp; omega)).m0 (by simp)) (by rw [mset_at, if_pos rfl]) hp hz h4 ?_
      refine hL.tp (ls := [2]) ((Tp.rf _ _ m4).m0 (by simp))
    · exact absurd (by rw [z]; rfl) c16
  · rcases r4 with ⟨z, ts, G, e, hp, hz, h4, hL⟩ | ⟨z, f1, pl, e, hr⟩
    · rw [z] at c16
      exact absurd c16 (by decide)
    · rw [mset_at, if_neg (by decide), hr.2]
      exact h1 f1 pl _ e ((tp4.mono (fun a z => z) (fun a z => by simp at z; simp; omega)).m0 (by simp)) (by rw [mset_at, if_pos rfl]) (by rw [mset_at, if_neg (by decide)]; exact hr.1)
theorem call_X10_court {E : ME} {Φ : Option AV → AM → Prop} {pc : Nat} {L : List (Option AV)} {st : List AV} {m : AM} {a : Nat × Nat} {idx : Nat} {i : Nat} (hl : Cond.methodLink E.2.1 idx yX10_court ∈ TB) (hdep : 10 + 1 ≤ E.2.2.2.2.2.2) (hroom : a.1 + 0 ≤ E.2.2.2.2.1 ∧ a.2 + 0 ≤ E.2.2.2.2.2.1) (hsr : st.length ≤ 4) (hd : decode E.1 pc = .ok (.invokevirtual idx, 3)) (hsp : Sp_X10_court [vr 10 i] m (fun r m2 => B E Φ (pc + 3) L (r.toList ++ st) m2 a)) : B E Φ pc L (vr 10 i :: st) m a := b_callV S_X10_court [] (RX10, TX10, 9) rfl rfl (by decide) (Or.inl hl) k514 k515 k68 k516 (show _ ∧ _ ∧ Option.map (fun d => d.parameters.length) (parseMethodDescriptor yX10_court.desc) = some 0 from by decide +kernel) ⟨hdep, by decide⟩ hroom hsr hd hsp
