/-! each method in the relation, the last: who, temper, said, shortest, cheapest, ever -/
set_option maxHeartbeats 2000000 in
theorem MS_who {m : AM} {t : Nat} {p r i v : Int32} (hty : TY m) (h : RI m t) (ht : t < 999999) : Sp_X10_who [vr 10 0, vi p, vi r, vi i, vi v] m (two (Sp_X11_who [vr 11 110, vi p, vi r, vi i, vi v]) t) := by
  obtain ⟨C, a, nx, W, La, Ma, It, T, n, Tr, I0, I1, wk, st, ft, hw, hc, hm⟩ := h
  obtain ⟨hC, hA, hR, hT, hQ, hI, hF, hS, h0, h13⟩ := id hc
  obtain ⟨mC, mA, mR, mT, mQ, mI, m0, m17⟩ := id hm
  refine ⟨p, r, i, v, rfl, C, La, Ma, It, hC, hR, fun c => ?_, fun c k hk hk0 => ?_, fun c hl D hD => ⟨fun d m2 xt => ?_, fun d m2 xt hB e8 => ?_⟩⟩
  · exact ⟨_, rfl, p, r, i, v, rfl, C, La, Ma, It, mC, mR, fun _ m3 g => ⟨rfl, RI.same (by omega) hc hm g (by simp) (by simp)⟩, fun c2 => nope c c2, fun c2 => nope c c2⟩
  · have fr : Fr [0] m (mset m 0 8 (nI k)) := (Fr.rf _ m).ms (by simp)
    have g : Xg [] [0] m (mset m 0 8 (nI k)) := Xg.fr fr
    have f := KF.fr fr
    have hm2 := hm.k f (by decide)
    have hc2 : RCl (mset m 0 8 (nI k)) C a nx W La Ma It T n Tr I0 I1 wk (nI k) ft := ⟨hC.k f (by decide), hA.k f (by decide), hR.k f (by decide), hT.k f (by decide), hQ.k f (by decide), hI.k f (by decide), hF.k f (by decide), hS.gx hty g (by decide) (by decide), ms_e, (congrFun (f.2.2 13 (by decide) (by decide)) 7).trans h13⟩
    obtain ⟨mC, mA, mR, mT, mQ, mI, m0, m17⟩ := hm2
    refine ⟨_, rfl, p, r, i, v, rfl, C, La, Ma, It, mC, mR, fun c2 => nope c2 c, fun _ k2 hk2 _ m3 g3 e1 => ?_, fun _ hl => absurd (hk.trans hl) hk0⟩
    rw [← hk] at hk2
    subst hk2
    exact ⟨rfl, _, _, _, _, _, _, _, _, _, _, _, _, _, _, _, by omega, hc2.fm g3 (by decide), ⟨mC.k g3 (by decide), MAct.fm g3 mA (by decide) (by decide), mR.k g3 (by decide) (by decide) (by decide), mT.fm g3 (by decide) (by decide), MTr.fm g3 mQ (by decide) (by decide), mI.k g3 (by decide) (by decide), e1, (g3.2.2 17 (by decide)).trans m17⟩⟩
  · have g : Xg [] [] m m2 := Xg.xt xt
    have f := KF.xg hty g
    have hm2 := hm.k f (by decide)
    have hc2 : RCl m2 C a nx W La Ma It T n Tr I0 I1 wk st ft := ⟨hC.k f (by decide), hA.k f (by decide), hR.k f (by decide), hT.k f (by decide), hQ.k f (by decide), hI.k f (by decide), hF.k f (by decide), hS.gx hty g (by decide) (by decide), (congrFun (f.2.2 0 (by decide) (by decide)) 8).trans h0, (congrFun (f.2.2 13 (by decide) (by decide)) 7).trans h13⟩
    have hm3 := hm2
    obtain ⟨mC, mA, mR, mT, mQ, mI, m0, m17⟩ := hm2
    refine ⟨_, rfl, p, r, i, v, rfl, C, La, Ma, It, mC, mR, fun c2 => nope c2 c, fun _ k hk hk0 => absurd (hk.trans hl) hk0, fun _ _ D2 hD2 => ⟨fun _ m3 g3 => ⟨rfl, RI.same (by omega) hc2 hm3 g3 (by simp) (by simp)⟩, fun d2 => ?_⟩⟩
    rw [← hD] at hD2
    subst hD2
    exact absurd d2 d
  · have g : Xg [] [0, 30] m m2 := Xg.xt xt
    have f := KF.xg hty g
    have hm2 := hm.k f (by decide)
    have hc2 : RCl m2 C a nx W La Ma It T n Tr I0 I1 wk (nI 0) ft := ⟨Or.inl hB, hA.k f (by decide), hR.k f (by decide), hT.k f (by decide), hQ.k f (by decide), hI.k f (by decide), hF.k f (by decide), hS.gx hty g (by decide) (by decide), e8, (congrFun (f.2.2 13 (by decide) (by decide)) 7).trans h13⟩
    obtain ⟨mC, mA, mR, mT, mQ, mI, m0, m17⟩ := hm2
    refine ⟨_, rfl, p, r, i, v, rfl, C, La, Ma, It, mC, mR, fun c2 => nope c2 c, fun _ k hk hk0 => absurd (hk.trans hl) hk0, fun _ _ D2 hD2 => ⟨fun d2 => ?_, fun _ m3 g3 e1 => ?_⟩⟩
    · rw [← hD] at hD2
      subst hD2
      exact absurd d d2
    · rw [← hD] at hD2
      subst hD2
      exact ⟨rfl, _, _, _, _, _, _, _, _, _, _, _, _, _, _, _, by omega, hc2.fm g3 (by decide), ⟨mC.k g3 (by decide), MAct.fm g3 mA (by decide) (by decide), mR.k g3 (by decide) (by decide) (by decide), mT.fm g3 (by decide) (by decide), MTr.fm g3 mQ (by decide) (by decide), mI.k g3 (by decide) (by decide), e1, (g3.2.2 17 (by decide)).trans m17⟩⟩
set_option maxHeartbeats 2000000 in
theorem MS_temper {m : AM} {t : Nat} {x p r i v w : Int32} (hty : TY m) (h : RI m t) (ht : t < 999999) : Sp_X10_temper [vr 10 0, vi x, vi p, vi r, vi i, vi v, vi w] m (twoL (Sp_X11_temper [vr 11 110, vi x, vi p, vi r, vi i, vi v, vi w]) t) := by
  obtain ⟨C, a, nx, W, La, Ma, It, T, n, Tr, I0, I1, wk, st, ft, hw, hc, hm⟩ := h
  obtain ⟨hC, hA, hR, hT, hQ, hI, hF, hS, h0, h13⟩ := id hc
  obtain ⟨mC, mA, mR, mT, mQ, mI, m0, m17⟩ := id hm
  refine ⟨x, p, r, i, v, w, rfl, C, La, Ma, It, hC, hR, fun b => ?_, fun b c => ?_, fun b c k hk hk0 => ?_, fun b c hl D hD => ⟨fun d m2 xt => ?_, fun d m2 xt hB e8 => ?_⟩⟩
  · exact ⟨_, rfl, x, p, r, i, v, w, rfl, C, La, Ma, It, mC, mR, fun _ m3 g => ⟨rfl, RI.same (by omega) hc hm g (by simp) (by simp)⟩, fun b2 => absurd b2 (by omega), fun b2 => absurd b2 (by omega), fun b2 => absurd b2 (by omega)⟩
  · exact ⟨_, rfl, x, p, r, i, v, w, rfl, C, La, Ma, It, mC, mR, fun b2 => absurd b2 (by omega), fun _ _ m3 g => ⟨rfl, RI.same (by omega) hc hm g (by simp) (by simp)⟩, fun _ c2 => nope c c2, fun _ c2 => nope c c2⟩
  · have fr : Fr [0] m (mset m 0 8 (nI k)) := (Fr.rf _ m).ms (by simp)
    have g : Xg [] [0] m (mset m 0 8 (nI k)) := Xg.fr fr
    have f := KF.fr fr
    have hm2 := hm.k f (by decide)
    have hc2 : RCl (mset m 0 8 (nI k)) C a nx W La Ma It T n Tr I0 I1 wk (nI k) ft := ⟨hC.k f (by decide), hA.k f (by decide), hR.k f (by decide), hT.k f (by decide), hQ.k f (by decide), hI.k f (by decide), hF.k f (by decide), hS.gx hty g (by decide) (by decide), ms_e, (congrFun (f.2.2 13 (by decide) (by decide)) 7).trans h13⟩
    obtain ⟨mC, mA, mR, mT, mQ, mI, m0, m17⟩ := hm2
    refine ⟨_, rfl, x, p, r, i, v, w, rfl, C, La, Ma, It, mC, mR, fun b2 => absurd b2 (by omega), fun _ c2 => nope c2 c, fun _ _ k2 hk2 _ m3 g3 e1 => ?_, fun _ _ hl => absurd (hk.trans hl) hk0⟩
    rw [← hk] at hk2
    subst hk2
    exact ⟨rfl, _, _, _, _, _, _, _, _, _, _, _, _, _, _, _, by omega, hc2.fm g3 (by decide), ⟨mC.k g3 (by decide), MAct.fm g3 mA (by decide) (by decide), mR.k g3 (by decide) (by decide) (by decide), mT.fm g3 (by decide) (by decide), MTr.fm g3 mQ (by decide) (by decide), mI.k g3 (by decide) (by decide), e1, (g3.2.2 17 (by decide)).trans m17⟩⟩
  · have g : Xg [] [] m m2 := Xg.xt xt
    have f := KF.xg hty g
    have hm2 := hm.k f (by decide)
    have hc2 : RCl m2 C a nx W La Ma It T n Tr I0 I1 wk st ft := ⟨hC.k f (by decide), hA.k f (by decide), hR.k f (by decide), hT.k f (by decide), hQ.k f (by decide), hI.k f (by decide), hF.k f (by decide), hS.gx hty g (by decide) (by decide), (congrFun (f.2.2 0 (by decide) (by decide)) 8).trans h0, (congrFun (f.2.2 13 (by decide) (by decide)) 7).trans h13⟩
    have hm3 := hm2
    obtain ⟨mC, mA, mR, mT, mQ, mI, m0, m17⟩ := hm2
    refine ⟨_, rfl, x, p, r, i, v, w, rfl, C, La, Ma, It, mC, mR, fun b2 => absurd b2 (by omega), fun _ c2 => nope c2 c, fun _ _ k hk hk0 => absurd (hk.trans hl) hk0, fun _ _ _ D2 hD2 => ⟨fun _ m3 g3 => ⟨rfl, RI.same (by omega) hc2 hm3 g3 (by simp) (by simp)⟩, fun d2 => ?_⟩⟩
    rw [← hD] at hD2
    subst hD2
    exact absurd d2 d
  · have g : Xg [] [0, 30] m m2 := Xg.xt xt
    have f := KF.xg hty g
    have hm2 := hm.k f (by decide)
    have hc2 : RCl m2 C a nx W La Ma It T n Tr I0 I1 wk (nI 0) ft := ⟨Or.inl hB, hA.k f (by decide), hR.k f (by decide), hT.k f (by decide), hQ.k f (by decide), hI.k f (by decide), hF.k f (by decide), hS.gx hty g (by decide) (by decide), e8, (congrFun (f.2.2 13 (by decide) (by decide)) 7).trans h13⟩
    obtain ⟨mC, mA, mR, mT, mQ, mI, m0, m17⟩ := hm2
    refine ⟨_, rfl, x, p, r, i, v, w, rfl, C, La, Ma, It, mC, mR, fun b2 => absurd b2 (by omega), fun _ c2 => nope c2 c, fun _ _ k hk hk0 => absurd (hk.trans hl) hk0, fun _ _ _ D2 hD2 => ⟨fun d2 => ?_, fun _ m3 g3 e1 => ?_⟩⟩
    · rw [← hD] at hD2
      subst hD2
      exact absurd d d2
    · rw [← hD] at hD2
      subst hD2
      exact ⟨rfl, _, _, _, _, _, _, _, _, _, _, _, _, _, _, _, by omega, hc2.fm g3 (by decide), ⟨mC.k g3 (by decide), MAct.fm g3 mA (by decide) (by decide), mR.k g3 (by decide) (by decide) (by decide), mT.fm g3 (by decide) (by decide), MTr.fm g3 mQ (by decide) (by decide), mI.k g3 (by decide) (by decide), e1, (g3.2.2 17 (by decide)).trans m17⟩⟩
set_option maxHeartbeats 2000000 in
theorem MS_said {m : AM} {t : Nat} {p r i v w : Int32} (hty : TY m) (h : RI m t) (ht : t < 999999) : Sp_X10_said [vr 10 0, vi p, vi r, vi i, vi v, vi w] m (two (Sp_X11_said [vr 11 110, vi p, vi r, vi i, vi v, vi w]) t) := by
  obtain ⟨C, a, nx, W, La, Ma, It, T, n, Tr, I0, I1, wk, st, ft, hw, hc, hm⟩ := h
  obtain ⟨hC, hA, hR, hT, hQ, hI, hF, hS, h0, h13⟩ := id hc
  obtain ⟨mC, mA, mR, mT, mQ, mI, m0, m17⟩ := id hm
  refine ⟨p, r, i, v, w, rfl, C, La, Ma, It, hC, hR, hF, fun c => ?_, fun c k hk hk0 => ?_, fun c hl D hD q hq m2 g hB hF2 e8 => ?_⟩
  · exact ⟨_, rfl, p, r, i, v, w, rfl, C, La, Ma, It, mC, mR, fun _ m3 g => ⟨rfl, RI.same (by omega) hc hm g (by simp) (by simp)⟩, fun c2 => nope c c2, fun c2 => nope c c2⟩
  · have fr : Fr [0] m (mset m 0 8 (nI k)) := (Fr.rf _ m).ms (by simp)
    have g : Xg [] [0] m (mset m 0 8 (nI k)) := Xg.fr fr
    have f := KF.fr fr
    have hm2 := hm.k f (by decide)
    have hc2 : RCl (mset m 0 8 (nI k)) C a nx W La Ma It T n Tr I0 I1 wk (nI k) ft := ⟨hC.k f (by decide), hA.k f (by decide), hR.k f (by decide), hT.k f (by decide), hQ.k f (by decide), hI.k f (by decide), hF.k f (by decide), hS.gx hty g (by decide) (by decide), ms_e, (congrFun (f.2.2 13 (by decide) (by decide)) 7).trans h13⟩
    obtain ⟨mC, mA, mR, mT, mQ, mI, m0, m17⟩ := hm2
    refine ⟨_, rfl, p, r, i, v, w, rfl, C, La, Ma, It, mC, mR, fun c2 => nope c2 c, fun _ k2 hk2 _ m3 g3 e1 => ?_, fun _ hl => absurd (hk.trans hl) hk0⟩
    rw [← hk] at hk2
    subst hk2
    exact ⟨rfl, _, _, _, _, _, _, _, _, _, _, _, _, _, _, _, by omega, hc2.fm g3 (by decide), ⟨mC.k g3 (by decide), MAct.fm g3 mA (by decide) (by decide), mR.k g3 (by decide) (by decide) (by decide), mT.fm g3 (by decide) (by decide), MTr.fm g3 mQ (by decide) (by decide), mI.k g3 (by decide) (by decide), e1, (g3.2.2 17 (by decide)).trans m17⟩⟩
  · have f := KF.xg hty g
    have hm2 := hm.k f (by decide)
    have hc2 : RCl m2 C a nx W La Ma It T n Tr I0 I1 wk (nI 0) ft := ⟨Or.inl hB, hA.k f (by decide), hR.k f (by decide), hT.k f (by decide), hQ.k f (by decide), hI.k f (by decide), hF2, hS.gx hty g (by decide) (by decide), e8, (congrFun (f.2.2 13 (by decide) (by decide)) 7).trans h13⟩
    obtain ⟨mC, mA, mR, mT, mQ, mI, m0, m17⟩ := hm2
    refine ⟨_, rfl, p, r, i, v, w, rfl, C, La, Ma, It, mC, mR, fun c2 => nope c2 c, fun _ k hk hk0 => absurd (hk.trans hl) hk0, fun _ _ D2 hD2 q2 hq2 m3 g3 e1 => ?_⟩
    rw [← hD] at hD2
    rw [← hq] at hq2
    subst hD2
    subst hq2
    exact ⟨rfl, _, _, _, _, _, _, _, _, _, _, _, _, _, _, _, by omega, hc2.fm g3 (by decide), ⟨mC.k g3 (by decide), MAct.fm g3 mA (by decide) (by decide), mR.k g3 (by decide) (by decide) (by decide), mT.fm g3 (by decide) (by decide), MTr.fm g3 mQ (by decide) (by decide), mI.k g3 (by decide) (by decide), e1, (g3.2.2 17 (by decide)).trans m17⟩⟩
theorem goV_one {C : Nat → Nat} {bc A Bn w : Nat} {r r' : Option (Nat × Nat)} (h : metB A Bn (C 1) = true ∨ bestW C bc A Bn r) (h' : metB A Bn (C 1) = true ∨ bestW C bc A Bn r') : goV C bc A Bn w r' = goV C bc A Bn w r := by
  unfold goV
  by_cases q : metB A Bn (C 1) = true
  · rw [if_pos q, if_pos q]
  · rcases h with h | h
    · exact absurd h q
    · rcases h' with h' | h'
      · exact absurd h' q
      · rw [bestW_one h h']
theorem orS_cg {rs rs' : Nat → Bool} : ∀ n, (∀ k, k < n → rs k = rs' k) → orS rs n = orS rs' n
  | 0, _ => rfl
  | n + 1, h => by
    show (if rs n = true then orS rs n ||| n else orS rs n) = (if rs' n = true then orS rs' n ||| n else orS rs' n)
    rw [h n (by omega), orS_cg n (fun k hk => h k (by omega))]
theorem sumN_cg2 {f f' : Nat → Nat} : ∀ n, (∀ k, k < n → f k = f' k) → sumN n f = sumN n f'
  | 0, _ => rfl
  | n + 1, h => by
    unfold sumN
    rw [h n (by omega), sumN_cg2 n (fun k hk => h k (by omega))]
theorem rs_one {C : Nat → Nat} {rs rs' : Nat → Bool} (h : ∀ so, so < 64 → (rs so = true ↔ RchP C so)) (h' : ∀ so, so < 64 → (rs' so = true ↔ RchP C so)) : ∀ k, k < 64 → rs' k = rs k := fun k hk => by
  cases e : rs k
  · cases e' : rs' k
    · rfl
    · exact absurd ((h k hk).mpr ((h' k hk).mp e')) (by rw [e]; exact fun z => by cases z)
  · exact (h' k hk).mpr ((h k hk).mp e)
set_option maxHeartbeats 2000000 in
theorem MS_shortest {m : AM} {t : Nat} {x y z : Int32} (hty : TY m) (h : RI m t) (ht : t < 999999) : Sp_X10_shortest [vr 10 0, vi x, vi y, vi z] m (two (Sp_X11_shortest [vr 11 110, vi x, vi y, vi z]) t) := by
  obtain ⟨C, a, nx, W, La, Ma, It, T, n, Tr, I0, I1, wk, st, ft, hw, hc, hm⟩ := h
  obtain ⟨hC, hA, hR, hT, hQ, hI, hF, hS, h0, h13⟩ := id hc
  obtain ⟨mC, mA, mR, mT, mQ, mI, m0, m17⟩ := id hm
  refine ⟨x, y, z, rfl, C, wk, hC, hS, by omega, fun v hv hv0 => ?_, fun A Bn w ex ey ez hA2 hB2 hw2 hd hrf m2 r xz hB hS2 hr => ?_⟩
  · refine ⟨_, rfl, x, y, z, rfl, C, mC, fun v2 hv2 _ m3 g => ?_, fun A Bn w _ _ _ _ _ _ _ hrf => absurd (hv.trans hrf) hv0⟩
    rw [← hv] at hv2
    subst hv2
    exact ⟨rfl, RI.same (by omega) hc hm g (by simp) (by simp)⟩
  · have f := KF.xz hty xz
    have hm2 := hm.k f (by decide)
    have hc2 : RCl m2 C a nx W La Ma It T n Tr I0 I1 (wk + 1) st ft := ⟨Or.inl hB, hA.k f (by decide), hR.k f (by decide), hT.k f (by decide), hQ.k f (by decide), hI.k f (by decide), hF.k f (by decide), hS2, (congrFun (f.2.2 0 (by decide) (by decide)) 8).trans h0, (congrFun (f.2.2 13 (by decide) (by decide)) 7).trans h13⟩
    have hm3 := hm2
    obtain ⟨mC, mA, mR, mT, mQ, mI, m0, m17⟩ := hm2
    have h64 := hC.pow
    refine ⟨_, rfl, x, y, z, rfl, C, mC, fun v2 hv2 hv0 => absurd (hv2.trans hrf) hv0, fun A3 B3 w3 fx fy fz hA3 hB3 hw3 _ _ m3 r3 g3 hr3 => ?_⟩
    have eA : A3 = A := ((n_eq (by omega) (by omega)).mp (ex.symm.trans fx)).symm
    have eB : B3 = Bn := ((n_eq (by omega) (by omega)).mp (ey.symm.trans fy)).symm
    have ew : w3 = w := ((n_eq (by omega) (by omega)).mp (ez.symm.trans fz)).symm
    subst eA
    subst eB
    subst ew
    exact ⟨by rw [goV_one hr hr3], RI.same (by omega) hc2 hm3 g3 (by decide) (by decide)⟩
set_option maxHeartbeats 2000000 in
theorem MS_cheapest {m : AM} {t : Nat} {x y z : Int32} (hty : TY m) (h : RI m t) (ht : t < 999999) : Sp_X10_cheapest [vr 10 0, vi x, vi y, vi z] m (two (Sp_X11_cheapest [vr 11 110, vi x, vi y, vi z]) t) := by
  obtain ⟨C, a, nx, W, La, Ma, It, T, n, Tr, I0, I1, wk, st, ft, hw, hc, hm⟩ := h
  obtain ⟨hC, hA, hR, hT, hQ, hI, hF, hS, h0, h13⟩ := id hc
  obtain ⟨mC, mA, mR, mT, mQ, mI, m0, m17⟩ := id hm
  refine ⟨x, y, z, rfl, C, wk, hC, hS, by omega, fun v hv hv0 => ?_, fun A Bn w ex ey ez hA2 hB2 hw2 hd hrf m2 r xz hB hS2 hr => ?_⟩
  · refine ⟨_, rfl, x, y, z, rfl, C, mC, fun v2 hv2 _ m3 g => ?_, fun A Bn w _ _ _ _ _ _ _ hrf => absurd (hv.trans hrf) hv0⟩
    rw [← hv] at hv2
    subst hv2
    exact ⟨rfl, RI.same (by omega) hc hm g (by simp) (by simp)⟩
  · have f := KF.xz hty xz
    have hm2 := hm.k f (by decide)
    have hc2 : RCl m2 C a nx W La Ma It T n Tr I0 I1 (wk + 1) st ft := ⟨Or.inl hB, hA.k f (by decide), hR.k f (by decide), hT.k f (by decide), hQ.k f (by decide), hI.k f (by decide), hF.k f (by decide), hS2, (congrFun (f.2.2 0 (by decide) (by decide)) 8).trans h0, (congrFun (f.2.2 13 (by decide) (by decide)) 7).trans h13⟩
    have hm3 := hm2
    obtain ⟨mC, mA, mR, mT, mQ, mI, m0, m17⟩ := hm2
    have h64 := hC.pow
    refine ⟨_, rfl, x, y, z, rfl, C, mC, fun v2 hv2 hv0 => absurd (hv2.trans hrf) hv0, fun A3 B3 w3 fx fy fz hA3 hB3 hw3 _ _ m3 r3 g3 hr3 => ?_⟩
    have eA : A3 = A := ((n_eq (by omega) (by omega)).mp (ex.symm.trans fx)).symm
    have eB : B3 = Bn := ((n_eq (by omega) (by omega)).mp (ey.symm.trans fy)).symm
    have ew : w3 = w := ((n_eq (by omega) (by omega)).mp (ez.symm.trans fz)).symm
    subst eA
    subst eB
    subst ew
    exact ⟨by rw [goV_one hr hr3], RI.same (by omega) hc2 hm3 g3 (by decide) (by decide)⟩
set_option maxHeartbeats 2000000 in
theorem MS_ever {m : AM} {t : Nat} {x : Int32} (hty : TY m) (h : RI m t) (ht : t < 999999) : Sp_X10_ever [vr 10 0, vi x] m (two (Sp_X11_ever [vr 11 110, vi x]) t) := by
  obtain ⟨C, a, nx, W, La, Ma, It, T, n, Tr, I0, I1, wk, st, ft, hw, hc, hm⟩ := h
  obtain ⟨hC, hA, hR, hT, hQ, hI, hF, hS, h0, h13⟩ := id hc
  obtain ⟨mC, mA, mR, mT, mQ, mI, m0, m17⟩ := id hm
  refine ⟨x, rfl, C, wk, hC, hS, by omega, fun b => ?_, fun b c => ?_, fun w ex hw2 b m2 rs xz hB hS2 hr => ?_⟩
  · refine ⟨_, rfl, x, rfl, C, mC, fun _ m3 g => ⟨rfl, RI.same (by omega) hc hm g (by simp) (by simp)⟩, fun b2 => absurd b2 (by omega), fun w _ _ b2 => absurd b2 (by omega)⟩
  · refine ⟨_, rfl, x, rfl, C, mC, fun b2 => absurd b2 (by omega), fun _ _ m3 g => ⟨rfl, RI.same (by omega) hc hm g (by simp) (by simp)⟩, fun w ex hw2 _ => ?_⟩
    exact nope c ((inB_iff (by omega)).mpr ⟨w, hw2, ex⟩)
  · have f := KF.xz hty xz
    have hm2 := hm.k f (by decide)
    have hc2 : RCl m2 C a nx W La Ma It T n Tr I0 I1 (wk + 1) st ft := ⟨Or.inl hB, hA.k f (by decide), hR.k f (by decide), hT.k f (by decide), hQ.k f (by decide), hI.k f (by decide), hF.k f (by decide), hS2, (congrFun (f.2.2 0 (by decide) (by decide)) 8).trans h0, (congrFun (f.2.2 13 (by decide) (by decide)) 7).trans h13⟩
    have hm3 := hm2
    obtain ⟨mC, mA, mR, mT, mQ, mI, m0, m17⟩ := hm2
    refine ⟨_, rfl, x, rfl, C, mC, fun b2 => absurd b2 (by omega), fun _ c => nope c ((inB_iff (by omega)).mpr ⟨w, hw2, ex⟩), fun w3 fx hw3 _ m3 rs3 g3 hr3 => ?_⟩
    have ew : w3 = w := ((n_eq (by omega) (by omega)).mp (ex.symm.trans fx)).symm
    subst ew
    have one := rs_one hr hr3
    have e1 : orS rs3 64 = orS rs 64 := orS_cg 64 one
    have e2 : cntS rs3 64 = cntS rs 64 := sumN_cg2 64 (fun k hk => by rw [one k hk])
    exact ⟨by rw [e1, e2], RI.same (by omega) hc2 hm3 g3 (by decide) (by decide)⟩
