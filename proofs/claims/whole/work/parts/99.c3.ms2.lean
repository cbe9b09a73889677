/-! each method in the relation, continued: tape, rows, images, court -/
theorem vz {n : Int32} {P : Prop} (h : n < 0) (h2 : inB n 41 = true) : P := by
  unfold inB at h2
  rw [decide_eq_false (fun z => z h)] at h2
  cases h2
theorem vy {n : Int32} {P : Prop} (h : nI 40 < n) (h2 : n < 0) : P := by
  rw [i_lt, nI_toInt (by omega)] at h
  rw [i_lt, i_0] at h2
  omega
theorem vx {n : Int32} {P : Prop} (h : nI 40 < n) (h2 : inB n 41 = true) : P := by
  obtain ⟨j, hj, rfl⟩ := (inB_iff (by omega)).mp h2
  rw [n_lt (by omega) (by omega)] at h
  omega
theorem rowX {x l n : Int32} {P : Prop} (c : inB x 8 = false ∨ inB l 3 = false ∨ nI 40 < n) (d1 : inB x 8 = true) (d2 : inB l 3 = true) (d3 : n < 0 ∨ inB n 41 = true) : P := by
  rcases c with c | c | c
  · exact nope c d1
  · exact nope c d2
  · rcases d3 with d | d
    · exact vy c d
    · exact vx c d
theorem TapC.fd {m m2 : AM} {T : Nat → Nat} {n j : Nat} (h : TapC m T n) (hn : n < 120) (hj : j < 256) (e2 : m2.1 13 2 = nI (n + 1)) (e19 : m2.1 19 = upd (m.1 19) n (nI j)) : TapC m2 (upC T n j) (n + 1) := by
  refine ⟨e2, by omega, fun k hk => ?_⟩
  rw [e19]
  unfold upd
  by_cases z : k = n
  · rw [if_pos z, z, upC_at]
    exact ⟨rfl, hj⟩
  · rw [if_neg z, upC_ne _ _ z]
    exact h.2.2 k (by omega)
theorem TapM.fd {m m2 : AM} {T : Nat → Nat} {n j : Nat} (h : TapM m T n) (hn : n < 120) (hj : j < 256) (e2 : m2.1 110 10 = nI (n + 1)) (e19 : m2.1 117 = upd (m.1 117) n (nI j)) : TapM m2 (upC T n j) (n + 1) := by
  refine ⟨e2, by omega, fun k hk => ?_⟩
  rw [e19]
  unfold upd
  by_cases z : k = n
  · rw [if_pos z, z, upC_at]
    exact ⟨rfl, hj⟩
  · rw [if_neg z, upC_ne _ _ z]
    exact h.2.2 k (by omega)
set_option maxHeartbeats 2000000 in
theorem MS_feed {m : AM} {t : Nat} {x : Int32} (hty : TY m) (h : RI m t) (ht : t < 999999) : Sp_X10_feed [vr 10 0, vi x] m (two (Sp_X11_feed [vr 11 110, vi x]) t) := by
  obtain ⟨C, a, nx, W, La, Ma, It, T, n, Tr, I0, I1, wk, st, ft, hw, hc, hm⟩ := h
  obtain ⟨hC, hA, hR, hT, hQ, hI, hF, hS, h0, h13⟩ := id hc
  obtain ⟨mC, mA, mR, mT, mQ, mI, m0, m17⟩ := id hm
  have hn := hT.2.1
  refine ⟨x, rfl, n, hT.1, hn, fun c => ?_, fun c d => ?_, fun c d => ?_⟩
  · exact ⟨_, rfl, x, rfl, n, mT.1, hn, fun _ m3 g => ⟨rfl, RI.same (by omega) hc hm g (by simp) (by simp)⟩, fun c2 => nope c c2, fun c2 => nope c c2⟩
  · exact ⟨_, rfl, x, rfl, n, mT.1, hn, fun c2 => nope c2 c, fun _ _ m3 g => ⟨rfl, RI.same (by omega) hc hm g (by simp) (by simp)⟩, fun _ d2 => absurd d2 (by omega)⟩
  · have fr : Fr [13, 19] m (mset (mset m 19 n x) 13 2 (nI (n + 1))) := ((Fr.rf _ m).ms (by simp)).ms (by simp)
    have g : Xg [] [13, 19] m (mset (mset m 19 n x) 13 2 (nI (n + 1))) := Xg.fr fr
    have f := KF.fr fr
    have hm2 := hm.k f (by decide)
    obtain ⟨j, hj, rfl⟩ := (inB_iff (by omega)).mp c
    have hT2 : TapC (mset (mset m 19 n (nI j)) 13 2 (nI (n + 1))) (upC T n j) (n + 1) := hT.fd d hj ms_e (by rw [mset_ne _ _ _ (show 19 ≠ 13 by decide), mset_upd])
    have hw2 : (mset (mset m 19 n (nI j)) 13 2 (nI (n + 1))).1 13 7 = ft := by
      rw [ms_o (by decide), mset_ne _ _ _ (show 13 ≠ 19 by decide)]
      exact h13
    have hc2 : RCl (mset (mset m 19 n (nI j)) 13 2 (nI (n + 1))) C a nx W La Ma It (upC T n j) (n + 1) Tr I0 I1 wk st ft := ⟨hC.k f (by decide), hA.k f (by decide), hR.k f (by decide), hT2, hQ.k f (by decide), hI.k f (by decide), hF.k f (by decide), hS.gx hty g (by decide) (by decide), (congrFun (f.2.2 0 (by decide) (by decide)) 8).trans h0, hw2⟩
    obtain ⟨mC, mA, mR, mT, mQ, mI, m0, m17⟩ := hm2
    exact ⟨_, rfl, nI j, rfl, n, mT.1, hn, fun c2 => nope c2 c, fun _ d2 => absurd d2 (by omega), fun _ _ m3 g3 e1 e2 => ⟨rfl, _, _, _, _, _, _, _, _, _, _, _, _, _, _, _, by omega, hc2.fm g3 (by decide), ⟨mC.k g3 (by decide), MAct.fm g3 mA (by decide) (by decide), mR.k g3 (by decide) (by decide) (by decide), mT.fd d hj e1 e2, MTr.fm g3 mQ (by decide) (by decide), mI.k g3 (by decide) (by decide), (g3.2.2 1 (by decide)).trans m0, (g3.2.2 17 (by decide)).trans m17⟩⟩⟩
set_option maxHeartbeats 2000000 in
theorem MS_row {m : AM} {t : Nat} {x l v : Int32} (hty : TY m) (h : RI m t) (ht : t < 999999) : Sp_X10_row [vr 10 0, vi x, vi l, vi v] m (two (Sp_X11_row [vr 11 110, vi x, vi l, vi v]) t) := by
  obtain ⟨C, a, nx, W, La, Ma, It, T, n, Tr, I0, I1, wk, st, ft, hw, hc, hm⟩ := h
  obtain ⟨hC, hA, hR, hT, hQ, hI, hF, hS, h0, h13⟩ := id hc
  obtain ⟨mC, mA, mR, mT, mQ, mI, m0, m17⟩ := id hm
  refine ⟨x, l, v, rfl, La, Ma, It, hR, fun c => ?_, fun c d e m2 fr hR2 e8 => ?_, fun c d e m2 fr hR2 e8 => ?_⟩
  · exact ⟨_, rfl, x, l, v, rfl, La, Ma, It, mR, fun _ m3 g => ⟨rfl, RI.same (by omega) hc hm g (by simp) (by simp)⟩, fun c2 d2 e2 => rowX c c2 d2 (Or.inl e2), fun c2 d2 e2 => rowX c c2 d2 (Or.inr e2)⟩
  · have g : Xg [] (0 :: rowL) m m2 := Xg.fr fr
    have f := KF.fr fr
    have hm2 := hm.k f (by decide)
    have hc2 : RCl m2 C a nx W La Ma It T n Tr I0 I1 wk (nI 4) ft := ⟨hC.k f (by decide), hA.k f (by decide), hR2, hT.k f (by decide), hQ.k f (by decide), hI.k f (by decide), hF.k f (by decide), hS.gx hty g (by decide) (by decide), e8, (congrFun (f.2.2 13 (by decide) (by decide)) 7).trans h13⟩
    obtain ⟨mC, mA, mR, mT, mQ, mI, m0, m17⟩ := hm2
    exact ⟨_, rfl, x, l, v, rfl, La, Ma, It, mR, fun c2 => rowX c2 c d (Or.inl e), fun _ _ _ m3 g3 e1 => ⟨rfl, _, _, _, _, _, _, _, _, _, _, _, _, _, _, _, by omega, hc2.fm g3 (by decide), ⟨mC.k g3 (by decide), MAct.fm g3 mA (by decide) (by decide), mR.k g3 (by decide) (by decide) (by decide), mT.fm g3 (by decide) (by decide), MTr.fm g3 mQ (by decide) (by decide), mI.k g3 (by decide) (by decide), e1, (g3.2.2 17 (by decide)).trans m17⟩⟩, fun _ _ e2 => vz e e2⟩
  · have g : Xg [] (0 :: rowL) m m2 := Xg.fr fr
    have f := KF.fr fr
    have hm2 := hm.k f (by decide)
    have hc2 : RCl m2 C a nx W (upC La x.toNatClampNeg (l.toNatClampNeg + 1)) (upC Ma x.toNatClampNeg v.toNatClampNeg) (layI It x.toNatClampNeg) T n Tr I0 I1 wk (nI 0) ft := ⟨hC.k f (by decide), hA.k f (by decide), hR2, hT.k f (by decide), hQ.k f (by decide), hI.k f (by decide), hF.k f (by decide), hS.gx hty g (by decide) (by decide), e8, (congrFun (f.2.2 13 (by decide) (by decide)) 7).trans h13⟩
    obtain ⟨mC, mA, mR, mT, mQ, mI, m0, m17⟩ := hm2
    exact ⟨_, rfl, x, l, v, rfl, La, Ma, It, mR, fun c2 => rowX c2 c d (Or.inr e), fun _ _ e2 => vz e2 e, fun _ _ _ m3 g3 mR3 e1 => ⟨rfl, _, _, _, _, _, _, _, _, _, _, _, _, _, _, _, by omega, hc2.fm g3 (by decide), ⟨mC.k g3 (by decide), MAct.fm g3 mA (by decide) (by decide), mR3, mT.fm g3 (by decide) (by decide), MTr.fm g3 mQ (by decide) (by decide), mI.k g3 (by decide) (by decide), e1, (g3.2.2 17 (by decide)).trans m17⟩⟩⟩
set_option maxHeartbeats 2000000 in
theorem MS_drop {m : AM} {t : Nat} {x : Int32} (hty : TY m) (h : RI m t) (ht : t < 999999) : Sp_X10_drop [vr 10 0, vi x] m (two (Sp_X11_drop [vr 11 110, vi x]) t) := by
  obtain ⟨C, a, nx, W, La, Ma, It, T, n, Tr, I0, I1, wk, st, ft, hw, hc, hm⟩ := h
  obtain ⟨hC, hA, hR, hT, hQ, hI, hF, hS, h0, h13⟩ := id hc
  obtain ⟨mC, mA, mR, mT, mQ, mI, m0, m17⟩ := id hm
  refine ⟨x, rfl, La, Ma, It, hR, fun c => ?_, fun c d m2 fr hR2 e8 => ?_, fun c d m2 fr hR2 e8 => ?_⟩
  · exact ⟨_, rfl, x, rfl, La, Ma, It, mR, fun _ m3 g => ⟨rfl, RI.same (by omega) hc hm g (by simp) (by simp)⟩, fun c2 => nope c c2, fun c2 => nope c c2⟩
  · have g : Xg [] (0 :: rowL) m m2 := Xg.fr fr
    have f := KF.fr fr
    have hm2 := hm.k f (by decide)
    have hc2 : RCl m2 C a nx W La Ma It T n Tr I0 I1 wk (nI 1) ft := ⟨hC.k f (by decide), hA.k f (by decide), hR2, hT.k f (by decide), hQ.k f (by decide), hI.k f (by decide), hF.k f (by decide), hS.gx hty g (by decide) (by decide), e8, (congrFun (f.2.2 13 (by decide) (by decide)) 7).trans h13⟩
    obtain ⟨mC, mA, mR, mT, mQ, mI, m0, m17⟩ := hm2
    exact ⟨_, rfl, x, rfl, La, Ma, It, mR, fun c2 => nope c2 c, fun _ _ m3 g3 e1 => ⟨rfl, _, _, _, _, _, _, _, _, _, _, _, _, _, _, _, by omega, hc2.fm g3 (by decide), ⟨mC.k g3 (by decide), MAct.fm g3 mA (by decide) (by decide), mR.k g3 (by decide) (by decide) (by decide), mT.fm g3 (by decide) (by decide), MTr.fm g3 mQ (by decide) (by decide), mI.k g3 (by decide) (by decide), e1, (g3.2.2 17 (by decide)).trans m17⟩⟩, fun _ d2 => absurd d2 (by omega)⟩
  · have g : Xg [] (0 :: rowL) m m2 := Xg.fr fr
    have f := KF.fr fr
    have hm2 := hm.k f (by decide)
    have hc2 : RCl m2 C a nx W (upC La x.toNatClampNeg 0) Ma It T n Tr I0 I1 wk (nI 0) ft := ⟨hC.k f (by decide), hA.k f (by decide), hR2, hT.k f (by decide), hQ.k f (by decide), hI.k f (by decide), hF.k f (by decide), hS.gx hty g (by decide) (by decide), e8, (congrFun (f.2.2 13 (by decide) (by decide)) 7).trans h13⟩
    obtain ⟨mC, mA, mR, mT, mQ, mI, m0, m17⟩ := hm2
    exact ⟨_, rfl, x, rfl, La, Ma, It, mR, fun c2 => nope c2 c, fun _ d2 => absurd d2 (by omega), fun _ _ m3 g3 mR3 e1 => ⟨rfl, _, _, _, _, _, _, _, _, _, _, _, _, _, _, _, by omega, hc2.fm g3 (by decide), ⟨mC.k g3 (by decide), MAct.fm g3 mA (by decide) (by decide), mR3, mT.fm g3 (by decide) (by decide), MTr.fm g3 mQ (by decide) (by decide), mI.k g3 (by decide) (by decide), e1, (g3.2.2 17 (by decide)).trans m17⟩⟩⟩
set_option maxHeartbeats 2000000 in
theorem MS_set {m : AM} {t : Nat} {x i v : Int32} (hty : TY m) (h : RI m t) (ht : t < 999999) : Sp_X10_set [vr 10 0, vi x, vi i, vi v] m (two (Sp_X11_set [vr 11 110, vi x, vi i, vi v]) t) := by
  obtain ⟨C, a, nx, W, La, Ma, It, T, n, Tr, I0, I1, wk, st, ft, hw, hc, hm⟩ := h
  obtain ⟨hC, hA, hR, hT, hQ, hI, hF, hS, h0, h13⟩ := id hc
  obtain ⟨mC, mA, mR, mT, mQ, mI, m0, m17⟩ := id hm
  refine ⟨x, i, v, rfl, La, Ma, It, hR, fun c => ?_, fun c d m2 fr hR2 e8 => ?_, fun c d e m2 fr hR2 e8 => ?_, fun c d e m2 fr hR2 e8 => ?_⟩
  · exact ⟨_, rfl, x, i, v, rfl, La, Ma, It, mR, fun _ m3 g => ⟨rfl, RI.same (by omega) hc hm g (by simp) (by simp)⟩, fun c2 => nope c c2, fun c2 => nope c c2, fun c2 => nope c c2⟩
  · have g : Xg [] (0 :: rowL) m m2 := Xg.fr fr
    have f := KF.fr fr
    have hm2 := hm.k f (by decide)
    have hc2 : RCl m2 C a nx W La Ma It T n Tr I0 I1 wk (nI 1) ft := ⟨hC.k f (by decide), hA.k f (by decide), hR2, hT.k f (by decide), hQ.k f (by decide), hI.k f (by decide), hF.k f (by decide), hS.gx hty g (by decide) (by decide), e8, (congrFun (f.2.2 13 (by decide) (by decide)) 7).trans h13⟩
    obtain ⟨mC, mA, mR, mT, mQ, mI, m0, m17⟩ := hm2
    exact ⟨_, rfl, x, i, v, rfl, La, Ma, It, mR, fun c2 => nope c2 c, fun _ _ m3 g3 e1 => ⟨rfl, _, _, _, _, _, _, _, _, _, _, _, _, _, _, _, by omega, hc2.fm g3 (by decide), ⟨mC.k g3 (by decide), MAct.fm g3 mA (by decide) (by decide), mR.k g3 (by decide) (by decide) (by decide), mT.fm g3 (by decide) (by decide), MTr.fm g3 mQ (by decide) (by decide), mI.k g3 (by decide) (by decide), e1, (g3.2.2 17 (by decide)).trans m17⟩⟩, fun _ d2 => absurd d2 (by omega), fun _ d2 => absurd d2 (by omega)⟩
  · have g : Xg [] (0 :: rowL) m m2 := Xg.fr fr
    have f := KF.fr fr
    have hm2 := hm.k f (by decide)
    have hc2 : RCl m2 C a nx W La Ma It T n Tr I0 I1 wk (nI 2) ft := ⟨hC.k f (by decide), hA.k f (by decide), hR2, hT.k f (by decide), hQ.k f (by decide), hI.k f (by decide), hF.k f (by decide), hS.gx hty g (by decide) (by decide), e8, (congrFun (f.2.2 13 (by decide) (by decide)) 7).trans h13⟩
    obtain ⟨mC, mA, mR, mT, mQ, mI, m0, m17⟩ := hm2
    exact ⟨_, rfl, x, i, v, rfl, La, Ma, It, mR, fun c2 => nope c2 c, fun _ d2 => absurd d2 (by omega), fun _ _ _ m3 g3 e1 => ⟨rfl, _, _, _, _, _, _, _, _, _, _, _, _, _, _, _, by omega, hc2.fm g3 (by decide), ⟨mC.k g3 (by decide), MAct.fm g3 mA (by decide) (by decide), mR.k g3 (by decide) (by decide) (by decide), mT.fm g3 (by decide) (by decide), MTr.fm g3 mQ (by decide) (by decide), mI.k g3 (by decide) (by decide), e1, (g3.2.2 17 (by decide)).trans m17⟩⟩, fun _ _ e2 => nope e e2⟩
  · have g : Xg [] (0 :: rowL) m m2 := Xg.fr fr
    have f := KF.fr fr
    have hm2 := hm.k f (by decide)
    have hc2 : RCl m2 C a nx W La Ma (upI It x.toNatClampNeg i.toNatClampNeg (narV (La x.toNatClampNeg - 1) v)) T n Tr I0 I1 wk (nI 0) ft := ⟨hC.k f (by decide), hA.k f (by decide), hR2, hT.k f (by decide), hQ.k f (by decide), hI.k f (by decide), hF.k f (by decide), hS.gx hty g (by decide) (by decide), e8, (congrFun (f.2.2 13 (by decide) (by decide)) 7).trans h13⟩
    obtain ⟨mC, mA, mR, mT, mQ, mI, m0, m17⟩ := hm2
    exact ⟨_, rfl, x, i, v, rfl, La, Ma, It, mR, fun c2 => nope c2 c, fun _ d2 => absurd d2 (by omega), fun _ _ e2 => nope e2 e, fun _ _ _ m3 g3 mR3 e1 => ⟨rfl, _, _, _, _, _, _, _, _, _, _, _, _, _, _, _, by omega, hc2.fm g3 (by decide), ⟨mC.k g3 (by decide), MAct.fm g3 mA (by decide) (by decide), mR3, mT.fm g3 (by decide) (by decide), MTr.fm g3 mQ (by decide) (by decide), mI.k g3 (by decide) (by decide), e1, (g3.2.2 17 (by decide)).trans m17⟩⟩⟩
set_option maxHeartbeats 2000000 in
theorem MS_copy {m : AM} {t : Nat} {x i y j v : Int32} (hty : TY m) (h : RI m t) (ht : t < 999999) : Sp_X10_copy [vr 10 0, vi x, vi i, vi y, vi j, vi v] m (two (Sp_X11_copy [vr 11 110, vi x, vi i, vi y, vi j, vi v]) t) := by
  obtain ⟨C, a, nx, W, La, Ma, It, T, n, Tr, I0, I1, wk, st, ft, hw, hc, hm⟩ := h
  obtain ⟨hC, hA, hR, hT, hQ, hI, hF, hS, h0, h13⟩ := id hc
  obtain ⟨mC, mA, mR, mT, mQ, mI, m0, m17⟩ := id hm
  refine ⟨x, i, y, j, v, rfl, La, Ma, It, hR, fun c => ?_, fun c d m2 fr hR2 e8 => ?_, fun c d1 d2 d3 m2 fr hR2 e8 => ?_, fun c d1 d2 e m2 fr hR2 e8 => ?_, fun c d1 d2 e m2 fr hR2 e8 => ?_⟩
  · exact ⟨_, rfl, x, i, y, j, v, rfl, La, Ma, It, mR, fun _ m3 g => ⟨rfl, RI.same (by omega) hc hm g (by simp) (by simp)⟩, fun c2 => nope c c2, fun c2 => nope c c2, fun c2 => nope c c2, fun c2 => nope c c2⟩
  · have g : Xg [] (0 :: rowL) m m2 := Xg.fr fr
    have f := KF.fr fr
    have hm2 := hm.k f (by decide)
    have hc2 : RCl m2 C a nx W La Ma It T n Tr I0 I1 wk (nI 1) ft := ⟨hC.k f (by decide), hA.k f (by decide), hR2, hT.k f (by decide), hQ.k f (by decide), hI.k f (by decide), hF.k f (by decide), hS.gx hty g (by decide) (by decide), e8, (congrFun (f.2.2 13 (by decide) (by decide)) 7).trans h13⟩
    obtain ⟨mC, mA, mR, mT, mQ, mI, m0, m17⟩ := hm2
    exact ⟨_, rfl, x, i, y, j, v, rfl, La, Ma, It, mR, fun c2 => nope c2 c, fun _ _ m3 g3 e1 => ⟨rfl, _, _, _, _, _, _, _, _, _, _, _, _, _, _, _, by omega, hc2.fm g3 (by decide), ⟨mC.k g3 (by decide), MAct.fm g3 mA (by decide) (by decide), mR.k g3 (by decide) (by decide) (by decide), mT.fm g3 (by decide) (by decide), MTr.fm g3 mQ (by decide) (by decide), mI.k g3 (by decide) (by decide), e1, (g3.2.2 17 (by decide)).trans m17⟩⟩, fun _ p q => absurd d (by omega), fun _ p q => absurd d (by omega), fun _ p q => absurd d (by omega)⟩
  · have g : Xg [] (0 :: rowL) m m2 := Xg.fr fr
    have f := KF.fr fr
    have hm2 := hm.k f (by decide)
    have hc2 : RCl m2 C a nx W La Ma It T n Tr I0 I1 wk (nI 5) ft := ⟨hC.k f (by decide), hA.k f (by decide), hR2, hT.k f (by decide), hQ.k f (by decide), hI.k f (by decide), hF.k f (by decide), hS.gx hty g (by decide) (by decide), e8, (congrFun (f.2.2 13 (by decide) (by decide)) 7).trans h13⟩
    obtain ⟨mC, mA, mR, mT, mQ, mI, m0, m17⟩ := hm2
    exact ⟨_, rfl, x, i, y, j, v, rfl, La, Ma, It, mR, fun c2 => nope c2 c, fun _ p => absurd p (by omega), fun _ _ _ _ m3 g3 e1 => ⟨rfl, _, _, _, _, _, _, _, _, _, _, _, _, _, _, _, by omega, hc2.fm g3 (by decide), ⟨mC.k g3 (by decide), MAct.fm g3 mA (by decide) (by decide), mR.k g3 (by decide) (by decide) (by decide), mT.fm g3 (by decide) (by decide), MTr.fm g3 mQ (by decide) (by decide), mI.k g3 (by decide) (by decide), e1, (g3.2.2 17 (by decide)).trans m17⟩⟩, fun _ _ p => absurd p d3, fun _ _ p => absurd p d3⟩
  · have g : Xg [] (0 :: rowL) m m2 := Xg.fr fr
    have f := KF.fr fr
    have hm2 := hm.k f (by decide)
    have hc2 : RCl m2 C a nx W La Ma It T n Tr I0 I1 wk (nI 2) ft := ⟨hC.k f (by decide), hA.k f (by decide), hR2, hT.k f (by decide), hQ.k f (by decide), hI.k f (by decide), hF.k f (by decide), hS.gx hty g (by decide) (by decide), e8, (congrFun (f.2.2 13 (by decide) (by decide)) 7).trans h13⟩
    obtain ⟨mC, mA, mR, mT, mQ, mI, m0, m17⟩ := hm2
    exact ⟨_, rfl, x, i, y, j, v, rfl, La, Ma, It, mR, fun c2 => nope c2 c, fun _ p => absurd p (by omega), fun _ _ _ p => absurd d2 p, fun _ _ _ _ m3 g3 e1 => ⟨rfl, _, _, _, _, _, _, _, _, _, _, _, _, _, _, _, by omega, hc2.fm g3 (by decide), ⟨mC.k g3 (by decide), MAct.fm g3 mA (by decide) (by decide), mR.k g3 (by decide) (by decide) (by decide), mT.fm g3 (by decide) (by decide), MTr.fm g3 mQ (by decide) (by decide), mI.k g3 (by decide) (by decide), e1, (g3.2.2 17 (by decide)).trans m17⟩⟩, fun _ _ _ p => nope e p⟩
  · have g : Xg [] (0 :: rowL) m m2 := Xg.fr fr
    have f := KF.fr fr
    have hm2 := hm.k f (by decide)
    have hc2 : RCl m2 C a nx W La Ma (cpI It x.toNatClampNeg i.toNatClampNeg y.toNatClampNeg j.toNatClampNeg v.toNatClampNeg) T n Tr I0 I1 wk (nI 0) ft := ⟨hC.k f (by decide), hA.k f (by decide), hR2, hT.k f (by decide), hQ.k f (by decide), hI.k f (by decide), hF.k f (by decide), hS.gx hty g (by decide) (by decide), e8, (congrFun (f.2.2 13 (by decide) (by decide)) 7).trans h13⟩
    obtain ⟨mC, mA, mR, mT, mQ, mI, m0, m17⟩ := hm2
    exact ⟨_, rfl, x, i, y, j, v, rfl, La, Ma, It, mR, fun c2 => nope c2 c, fun _ p => absurd p (by omega), fun _ _ _ p => absurd d2 p, fun _ _ _ p => nope p e, fun _ _ _ _ m3 g3 mR3 e1 => ⟨rfl, _, _, _, _, _, _, _, _, _, _, _, _, _, _, _, by omega, hc2.fm g3 (by decide), ⟨mC.k g3 (by decide), MAct.fm g3 mA (by decide) (by decide), mR3, mT.fm g3 (by decide) (by decide), MTr.fm g3 mQ (by decide) (by decide), mI.k g3 (by decide) (by decide), e1, (g3.2.2 17 (by decide)).trans m17⟩⟩⟩
theorem ImN.kp0 {m m3 : AM} {C : Nat → Nat} {I0 I1 : Nat × (Nat → Nat)} (h : ImN m I0 I1) (hC : MC m C) (q1 : m3.1 122 = upd (m.1 122) 0 (nI 1)) (q2 : m3.1 123 = va_cpy (m.1 114) (m.1 123) 0 (50 * 0) 50) : ImN m3 (1, C) I1 := by
  obtain ⟨h1, h2, h3⟩ := h
  unfold ImN ImM
  rw [q1, q2]
  refine ⟨⟨rfl, fun _ j hj => ?_⟩, h2, fun e j hj => ?_⟩
  · show (if 50 * 0 ≤ 50 * 0 + j ∧ 50 * 0 + j < 50 * 0 + 50 then m.1 114 (0 + (50 * 0 + j - 50 * 0)) else _) = _
    rw [if_pos (by omega), show 0 + (50 * 0 + j - 50 * 0) = j by omega]
    exact hC j hj
  · show (if 50 * 0 ≤ 50 * 1 + j ∧ 50 * 1 + j < 50 * 0 + 50 then _ else m.1 123 (50 * 1 + j)) = _
    rw [if_neg (by omega)]
    exact h3 e j hj
theorem ImN.kp1 {m m3 : AM} {C : Nat → Nat} {I0 I1 : Nat × (Nat → Nat)} (h : ImN m I0 I1) (hC : MC m C) (q1 : m3.1 122 = upd (m.1 122) 1 (nI 1)) (q2 : m3.1 123 = va_cpy (m.1 114) (m.1 123) 0 (50 * 1) 50) : ImN m3 I0 (1, C) := by
  obtain ⟨⟨h1, h3⟩, h2⟩ := h
  unfold ImN ImM
  rw [q1, q2]
  refine ⟨⟨h1, fun e j hj => ?_⟩, rfl, fun _ j hj => ?_⟩
  · show (if 50 * 1 ≤ 50 * 0 + j ∧ 50 * 0 + j < 50 * 1 + 50 then _ else m.1 123 (50 * 0 + j)) = _
    rw [if_neg (by omega)]
    exact h3 e j hj
  · show (if 50 * 1 ≤ 50 * 1 + j ∧ 50 * 1 + j < 50 * 1 + 50 then m.1 114 (0 + (50 * 1 + j - 50 * 1)) else _) = _
    rw [if_pos (by omega), show 0 + (50 * 1 + j - 50 * 1) = j by omega]
    exact hC j hj
set_option maxHeartbeats 2000000 in
theorem MS_image {m : AM} {t : Nat} {k : Int32} (hty : TY m) (h : RI m t) (ht : t < 999999) : Sp_X10_image [vr 10 0, vi k] m (two (Sp_X11_image [vr 11 110, vi k]) t) := by
  obtain ⟨C, a, nx, W, La, Ma, It, T, n, Tr, I0, I1, wk, st, ft, hw, hc, hm⟩ := h
  obtain ⟨hC, hA, hR, hT, hQ, hI, hF, hS, h0, h13⟩ := id hc
  obtain ⟨mC, mA, mR, mT, mQ, mI, m0, m17⟩ := id hm
  by_cases q : inB k 2 = true
  · obtain ⟨j, hj, rfl⟩ := (inB_iff (by omega)).mp q
    rcases (show j = 0 ∨ j = 1 by omega) with rfl | rfl
    · refine ⟨nI 0, rfl, C, hC, fun c => nope c (by decide), fun c d => ?_, fun c d i m2 hi fr hIm e2 => ?_⟩
      · exact ⟨_, rfl, nI 0, rfl, C, mC, fun c2 => nope c2 c, fun _ _ m3 g => ⟨rfl, RI.same (by omega) hc hm g (by simp) (by simp)⟩, fun _ d2 => absurd d2 (by omega)⟩
      · rw [n_cl (by omega)] at hi
        have hi : i = 82 := by omega
        subst hi
        have g : Xg [] [82, 83, 84, 85, 86, 87, 88, 89] m m2 := Xg.fr fr
        have f := KF.fr fr
        have hm2 := hm.k f (by decide)
        have hc2 : RCl m2 C a nx W La Ma It T n Tr (1, C) I1 wk st ft := ⟨hC.k f (by decide), hA.k f (by decide), hR.k f (by decide), hT.k f (by decide), hQ.k f (by decide), ⟨⟨e2, Nat.le_refl 1, fun _ => hIm⟩, hI.2.k f (by decide) (by decide)⟩, hF.k f (by decide), hS.gx hty g (by decide) (by decide), (congrFun (f.2.2 0 (by decide) (by decide)) 8).trans h0, (congrFun (f.2.2 13 (by decide) (by decide)) 7).trans h13⟩
        obtain ⟨mC, mA, mR, mT, mQ, mI, m0, m17⟩ := hm2
        refine ⟨_, rfl, nI 0, rfl, C, mC, fun c2 => nope c2 c, fun _ d2 => absurd d2 (by omega), fun _ _ m3 g3 q1 q2 => ⟨rfl, _, _, _, _, _, _, _, _, _, _, _, _, _, _, _, by omega, hc2.fm g3 (by decide), ⟨mC.k g3 (by decide), MAct.fm g3 mA (by decide) (by decide), mR.k g3 (by decide) (by decide) (by decide), mT.fm g3 (by decide) (by decide), MTr.fm g3 mQ (by decide) (by decide), ?_, (g3.2.2 1 (by decide)).trans m0, (g3.2.2 17 (by decide)).trans m17⟩⟩⟩
        rw [n_cl (by omega)] at q1 q2
        exact mI.kp0 mC.1 q1 q2
    · refine ⟨nI 1, rfl, C, hC, fun c => nope c (by decide), fun c d => ?_, fun c d i m2 hi fr hIm e2 => ?_⟩
      · exact ⟨_, rfl, nI 1, rfl, C, mC, fun c2 => nope c2 c, fun _ _ m3 g => ⟨rfl, RI.same (by omega) hc hm g (by simp) (by simp)⟩, fun _ d2 => absurd d2 (by omega)⟩
      · rw [n_cl (by omega)] at hi
        have hi : i = 90 := by omega
        subst hi
        have g : Xg [] [90, 91, 92, 93, 94, 95, 96, 97] m m2 := Xg.fr fr
        have f := KF.fr fr
        have hm2 := hm.k f (by decide)
        have hc2 : RCl m2 C a nx W La Ma It T n Tr I0 (1, C) wk st ft := ⟨hC.k f (by decide), hA.k f (by decide), hR.k f (by decide), hT.k f (by decide), hQ.k f (by decide), ⟨hI.1.k f (by decide) (by decide), ⟨e2, Nat.le_refl 1, fun _ => hIm⟩⟩, hF.k f (by decide), hS.gx hty g (by decide) (by decide), (congrFun (f.2.2 0 (by decide) (by decide)) 8).trans h0, (congrFun (f.2.2 13 (by decide) (by decide)) 7).trans h13⟩
        obtain ⟨mC, mA, mR, mT, mQ, mI, m0, m17⟩ := hm2
        refine ⟨_, rfl, nI 1, rfl, C, mC, fun c2 => nope c2 c, fun _ d2 => absurd d2 (by omega), fun _ _ m3 g3 q1 q2 => ⟨rfl, _, _, _, _, _, _, _, _, _, _, _, _, _, _, _, by omega, hc2.fm g3 (by decide), ⟨mC.k g3 (by decide), MAct.fm g3 mA (by decide) (by decide), mR.k g3 (by decide) (by decide) (by decide), mT.fm g3 (by decide) (by decide), MTr.fm g3 mQ (by decide) (by decide), ?_, (g3.2.2 1 (by decide)).trans m0, (g3.2.2 17 (by decide)).trans m17⟩⟩⟩
        rw [n_cl (by omega)] at q1 q2
        exact mI.kp1 mC.1 q1 q2
  · have q := Bool.eq_false_iff.mpr q
    exact ⟨k, rfl, C, hC, fun c => ⟨_, rfl, k, rfl, C, mC, fun _ m3 g => ⟨rfl, RI.same (by omega) hc hm g (by simp) (by simp)⟩, fun c2 => nope c c2, fun c2 => nope c c2⟩, fun c => nope q c, fun c => nope q c⟩
set_option maxHeartbeats 2000000 in
theorem MS_restore {m : AM} {t : Nat} {k : Int32} (hty : TY m) (h : RI m t) (ht : t < 999999) : Sp_X10_restore [vr 10 0, vi k] m (two (Sp_X11_restore [vr 11 110, vi k]) t) := by
  obtain ⟨C, a, nx, W, La, Ma, It, T, n, Tr, I0, I1, wk, st, ft, hw, hc, hm⟩ := h
  obtain ⟨hC, hA, hR, hT, hQ, hI, hF, hS, h0, h13⟩ := id hc
  obtain ⟨mC, mA, mR, mT, mQ, mI, m0, m17⟩ := id hm
  by_cases q : inB k 2 = true
  · obtain ⟨j, hj, rfl⟩ := (inB_iff (by omega)).mp q
    rcases (show j = 0 ∨ j = 1 by omega) with rfl | rfl
    · have hi := hI.1
      have mi := mI.1
      refine ⟨nI 0, rfl, I0.2, I0.1, nx, W, hA.1, hA.2.1, fun c => nope c q, fun _ => ⟨by rw [n_cl (by omega)]; exact hi.1, hi.2.1, fun e => by rw [n_cl (by omega)]; exact hi.2.2 e⟩, fun c d => ?_, fun c d m2 fr hB hA2 => ?_⟩
      · exact ⟨_, rfl, nI 0, rfl, I0.2, I0.1, fun c2 => nope c2 q, fun _ => ⟨by rw [n_cl (by omega)]; exact mi.1, hi.2.1, fun e => by rw [n_cl (by omega)]; exact mi.2 e⟩, fun _ _ m3 g => ⟨rfl, RI.same (by omega) hc hm g (by simp) (by simp)⟩, fun _ d2 => absurd d2 (by omega)⟩
      · have g : Xg [] [21, 22, 23, 24, 25, 26, 27, 28, 29, 30, 31] m m2 := Xg.fr fr
        have f := KF.fr fr
        have hm2 := hm.k f (by decide)
        have hc2 : RCl m2 I0.2 0 nx W La Ma It T n Tr I0 I1 wk st ft := ⟨Or.inl hB, hA2, hR.k f (by decide), hT.k f (by decide), hQ.k f (by decide), hI.k f (by decide), hF.k f (by decide), hS.gx hty g (by decide) (by decide), (congrFun (f.2.2 0 (by decide) (by decide)) 8).trans h0, (congrFun (f.2.2 13 (by decide) (by decide)) 7).trans h13⟩
        obtain ⟨mC, mA, mR, mT, mQ, mI, m0, m17⟩ := hm2
        have mi := mI.1
        exact ⟨_, rfl, nI 0, rfl, I0.2, I0.1, fun c2 => nope c2 q, fun _ => ⟨by rw [n_cl (by omega)]; exact mi.1, hi.2.1, fun e => by rw [n_cl (by omega)]; exact mi.2 e⟩, fun _ d2 => absurd d2 (by omega), fun _ _ m3 g3 hMC h8 => ⟨rfl, _, _, _, _, _, _, _, _, _, _, _, _, _, _, _, by omega, hc2.fm g3 (by decide), ⟨⟨hMC, Or.inl hB.1⟩, ⟨h8, Nat.zero_le _, fun i hi => absurd hi (Nat.not_lt_zero i)⟩, mR.k g3 (by decide) (by decide) (by decide), mT.fm g3 (by decide) (by decide), MTr.fm g3 mQ (by decide) (by decide), mI.k g3 (by decide) (by decide), (g3.2.2 1 (by decide)).trans m0, (g3.2.2 17 (by decide)).trans m17⟩⟩⟩
    · have hi := hI.2
      have mi := mI.2
      refine ⟨nI 1, rfl, I1.2, I1.1, nx, W, hA.1, hA.2.1, fun c => nope c q, fun _ => ⟨by rw [n_cl (by omega)]; exact hi.1, hi.2.1, fun e => by rw [n_cl (by omega)]; exact hi.2.2 e⟩, fun c d => ?_, fun c d m2 fr hB hA2 => ?_⟩
      · exact ⟨_, rfl, nI 1, rfl, I1.2, I1.1, fun c2 => nope c2 q, fun _ => ⟨by rw [n_cl (by omega)]; exact mi.1, hi.2.1, fun e => by rw [n_cl (by omega)]; exact mi.2 e⟩, fun _ _ m3 g => ⟨rfl, RI.same (by omega) hc hm g (by simp) (by simp)⟩, fun _ d2 => absurd d2 (by omega)⟩
      · have g : Xg [] [21, 22, 23, 24, 25, 26, 27, 28, 29, 30, 31] m m2 := Xg.fr fr
        have f := KF.fr fr
        have hm2 := hm.k f (by decide)
        have hc2 : RCl m2 I1.2 0 nx W La Ma It T n Tr I0 I1 wk st ft := ⟨Or.inl hB, hA2, hR.k f (by decide), hT.k f (by decide), hQ.k f (by decide), hI.k f (by decide), hF.k f (by decide), hS.gx hty g (by decide) (by decide), (congrFun (f.2.2 0 (by decide) (by decide)) 8).trans h0, (congrFun (f.2.2 13 (by decide) (by decide)) 7).trans h13⟩
        obtain ⟨mC, mA, mR, mT, mQ, mI, m0, m17⟩ := hm2
        have mi := mI.2
        exact ⟨_, rfl, nI 1, rfl, I1.2, I1.1, fun c2 => nope c2 q, fun _ => ⟨by rw [n_cl (by omega)]; exact mi.1, hi.2.1, fun e => by rw [n_cl (by omega)]; exact mi.2 e⟩, fun _ d2 => absurd d2 (by omega), fun _ _ m3 g3 hMC h8 => ⟨rfl, _, _, _, _, _, _, _, _, _, _, _, _, _, _, _, by omega, hc2.fm g3 (by decide), ⟨⟨hMC, Or.inl hB.1⟩, ⟨h8, Nat.zero_le _, fun i hi => absurd hi (Nat.not_lt_zero i)⟩, mR.k g3 (by decide) (by decide) (by decide), mT.fm g3 (by decide) (by decide), MTr.fm g3 mQ (by decide) (by decide), mI.k g3 (by decide) (by decide), (g3.2.2 1 (by decide)).trans m0, (g3.2.2 17 (by decide)).trans m17⟩⟩⟩
  · have q := Bool.eq_false_iff.mpr q
    exact ⟨k, rfl, C, 0, nx, W, hA.1, hA.2.1, fun c => ⟨_, rfl, k, rfl, C, 0, fun _ m3 g => ⟨rfl, RI.same (by omega) hc hm g (by simp) (by simp)⟩, fun c2 => nope c c2, fun c2 => nope c c2, fun c2 => nope c c2⟩, fun c => nope q c, fun c => nope q c, fun c => nope q c⟩
set_option maxHeartbeats 2000000 in
theorem MS_court {m : AM} {t : Nat} (hty : TY m) (h : RI m t) (ht : t < 999999) : Sp_X10_court [vr 10 0] m (two (Sp_X11_court [vr 11 110]) t) := by
  obtain ⟨C, a, nx, W, La, Ma, It, T, n, Tr, I0, I1, wk, st, ft, hw, hc, hm⟩ := h
  obtain ⟨hC, hA, hR, hT, hQ, hI, hF, hS, h0, h13⟩ := id hc
  obtain ⟨mC, mA, mR, mT, mQ, mI, m0, m17⟩ := id hm
  have hz : ∀ {M : AM}, M.1 13 2 = nI 0 → TapC M T 0 := fun e => ⟨e, Nat.zero_le _, fun k hk => absurd hk (Nat.not_lt_zero k)⟩
  have mz : ∀ {M : AM}, M.1 110 10 = nI 0 → TapM M T 0 := fun e => ⟨e, Nat.zero_le _, fun k hk => absurd hk (Nat.not_lt_zero k)⟩
  refine ⟨rfl, T, n, hT, fun f1 pl m2 hE tp e2 e7 => ?_, fun G m2 hE hv hz0 fr e2 e7 hB e311 e312 => ?_⟩
  · have fr := tp.fr
    have g : Xg [] [13, 14, 15, 16, 17, 18] m m2 := Xg.fr fr
    have f := KF.fr fr
    have hm2 := hm.k f (by decide)
    have hc2 : RCl m2 C a nx W La Ma It T 0 Tr I0 I1 wk st (nI f1) := ⟨hC.k f (by decide), hA.k f (by decide), hR.k f (by decide), hz e2, hQ.k f (by decide), hI.k f (by decide), hF.k f (by decide), hS.gx hty g (by decide) (by decide), (congrFun (f.2.2 0 (by decide) (by decide)) 8).trans h0, e7⟩
    obtain ⟨mC, mA, mR, mT, mQ, mI, m0, m17⟩ := hm2
    refine ⟨_, rfl, rfl, T, n, mT, fun f2 pl2 m3 hE2 g3 e114 e8 e10 e17 => ?_, fun G m3 hE2 => ?_⟩
    · rw [hE] at hE2
      cases hE2
      refine ⟨rfl, _, _, _, _, _, _, _, _, _, _, _, _, _, _, _, by omega, hc2.fm g3 (by decide), ⟨fun k hk => by rw [e114]; exact mC.1 k hk, mC.2⟩, ⟨e8.trans mA.1, mA.2.1, fun i hi j hj => ?_⟩, mR.k g3 (by decide) (by decide) (by decide), mz e10, MTr.fm g3 mQ (by decide) (by decide), mI.k g3 (by decide) (by decide), (g3.2.2 1 (by decide)).trans m0, e17⟩
      rw [g3.2.1 116 (by decide) (by decide)]
      exact mA.2.2 i hi j hj
    · rw [hE] at hE2
      cases hE2
  · have g : Xg [] crtL m m2 := Xg.fr fr
    have f := KF.fr fr
    have hm2 := hm.k f (by decide)
    have hA2 : ActR m2 G 0 nx W := ⟨e311.trans hA.1, hA.2.1, e312, Nat.zero_le _, fun i hi => absurd hi (Nat.not_lt_zero i)⟩
    have hc2 : RCl m2 G 0 nx W La Ma It T 0 Tr I0 I1 wk st ft := ⟨Or.inl hB, hA2, hR.k f (by decide), hz e2, hQ.k f (by decide), hI.k f (by decide), hF.k f (by decide), hS.gx hty g (by decide) (by decide), (congrFun (f.2.2 0 (by decide) (by decide)) 8).trans h0, e7.trans h13⟩
    obtain ⟨mC, mA, mR, mT, mQ, mI, m0, m17⟩ := hm2
    refine ⟨_, rfl, rfl, T, n, mT, fun f2 pl2 m3 hE2 => ?_, fun G2 m3 hE2 g3 hMC e8 e10 e17 => ?_⟩
    · rw [hE] at hE2
      cases hE2
    · rw [hE] at hE2
      cases hE2
      exact ⟨rfl, _, _, _, _, _, _, _, _, _, _, _, _, _, _, _, by omega, hc2.fm g3 (by decide), ⟨hMC, Or.inl hv⟩, ⟨e8, Nat.zero_le _, fun i hi => absurd hi (Nat.not_lt_zero i)⟩, mR.k g3 (by decide) (by decide) (by decide), mz e10, MTr.fm g3 mQ (by decide) (by decide), mI.k g3 (by decide) (by decide), (g3.2.2 1 (by decide)).trans m0, e17.trans m17⟩
