/-! each method: the class's answer is the reference's, and the relation goes on -/
theorem CR.cu {C : Nat → Nat} {m m2 : AM} (h : CR m C) (hu : CU C m m2) : CR m2 C := by
  rcases h with hB | hN
  · exact Or.inl (hB.cu hu)
  · refine Or.inr ?_
    unfold NoR
    rw [hu.ne (show 21 ≠ 30 by decide), hu.ne (show 26 ≠ 30 by decide)]
    exact hN
set_option maxHeartbeats 2000000 in
theorem MS_cell {m : AM} {t : Nat} {p : Int32} (hty : TY m) (h : RI m t) (ht : t < 999999) : Sp_X10_cell [vr 10 0, vi p] m (two (Sp_X11_cell [vr 11 110, vi p]) t) := by
  obtain ⟨C, a, nx, W, La, Ma, It, T, n, Tr, I0, I1, wk, st, ft, hw, hc, hm⟩ := h
  obtain ⟨hC, hA, hR, hT, hQ, hI, hF, hS, h0, h13⟩ := id hc
  obtain ⟨mC, mA, mR, mT, mQ, mI, m0, m17⟩ := id hm
  exact ⟨p, rfl, C, hC, _, rfl, p, rfl, C, mC, rfl, RI.same (by omega) hc hm (Fm.s0 m) (by simp) (by simp)⟩
set_option maxHeartbeats 2000000 in
theorem MS_kind {m : AM} {t : Nat} {p : Int32} (hty : TY m) (h : RI m t) (ht : t < 999999) : Sp_X10_kind [vr 10 0, vi p] m (two (Sp_X11_kind [vr 11 110, vi p]) t) := by
  obtain ⟨C, a, nx, W, La, Ma, It, T, n, Tr, I0, I1, wk, st, ft, hw, hc, hm⟩ := h
  obtain ⟨hC, hA, hR, hT, hQ, hI, hF, hS, h0, h13⟩ := id hc
  obtain ⟨mC, mA, mR, mT, mQ, mI, m0, m17⟩ := id hm
  exact ⟨p, rfl, C, hC, _, rfl, p, rfl, C, mC, rfl, RI.same (by omega) hc hm (Fm.s0 m) (by simp) (by simp)⟩
set_option maxHeartbeats 2000000 in
theorem MS_stand {m : AM} {t : Nat} {w : Int32} (hty : TY m) (h : RI m t) (ht : t < 999999) : Sp_X10_stand [vr 10 0, vi w] m (two (Sp_X11_stand [vr 11 110, vi w]) t) := by
  obtain ⟨C, a, nx, W, La, Ma, It, T, n, Tr, I0, I1, wk, st, ft, hw, hc, hm⟩ := h
  obtain ⟨hC, hA, hR, hT, hQ, hI, hF, hS, h0, h13⟩ := id hc
  obtain ⟨mC, mA, mR, mT, mQ, mI, m0, m17⟩ := id hm
  exact ⟨w, rfl, C, hC, _, rfl, w, rfl, C, mC, rfl, RI.same (by omega) hc hm (Fm.s0 m) (by simp) (by simp)⟩
set_option maxHeartbeats 2000000 in
theorem MS_rule {m : AM} {t : Nat} {r w : Int32} (hty : TY m) (h : RI m t) (ht : t < 999999) : Sp_X10_rule [vr 10 0, vi r, vi w] m (two (Sp_X11_rule [vr 11 110, vi r, vi w]) t) := by
  obtain ⟨C, a, nx, W, La, Ma, It, T, n, Tr, I0, I1, wk, st, ft, hw, hc, hm⟩ := h
  obtain ⟨hC, hA, hR, hT, hQ, hI, hF, hS, h0, h13⟩ := id hc
  obtain ⟨mC, mA, mR, mT, mQ, mI, m0, m17⟩ := id hm
  exact ⟨r, w, rfl, C, hC, _, rfl, r, w, rfl, C, mC, rfl, RI.same (by omega) hc hm (Fm.s0 m) (by simp) (by simp)⟩
set_option maxHeartbeats 2000000 in
theorem MS_order {m : AM} {t : Nat} {f k : Int32} (hty : TY m) (h : RI m t) (ht : t < 999999) : Sp_X10_order [vr 10 0, vi f, vi k] m (two (Sp_X11_order [vr 11 110, vi f, vi k]) t) := by
  obtain ⟨C, a, nx, W, La, Ma, It, T, n, Tr, I0, I1, wk, st, ft, hw, hc, hm⟩ := h
  obtain ⟨hC, hA, hR, hT, hQ, hI, hF, hS, h0, h13⟩ := id hc
  obtain ⟨mC, mA, mR, mT, mQ, mI, m0, m17⟩ := id hm
  exact ⟨f, k, rfl, C, hC, _, rfl, f, k, rfl, C, mC, rfl, RI.same (by omega) hc hm (Fm.s0 m) (by simp) (by simp)⟩
set_option maxHeartbeats 2000000 in
theorem MS_trace {m : AM} {t : Nat} {x : Int32} (hty : TY m) (h : RI m t) (ht : t < 999999) : Sp_X10_trace [vr 10 0, vi x] m (two (Sp_X11_trace [vr 11 110, vi x]) t) := by
  obtain ⟨C, a, nx, W, La, Ma, It, T, n, Tr, I0, I1, wk, st, ft, hw, hc, hm⟩ := h
  obtain ⟨hC, hA, hR, hT, hQ, hI, hF, hS, h0, h13⟩ := id hc
  obtain ⟨mC, mA, mR, mT, mQ, mI, m0, m17⟩ := id hm
  exact ⟨x, rfl, Tr, hQ, _, rfl, x, rfl, Tr, mQ, rfl, RI.same (by omega) hc hm (Fm.s0 m) (by simp) (by simp)⟩
set_option maxHeartbeats 2000000 in
theorem MS_count {m : AM} {t : Nat} {w : Int32} (hty : TY m) (h : RI m t) (ht : t < 999999) : Sp_X10_count [vr 10 0, vi w] m (two (Sp_X11_count [vr 11 110, vi w]) t) := by
  obtain ⟨C, a, nx, W, La, Ma, It, T, n, Tr, I0, I1, wk, st, ft, hw, hc, hm⟩ := h
  obtain ⟨hC, hA, hR, hT, hQ, hI, hF, hS, h0, h13⟩ := id hc
  obtain ⟨mC, mA, mR, mT, mQ, mI, m0, m17⟩ := id hm
  exact ⟨w, rfl, C, La, Ma, It, a, n, hC, hR, hA.2.2.1, hT.1, _, rfl, w, rfl, C, La, Ma, It, a, n, mC.1, mR, mA.1, mT.1, rfl, RI.same (by omega) hc hm (Fm.s0 m) (by simp) (by simp)⟩
set_option maxHeartbeats 2000000 in
theorem MS_status {m : AM} {t : Nat} (hty : TY m) (h : RI m t) (ht : t < 999999) : Sp_X10_status [vr 10 0] m (two (Sp_X11_status [vr 11 110]) t) := by
  obtain ⟨C, a, nx, W, La, Ma, It, T, n, Tr, I0, I1, wk, st, ft, hw, hc, hm⟩ := h
  obtain ⟨hC, hA, hR, hT, hQ, hI, hF, hS, h0, h13⟩ := id hc
  obtain ⟨mC, mA, mR, mT, mQ, mI, m0, m17⟩ := id hm
  exact ⟨rfl, _, rfl, rfl, by rw [h0, m0], RI.same (by omega) hc hm (Fm.s0 m) (by simp) (by simp)⟩
set_option maxHeartbeats 2000000 in
theorem MS_fault {m : AM} {t : Nat} (hty : TY m) (h : RI m t) (ht : t < 999999) : Sp_X10_fault [vr 10 0] m (two (Sp_X11_fault [vr 11 110]) t) := by
  obtain ⟨C, a, nx, W, La, Ma, It, T, n, Tr, I0, I1, wk, st, ft, hw, hc, hm⟩ := h
  obtain ⟨hC, hA, hR, hT, hQ, hI, hF, hS, h0, h13⟩ := id hc
  obtain ⟨mC, mA, mR, mT, mQ, mI, m0, m17⟩ := id hm
  exact ⟨rfl, _, rfl, rfl, by rw [h13, m17], RI.same (by omega) hc hm (Fm.s0 m) (by simp) (by simp)⟩
set_option maxHeartbeats 2000000 in
theorem MS_makes {m : AM} {t : Nat} {p s : Int32} (hty : TY m) (h : RI m t) (ht : t < 999999) : Sp_X10_makes [vr 10 0, vi p, vi s] m (two (Sp_X11_makes [vr 11 110, vi p, vi s]) t) := by
  obtain ⟨C, a, nx, W, La, Ma, It, T, n, Tr, I0, I1, wk, st, ft, hw, hc, hm⟩ := h
  obtain ⟨hC, hA, hR, hT, hQ, hI, hF, hS, h0, h13⟩ := id hc
  obtain ⟨mC, mA, mR, mT, mQ, mI, m0, m17⟩ := id hm
  refine ⟨p, s, rfl, C, hC, fun m2 hu => ?_⟩
  have g : Xg [] [30] m m2 := Xg.fr hu.fr
  have f := KF.fr hu.fr
  have hm2 := hm.k f (by decide)
  have hc2 : RCl m2 C a nx W La Ma It T n Tr I0 I1 wk st ft := ⟨hC.cu hu, hA.k f (by decide), hR.k f (by decide), hT.k f (by decide), hQ.k f (by decide), hI.k f (by decide), hF.k f (by decide), hS.gx hty g (by decide) (by decide), (congrFun (f.2.2 0 (by decide) (by decide)) 8).trans h0, (congrFun (f.2.2 13 (by decide) (by decide)) 7).trans h13⟩
  exact ⟨_, rfl, p, s, rfl, C, hm2.1, rfl, RI.same (by omega) hc2 hm2 (Fm.s0 m2) (by simp) (by simp)⟩
set_option maxHeartbeats 2000000 in
theorem MS_idle {m : AM} {t : Nat} {p : Int32} (hty : TY m) (h : RI m t) (ht : t < 999999) : Sp_X10_idle [vr 10 0, vi p] m (two (Sp_X11_idle [vr 11 110, vi p]) t) := by
  obtain ⟨C, a, nx, W, La, Ma, It, T, n, Tr, I0, I1, wk, st, ft, hw, hc, hm⟩ := h
  obtain ⟨hC, hA, hR, hT, hQ, hI, hF, hS, h0, h13⟩ := id hc
  obtain ⟨mC, mA, mR, mT, mQ, mI, m0, m17⟩ := id hm
  refine ⟨p, rfl, C, hC, fun m2 hu => ?_⟩
  have g : Xg [] [30] m m2 := Xg.fr hu.fr
  have f := KF.fr hu.fr
  have hm2 := hm.k f (by decide)
  have hc2 : RCl m2 C a nx W La Ma It T n Tr I0 I1 wk st ft := ⟨hC.cu hu, hA.k f (by decide), hR.k f (by decide), hT.k f (by decide), hQ.k f (by decide), hI.k f (by decide), hF.k f (by decide), hS.gx hty g (by decide) (by decide), (congrFun (f.2.2 0 (by decide) (by decide)) 8).trans h0, (congrFun (f.2.2 13 (by decide) (by decide)) 7).trans h13⟩
  exact ⟨_, rfl, p, rfl, C, hm2.1, rfl, RI.same (by omega) hc2 hm2 (Fm.s0 m2) (by simp) (by simp)⟩
set_option maxHeartbeats 2000000 in
theorem MS_giveUp {m : AM} {t : Nat} {x w : Int32} (hty : TY m) (h : RI m t) (ht : t < 999999) : Sp_X10_giveUp [vr 10 0, vi x, vi w] m (two (Sp_X11_giveUp [vr 11 110, vi x, vi w]) t) := by
  obtain ⟨C, a, nx, W, La, Ma, It, T, n, Tr, I0, I1, wk, st, ft, hw, hc, hm⟩ := h
  obtain ⟨hC, hA, hR, hT, hQ, hI, hF, hS, h0, h13⟩ := id hc
  obtain ⟨mC, mA, mR, mT, mQ, mI, m0, m17⟩ := id hm
  refine ⟨x, w, rfl, C, hC, fun m2 hu => ?_⟩
  have g : Xg [] [30] m m2 := Xg.fr hu.fr
  have f := KF.fr hu.fr
  have hm2 := hm.k f (by decide)
  have hc2 : RCl m2 C a nx W La Ma It T n Tr I0 I1 wk st ft := ⟨hC.cu hu, hA.k f (by decide), hR.k f (by decide), hT.k f (by decide), hQ.k f (by decide), hI.k f (by decide), hF.k f (by decide), hS.gx hty g (by decide) (by decide), (congrFun (f.2.2 0 (by decide) (by decide)) 8).trans h0, (congrFun (f.2.2 13 (by decide) (by decide)) 7).trans h13⟩
  exact ⟨_, rfl, x, w, rfl, C, hm2.1, rfl, RI.same (by omega) hc2 hm2 (Fm.s0 m2) (by simp) (by simp)⟩
set_option maxHeartbeats 2000000 in
theorem MS_drawn {m : AM} {t : Nat} {x s w : Int32} (hty : TY m) (h : RI m t) (ht : t < 999999) : Sp_X10_drawn [vr 10 0, vi x, vi s, vi w] m (two (Sp_X11_drawn [vr 11 110, vi x, vi s, vi w]) t) := by
  obtain ⟨C, a, nx, W, La, Ma, It, T, n, Tr, I0, I1, wk, st, ft, hw, hc, hm⟩ := h
  obtain ⟨hC, hA, hR, hT, hQ, hI, hF, hS, h0, h13⟩ := id hc
  obtain ⟨mC, mA, mR, mT, mQ, mI, m0, m17⟩ := id hm
  refine ⟨x, s, w, rfl, C, hC, fun m2 hu => ?_⟩
  have g : Xg [] [30] m m2 := Xg.fr hu.fr
  have f := KF.fr hu.fr
  have hm2 := hm.k f (by decide)
  have hc2 : RCl m2 C a nx W La Ma It T n Tr I0 I1 wk st ft := ⟨hC.cu hu, hA.k f (by decide), hR.k f (by decide), hT.k f (by decide), hQ.k f (by decide), hI.k f (by decide), hF.k f (by decide), hS.gx hty g (by decide) (by decide), (congrFun (f.2.2 0 (by decide) (by decide)) 8).trans h0, (congrFun (f.2.2 13 (by decide) (by decide)) 7).trans h13⟩
  exact ⟨_, rfl, x, s, w, rfl, C, hm2.1, rfl, RI.same (by omega) hc2 hm2 (Fm.s0 m2) (by simp) (by simp)⟩
set_option maxHeartbeats 2000000 in
theorem MS_say {m : AM} {t : Nat} {p s : Int32} (hty : TY m) (h : RI m t) (ht : t < 999999) : Sp_X10_say [vr 10 0, vi p, vi s] m (two (Sp_X11_say [vr 11 110, vi p, vi s]) t) := by
  obtain ⟨C, a, nx, W, La, Ma, It, T, n, Tr, I0, I1, wk, st, ft, hw, hc, hm⟩ := h
  obtain ⟨hC, hA, hR, hT, hQ, hI, hF, hS, h0, h13⟩ := id hc
  obtain ⟨mC, mA, mR, mT, mQ, mI, m0, m17⟩ := id hm
  refine ⟨p, s, rfl, C, a, nx, W, hC, hA, fun c => ?_, fun c d => ?_, fun c d m2 fr hB hA2 => ?_⟩
  · exact ⟨_, rfl, p, s, rfl, C, a, W, mC, mA, fun _ m3 g => ⟨rfl, RI.same (by omega) hc hm g (by simp) (by simp)⟩, fun c2 => nope c c2, fun c2 => nope c c2⟩
  · exact ⟨_, rfl, p, s, rfl, C, a, W, mC, mA, fun c2 => nope c2 c, fun _ _ m3 g => ⟨rfl, RI.same (by omega) hc hm g (by simp) (by simp)⟩, fun _ d2 => absurd d2 (by omega)⟩
  · have g : Xg [] ([26, 27, 30] ++ actL) m m2 := Xg.fr fr
    have f := KF.fr fr
    have hm2 := hm.k f (by decide)
    have hc2 : RCl m2 (sayC C p.toNatClampNeg s.toNatClampNeg) (keepA a) ((nx + 1) % 24) (keepW a W C) La Ma It T n Tr I0 I1 wk st ft := ⟨Or.inl hB, hA2, hR.k f (by decide), hT.k f (by decide), hQ.k f (by decide), hI.k f (by decide), hF.k f (by decide), hS.gx hty g (by decide) (by decide), (congrFun (f.2.2 0 (by decide) (by decide)) 8).trans h0, (congrFun (f.2.2 13 (by decide) (by decide)) 7).trans h13⟩
    obtain ⟨mC, mA, mR, mT, mQ, mI, m0, m17⟩ := hm2
    exact ⟨_, rfl, p, s, rfl, C, a, W, mC, mA, fun c2 => nope c2 c, fun _ d2 => absurd d2 (by omega), fun _ _ m3 g3 hMC hMA => ⟨rfl, _, _, _, _, _, _, _, _, _, _, _, _, _, _, _, by omega, hc2.fm g3 (by decide), ⟨⟨hMC, Or.inl hB.1⟩, hMA, mR.k g3 (by decide) (by decide) (by decide), mT.fm g3 (by decide) (by decide), MTr.fm g3 mQ (by decide) (by decide), mI.k g3 (by decide) (by decide), (g3.2.2 1 (by decide)).trans m0, (g3.2.2 17 (by decide)).trans m17⟩⟩⟩
set_option maxHeartbeats 2000000 in
theorem MS_pardon {m : AM} {t : Nat} {x : Int32} (hty : TY m) (h : RI m t) (ht : t < 999999) : Sp_X10_pardon [vr 10 0, vi x] m (two (Sp_X11_pardon [vr 11 110, vi x]) t) := by
  obtain ⟨C, a, nx, W, La, Ma, It, T, n, Tr, I0, I1, wk, st, ft, hw, hc, hm⟩ := h
  obtain ⟨hC, hA, hR, hT, hQ, hI, hF, hS, h0, h13⟩ := id hc
  obtain ⟨mC, mA, mR, mT, mQ, mI, m0, m17⟩ := id hm
  refine ⟨x, rfl, C, a, nx, W, hC, hA, fun c => ?_, fun c d => ?_, fun c d m2 fr hB hA2 => ?_⟩
  · exact ⟨_, rfl, x, rfl, C, a, W, mC, mA, fun _ m3 g => ⟨rfl, RI.same (by omega) hc hm g (by simp) (by simp)⟩, fun c2 => nope c c2, fun c2 => nope c c2⟩
  · exact ⟨_, rfl, x, rfl, C, a, W, mC, mA, fun c2 => nope c2 c, fun _ _ m3 g => ⟨rfl, RI.same (by omega) hc hm g (by simp) (by simp)⟩, fun _ d2 => nope d d2⟩
  · have g : Xg [] ([26] ++ actL) m m2 := Xg.fr fr
    have f := KF.fr fr
    have hm2 := hm.k f (by decide)
    have hc2 : RCl m2 (parN C x.toNatClampNeg) (keepA a) ((nx + 1) % 24) (keepW a W C) La Ma It T n Tr I0 I1 wk st ft := ⟨Or.inl hB, hA2, hR.k f (by decide), hT.k f (by decide), hQ.k f (by decide), hI.k f (by decide), hF.k f (by decide), hS.gx hty g (by decide) (by decide), (congrFun (f.2.2 0 (by decide) (by decide)) 8).trans h0, (congrFun (f.2.2 13 (by decide) (by decide)) 7).trans h13⟩
    obtain ⟨mC, mA, mR, mT, mQ, mI, m0, m17⟩ := hm2
    exact ⟨_, rfl, x, rfl, C, a, W, mC, mA, fun c2 => nope c2 c, fun _ d2 => nope d2 d, fun _ _ m3 g3 hMC hMA => ⟨rfl, _, _, _, _, _, _, _, _, _, _, _, _, _, _, _, by omega, hc2.fm g3 (by decide), ⟨⟨hMC, Or.inl hB.1⟩, hMA, mR.k g3 (by decide) (by decide) (by decide), mT.fm g3 (by decide) (by decide), MTr.fm g3 mQ (by decide) (by decide), mI.k g3 (by decide) (by decide), (g3.2.2 1 (by decide)).trans m0, (g3.2.2 17 (by decide)).trans m17⟩⟩⟩
set_option maxHeartbeats 2000000 in
theorem MS_strike {m : AM} {t : Nat} {r x : Int32} (hty : TY m) (h : RI m t) (ht : t < 999999) : Sp_X10_strike [vr 10 0, vi r, vi x] m (two (Sp_X11_strike [vr 11 110, vi r, vi x]) t) := by
  obtain ⟨C, a, nx, W, La, Ma, It, T, n, Tr, I0, I1, wk, st, ft, hw, hc, hm⟩ := h
  obtain ⟨hC, hA, hR, hT, hQ, hI, hF, hS, h0, h13⟩ := id hc
  obtain ⟨mC, mA, mR, mT, mQ, mI, m0, m17⟩ := id hm
  refine ⟨r, x, rfl, C, a, nx, W, hC, hA, fun c => ?_, fun c d => ?_, fun c d m2 fr hB hA2 => ?_⟩
  · exact ⟨_, rfl, r, x, rfl, C, a, W, mC, mA, fun _ m3 g => ⟨rfl, RI.same (by omega) hc hm g (by simp) (by simp)⟩, fun c2 => nope c c2, fun c2 => nope c c2⟩
  · exact ⟨_, rfl, r, x, rfl, C, a, W, mC, mA, fun c2 => nope c2 c, fun _ _ m3 g => ⟨rfl, RI.same (by omega) hc hm g (by simp) (by simp)⟩, fun _ d2 => absurd d d2⟩
  · have g : Xg [] ([26, 28, 29, 30] ++ actL) m m2 := Xg.fr fr
    have f := KF.fr fr
    have hm2 := hm.k f (by decide)
    have hc2 : RCl m2 (strN C r.toNatClampNeg x.toNatClampNeg) (keepA a) ((nx + 1) % 24) (keepW a W C) La Ma It T n Tr I0 I1 wk st ft := ⟨Or.inl hB, hA2, hR.k f (by decide), hT.k f (by decide), hQ.k f (by decide), hI.k f (by decide), hF.k f (by decide), hS.gx hty g (by decide) (by decide), (congrFun (f.2.2 0 (by decide) (by decide)) 8).trans h0, (congrFun (f.2.2 13 (by decide) (by decide)) 7).trans h13⟩
    obtain ⟨mC, mA, mR, mT, mQ, mI, m0, m17⟩ := hm2
    exact ⟨_, rfl, r, x, rfl, C, a, W, mC, mA, fun c2 => nope c2 c, fun _ d2 => absurd d2 d, fun _ _ m3 g3 hMC hMA => ⟨rfl, _, _, _, _, _, _, _, _, _, _, _, _, _, _, _, by omega, hc2.fm g3 (by decide), ⟨⟨hMC, Or.inl hB.1⟩, hMA, mR.k g3 (by decide) (by decide) (by decide), mT.fm g3 (by decide) (by decide), MTr.fm g3 mQ (by decide) (by decide), mI.k g3 (by decide) (by decide), (g3.2.2 1 (by decide)).trans m0, (g3.2.2 17 (by decide)).trans m17⟩⟩⟩
set_option maxHeartbeats 2000000 in
theorem MS_undo {m : AM} {t : Nat} (hty : TY m) (h : RI m t) (ht : t < 999999) : Sp_X10_undo [vr 10 0] m (two (Sp_X11_undo [vr 11 110]) t) := by
  obtain ⟨C, a, nx, W, La, Ma, It, T, n, Tr, I0, I1, wk, st, ft, hw, hc, hm⟩ := h
  obtain ⟨hC, hA, hR, hT, hQ, hI, hF, hS, h0, h13⟩ := id hc
  obtain ⟨mC, mA, mR, mT, mQ, mI, m0, m17⟩ := id hm
  refine ⟨rfl, C, a, nx, W, hC, hA, fun c => ?_, fun c m2 fr hB hA2 => ?_⟩
  · exact ⟨_, rfl, rfl, a, W, mA, fun _ m3 g => ⟨rfl, RI.same (by omega) hc hm g (by simp) (by simp)⟩, fun c2 => absurd c2 (by omega)⟩
  · have g : Xg [] [26, 27, 28, 29, 30, 31] m m2 := Xg.fr fr
    have f := KF.fr fr
    have hm2 := hm.k f (by decide)
    have hc2 : RCl m2 (W (a - 1)) (a - 1) ((nx + 23) % 24) W La Ma It T n Tr I0 I1 wk st ft := ⟨Or.inl hB, hA2, hR.k f (by decide), hT.k f (by decide), hQ.k f (by decide), hI.k f (by decide), hF.k f (by decide), hS.gx hty g (by decide) (by decide), (congrFun (f.2.2 0 (by decide) (by decide)) 8).trans h0, (congrFun (f.2.2 13 (by decide) (by decide)) 7).trans h13⟩
    obtain ⟨mC, mA, mR, mT, mQ, mI, m0, m17⟩ := hm2
    exact ⟨_, rfl, rfl, a, W, mA, fun c2 => absurd c2 (by omega), fun _ m3 g3 hMC hMA => ⟨rfl, _, _, _, _, _, _, _, _, _, _, _, _, _, _, _, by omega, hc2.fm g3 (by decide), ⟨⟨hMC, Or.inl hB.1⟩, hMA, mR.k g3 (by decide) (by decide) (by decide), mT.fm g3 (by decide) (by decide), MTr.fm g3 mQ (by decide) (by decide), mI.k g3 (by decide) (by decide), (g3.2.2 1 (by decide)).trans m0, (g3.2.2 17 (by decide)).trans m17⟩⟩⟩
set_option maxHeartbeats 2000000 in
theorem MS_ask {m : AM} {t : Nat} {p w : Int32} (hty : TY m) (h : RI m t) (ht : t < 999999) : Sp_X10_ask [vr 10 0, vi p, vi w] m (two (Sp_X11_ask [vr 11 110, vi p, vi w]) t) := by
  obtain ⟨C, a, nx, W, La, Ma, It, T, n, Tr, I0, I1, wk, st, ft, hw, hc, hm⟩ := h
  obtain ⟨hC, hA, hR, hT, hQ, hI, hF, hS, h0, h13⟩ := id hc
  obtain ⟨mC, mA, mR, mT, mQ, mI, m0, m17⟩ := id hm
  refine ⟨p, w, rfl, C, Tr, hC, hQ, fun m2 fr hQ2 => ?_⟩
  have g : Xg [] [108, 109] m m2 := Xg.fr fr
  have f := KF.fr fr
  have hm2 := hm.k f (by decide)
  have hc2 : RCl m2 C a nx W La Ma It T n (askT C p w Tr) I0 I1 wk st ft := ⟨hC.k f (by decide), hA.k f (by decide), hR.k f (by decide), hT.k f (by decide), hQ2, hI.k f (by decide), hF.k f (by decide), hS.gx hty g (by decide) (by decide), (congrFun (f.2.2 0 (by decide) (by decide)) 8).trans h0, (congrFun (f.2.2 13 (by decide) (by decide)) 7).trans h13⟩
  obtain ⟨mC, mA, mR, mT, mQ, mI, m0, m17⟩ := hm2
  exact ⟨_, rfl, p, w, rfl, C, Tr, mC, mQ, fun m3 g3 hMQ => ⟨rfl, _, _, _, _, _, _, _, _, _, _, _, _, _, _, _, by omega, hc2.fm g3 (by decide), ⟨mC.k g3 (by decide), MAct.fm g3 mA (by decide) (by decide), mR.k g3 (by decide) (by decide) (by decide), mT.fm g3 (by decide) (by decide), hMQ, mI.k g3 (by decide) (by decide), (g3.2.2 1 (by decide)).trans m0, (g3.2.2 17 (by decide)).trans m17⟩⟩⟩
set_option maxHeartbeats 2000000 in
theorem MS_as {m : AM} {t : Nat} {p k : Int32} (hty : TY m) (h : RI m t) (ht : t < 999999) : Sp_X10_as [vr 10 0, vi p, vi k] m (two (Sp_X11_as [vr 11 110, vi p, vi k]) t) := by
  obtain ⟨C, a, nx, W, La, Ma, It, T, n, Tr, I0, I1, wk, st, ft, hw, hc, hm⟩ := h
  obtain ⟨hC, hA, hR, hT, hQ, hI, hF, hS, h0, h13⟩ := id hc
  obtain ⟨mC, mA, mR, mT, mQ, mI, m0, m17⟩ := id hm
  refine ⟨p, k, rfl, C, hC, fun c => ?_, fun c d => ?_, fun c d => ?_⟩
  · exact ⟨_, rfl, p, k, rfl, C, mC, fun _ m3 g => ⟨rfl, RI.same (by omega) hc hm g (by simp) (by simp)⟩, fun c2 => nope c c2, fun c2 => nope c c2⟩
  · have fr : Fr [0] m (mset m 0 8 (nI 0)) := (Fr.rf _ m).ms (by simp)
    have g : Xg [] [0] m (mset m 0 8 (nI 0)) := Xg.fr fr
    have f := KF.fr fr
    have hm2 := hm.k f (by decide)
    have hc2 : RCl (mset m 0 8 (nI 0)) C a nx W La Ma It T n Tr I0 I1 wk (nI 0) ft := ⟨hC.k f (by decide), hA.k f (by decide), hR.k f (by decide), hT.k f (by decide), hQ.k f (by decide), hI.k f (by decide), hF.k f (by decide), hS.gx hty g (by decide) (by decide), ms_e, (congrFun (f.2.2 13 (by decide) (by decide)) 7).trans h13⟩
    obtain ⟨mC, mA, mR, mT, mQ, mI, m0, m17⟩ := hm2
    exact ⟨_, rfl, p, k, rfl, C, mC, fun c2 => nope c2 c, fun _ _ m3 g3 e1 => ⟨rfl, _, _, _, _, _, _, _, _, _, _, _, _, _, _, _, by omega, hc2.fm g3 (by decide), ⟨mC.k g3 (by decide), MAct.fm g3 mA (by decide) (by decide), mR.k g3 (by decide) (by decide) (by decide), mT.fm g3 (by decide) (by decide), MTr.fm g3 mQ (by decide) (by decide), mI.k g3 (by decide) (by decide), e1, (g3.2.2 17 (by decide)).trans m17⟩⟩, fun _ d2 => absurd d d2⟩
  · have fr : Fr [0] m (mset m 0 8 (nI 3)) := (Fr.rf _ m).ms (by simp)
    have g : Xg [] [0] m (mset m 0 8 (nI 3)) := Xg.fr fr
    have f := KF.fr fr
    have hm2 := hm.k f (by decide)
    have hc2 : RCl (mset m 0 8 (nI 3)) C a nx W La Ma It T n Tr I0 I1 wk (nI 3) ft := ⟨hC.k f (by decide), hA.k f (by decide), hR.k f (by decide), hT.k f (by decide), hQ.k f (by decide), hI.k f (by decide), hF.k f (by decide), hS.gx hty g (by decide) (by decide), ms_e, (congrFun (f.2.2 13 (by decide) (by decide)) 7).trans h13⟩
    obtain ⟨mC, mA, mR, mT, mQ, mI, m0, m17⟩ := hm2
    exact ⟨_, rfl, p, k, rfl, C, mC, fun c2 => nope c2 c, fun _ d2 => absurd d2 d, fun _ _ m3 g3 e1 => ⟨rfl, _, _, _, _, _, _, _, _, _, _, _, _, _, _, _, by omega, hc2.fm g3 (by decide), ⟨mC.k g3 (by decide), MAct.fm g3 mA (by decide) (by decide), mR.k g3 (by decide) (by decide) (by decide), mT.fm g3 (by decide) (by decide), MTr.fm g3 mQ (by decide) (by decide), mI.k g3 (by decide) (by decide), e1, (g3.2.2 17 (by decide)).trans m17⟩⟩⟩
