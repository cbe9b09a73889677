/-! new arrays -/
theorem B.mono {E : ME} {Φ : Option AV → AM → Prop} {pc : Nat} {L : List (Option AV)} {st : List AV} {m : AM} {a a' : Nat × Nat} (h : B E Φ pc L st m a') (h1 : a.1 ≤ a'.1) (h2 : a.2 ≤ a'.2) : B E Φ pc L st m a := by
  intro p l e R s mi args below meth c G ad0 nx0 A ad H locs ls hOk hIn hL hst T hT X
  exact h p l e R s mi args below meth c G ad0 nx0 A ad H locs ls hOk hIn hL hst T hT ⟨X.admits, X.cas, X.clock, X.frames, X.room, X.hears, X.method, X.code, X.here, X.tail, X.warmed, X.limits, X.bytes, ⟨X.same.1, X.same.2.1, Nat.le_trans X.same.2.2.1 (Nat.add_le_add_left h1 _), X.same.2.2.2.1, Nat.le_trans X.same.2.2.2.2.1 h2, X.same.2.2.2.2.2⟩⟩
def spanT (t : Nat) : Nat := match t with
  | 0 => 1
  | 1 => 1
  | 2 => 10
  | 4 => 6
  | 5 => 4
  | 6 => 11
  | 7 => 1
  | 8 => 1
  | 9 => 6
  | 10 => 108
  | 11 => 14
  | 13 => 47
  | 14 => 9
  | 15 => 8
  | _ => 0
theorem span_in : ∀ i, i < 125 → i + spanT (KD i) < 125 := by decide +kernel
theorem cel_ag {Y : Nat → ClassId} {ad ad' : Nat → Nat} {m : AM} {i : Nat} (hag : ∀ j, j < m.2.2.2 → ad' j = ad j) (hty : TY m) : cel Y ad' m i = cel Y ad m i := by
  by_cases h : i < 125
  · have hs := span_in i h
    have g0 : ∀ k, ad' (m.2.1 i k) = ad (m.2.1 i k) := fun k => hag _ (hty.2 i k).2
    unfold cel
    generalize KD i = t at hs
    have a : ∀ k, k ≤ spanT t → ad' (i + k) = ad (i + k) := fun k hk => hag _ (Nat.lt_of_lt_of_le (show i + k < nS by unfold nS; omega) hty.1)
    unfold celT
    by_cases hlo : t < 12
    · rw [if_pos hlo, if_pos hlo]
      have e : flds ad' (m.1 i) (m.2.1 i) t i = flds ad (m.1 i) (m.2.1 i) t i := by
        rcases (by omega : t = 0 ∨ t = 1 ∨ t = 2 ∨ t = 3 ∨ t = 4 ∨ t = 5 ∨ t = 6 ∨ t = 7 ∨ t = 8 ∨ t = 9 ∨ t = 10 ∨ t = 11) with rfl | rfl | rfl | rfl | rfl | rfl | rfl | rfl | rfl | rfl | rfl | rfl
        · simp only [flds, a 1 (by decide)]
        · simp only [flds, a 1 (by decide)]
        · simp only [flds, a 1 (by decide), a 6 (by decide), a 8 (by decide), a 9 (by decide), a 10 (by decide)]
        · simp only [flds, g0]
        · simp only [flds, a 1 (by decide), a 6 (by decide)]
        · simp only [flds, a 1 (by decide), a 2 (by decide), a 3 (by decide), a 4 (by decide)]
        · simp only [flds, a 1 (by decide), a 10 (by decide), a 11 (by decide)]
        · simp only [flds, a 1 (by decide), g0]
        · simp only [flds, a 1 (by decide)]
        · simp only [flds, a 1 (by decide), a 6 (by decide)]
        · simp only [flds, a 1 (by decide), a 13 (by decide), a 20 (by decide), a 31 (by decide), a 81 (by decide), a 98 (by decide), a 103 (by decide), a 108 (by decide)]
        · simp only [flds, a 1 (by decide), a 2 (by decide), a 3 (by decide), a 4 (by decide), a 5 (by decide), a 6 (by decide), a 7 (by decide), a 8 (by decide), a 9 (by decide), a 10 (by decide), a 11 (by decide), a 12 (by decide), a 13 (by decide), a 14 (by decide)]
      rw [e]
    · rw [if_neg hlo, if_neg hlo]
      by_cases e12 : t = 12
      · rw [if_pos e12, if_pos e12]
      · rw [if_neg e12, if_neg e12]
        by_cases e13 : t = 13
        · rw [if_pos e13, if_pos e13]
          subst e13
          have e : (fun j => if j < 24 then some (ad' (i + 1 + 2 * j)) else none) = (fun j => if j < 24 then some (ad (i + 1 + 2 * j)) else none) := by
            funext j
            by_cases hj : j < 24
            · rw [if_pos hj, if_pos hj, show i + 1 + 2 * j = i + (1 + 2 * j) by omega, a _ (show 1 + 2 * j ≤ 47 by omega)]
            · rw [if_neg hj, if_neg hj]
          rw [e]
        · rw [if_neg e13, if_neg e13]
          by_cases e14 : t = 14
          · rw [if_pos e14, if_pos e14]
            subst e14
            have e : (fun j => if j < 2 then some (ad' (i + 1 + 8 * j)) else none) = (fun j => if j < 2 then some (ad (i + 1 + 8 * j)) else none) := by
              funext j
              by_cases hj : j < 2
              · rw [if_pos hj, if_pos hj, show i + 1 + 8 * j = i + (1 + 8 * j) by omega, a _ (show 1 + 8 * j ≤ 9 by omega)]
              · rw [if_neg hj, if_neg hj]
            rw [e]
          · rw [if_neg e14, if_neg e14]
            by_cases e15 : t = 15
            · rw [if_pos e15, if_pos e15]
              subst e15
              have e : (fun j => if j < 8 then some (ad' (i + 1 + j)) else none) = (fun j => if j < 8 then some (ad (i + 1 + j)) else none) := by
                funext j
                by_cases hj : j < 8
                · rw [if_pos hj, if_pos hj, show i + 1 + j = i + (1 + j) by omega, a _ (show 1 + j ≤ 8 by omega)]
                · rw [if_neg hj, if_neg hj]
              rw [e]
            · rw [if_neg e15, if_neg e15]
  · unfold cel
    rw [KD_ge (by omega)]
    rfl
/-- an array more -/
def nwA (m : AM) (N : Nat) : AM := (fun a => if a = m.2.2.2 then (fun _ => nI 0) else m.1 a, (m.2.1, (fun a => if a = m.2.2.2 then N else m.2.2.1 a, m.2.2.2 + 1)))
theorem nwA_old (m : AM) (N : Nat) {a : Nat} (h : a < m.2.2.2) : (nwA m N).1 a = m.1 a := by
  show (if a = m.2.2.2 then _ else _) = _
  rw [if_neg (by omega)]
theorem nwA_oldL (m : AM) (N : Nat) {a : Nat} (h : a < m.2.2.2) : (nwA m N).2.2.1 a = m.2.2.1 a := by
  show (if a = m.2.2.2 then _ else _) = _
  rw [if_neg (by omega)]
theorem nwA_new (m : AM) (N : Nat) : (nwA m N).1 m.2.2.2 = (fun _ => nI 0) := by
  show (if m.2.2.2 = m.2.2.2 then _ else _) = _
  rw [if_pos rfl]
theorem nwA_newL (m : AM) (N : Nat) : (nwA m N).2.2.1 m.2.2.2 = N := by
  show (if m.2.2.2 = m.2.2.2 then _ else _) = _
  rw [if_pos rfl]
theorem wsO_new {Y : Nat → ClassId} {ad : Nat → Nat} {m : AM} {N h : Nat} (hty : TY m) : wsO Y (fun i => if i = m.2.2.2 then h else ad i) (nwA m N) = wsO Y ad m ++ [(h, .inl (Y 0, N, .inl (fun _ => nI 0)))] := by
  have h125 := hty.1
  have hcel : ∀ i, i < m.2.2.2 → cel Y (fun i => if i = m.2.2.2 then h else ad i) (nwA m N) i = cel Y ad m i := fun i hi => by
    rw [← cel_ag (Y := Y) (ad := ad) (ad' := fun i => if i = m.2.2.2 then h else ad i) (m := m) (i := i) (fun j hj => if_neg (by omega)) hty]
    unfold cel
    rw [nwA_old m N hi, nwA_oldL m N hi]
    rfl
  show (List.range (m.2.2.2 + 1)).map _ = _
  rw [List.range_succ, List.map_append]
  congr 1
  · refine List.map_congr_left (fun i hi => ?_)
    have hi := List.mem_range.mp hi
    show ((if i = m.2.2.2 then h else ad i), cel Y (fun i => if i = m.2.2.2 then h else ad i) (nwA m N) i) = (ad i, cel Y ad m i)
    rw [hcel i hi, if_neg (by omega)]
  · show [((if m.2.2.2 = m.2.2.2 then h else ad m.2.2.2), cel Y (fun i => if i = m.2.2.2 then h else ad i) (nwA m N) m.2.2.2)] = _
    rw [if_pos rfl]
    unfold cel
    rw [KD_ge (by unfold nS at h125; omega), nwA_new, nwA_newL]
    rfl
theorem b_newI {E : ME} {Φ : Option AV → AM → Prop} {pc : Nat} {L : List (Option AV)} {st : List AV} {m : AM} {a : Nat × Nat} {n : Int32} {N : Nat} (hn : n = nI N) (hN : N ≤ 100000) (hr : a.1 + 1 ≤ E.2.2.2.2.1 ∧ a.2 + N ≤ E.2.2.2.2.2.1) (harr : Cond.arrayClass FieldType.int ∈ TB) (hd : decode E.1 pc = .ok (.newarray .int, 2)) (k : B E Φ (pc + 2) L (vr 12 m.2.2.2 :: st) (nwA m N) (a.1 + 1, a.2 + N)) : B E Φ pc L (vi n :: st) m a := by
  intro p l e R s mi args below meth c G ad0 nx0 A ad H locs ls hOk hIn hL hst
  have hts := hOk.2.2.2.2.2.1
  have hty := hIn.2.2.2.2.2.2.2
  have hS := hIn.2.2.2.1
  have hA5 := hIn.2.2.2.2.1
  have hA := hA5.1
  have hP := hIn.2.1
  subst hn
  have hR : a.1 + 1 ≤ R.cells ∧ a.2 + N ≤ R.slots := by rw [hOk.2.2.2.2.2.2.2.1]; exact hr
  refine va_newaK (atype := .int) hOk.1 hOk.2.1 (hts _ harr) rfl hd rfl (by rw [n_lt0 (by omega)]; exact id) (n_cl (by omega)) (show N * 4 ≤ 536870912 by omega) hR.1 hR.2 rfl fun H1 cA e1 z1 o1 hAr hNm => ?_
  have hcA : cA = G.2 0 := by
    have q : s.vm.findClass ("[" ++ FieldType.int.toString) = some (G.2 0) := (hIn.1.2 0 (G.2 0, .int) rfl).2
    rw [show newarray.typeOf .int = FieldType.int from rfl] at hNm
    rw [q] at hNm
    exact (Option.some.inj hNm).symm
  subst hcA
  have hk : ∀ (k : Nat) (x : Nat × va_E), (wsO G.2 ad m)[k]? = some x → H1[x.1]? = H[x.1]? := fun k x hx => o1 x.1 ((hP k x hx).lt)
  have hag : ∀ i, i < m.2.2.2 → (fun i => if i = m.2.2.2 then H.size else ad i) i = ad i := fun i hi => if_neg (by omega)
  have hst2 : ∀ v, v ∈ st → wt m v := fun v hv => hst v (by simp [hv])
  have hle : m.2.2.2 ≤ (nwA m N).2.2.2 := Nat.le_succ _
  have hz : (fun i => if i = m.2.2.2 then H.size else ad i) m.2.2.2 = H.size := if_pos rfl
  have kq := k p l e R s mi args below meth c G ad0 nx0 A (fun i => if i = m.2.2.2 then H.size else ad i) H1 locs ls hOk ⟨hIn.1, by
      rw [wsO_new hty]
      refine (hP.kept hk).app (fun k x hx => ?_)
      have hz : k < 1 := (List.getElem?_eq_some_iff.mp hx).1
      rw [show k = 0 by omega] at hx
      cases hx
      show H1[H.size]? = some (vp_cell _ _)
      exact e1, by
      rw [wsO_new hty]
      exact hIn.2.2.1.push hP rfl (hA _ hS.1), ⟨Nat.le_trans hS.1 (by omega), fun x h1 h2 => (o1 x (Nat.lt_of_lt_of_le h1 hS.1)).trans (hS.2.1 x h1 h2), hS.2.2⟩, hA5, fun i hi => (hag i (Nat.lt_of_lt_of_le hi hIn.2.2.2.2.2.2.1)).trans (hIn.2.2.2.2.2.1 i hi), Nat.le_trans hIn.2.2.2.2.2.2.1 hle, ⟨Nat.le_trans hty.1 hle, fun i k => ⟨(hty.2 i k).1, Nat.lt_of_lt_of_le (hty.2 i k).2 hle⟩⟩⟩ (hL.up hag hle) (fun w hw => by
      rcases List.mem_cons.mp hw with h | h
      · subst h
        exact ⟨KD_ge (by have := hty.1; unfold nS at this; omega), Nat.lt_succ_self _⟩
      · exact wt_up hle (hst2 w h))
  have e9 : (vr 12 m.2.2.2 :: st).map (cvA (fun i => if i = m.2.2.2 then H.size else ad i)) = Value.ref H.size :: st.map (cvA ad) := by
    rw [List.map_cons, map_ag hag hst2]
    show Value.ref (if m.2.2.2 = m.2.2.2 then H.size else ad m.2.2.2) :: _ = _
    rw [if_pos rfl]
  rw [e9] at kq
  exact kq
