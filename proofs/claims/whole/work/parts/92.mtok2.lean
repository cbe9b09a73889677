/-! the reference reads: bad, must, mustSign, number, isLetter, kindBy, isSort, begin -/
def advP (T : Nat → Nat) (n : Nat) (x : Except (Nat × Nat) Nat) (b : Bool) : Except (Nat × Nat) Nat := bnd x fun p => if b = true then .ok (bhdN T n p) else .error (1, p)
abbrev b2 (b : Bool) : Nat := if b = true then 1 else 0
/-- the fields that the reader may change -/
abbrev rdL : List Nat := [11, 12, 13, 14, 15, 16]
abbrev e_X11_bad : ME := (cX11_bad, (RX11, (2, (none, (0, (0, 1))))))
theorem dX11_bad_0 : decode cX11_bad 0 = .ok (.aload_n 0, 1) := by decide +kernel
theorem dX11_bad_1 : decode cX11_bad 1 = .ok (.getfield 84, 3) := by decide +kernel
theorem dX11_bad_4 : decode cX11_bad 4 = .ok (.ifCond .ne 16, 3) := by decide +kernel
theorem dX11_bad_7 : decode cX11_bad 7 = .ok (.aload_n 0, 1) := by decide +kernel
theorem dX11_bad_8 : decode cX11_bad 8 = .ok (.iload_n 1, 1) := by decide +kernel
theorem dX11_bad_9 : decode cX11_bad 9 = .ok (.putfield 84, 3) := by decide +kernel
theorem dX11_bad_12 : decode cX11_bad 12 = .ok (.aload_n 0, 1) := by decide +kernel
theorem dX11_bad_13 : decode cX11_bad 13 = .ok (.aload_n 0, 1) := by decide +kernel
theorem dX11_bad_14 : decode cX11_bad 14 = .ok (.getfield 87, 3) := by decide +kernel
theorem dX11_bad_17 : decode cX11_bad 17 = .ok (.putfield 90, 3) := by decide +kernel
theorem dX11_bad_20 : decode cX11_bad 20 = .ok (.return_, 1) := by decide +kernel
def Sp_X11_bad (av : List AV) (m : AM) (Φ : Option AV → AM → Prop) : Prop := ∃ y, av = [vr 11 110, vi y] ∧ ∃ T n x f, RdS m T n x ∧ y = nI f ∧ (1 ≤ f ∧ f ≤ 3) ∧ ∀ m2, Fm [] [15, 16] m m2 → RdS m2 T n (bnd x fun p => .error (f, p)) → Φ none m2
set_option maxRecDepth 20000 in
set_option maxHeartbeats 4000000 in
theorem S_X11_bad : Snd yX11_bad e_X11_bad Sp_X11_bad := by
  refine Snd.of (by decide +kernel) rfl ?_ ?_
  · rintro av m Φ ⟨y, rfl, _⟩; exact Nat.le_of_ble_eq_true rfl
  rintro av m Φ ⟨y, rfl, T, n, x, f, hR, rfl, hf, h⟩ hav hty
  show B e_X11_bad Φ 0 [some (vr 11 110), some (vi (nI f))] [] m (0, 0)
  cases x with
  | ok p =>
    obtain ⟨h1, h15, h12, h11, h13, hs, hn⟩ := hR
    refine b_aloadN (pc := 0) 0 dX11_bad_0 rfl rfl ?_
    refine gf11_15 (pc := 1) k1057 dX11_bad_1 ?_
    refine b_if_ne (pc := 4) 20 dX11_bad_4 (by decide) (fun c4 => ?_) (fun c4 => ?_)
    refine b_vret (pc := 20) rfl dX11_bad_20 ⟨Nat.le_of_ble_eq_true rfl, Nat.le_of_ble_eq_true rfl⟩ ?_
    rotate_left -- leaf 0: return at 20
    refine b_aloadN (pc := 7) 0 dX11_bad_7 rfl rfl ?_
    refine b_iloadN (pc := 8) 1 dX11_bad_8 rfl rfl ?_
    refine pf11_15 (pc := 9) k1057 dX11_bad_9 ?_
    refine b_aloadN (pc := 12) 0 dX11_bad_12 rfl rfl ?_
    refine b_aloadN (pc := 13) 0 dX11_bad_13 rfl rfl ?_
    refine gf11_12 (pc := 14) k1054 dX11_bad_14 ?_
    refine pf11_16 (pc := 17) k1058 dX11_bad_17 ?_
    refine b_vret (pc := 20) rfl dX11_bad_20 ⟨Nat.le_of_ble_eq_true rfl, Nat.le_of_ble_eq_true rfl⟩ ?_
    rotate_left -- leaf 1: return at 20
    -- leaves: 0 return at 20; 1 return at 20
    · exact absurd h15 c4
    · refine h _ (((Fm.rf _ _ m).m0 (by simp)).m0 (by simp)) ⟨hf, ?_, ?_⟩
      · rw [ms_o (by decide), ms_e]
      · rw [ms_e, ms_o (by decide)]; exact h12
  | error e =>
    obtain ⟨h1, h15, h16⟩ := hR
    refine b_aloadN (pc := 0) 0 dX11_bad_0 rfl rfl ?_
    refine gf11_15 (pc := 1) k1057 dX11_bad_1 ?_
    refine b_if_ne (pc := 4) 20 dX11_bad_4 (by decide) (fun c4 => ?_) (fun c4 => ?_)
    refine b_vret (pc := 20) rfl dX11_bad_20 ⟨Nat.le_of_ble_eq_true rfl, Nat.le_of_ble_eq_true rfl⟩ ?_
    rotate_left -- leaf 0: return at 20
    refine b_aloadN (pc := 7) 0 dX11_bad_7 rfl rfl ?_
    refine b_iloadN (pc := 8) 1 dX11_bad_8 rfl rfl ?_
    refine pf11_15 (pc := 9) k1057 dX11_bad_9 ?_
    refine b_aloadN (pc := 12) 0 dX11_bad_12 rfl rfl ?_
    refine b_aloadN (pc := 13) 0 dX11_bad_13 rfl rfl ?_
    refine gf11_12 (pc := 14) k1054 dX11_bad_14 ?_
    refine pf11_16 (pc := 17) k1058 dX11_bad_17 ?_
    refine b_vret (pc := 20) rfl dX11_bad_20 ⟨Nat.le_of_ble_eq_true rfl, Nat.le_of_ble_eq_true rfl⟩ ?_
    rotate_left -- leaf 1: return at 20
    -- leaves: 0 return at 20; 1 return at 20
    · exact h m (Fm.rf _ _ m) ⟨h1, h15, h16⟩
    · rw [h15, n_eq0 (by omega)] at c4
      omega
theorem call_X11_bad {E : ME} {Φ : Option AV → AM → Prop} {pc : Nat} {L : List (Option AV)} {st : List AV} {m : AM} {a : Nat × Nat} {idx : Nat} {x0 : AV} {i : Nat} (hl : Cond.methodLink E.2.1 idx yX11_bad ∈ TB) (hdep : 1 + 1 ≤ E.2.2.2.2.2.2) (hroom : a.1 + 0 ≤ E.2.2.2.2.1 ∧ a.2 + 0 ≤ E.2.2.2.2.2.1) (hsr : st.length ≤ 4) (hd : decode E.1 pc = .ok (.invokevirtual idx, 3)) (hsp : Sp_X11_bad [vr 11 i, x0] m (fun r m2 => B E Φ (pc + 3) L (r.toList ++ st) m2 a)) : B E Φ pc L (x0 :: vr 11 i :: st) m a := b_callV S_X11_bad [x0] (RX11, TX11, 28) rfl rfl (by decide) (Or.inl hl) k1195 k35 k80 k1196 (show _ ∧ _ ∧ Option.map (fun d => d.parameters.length) (parseMethodDescriptor yX11_bad.desc) = some 1 from by decide +kernel) ⟨hdep, by decide⟩ hroom hsr hd hsp
abbrev e_X11_must : ME := (cX11_must, (RX11, (2, (none, (0, (0, 4))))))
theorem dX11_must_0 : decode cX11_must 0 = .ok (.iload_n 1, 1) := by decide +kernel
theorem dX11_must_1 : decode cX11_must 1 = .ok (.ifCond .ne 8, 3) := by decide +kernel
theorem dX11_must_4 : decode cX11_must 4 = .ok (.aload_n 0, 1) := by decide +kernel
theorem dX11_must_5 : decode cX11_must 5 = .ok (.iconst 1, 1) := by decide +kernel
theorem dX11_must_6 : decode cX11_must 6 = .ok (.invokevirtual 111, 3) := by decide +kernel
theorem dX11_must_9 : decode cX11_must 9 = .ok (.aload_n 0, 1) := by decide +kernel
theorem dX11_must_10 : decode cX11_must 10 = .ok (.getfield 84, 3) := by decide +kernel
theorem dX11_must_13 : decode cX11_must 13 = .ok (.ifCond .ne 7, 3) := by decide +kernel
theorem dX11_must_16 : decode cX11_must 16 = .ok (.aload_n 0, 1) := by decide +kernel
theorem dX11_must_17 : decode cX11_must 17 = .ok (.invokevirtual 115, 3) := by decide +kernel
theorem dX11_must_20 : decode cX11_must 20 = .ok (.return_, 1) := by decide +kernel
def Sp_X11_must (av : List AV) (m : AM) (Φ : Option AV → AM → Prop) : Prop := ∃ y, av = [vr 11 110, vi y] ∧ ∃ T n x b, TapM m T n ∧ RdS m T n x ∧ y = nI (b2 b) ∧ ∀ m2, Fm [] rdL m m2 → RdS m2 T n (advP T n x b) → Φ none m2
set_option maxRecDepth 20000 in
set_option maxHeartbeats 4000000 in
theorem S_X11_must : Snd yX11_must e_X11_must Sp_X11_must := by
  refine Snd.of (by decide +kernel) rfl ?_ ?_
  · rintro av m Φ ⟨y, rfl, _⟩; exact Nat.le_of_ble_eq_true rfl
  rintro av m Φ ⟨y, rfl, T, n, x, b, hT, hR, rfl, h⟩ hav hty
  show B e_X11_must Φ 0 [some (vr 11 110), some (vi (nI (b2 b)))] [] m (0, 0)
  have s9o : ∀ M p, RdS M T n (.ok p) → Fm [] rdL m M → advP T n x b = .ok (bhdN T n p) → B e_X11_must Φ 9 [some (vr 11 110), some (vi (nI (b2 b)))] [] M (0, 0) := by
    intro M p hRM hF hE
    have hpb := (bhd_le (T := T) hT.2.1 hRM.1).2
    refine b_aloadN (pc := 9) 0 dX11_must_9 rfl rfl ?_
    refine gf11_15 (pc := 10) k1057 dX11_must_10 ?_
    refine b_if_ne (pc := 13) 20 dX11_must_13 (by decide) (fun c13 => ?_) (fun c13 => ?_)
    refine b_vret (pc := 20) rfl dX11_must_20 ⟨Nat.le_of_ble_eq_true rfl, Nat.le_of_ble_eq_true rfl⟩ ?_
    rotate_left -- leaf 0: return at 20
    refine b_aloadN (pc := 16) 0 dX11_must_16 rfl rfl ?_
    refine call_X11_nextToken (pc := 17) k1176 (by decide) ⟨Nat.le_of_ble_eq_true rfl, Nat.le_of_ble_eq_true rfl⟩ (Nat.le_of_ble_eq_true rfl) dX11_must_17 ?_
    refine ⟨rfl, T, n, bhdN T n p, hT.fm hF (by decide) (by decide), hRM.2.2.2.1, hpb, hRM.2.1, fun m17 fm17 rd17 => ?_⟩
    refine b_vret (pc := 20) rfl dX11_must_20 ⟨Nat.le_of_ble_eq_true rfl, Nat.le_of_ble_eq_true rfl⟩ ?_
    rotate_left -- leaf 1: return at 20
    -- leaves: 0 return at 20; 1 return at 20
    · exact absurd hRM.2.1 c13
    · refine h m17 (hF.tr (fm17.mono (fun a z => z) (fun a z => by simp at z; simp; omega))) ?_
      rw [hE]; exact rd17
  have s9e : ∀ M e, RdS M T n (.error e) → Fm [] rdL m M → advP T n x b = .error e → B e_X11_must Φ 9 [some (vr 11 110), some (vi (nI (b2 b)))] [] M (0, 0) := by
    intro M e hRM hF hE
    refine b_aloadN (pc := 9) 0 dX11_must_9 rfl rfl ?_
    refine gf11_15 (pc := 10) k1057 dX11_must_10 ?_
    refine b_if_ne (pc := 13) 20 dX11_must_13 (by decide) (fun c13 => ?_) (fun c13 => ?_)
    refine b_vret (pc := 20) rfl dX11_must_20 ⟨Nat.le_of_ble_eq_true rfl, Nat.le_of_ble_eq_true rfl⟩ ?_
    rotate_left -- leaf 0: return at 20
    rotate_left -- leaf 1: at 16
    -- leaves: 0 return at 20; 1 at 16
    · refine h M hF ?_
      rw [hE]; exact hRM
    · rw [hRM.2.1, n_eq0 (by have := hRM.1; omega)] at c13
      have := hRM.1
      omega
  cases b with
  | true =>
    refine b_iloadN (pc := 0) 1 dX11_must_0 rfl rfl ?_
    refine b_if_ne (pc := 1) 9 dX11_must_1 (by decide) (fun c1 => ?_) (fun c1 => ?_)
    rotate_left -- leaf 0: at 9
    rotate_left -- leaf 1: at 4
    -- leaves: 0 at 9; 1 at 4
    · cases x with
      | ok p => exact s9o m p hR (Fm.rf _ _ m) rfl
      | error e => exact s9e m e hR (Fm.rf _ _ m) rfl
    · exact absurd c1 (by decide)
  | false =>
    refine b_iloadN (pc := 0) 1 dX11_must_0 rfl rfl ?_
    refine b_if_ne (pc := 1) 9 dX11_must_1 (by decide) (fun c1 => ?_) (fun c1 => ?_)
    rotate_left -- leaf 0: at 9
    refine b_aloadN (pc := 4) 0 dX11_must_4 rfl rfl ?_
    refine b_iconst (pc := 5) (nI 1) dX11_must_5 (by decide) ?_
    refine call_X11_bad (pc := 6) k1193 (by decide) ⟨Nat.le_of_ble_eq_true rfl, Nat.le_of_ble_eq_true rfl⟩ (Nat.le_of_ble_eq_true rfl) dX11_must_6 ?_
    refine ⟨_, rfl, T, n, x, 1, hR, rfl, by decide, fun m6 fm6 rd6 => ?_⟩
    rotate_left -- leaf 1: at 9
    -- leaves: 0 at 9; 1 at 9
    · exact absurd rfl c1
    · have hF6 := fm6.mono (li2 := []) (ls2 := rdL) (fun a z => z) (fun a z => by simp at z; simp; omega)
      cases x with
      | ok p => exact s9e m6 (1, p) rd6 hF6 rfl
      | error e => exact s9e m6 e rd6 hF6 rfl
theorem call_X11_must {E : ME} {Φ : Option AV → AM → Prop} {pc : Nat} {L : List (Option AV)} {st : List AV} {m : AM} {a : Nat × Nat} {idx : Nat} {x0 : AV} {i : Nat} (hl : Cond.methodLink E.2.1 idx yX11_must ∈ TB) (hdep : 4 + 1 ≤ E.2.2.2.2.2.2) (hroom : a.1 + 0 ≤ E.2.2.2.2.1 ∧ a.2 + 0 ≤ E.2.2.2.2.2.1) (hsr : st.length ≤ 4) (hd : decode E.1 pc = .ok (.invokevirtual idx, 3)) (hsp : Sp_X11_must [vr 11 i, x0] m (fun r m2 => B E Φ (pc + 3) L (r.toList ++ st) m2 a)) : B E Φ pc L (x0 :: vr 11 i :: st) m a := b_callV S_X11_must [x0] (RX11, TX11, 28) rfl rfl (by decide) (Or.inl hl) k1191 k34 k80 k1192 (show _ ∧ _ ∧ Option.map (fun d => d.parameters.length) (parseMethodDescriptor yX11_must.desc) = some 1 from by decide +kernel) ⟨hdep, by decide⟩ hroom hsr hd hsp
theorem tkC {T : Nat → Nat} {n : Nat} (p : Nat) : (n ≤ p ∧ tkN T n p = 1 ∧ symO T n p = none ∧ numO T n p = none) ∨ ((p < n ∧ 97 ≤ T p ∧ T p ≤ 122) ∧ tkN T n p = 2 ∧ symO T n p = some (T p) ∧ numO T n p = none) ∨ (p < n ∧ tkN T n p = 3 ∧ symO T n p = none ∧ ∃ v, numO T n p = some v) ∨ ((p < n ∧ (T p = 44 ∨ T p = 59)) ∧ tkN T n p = 4 ∧ symO T n p = some (T p) ∧ numO T n p = none) ∨ (p < n ∧ tkN T n p = 0 ∧ symO T n p = none ∧ numO T n p = none) := by
  have nn : ¬ dgP T n p → numO T n p = none := fun q => if_neg (fun z => q z.1)
  unfold tkN
  by_cases a : n ≤ p
  · rw [if_pos a]
    exact Or.inl ⟨a, rfl, if_neg (fun z => by have := z.1; omega), nn (fun z => by have := z.1; omega)⟩
  · rw [if_neg a]
    by_cases b : 97 ≤ T p ∧ T p ≤ 122
    · rw [if_pos b]
      exact Or.inr (Or.inl ⟨⟨by omega, b⟩, rfl, if_pos ⟨by omega, Or.inl b⟩, nn (fun z => by have := z.2; omega)⟩)
    · rw [if_neg b]
      by_cases c : dgP T n p
      · have c2 := c.2
        have sn : symO T n p = none := if_neg (fun z => by omega)
        cases e : numO T n p with
        | none =>
          rw [if_neg (fun z => z rfl), if_neg (by omega)]
          exact Or.inr (Or.inr (Or.inr (Or.inr ⟨by omega, rfl, sn, rfl⟩)))
        | some v =>
          rw [if_pos (fun z => by cases z)]
          exact Or.inr (Or.inr (Or.inl ⟨by omega, rfl, sn, v, rfl⟩))
      · rw [nn c, if_neg (fun z => z rfl)]
        by_cases d : T p = 44 ∨ T p = 59
        · rw [if_pos d]
          exact Or.inr (Or.inr (Or.inr (Or.inl ⟨⟨by omega, d⟩, rfl, if_pos ⟨by omega, Or.inr d⟩, rfl⟩)))
        · rw [if_neg d]
          exact Or.inr (Or.inr (Or.inr (Or.inr ⟨by omega, rfl, if_neg (fun z => by omega), rfl⟩)))
theorem tkQ {T : Nat → Nat} {n : Nat} (p : Nat) : (tkN T n p = 4 ↔ ∃ w, symO T n p = some w ∧ w < 97) ∧ (tkN T n p = 2 ↔ ∃ w, symO T n p = some w ∧ 97 ≤ w) ∧ (tkN T n p = 3 ↔ ∃ v, numO T n p = some v) ∧ (tkN T n p = 1 ↔ n ≤ p) ∧ tkN T n p ≤ 4 := by
  rcases tkC (T := T) (n := n) p with ⟨a, e, s, v⟩ | ⟨a, e, s, v⟩ | ⟨a, e, s, w, v⟩ | ⟨a, e, s, v⟩ | ⟨a, e, s, v⟩
  · rw [e, s, v]
    exact ⟨⟨fun z => by omega, fun ⟨w, z, _⟩ => by cases z⟩, ⟨fun z => by omega, fun ⟨w, z, _⟩ => by cases z⟩, ⟨fun z => by omega, fun ⟨w, z⟩ => by cases z⟩, ⟨fun _ => a, fun _ => rfl⟩, by omega⟩
  · rw [e, s, v]
    exact ⟨⟨fun z => by omega, fun ⟨w, z, y⟩ => by cases z; omega⟩, ⟨fun z => ⟨_, rfl, a.2.1⟩, fun _ => rfl⟩, ⟨fun z => by omega, fun ⟨w, z⟩ => by cases z⟩, ⟨fun _ => by omega, fun _ => by omega⟩, by omega⟩
  · rw [e, s, v]
    exact ⟨⟨fun z => by omega, fun ⟨w, z, _⟩ => by cases z⟩, ⟨fun z => by omega, fun ⟨w, z, _⟩ => by cases z⟩, ⟨fun z => ⟨_, rfl⟩, fun _ => rfl⟩, ⟨fun _ => by omega, fun _ => by omega⟩, by omega⟩
  · rw [e, s, v]
    exact ⟨⟨fun z => ⟨_, rfl, by omega⟩, fun _ => rfl⟩, ⟨fun z => by omega, fun ⟨w, z, y⟩ => by cases z; omega⟩, ⟨fun z => by omega, fun ⟨w, z⟩ => by cases z⟩, ⟨fun _ => by omega, fun _ => by omega⟩, by omega⟩
  · rw [e, s, v]
    exact ⟨⟨fun z => by omega, fun ⟨w, z, _⟩ => by cases z⟩, ⟨fun z => by omega, fun ⟨w, z, _⟩ => by cases z⟩, ⟨fun z => by omega, fun ⟨w, z⟩ => by cases z⟩, ⟨fun _ => by omega, fun _ => by omega⟩, by omega⟩
theorem symT {T : Nat → Nat} {n p w : Nat} (e : symO T n p = some w) : w = T p := by
  unfold symO at e
  split at e
  next y => cases e; rfl
  next => cases e
theorem advS_t {T : Nat → Nat} {n p c : Nat} (h : symO T n p = some c) : advP T n (.ok p) true = tknS T n c p := by
  unfold tknS
  rw [if_pos h]
  rfl
theorem advS_f {T : Nat → Nat} {n p c : Nat} (h : ¬ symO T n p = some c) : advP T n (.ok p) false = tknS T n c p := by
  unfold tknS
  rw [if_neg h]
  rfl
abbrev e_X11_mustSign : ME := (cX11_mustSign, (RX11, (2, (none, (0, (0, 5))))))
theorem dX11_mustSign_0 : decode cX11_mustSign 0 = .ok (.aload_n 0, 1) := by decide +kernel
theorem dX11_mustSign_1 : decode cX11_mustSign 1 = .ok (.aload_n 0, 1) := by decide +kernel
theorem dX11_mustSign_2 : decode cX11_mustSign 2 = .ok (.getfield 108, 3) := by decide +kernel
theorem dX11_mustSign_5 : decode cX11_mustSign 5 = .ok (.iconst 4, 1) := by decide +kernel
theorem dX11_mustSign_6 : decode cX11_mustSign 6 = .ok (.if_icmp .ne 15, 3) := by decide +kernel
theorem dX11_mustSign_9 : decode cX11_mustSign 9 = .ok (.aload_n 0, 1) := by decide +kernel
theorem dX11_mustSign_10 : decode cX11_mustSign 10 = .ok (.getfield 97, 3) := by decide +kernel
theorem dX11_mustSign_13 : decode cX11_mustSign 13 = .ok (.iload_n 1, 1) := by decide +kernel
theorem dX11_mustSign_14 : decode cX11_mustSign 14 = .ok (.if_icmp .ne 7, 3) := by decide +kernel
theorem dX11_mustSign_17 : decode cX11_mustSign 17 = .ok (.iconst 1, 1) := by decide +kernel
theorem dX11_mustSign_18 : decode cX11_mustSign 18 = .ok (.goto 4, 3) := by decide +kernel
theorem dX11_mustSign_21 : decode cX11_mustSign 21 = .ok (.iconst 0, 1) := by decide +kernel
theorem dX11_mustSign_22 : decode cX11_mustSign 22 = .ok (.invokevirtual 118, 3) := by decide +kernel
theorem dX11_mustSign_25 : decode cX11_mustSign 25 = .ok (.return_, 1) := by decide +kernel
def Sp_X11_mustSign (av : List AV) (m : AM) (Φ : Option AV → AM → Prop) : Prop := ∃ y, av = [vr 11 110, vi y] ∧ ∃ T n x c, TapM m T n ∧ RdS m T n x ∧ y = nI c ∧ (c = 44 ∨ c = 59) ∧ ∀ m2, Fm [] rdL m m2 → RdS m2 T n (bnd x fun p => tknS T n c p) → Φ none m2
set_option maxRecDepth 20000 in
set_option maxHeartbeats 4000000 in
theorem S_X11_mustSign : Snd yX11_mustSign e_X11_mustSign Sp_X11_mustSign := by
  refine Snd.of (by decide +kernel) rfl ?_ ?_
  · rintro av m Φ ⟨y, rfl, _⟩; exact Nat.le_of_ble_eq_true rfl
  rintro av m Φ ⟨y, rfl, T, n, x, c, hT, hR, rfl, hc, h⟩ hav hty
  show B e_X11_mustSign Φ 0 [some (vr 11 110), some (vi (nI c))] [] m (0, 0)
  have s22 : ∀ b : Bool, advP T n x b = bnd x (fun p => tknS T n c p) → B e_X11_mustSign Φ 22 [some (vr 11 110), some (vi (nI c))] [vi (nI (b2 b)), vr 11 110] m (0, 0) := by
    intro b hE
    refine call_X11_must (pc := 22) k1189 (by decide) ⟨Nat.le_of_ble_eq_true rfl, Nat.le_of_ble_eq_true rfl⟩ (Nat.le_of_ble_eq_true rfl) dX11_mustSign_22 ?_
    refine ⟨_, rfl, T, n, x, b, hT, hR, rfl, fun m22 fm22 rd22 => ?_⟩
    refine b_vret (pc := 25) rfl dX11_mustSign_25 ⟨Nat.le_of_ble_eq_true rfl, Nat.le_of_ble_eq_true rfl⟩ ?_
    rotate_left -- leaf 0: return at 25
    -- leaves: 0 return at 25
    exact h m22 fm22 (by rw [← hE]; exact rd22)
  cases x with
  | ok p =>
    have tk := tkQ (T := T) (n := n) p
    refine b_aloadN (pc := 0) 0 dX11_mustSign_0 rfl rfl ?_
    refine b_aloadN (pc := 1) 0 dX11_mustSign_1 rfl rfl ?_
    refine gf11_13 (pc := 2) k1055 dX11_mustSign_2 ?_
    refine b_iconst (pc := 5) (nI 4) dX11_mustSign_5 (by decide) ?_
    refine b_icmp_ne (pc := 6) 21 dX11_mustSign_6 (by decide) (fun c6 => ?_) (fun c6 => ?_)
    refine b_iconst (pc := 21) (nI 0) dX11_mustSign_21 (by decide) ?_
    rotate_left -- leaf 0: at 22
    refine b_aloadN (pc := 9) 0 dX11_mustSign_9 rfl rfl ?_
    refine gf11_14 (pc := 10) k1056 dX11_mustSign_10 ?_
    refine b_iloadN (pc := 13) 1 dX11_mustSign_13 rfl rfl ?_
    refine b_icmp_ne (pc := 14) 21 dX11_mustSign_14 (by decide) (fun c14 => ?_) (fun c14 => ?_)
    refine b_iconst (pc := 21) (nI 0) dX11_mustSign_21 (by decide) ?_
    rotate_left -- leaf 1: at 22
    refine b_iconst (pc := 17) (nI 1) dX11_mustSign_17 (by decide) ?_
    refine b_goto (pc := 18) 22 dX11_mustSign_18 (by decide) ?_
    rotate_left -- leaf 2: at 22
    -- leaves: 0 at 22; 1 at 22; 2 at 22
    · rw [hR.2.2.2.2.1, n_eq (by omega) (by omega), tk.1] at c6
      exact s22 false (advS_f (fun z => c6 ⟨c, z, by omega⟩))
    · rw [hR.2.2.2.2.1, n_eq (by omega) (by omega), tk.1] at c6
      obtain ⟨w, e, hw⟩ := c6
      rw [hR.2.2.2.2.2.1 w e, n_eq (by omega) (by omega)] at c14
      exact s22 false (advS_f (fun z => by rw [e] at z; cases z; exact c14 rfl))
    · rw [hR.2.2.2.2.1, n_eq (by omega) (by omega), tk.1] at c6
      obtain ⟨w, e, hw⟩ := c6
      rw [hR.2.2.2.2.2.1 w e, n_eq (by omega) (by omega)] at c14
      exact s22 true (advS_t (by rw [e, c14]))
  | error e =>
    refine b_aloadN (pc := 0) 0 dX11_mustSign_0 rfl rfl ?_
    refine b_aloadN (pc := 1) 0 dX11_mustSign_1 rfl rfl ?_
    refine gf11_13 (pc := 2) k1055 dX11_mustSign_2 ?_
    refine b_iconst (pc := 5) (nI 4) dX11_mustSign_5 (by decide) ?_
    refine b_icmp_ne (pc := 6) 21 dX11_mustSign_6 (by decide) (fun c6 => ?_) (fun c6 => ?_)
    refine b_iconst (pc := 21) (nI 0) dX11_mustSign_21 (by decide) ?_
    rotate_left -- leaf 0: at 22
    refine b_aloadN (pc := 9) 0 dX11_mustSign_9 rfl rfl ?_
    refine gf11_14 (pc := 10) k1056 dX11_mustSign_10 ?_
    refine b_iloadN (pc := 13) 1 dX11_mustSign_13 rfl rfl ?_
    refine b_icmp_ne (pc := 14) 21 dX11_mustSign_14 (by decide) (fun c14 => ?_) (fun c14 => ?_)
    refine b_iconst (pc := 21) (nI 0) dX11_mustSign_21 (by decide) ?_
    rotate_left -- leaf 1: at 22
    refine b_iconst (pc := 17) (nI 1) dX11_mustSign_17 (by decide) ?_
    refine b_goto (pc := 18) 22 dX11_mustSign_18 (by decide) ?_
    rotate_left -- leaf 2: at 22
    -- leaves: 0 at 22; 1 at 22; 2 at 22
    · exact s22 false rfl
    · exact s22 false rfl
    · exact s22 true rfl
theorem call_X11_mustSign {E : ME} {Φ : Option AV → AM → Prop} {pc : Nat} {L : List (Option AV)} {st : List AV} {m : AM} {a : Nat × Nat} {idx : Nat} {x0 : AV} {i : Nat} (hl : Cond.methodLink E.2.1 idx yX11_mustSign ∈ TB) (hdep : 5 + 1 ≤ E.2.2.2.2.2.2) (hroom : a.1 + 0 ≤ E.2.2.2.2.1 ∧ a.2 + 0 ≤ E.2.2.2.2.2.1) (hsr : st.length ≤ 4) (hd : decode E.1 pc = .ok (.invokevirtual idx, 3)) (hsp : Sp_X11_mustSign [vr 11 i, x0] m (fun r m2 => B E Φ (pc + 3) L (r.toList ++ st) m2 a)) : B E Φ pc L (x0 :: vr 11 i :: st) m a := b_callV S_X11_mustSign [x0] (RX11, TX11, 28) rfl rfl (by decide) (Or.inl hl) k1203 k37 k80 k1204 (show _ ∧ _ ∧ Option.map (fun d => d.parameters.length) (parseMethodDescriptor yX11_mustSign.desc) = some 1 from by decide +kernel) ⟨hdep, by decide⟩ hroom hsr hd hsp
def isL (T : Nat → Nat) (n c : Nat) (x : Except (Nat × Nat) Nat) : Bool := match x with
  | .ok p => decide (symO T n p = some c)
  | .error _ => false
abbrev e_X11_isLetter : ME := (cX11_isLetter, (RX11, (2, ((some .boolean), (0, (0, 1))))))
theorem dX11_isLetter_0 : decode cX11_isLetter 0 = .ok (.aload_n 0, 1) := by decide +kernel
theorem dX11_isLetter_1 : decode cX11_isLetter 1 = .ok (.getfield 84, 3) := by decide +kernel
theorem dX11_isLetter_4 : decode cX11_isLetter 4 = .ok (.ifCond .ne 23, 3) := by decide +kernel
theorem dX11_isLetter_7 : decode cX11_isLetter 7 = .ok (.aload_n 0, 1) := by decide +kernel
theorem dX11_isLetter_8 : decode cX11_isLetter 8 = .ok (.getfield 108, 3) := by decide +kernel
theorem dX11_isLetter_11 : decode cX11_isLetter 11 = .ok (.iconst 2, 1) := by decide +kernel
theorem dX11_isLetter_12 : decode cX11_isLetter 12 = .ok (.if_icmp .ne 15, 3) := by decide +kernel
theorem dX11_isLetter_15 : decode cX11_isLetter 15 = .ok (.aload_n 0, 1) := by decide +kernel
theorem dX11_isLetter_16 : decode cX11_isLetter 16 = .ok (.getfield 97, 3) := by decide +kernel
theorem dX11_isLetter_19 : decode cX11_isLetter 19 = .ok (.iload_n 1, 1) := by decide +kernel
theorem dX11_isLetter_20 : decode cX11_isLetter 20 = .ok (.if_icmp .ne 7, 3) := by decide +kernel
theorem dX11_isLetter_23 : decode cX11_isLetter 23 = .ok (.iconst 1, 1) := by decide +kernel
theorem dX11_isLetter_24 : decode cX11_isLetter 24 = .ok (.goto 4, 3) := by decide +kernel
theorem dX11_isLetter_27 : decode cX11_isLetter 27 = .ok (.iconst 0, 1) := by decide +kernel
theorem dX11_isLetter_28 : decode cX11_isLetter 28 = .ok (.ireturn, 1) := by decide +kernel
def Sp_X11_isLetter (av : List AV) (m : AM) (Φ : Option AV → AM → Prop) : Prop := ∃ y, av = [vr 11 110, vi y] ∧ ∃ T n x c, RdS m T n x ∧ y = nI c ∧ (97 ≤ c ∧ c ≤ 122) ∧ Φ (some (vi (nI (b2 (isL T n c x))))) m
set_option maxRecDepth 20000 in
set_option maxHeartbeats 4000000 in
theorem S_X11_isLetter : Snd yX11_isLetter e_X11_isLetter Sp_X11_isLetter := by
  refine Snd.of (by decide +kernel) rfl ?_ ?_
  · rintro av m Φ ⟨y, rfl, _⟩; exact Nat.le_of_ble_eq_true rfl
  rintro av m Φ ⟨y, rfl, T, n, x, c, hR, rfl, hc, h⟩ hav hty
  show B e_X11_isLetter Φ 0 [some (vr 11 110), some (vi (nI c))] [] m (0, 0)
  cases x with
  | ok p =>
    have tk := tkQ (T := T) (n := n) p
    have no : ¬ symO T n p = some c → Φ (some (vi (nI 0))) m := fun z => by
      rw [show isL T n c (.ok p) = false from decide_eq_false z] at h
      exact h
    refine b_aloadN (pc := 0) 0 dX11_isLetter_0 rfl rfl ?_
    refine gf11_15 (pc := 1) k1057 dX11_isLetter_1 ?_
    refine b_if_ne (pc := 4) 27 dX11_isLetter_4 (by decide) (fun c4 => ?_) (fun c4 => ?_)
    refine b_iconst (pc := 27) (nI 0) dX11_isLetter_27 (by decide) ?_
    refine b_zret (pc := 28) rfl ?_ dX11_isLetter_28 ⟨Nat.le_of_ble_eq_true rfl, Nat.le_of_ble_eq_true rfl⟩ ?_
    rotate_left -- leaf 0: bool at 28
    rotate_left -- leaf 1: return at 28
    refine b_aloadN (pc := 7) 0 dX11_isLetter_7 rfl rfl ?_
    refine gf11_13 (pc := 8) k1055 dX11_isLetter_8 ?_
    refine b_iconst (pc := 11) (nI 2) dX11_isLetter_11 (by decide) ?_
    refine b_icmp_ne (pc := 12) 27 dX11_isLetter_12 (by decide) (fun c12 => ?_) (fun c12 => ?_)
    refine b_iconst (pc := 27) (nI 0) dX11_isLetter_27 (by decide) ?_
    refine b_zret (pc := 28) rfl ?_ dX11_isLetter_28 ⟨Nat.le_of_ble_eq_true rfl, Nat.le_of_ble_eq_true rfl⟩ ?_
    rotate_left -- leaf 2: bool at 28
    rotate_left -- leaf 3: return at 28
    refine b_aloadN (pc := 15) 0 dX11_isLetter_15 rfl rfl ?_
    refine gf11_14 (pc := 16) k1056 dX11_isLetter_16 ?_
    refine b_iloadN (pc := 19) 1 dX11_isLetter_19 rfl rfl ?_
    refine b_icmp_ne (pc := 20) 27 dX11_isLetter_20 (by decide) (fun c20 => ?_) (fun c20 => ?_)
    refine b_iconst (pc := 27) (nI 0) dX11_isLetter_27 (by decide) ?_
    refine b_zret (pc := 28) rfl ?_ dX11_isLetter_28 ⟨Nat.le_of_ble_eq_true rfl, Nat.le_of_ble_eq_true rfl⟩ ?_
    rotate_left -- leaf 4: bool at 28
    rotate_left -- leaf 5: return at 28
    refine b_iconst (pc := 23) (nI 1) dX11_isLetter_23 (by decide) ?_
    refine b_goto (pc := 24) 28 dX11_isLetter_24 (by decide) ?_
    refine b_zret (pc := 28) rfl ?_ dX11_isLetter_28 ⟨Nat.le_of_ble_eq_true rfl, Nat.le_of_ble_eq_true rfl⟩ ?_
    rotate_left -- leaf 6: bool at 28
    rotate_left -- leaf 7: return at 28
    -- leaves: 0 bool at 28; 1 return at 28; 2 bool at 28; 3 return at 28; 4 bool at 28; 5 return at 28; 6 bool at 28; 7 return at 28
    · exact Or.inl rfl
    · exact absurd hR.2.1 c4
    · exact Or.inl rfl
    · rw [hR.2.2.2.2.1, n_eq (by omega) (by omega), tk.2.1] at c12
      exact no (fun z => c12 ⟨c, z, hc.1⟩)
    · exact Or.inl rfl
    · rw [hR.2.2.2.2.1, n_eq (by omega) (by omega), tk.2.1] at c12
      obtain ⟨w, e, hw⟩ := c12
      have wl := sym_lt e
      rw [hR.2.2.2.2.2.1 w e, n_eq (by omega) (by omega)] at c20
      exact no (fun z => by rw [e] at z; cases z; exact c20 rfl)
    · exact Or.inr rfl
    · rw [hR.2.2.2.2.1, n_eq (by omega) (by omega), tk.2.1] at c12
      obtain ⟨w, e, hw⟩ := c12
      have wl := sym_lt e
      rw [hR.2.2.2.2.2.1 w e, n_eq (by omega) (by omega)] at c20
      rw [show isL T n c (.ok p) = true from decide_eq_true (by rw [e, c20])] at h
      exact h
  | error e =>
    have h1 := hR.1
    refine b_aloadN (pc := 0) 0 dX11_isLetter_0 rfl rfl ?_
    refine gf11_15 (pc := 1) k1057 dX11_isLetter_1 ?_
    refine b_if_ne (pc := 4) 27 dX11_isLetter_4 (by decide) (fun c4 => ?_) (fun c4 => ?_)
    refine b_iconst (pc := 27) (nI 0) dX11_isLetter_27 (by decide) ?_
    refine b_zret (pc := 28) rfl ?_ dX11_isLetter_28 ⟨Nat.le_of_ble_eq_true rfl, Nat.le_of_ble_eq_true rfl⟩ ?_
    rotate_left -- leaf 0: bool at 28
    rotate_left -- leaf 1: return at 28
    rotate_left -- leaf 2: at 7
    -- leaves: 0 bool at 28; 1 return at 28; 2 at 7
    · exact Or.inl rfl
    · exact h
    · rw [hR.2.1, n_eq0 (by omega)] at c4
      omega
theorem call_X11_isLetter {E : ME} {Φ : Option AV → AM → Prop} {pc : Nat} {L : List (Option AV)} {st : List AV} {m : AM} {a : Nat × Nat} {idx : Nat} {x0 : AV} {i : Nat} (hl : Cond.methodLink E.2.1 idx yX11_isLetter ∈ TB) (hdep : 1 + 1 ≤ E.2.2.2.2.2.2) (hroom : a.1 + 0 ≤ E.2.2.2.2.1 ∧ a.2 + 0 ≤ E.2.2.2.2.2.1) (hsr : st.length ≤ 4) (hd : decode E.1 pc = .ok (.invokevirtual idx, 3)) (hsp : Sp_X11_isLetter [vr 11 i, x0] m (fun r m2 => B E Φ (pc + 3) L (r.toList ++ st) m2 a)) : B E Φ pc L (x0 :: vr 11 i :: st) m a := b_callV S_X11_isLetter [x0] (RX11, TX11, 28) rfl rfl (by decide) (Or.inl hl) k1187 k33 k80 k1188 (show _ ∧ _ ∧ Option.map (fun d => d.parameters.length) (parseMethodDescriptor yX11_isLetter.desc) = some 1 from by decide +kernel) ⟨hdep, by decide⟩ hroom hsr hd hsp
abbrev e_X11_kindBy : ME := (cX11_kindBy, (RX11, (1, ((some .int), (0, (0, 1))))))
theorem dX11_kindBy_0 : decode cX11_kindBy 0 = .ok (.iload_n 0, 1) := by decide +kernel
theorem dX11_kindBy_1 : decode cX11_kindBy 1 = .ok (.bipush 108, 2) := by decide +kernel
theorem dX11_kindBy_3 : decode cX11_kindBy 3 = .ok (.if_icmp .ne 7, 3) := by decide +kernel
theorem dX11_kindBy_6 : decode cX11_kindBy 6 = .ok (.iconst 1, 1) := by decide +kernel
theorem dX11_kindBy_7 : decode cX11_kindBy 7 = .ok (.goto 45, 3) := by decide +kernel
theorem dX11_kindBy_10 : decode cX11_kindBy 10 = .ok (.iload_n 0, 1) := by decide +kernel
theorem dX11_kindBy_11 : decode cX11_kindBy 11 = .ok (.bipush 98, 2) := by decide +kernel
theorem dX11_kindBy_13 : decode cX11_kindBy 13 = .ok (.if_icmp .ne 7, 3) := by decide +kernel
theorem dX11_kindBy_16 : decode cX11_kindBy 16 = .ok (.iconst 2, 1) := by decide +kernel
theorem dX11_kindBy_17 : decode cX11_kindBy 17 = .ok (.goto 35, 3) := by decide +kernel
theorem dX11_kindBy_20 : decode cX11_kindBy 20 = .ok (.iload_n 0, 1) := by decide +kernel
theorem dX11_kindBy_21 : decode cX11_kindBy 21 = .ok (.bipush 119, 2) := by decide +kernel
theorem dX11_kindBy_23 : decode cX11_kindBy 23 = .ok (.if_icmp .ne 7, 3) := by decide +kernel
theorem dX11_kindBy_26 : decode cX11_kindBy 26 = .ok (.iconst 3, 1) := by decide +kernel
theorem dX11_kindBy_27 : decode cX11_kindBy 27 = .ok (.goto 25, 3) := by decide +kernel
theorem dX11_kindBy_30 : decode cX11_kindBy 30 = .ok (.iload_n 0, 1) := by decide +kernel
theorem dX11_kindBy_31 : decode cX11_kindBy 31 = .ok (.bipush 113, 2) := by decide +kernel
theorem dX11_kindBy_33 : decode cX11_kindBy 33 = .ok (.if_icmp .ne 7, 3) := by decide +kernel
theorem dX11_kindBy_36 : decode cX11_kindBy 36 = .ok (.iconst 4, 1) := by decide +kernel
theorem dX11_kindBy_37 : decode cX11_kindBy 37 = .ok (.goto 15, 3) := by decide +kernel
theorem dX11_kindBy_40 : decode cX11_kindBy 40 = .ok (.iload_n 0, 1) := by decide +kernel
theorem dX11_kindBy_41 : decode cX11_kindBy 41 = .ok (.bipush 107, 2) := by decide +kernel
theorem dX11_kindBy_43 : decode cX11_kindBy 43 = .ok (.if_icmp .ne 7, 3) := by decide +kernel
theorem dX11_kindBy_46 : decode cX11_kindBy 46 = .ok (.iconst 5, 1) := by decide +kernel
theorem dX11_kindBy_47 : decode cX11_kindBy 47 = .ok (.goto 5, 3) := by decide +kernel
theorem dX11_kindBy_50 : decode cX11_kindBy 50 = .ok (.ldc 96, 2) := by decide +kernel
theorem dX11_kindBy_52 : decode cX11_kindBy 52 = .ok (.ireturn, 1) := by decide +kernel
def Sp_X11_kindBy (av : List AV) (m : AM) (Φ : Option AV → AM → Prop) : Prop := ∃ y, av = [vi y] ∧ ∃ w, y = nI w ∧ w < 256 ∧ Φ (some (vi (if kindL (some w) = 0 then -1000000 else nI (kindL (some w))))) m
set_option maxRecDepth 20000 in
set_option maxHeartbeats 4000000 in
theorem S_X11_kindBy : Snd yX11_kindBy e_X11_kindBy Sp_X11_kindBy := by
  refine Snd.of (by decide +kernel) rfl ?_ ?_
  · rintro av m Φ ⟨y, rfl, _⟩; exact Nat.le_of_ble_eq_true rfl
  rintro av m Φ ⟨y, rfl, w, rfl, hw, h⟩ hav hty
  show B e_X11_kindBy Φ 0 [some (vi (nI w))] [] m (0, 0)
  have ke : kindL (some w) = if w = 108 then 1 else if w = 98 then 2 else if w = 119 then 3 else if w = 113 then 4 else if w = 107 then 5 else 0 := rfl
  rw [ke] at h
  refine b_iloadN (pc := 0) 0 dX11_kindBy_0 rfl rfl ?_
  refine b_bipush (pc := 1) (nI 108) dX11_kindBy_1 (by decide) ?_
  refine b_icmp_ne (pc := 3) 10 dX11_kindBy_3 (by decide) (fun c3 => ?_) (fun c3 => ?_)
  refine b_iloadN (pc := 10) 0 dX11_kindBy_10 rfl rfl ?_
  refine b_bipush (pc := 11) (nI 98) dX11_kindBy_11 (by decide) ?_
  refine b_icmp_ne (pc := 13) 20 dX11_kindBy_13 (by decide) (fun c13 => ?_) (fun c13 => ?_)
  refine b_iloadN (pc := 20) 0 dX11_kindBy_20 rfl rfl ?_
  refine b_bipush (pc := 21) (nI 119) dX11_kindBy_21 (by decide) ?_
  refine b_icmp_ne (pc := 23) 30 dX11_kindBy_23 (by decide) (fun c23 => ?_) (fun c23 => ?_)
  refine b_iloadN (pc := 30) 0 dX11_kindBy_30 rfl rfl ?_
  refine b_bipush (pc := 31) (nI 113) dX11_kindBy_31 (by decide) ?_
  refine b_icmp_ne (pc := 33) 40 dX11_kindBy_33 (by decide) (fun c33 => ?_) (fun c33 => ?_)
  refine b_iloadN (pc := 40) 0 dX11_kindBy_40 rfl rfl ?_
  refine b_bipush (pc := 41) (nI 107) dX11_kindBy_41 (by decide) ?_
  refine b_icmp_ne (pc := 43) 50 dX11_kindBy_43 (by decide) (fun c43 => ?_) (fun c43 => ?_)
  refine b_ldc (pc := 50) k1180 dX11_kindBy_50 ?_
  refine b_iret (pc := 52) rfl dX11_kindBy_52 ⟨Nat.le_of_ble_eq_true rfl, Nat.le_of_ble_eq_true rfl⟩ ?_
  rotate_left -- leaf 0: return at 52
  refine b_iconst (pc := 46) (nI 5) dX11_kindBy_46 (by decide) ?_
  refine b_goto (pc := 47) 52 dX11_kindBy_47 (by decide) ?_
  refine b_iret (pc := 52) rfl dX11_kindBy_52 ⟨Nat.le_of_ble_eq_true rfl, Nat.le_of_ble_eq_true rfl⟩ ?_
  rotate_left -- leaf 1: return at 52
  refine b_iconst (pc := 36) (nI 4) dX11_kindBy_36 (by decide) ?_
  refine b_goto (pc := 37) 52 dX11_kindBy_37 (by decide) ?_
  refine b_iret (pc := 52) rfl dX11_kindBy_52 ⟨Nat.le_of_ble_eq_true rfl, Nat.le_of_ble_eq_true rfl⟩ ?_
  rotate_left -- leaf 2: return at 52
  refine b_iconst (pc := 26) (nI 3) dX11_kindBy_26 (by decide) ?_
  refine b_goto (pc := 27) 52 dX11_kindBy_27 (by decide) ?_
  refine b_iret (pc := 52) rfl dX11_kindBy_52 ⟨Nat.le_of_ble_eq_true rfl, Nat.le_of_ble_eq_true rfl⟩ ?_
  rotate_left -- leaf 3: return at 52
  refine b_iconst (pc := 16) (nI 2) dX11_kindBy_16 (by decide) ?_
  refine b_goto (pc := 17) 52 dX11_kindBy_17 (by decide) ?_
  refine b_iret (pc := 52) rfl dX11_kindBy_52 ⟨Nat.le_of_ble_eq_true rfl, Nat.le_of_ble_eq_true rfl⟩ ?_
  rotate_left -- leaf 4: return at 52
  refine b_iconst (pc := 6) (nI 1) dX11_kindBy_6 (by decide) ?_
  refine b_goto (pc := 7) 52 dX11_kindBy_7 (by decide) ?_
  refine b_iret (pc := 52) rfl dX11_kindBy_52 ⟨Nat.le_of_ble_eq_true rfl, Nat.le_of_ble_eq_true rfl⟩ ?_
  rotate_left -- leaf 5: return at 52
  -- leaves: 0 return at 52; 1 return at 52; 2 return at 52; 3 return at 52; 4 return at 52; 5 return at 52
  · rw [n_eq (by omega) (by omega)] at c3 c13 c23 c33 c43
    rw [if_neg c3, if_neg c13, if_neg c23, if_neg c33, if_neg c43, if_pos rfl] at h
    exact h
  · rw [n_eq (by omega) (by omega)] at c3 c13 c23 c33 c43
    rw [if_neg c3, if_neg c13, if_neg c23, if_neg c33, if_pos c43, if_neg (by omega)] at h
    exact h
  · rw [n_eq (by omega) (by omega)] at c3 c13 c23 c33
    rw [if_neg c3, if_neg c13, if_neg c23, if_pos c33, if_neg (by omega)] at h
    exact h
  · rw [n_eq (by omega) (by omega)] at c3 c13 c23
    rw [if_neg c3, if_neg c13, if_pos c23, if_neg (by omega)] at h
    exact h
  · rw [n_eq (by omega) (by omega)] at c3 c13
    rw [if_neg c3, if_pos c13, if_neg (by omega)] at h
    exact h
  · rw [n_eq (by omega) (by omega)] at c3
    rw [if_pos c3, if_neg (by omega)] at h
    exact h
theorem call_X11_kindBy {E : ME} {Φ : Option AV → AM → Prop} {pc : Nat} {L : List (Option AV)} {st : List AV} {m : AM} {a : Nat × Nat} {idx : Nat} {x0 : AV} (hl : Cond.methodLink E.2.1 idx yX11_kindBy ∈ TB) (hdep : 1 + 1 ≤ E.2.2.2.2.2.2) (hroom : a.1 + 0 ≤ E.2.2.2.2.1 ∧ a.2 + 0 ≤ E.2.2.2.2.2.1) (hsr : st.length ≤ 4) (hd : decode E.1 pc = .ok (.invokestatic idx, 3)) (hsp : Sp_X11_kindBy [x0] m (fun r m2 => B E Φ (pc + 3) L (r.toList ++ st) m2 a)) : B E Φ pc L (x0 :: st) m a := b_callS S_X11_kindBy [x0] (Or.inl hl) k1218 k80 k1219 (show _ ∧ _ ∧ Option.map (fun d => d.parameters.length) (parseMethodDescriptor yX11_kindBy.desc) = some 1 from by decide +kernel) ⟨hdep, by decide⟩ hroom hsr hd hsp
def isS (T : Nat → Nat) (n : Nat) (x : Except (Nat × Nat) Nat) : Bool := match x with
  | .ok p => decide (¬ kindL (symO T n p) = 0)
  | .error _ => false
abbrev e_X11_isSort : ME := (cX11_isSort, (RX11, (1, ((some .boolean), (0, (0, 2))))))
theorem dX11_isSort_0 : decode cX11_isSort 0 = .ok (.aload_n 0, 1) := by decide +kernel
theorem dX11_isSort_1 : decode cX11_isSort 1 = .ok (.getfield 84, 3) := by decide +kernel
theorem dX11_isSort_4 : decode cX11_isSort 4 = .ok (.ifCond .ne 27, 3) := by decide +kernel
theorem dX11_isSort_7 : decode cX11_isSort 7 = .ok (.aload_n 0, 1) := by decide +kernel
theorem dX11_isSort_8 : decode cX11_isSort 8 = .ok (.getfield 108, 3) := by decide +kernel
theorem dX11_isSort_11 : decode cX11_isSort 11 = .ok (.iconst 2, 1) := by decide +kernel
theorem dX11_isSort_12 : decode cX11_isSort 12 = .ok (.if_icmp .ne 19, 3) := by decide +kernel
theorem dX11_isSort_15 : decode cX11_isSort 15 = .ok (.aload_n 0, 1) := by decide +kernel
theorem dX11_isSort_16 : decode cX11_isSort 16 = .ok (.getfield 97, 3) := by decide +kernel
theorem dX11_isSort_19 : decode cX11_isSort 19 = .ok (.invokestatic 125, 3) := by decide +kernel
theorem dX11_isSort_22 : decode cX11_isSort 22 = .ok (.ldc 96, 2) := by decide +kernel
theorem dX11_isSort_24 : decode cX11_isSort 24 = .ok (.if_icmp .eq 7, 3) := by decide +kernel
theorem dX11_isSort_27 : decode cX11_isSort 27 = .ok (.iconst 1, 1) := by decide +kernel
theorem dX11_isSort_28 : decode cX11_isSort 28 = .ok (.goto 4, 3) := by decide +kernel
theorem dX11_isSort_31 : decode cX11_isSort 31 = .ok (.iconst 0, 1) := by decide +kernel
theorem dX11_isSort_32 : decode cX11_isSort 32 = .ok (.ireturn, 1) := by decide +kernel
def Sp_X11_isSort (av : List AV) (m : AM) (Φ : Option AV → AM → Prop) : Prop := av = [vr 11 110] ∧ ∃ T n x, TapM m T n ∧ RdS m T n x ∧ Φ (some (vi (nI (b2 (isS T n x))))) m
set_option maxRecDepth 20000 in
set_option maxHeartbeats 4000000 in
theorem S_X11_isSort : Snd yX11_isSort e_X11_isSort Sp_X11_isSort := by
  refine Snd.of (by decide +kernel) rfl ?_ ?_
  · rintro av m Φ ⟨rfl, _⟩; exact Nat.le_of_ble_eq_true rfl
  rintro av m Φ ⟨rfl, T, n, x, hT, hR, h⟩ hav hty
  show B e_X11_isSort Φ 0 [some (vr 11 110)] [] m (0, 0)
  cases x with
  | ok p =>
    have tk := tkQ (T := T) (n := n) p
    refine b_aloadN (pc := 0) 0 dX11_isSort_0 rfl rfl ?_
    refine gf11_15 (pc := 1) k1057 dX11_isSort_1 ?_
    refine b_if_ne (pc := 4) 31 dX11_isSort_4 (by decide) (fun c4 => ?_) (fun c4 => ?_)
    refine b_iconst (pc := 31) (nI 0) dX11_isSort_31 (by decide) ?_
    refine b_zret (pc := 32) rfl ?_ dX11_isSort_32 ⟨Nat.le_of_ble_eq_true rfl, Nat.le_of_ble_eq_true rfl⟩ ?_
    rotate_left -- leaf 0: bool at 32
    rotate_left -- leaf 1: return at 32
    refine b_aloadN (pc := 7) 0 dX11_isSort_7 rfl rfl ?_
    refine gf11_13 (pc := 8) k1055 dX11_isSort_8 ?_
    refine b_iconst (pc := 11) (nI 2) dX11_isSort_11 (by decide) ?_
    refine b_icmp_ne (pc := 12) 31 dX11_isSort_12 (by decide) (fun c12 => ?_) (fun c12 => ?_)
    refine b_iconst (pc := 31) (nI 0) dX11_isSort_31 (by decide) ?_
    refine b_zret (pc := 32) rfl ?_ dX11_isSort_32 ⟨Nat.le_of_ble_eq_true rfl, Nat.le_of_ble_eq_true rfl⟩ ?_
    rotate_left -- leaf 2: bool at 32
    rotate_left -- leaf 3: return at 32
    refine b_aloadN (pc := 15) 0 dX11_isSort_15 rfl rfl ?_
    refine gf11_14 (pc := 16) k1056 dX11_isSort_16 ?_
    refine call_X11_kindBy (pc := 19) k1217 (by decide) ⟨Nat.le_of_ble_eq_true rfl, Nat.le_of_ble_eq_true rfl⟩ (Nat.le_of_ble_eq_true rfl) dX11_isSort_19 ?_
    refine ⟨_, rfl, T p, ?_, ?_, ?_⟩
    rotate_left -- leaf 4: word of X11_kindBy at 19
    rotate_left -- leaf 5: small of X11_kindBy at 19
    refine b_ldc (pc := 22) k1180 dX11_isSort_22 ?_
    refine b_icmp_eq (pc := 24) 31 dX11_isSort_24 (by decide) (fun c24 => ?_) (fun c24 => ?_)
    refine b_iconst (pc := 31) (nI 0) dX11_isSort_31 (by decide) ?_
    refine b_zret (pc := 32) rfl ?_ dX11_isSort_32 ⟨Nat.le_of_ble_eq_true rfl, Nat.le_of_ble_eq_true rfl⟩ ?_
    rotate_left -- leaf 6: bool at 32
    rotate_left -- leaf 7: return at 32
    refine b_iconst (pc := 27) (nI 1) dX11_isSort_27 (by decide) ?_
    refine b_goto (pc := 28) 32 dX11_isSort_28 (by decide) ?_
    refine b_zret (pc := 32) rfl ?_ dX11_isSort_32 ⟨Nat.le_of_ble_eq_true rfl, Nat.le_of_ble_eq_true rfl⟩ ?_
    rotate_left -- leaf 8: bool at 32
    rotate_left -- leaf 9: return at 32
    -- leaves: 0 bool at 32; 1 return at 32; 2 bool at 32; 3 return at 32; 4 word of X11_kindBy at 19; 5 small of X11_kindBy at 19; 6 bool at 32; 7 return at 32; 8 bool at 32; 9 return at 32
    · exact Or.inl rfl
    · exact absurd hR.2.1 c4
    · exact Or.inl rfl
    · rw [hR.2.2.2.2.1, n_eq (by omega) (by omega)] at c12
      have k0 : kindL (symO T n p) = 0 := by
        rcases tkC (T := T) (n := n) p with ⟨a, e, s, v⟩ | ⟨a, e, s, v⟩ | ⟨a, e, s, v⟩ | ⟨a, e, s, v⟩ | ⟨a, e, s, v⟩
        · rw [s]; rfl
        · exact absurd e c12
        · rw [s]; rfl
        · rw [s]
          rcases a.2 with z | z
          · rw [z]; rfl
          · rw [z]; rfl
        · rw [s]; rfl
      rw [show isS T n (.ok p) = false from decide_eq_false (fun z => z k0)] at h
      exact h
    · rw [hR.2.2.2.2.1, n_eq (by omega) (by omega), tk.2.1] at c12
      obtain ⟨w, e, hw⟩ := c12
      have e2 := symT e
      rw [e2] at e
      exact hR.2.2.2.2.2.1 _ e
    · rw [hR.2.2.2.2.1, n_eq (by omega) (by omega), tk.2.1] at c12
      obtain ⟨w, e, hw⟩ := c12
      have wl := sym_lt e
      have e2 := symT e
      omega
    · exact Or.inl rfl
    · rw [hR.2.2.2.2.1, n_eq (by omega) (by omega), tk.2.1] at c12
      obtain ⟨w, e, hw⟩ := c12
      have e2 := symT e
      rw [e2] at e
      have k0 : kindL (symO T n p) = 0 := by
        rw [e]
        by_cases q : kindL (some (T p)) = 0
        · exact q
        · rw [if_neg q] at c24
          exact absurd c24 (n_ne_none (by have := kindL_le (some (T p)); omega))
      rw [show isS T n (.ok p) = false from decide_eq_false (fun z => z k0)] at h
      exact h
    · exact Or.inr rfl
    · rw [hR.2.2.2.2.1, n_eq (by omega) (by omega), tk.2.1] at c12
      obtain ⟨w, e, hw⟩ := c12
      have e2 := symT e
      rw [e2] at e
      have k0 : ¬ kindL (symO T n p) = 0 := by
        rw [e]
        intro q
        rw [if_pos q] at c24
        exact c24 rfl
      rw [show isS T n (.ok p) = true from decide_eq_true k0] at h
      exact h
  | error e =>
    have h1 := hR.1
    refine b_aloadN (pc := 0) 0 dX11_isSort_0 rfl rfl ?_
    refine gf11_15 (pc := 1) k1057 dX11_isSort_1 ?_
    refine b_if_ne (pc := 4) 31 dX11_isSort_4 (by decide) (fun c4 => ?_) (fun c4 => ?_)
    refine b_iconst (pc := 31) (nI 0) dX11_isSort_31 (by decide) ?_
    refine b_zret (pc := 32) rfl ?_ dX11_isSort_32 ⟨Nat.le_of_ble_eq_true rfl, Nat.le_of_ble_eq_true rfl⟩ ?_
    rotate_left -- leaf 0: bool at 32
    rotate_left -- leaf 1: return at 32
    rotate_left -- leaf 2: at 7
    -- leaves: 0 bool at 32; 1 return at 32; 2 at 7
    · exact Or.inl rfl
    · exact h
    · rw [hR.2.1, n_eq0 (by omega)] at c4
      omega
theorem call_X11_isSort {E : ME} {Φ : Option AV → AM → Prop} {pc : Nat} {L : List (Option AV)} {st : List AV} {m : AM} {a : Nat × Nat} {idx : Nat} {i : Nat} (hl : Cond.methodLink E.2.1 idx yX11_isSort ∈ TB) (hdep : 2 + 1 ≤ E.2.2.2.2.2.2) (hroom : a.1 + 0 ≤ E.2.2.2.2.1 ∧ a.2 + 0 ≤ E.2.2.2.2.2.1) (hsr : st.length ≤ 4) (hd : decode E.1 pc = .ok (.invokevirtual idx, 3)) (hsp : Sp_X11_isSort [vr 11 i] m (fun r m2 => B E Φ (pc + 3) L (r.toList ++ st) m2 a)) : B E Φ pc L (vr 11 i :: st) m a := b_callV S_X11_isSort [] (RX11, TX11, 28) rfl rfl (by decide) (Or.inl hl) k1215 k40 k80 k1216 (show _ ∧ _ ∧ Option.map (fun d => d.parameters.length) (parseMethodDescriptor yX11_isSort.desc) = some 0 from by decide +kernel) ⟨hdep, by decide⟩ hroom hsr hd hsp
