/-! the reference: rows -/
/-- what a method of the reference writes: objects of li, and slots ls of its own -/
def Fm (li ls : List Nat) (m m2 : AM) : Prop := m2.2 = m.2 ∧ (∀ a, a ≠ 110 → a ∉ li → m2.1 a = m.1 a) ∧ ∀ k, k ∉ ls → m2.1 110 k = m.1 110 k
theorem Fm.rf (li ls : List Nat) (m : AM) : Fm li ls m m := ⟨rfl, fun _ _ _ => rfl, fun _ _ => rfl⟩
theorem Fm.ms {li ls : List Nat} {m m2 : AM} (h : Fm li ls m m2) {i j : Nat} {x : Int32} (h0 : i ≠ 110) (hi : i ∈ li) : Fm li ls m (mset m2 i j x) := ⟨h.1, fun a h1 h2 => by
  rw [mset_ne _ _ _ (fun e => h2 (by rw [e]; exact hi))]; exact h.2.1 a h1 h2, fun k hk => by
  rw [mset_ne _ _ _ (Ne.symm h0)]; exact h.2.2 k hk⟩
theorem Fm.m0 {li ls : List Nat} {m m2 : AM} (h : Fm li ls m m2) {j : Nat} {x : Int32} (hj : j ∈ ls) : Fm li ls m (mset m2 110 j x) := ⟨h.1, fun a h1 h2 => by
  rw [mset_ne _ _ _ h1]; exact h.2.1 a h1 h2, fun k hk => by
  rw [mset_at, if_neg (fun e => hk (by rw [e]; exact hj))]; exact h.2.2 k hk⟩
theorem Fm.as {li ls : List Nat} {m m2 : AM} (h : Fm li ls m m2) {i : Nat} {f : Nat → Int32} (h0 : i ≠ 110) (hi : i ∈ li) : Fm li ls m (aset m2 i f) := ⟨h.1, fun a h1 h2 => by
  rw [aset_ne _ _ (fun e => h2 (by rw [e]; exact hi))]; exact h.2.1 a h1 h2, fun k hk => by
  rw [aset_ne _ _ (Ne.symm h0)]; exact h.2.2 k hk⟩
theorem Fm.tr {li ls : List Nat} {m m2 m3 : AM} (h : Fm li ls m m2) (h2 : Fm li ls m2 m3) : Fm li ls m m3 := ⟨h2.1.trans h.1, fun a h0 ha => (h2.2.1 a h0 ha).trans (h.2.1 a h0 ha), fun k hk => (h2.2.2 k hk).trans (h.2.2 k hk)⟩
theorem Fm.mono {li ls li2 ls2 : List Nat} {m m2 : AM} (h : Fm li ls m m2) (h1 : ∀ a, a ∈ li → a ∈ li2) (h2 : ∀ a, a ∈ ls → a ∈ ls2) : Fm li2 ls2 m m2 := ⟨h.1, fun a h0 ha => h.2.1 a h0 (fun q => ha (h1 a q)), fun k hk => h.2.2 k (fun q => hk (h2 k q))⟩
/-- the reference's rows, told as the class's -/
def MRow (m : AM) (La Ma : Nat → Nat) (It : Nat → Nat → Int32) : Prop := ∀ r, r < 8 → (La r = 0 → m.1 111 r = -1) ∧ (0 < La r → La r ≤ 3 ∧ m.1 111 r = nI (La r - 1) ∧ m.1 112 r = nI (Ma r) ∧ Ma r ≤ 40 ∧ ∀ j, j < 40 → m.1 113 (40 * r + j) = It r j)
theorem MRow.cg {m m2 : AM} {La Ma : Nat → Nat} {It : Nat → Nat → Int32} (h1 : m2.1 111 = m.1 111) (h2 : m2.1 112 = m.1 112) (h3 : m2.1 113 = m.1 113) (h : MRow m La Ma It) : MRow m2 La Ma It := by
  unfold MRow
  rw [h1, h2, h3]
  exact h
theorem MRow.ms {m : AM} {La Ma : Nat → Nat} {It : Nat → Nat → Int32} (h : MRow m La Ma It) {j : Nat} {x : Int32} : MRow (mset m 110 j x) La Ma It := MRow.cg (mset_ne _ _ _ (by decide)) (mset_ne _ _ _ (by decide)) (mset_ne _ _ _ (by decide)) h
theorem inLc {p : Int32} (n : Nat) {b : Int64} (hb : b.toInt = (n : Int) - 1) (hn : n < 2147483647) : (if (0 : Int64).toInt ≤ p.toInt64.toInt ∧ p.toInt64.toInt ≤ b.toInt then 1 else 0) = (if inB p n = true then 1 else 0) := by
  rw [Int32.toInt_toInt64, hb, show (0 : Int64).toInt = 0 from rfl]
  by_cases q : inB p n = true
  · rw [if_pos q]
    obtain ⟨j, hj, rfl⟩ := (inB_iff (by omega)).mp q
    rw [nI_toInt (by omega), if_pos ⟨by omega, by omega⟩]
  · rw [if_neg q, if_neg]
    rintro ⟨h1, h2⟩
    apply q
    unfold inB
    rw [decide_eq_true (show ¬ p < 0 by rw [i_lt, i_0]; omega), decide_eq_true (show p < nI n by rw [i_lt, nI_toInt (by omega)]; omega)]
    rfl
theorem b01 (b : Bool) : (nI (if b = true then 1 else 0) = 0 ∨ nI (if b = true then 1 else 0) = 1) := by
  cases b
  · exact Or.inl rfl
  · exact Or.inr rfl
abbrev e_X11_isRow : ME := (cX11_isRow, (RX11, (1, ((some .boolean), (0, (0, 2))))))
theorem dX11_isRow_0 : decode cX11_isRow 0 = .ok (.iload_n 0, 1) := by decide +kernel
theorem dX11_isRow_1 : decode cX11_isRow 1 = .ok (.i2l, 1) := by decide +kernel
theorem dX11_isRow_2 : decode cX11_isRow 2 = .ok (.lconst 0, 1) := by decide +kernel
theorem dX11_isRow_3 : decode cX11_isRow 3 = .ok (.ldc2_w 61, 3) := by decide +kernel
theorem dX11_isRow_6 : decode cX11_isRow 6 = .ok (.invokestatic 63, 3) := by decide +kernel
theorem dX11_isRow_9 : decode cX11_isRow 9 = .ok (.ireturn, 1) := by decide +kernel
def Sp_X11_isRow (av : List AV) (m : AM) (Φ : Option AV → AM → Prop) : Prop := ∃ p, av = [vi p] ∧ Φ (some (vi (nI (if inB p 8 = true then 1 else 0)))) m
set_option maxRecDepth 20000 in
set_option maxHeartbeats 4000000 in
theorem S_X11_isRow : Snd yX11_isRow e_X11_isRow Sp_X11_isRow := by
  refine Snd.of (by decide +kernel) rfl ?_ ?_
  · rintro av m Φ ⟨p, rfl, _⟩; exact Nat.le_of_ble_eq_true rfl
  rintro av m Φ ⟨p, rfl, h⟩ hav hty
  show B e_X11_isRow Φ 0 [some (vi p)] [] m (0, 0)
  refine b_iloadN (pc := 0) 0 dX11_isRow_0 rfl rfl ?_
  refine b_i2l (pc := 1) dX11_isRow_1 ?_
  refine b_lconst (pc := 2) 0 dX11_isRow_2 (by decide) ?_
  refine b_ldc2 (pc := 3) k1135 dX11_isRow_3 ?_
  refine call_X11_in (pc := 6) k1136 (by decide) ⟨Nat.le_of_ble_eq_true rfl, Nat.le_of_ble_eq_true rfl⟩ (Nat.le_of_ble_eq_true rfl) dX11_isRow_6 ?_
  refine ⟨_, _, _, rfl, ?_⟩
  refine b_zret (pc := 9) rfl ?_ dX11_isRow_9 ⟨Nat.le_of_ble_eq_true rfl, Nat.le_of_ble_eq_true rfl⟩ ?_
  rotate_left -- leaf 0: bool at 9
  rotate_left -- leaf 1: return at 9
  -- leaves: 0 bool at 9; 1 return at 9
  · split <;> first | exact Or.inr rfl | exact Or.inl rfl
  · rw [inLc 8 rfl (by omega)]; exact h
theorem call_X11_isRow {E : ME} {Φ : Option AV → AM → Prop} {pc : Nat} {L : List (Option AV)} {st : List AV} {m : AM} {a : Nat × Nat} {idx : Nat} {x0 : AV} (hl : Cond.methodLink E.2.1 idx yX11_isRow ∈ TB) (hdep : 2 + 1 ≤ E.2.2.2.2.2.2) (hroom : a.1 + 0 ≤ E.2.2.2.2.1 ∧ a.2 + 0 ≤ E.2.2.2.2.2.1) (hsr : st.length ≤ 4) (hd : decode E.1 pc = .ok (.invokestatic idx, 3)) (hsp : Sp_X11_isRow [x0] m (fun r m2 => B E Φ (pc + 3) L (r.toList ++ st) m2 a)) : B E Φ pc L (x0 :: st) m a := b_callS S_X11_isRow [x0] (Or.inl hl) k1133 k80 k1134 (show _ ∧ _ ∧ Option.map (fun d => d.parameters.length) (parseMethodDescriptor yX11_isRow.desc) = some 1 from by decide +kernel) ⟨hdep, by decide⟩ hroom hsr hd hsp
abbrev e_X11_finding : ME := (cX11_finding, (RX11, (2, ((some .int), (0, (0, 1))))))
theorem dX11_finding_0 : decode cX11_finding 0 = .ok (.aload_n 0, 1) := by decide +kernel
theorem dX11_finding_1 : decode cX11_finding 1 = .ok (.iload_n 1, 1) := by decide +kernel
theorem dX11_finding_2 : decode cX11_finding 2 = .ok (.putfield 57, 3) := by decide +kernel
theorem dX11_finding_5 : decode cX11_finding 5 = .ok (.ldc 60, 2) := by decide +kernel
theorem dX11_finding_7 : decode cX11_finding 7 = .ok (.iload_n 1, 1) := by decide +kernel
theorem dX11_finding_8 : decode cX11_finding 8 = .ok (.isub, 1) := by decide +kernel
theorem dX11_finding_9 : decode cX11_finding 9 = .ok (.ireturn, 1) := by decide +kernel
def Sp_X11_finding (av : List AV) (m : AM) (Φ : Option AV → AM → Prop) : Prop := ∃ n, av = [vr 11 110, vi n] ∧ Φ (some (vi (-1000010 - n))) (mset m 110 1 n)
set_option maxRecDepth 20000 in
set_option maxHeartbeats 4000000 in
theorem S_X11_finding : Snd yX11_finding e_X11_finding Sp_X11_finding := by
  refine Snd.of (by decide +kernel) rfl ?_ ?_
  · rintro av m Φ ⟨n, rfl, _⟩; exact Nat.le_of_ble_eq_true rfl
  rintro av m Φ ⟨n, rfl, h⟩ hav hty
  show B e_X11_finding Φ 0 [some (vr 11 110), some (vi n)] [] m (0, 0)
  refine b_aloadN (pc := 0) 0 dX11_finding_0 rfl rfl ?_
  refine b_iloadN (pc := 1) 1 dX11_finding_1 rfl rfl ?_
  refine pf11_1 (pc := 2) k1043 dX11_finding_2 ?_
  refine b_ldc (pc := 5) k1145 dX11_finding_5 ?_
  refine b_iloadN (pc := 7) 1 dX11_finding_7 rfl rfl ?_
  refine b_isub (pc := 8) dX11_finding_8 ?_
  refine b_iret (pc := 9) rfl dX11_finding_9 ⟨Nat.le_of_ble_eq_true rfl, Nat.le_of_ble_eq_true rfl⟩ ?_
  rotate_left -- leaf 0: return at 9
  -- leaves: 0 return at 9
  exact h
theorem call_X11_finding {E : ME} {Φ : Option AV → AM → Prop} {pc : Nat} {L : List (Option AV)} {st : List AV} {m : AM} {a : Nat × Nat} {idx : Nat} {x0 : AV} {i : Nat} (hl : Cond.methodLink E.2.1 idx yX11_finding ∈ TB) (hdep : 1 + 1 ≤ E.2.2.2.2.2.2) (hroom : a.1 + 0 ≤ E.2.2.2.2.1 ∧ a.2 + 0 ≤ E.2.2.2.2.2.1) (hsr : st.length ≤ 4) (hd : decode E.1 pc = .ok (.invokevirtual idx, 3)) (hsp : Sp_X11_finding [vr 11 i, x0] m (fun r m2 => B E Φ (pc + 3) L (r.toList ++ st) m2 a)) : B E Φ pc L (x0 :: vr 11 i :: st) m a := b_callV S_X11_finding [x0] (RX11, TX11, 28) rfl rfl (by decide) (Or.inl hl) k1143 k30 k80 k1144 (show _ ∧ _ ∧ Option.map (fun d => d.parameters.length) (parseMethodDescriptor yX11_finding.desc) = some 1 from by decide +kernel) ⟨hdep, by decide⟩ hroom hsr hd hsp
abbrev e_X11_fault : ME := (cX11_fault, (RX11, (1, ((some .int), (0, (0, 8))))))
theorem dX11_fault_0 : decode cX11_fault 0 = .ok (.aload_n 0, 1) := by decide +kernel
theorem dX11_fault_1 : decode cX11_fault 1 = .ok (.iconst 0, 1) := by decide +kernel
theorem dX11_fault_2 : decode cX11_fault 2 = .ok (.putfield 53, 3) := by decide +kernel
theorem dX11_fault_5 : decode cX11_fault 5 = .ok (.aload_n 0, 1) := by decide +kernel
theorem dX11_fault_6 : decode cX11_fault 6 = .ok (.getfield 122, 3) := by decide +kernel
theorem dX11_fault_9 : decode cX11_fault 9 = .ok (.ireturn, 1) := by decide +kernel
def Sp_X11_fault (av : List AV) (m : AM) (Φ : Option AV → AM → Prop) : Prop := av = [vr 11 110] ∧ Φ (some (vi (m.1 110 17))) (mset m 110 0 (nI 0))
set_option maxRecDepth 20000 in
set_option maxHeartbeats 4000000 in
theorem S_X11_fault : Snd yX11_fault e_X11_fault Sp_X11_fault := by
  refine Snd.of (by decide +kernel) rfl ?_ ?_
  · rintro av m Φ ⟨rfl, _⟩; exact Nat.le_of_ble_eq_true rfl
  rintro av m Φ ⟨rfl, h⟩ hav hty
  show B e_X11_fault Φ 0 [some (vr 11 110)] [] m (0, 0)
  refine b_aloadN (pc := 0) 0 dX11_fault_0 rfl rfl ?_
  refine b_iconst (pc := 1) (nI 0) dX11_fault_1 (by decide) ?_
  refine pf11_0 (pc := 2) k1042 dX11_fault_2 ?_
  refine b_aloadN (pc := 5) 0 dX11_fault_5 rfl rfl ?_
  refine gf11_17 (pc := 6) k1059 dX11_fault_6 ?_
  refine b_iret (pc := 9) rfl dX11_fault_9 ⟨Nat.le_of_ble_eq_true rfl, Nat.le_of_ble_eq_true rfl⟩ ?_
  rotate_left -- leaf 0: return at 9
  -- leaves: 0 return at 9
  exact h
theorem call_X11_fault {E : ME} {Φ : Option AV → AM → Prop} {pc : Nat} {L : List (Option AV)} {st : List AV} {m : AM} {a : Nat × Nat} {idx : Nat} {i : Nat} (hl : Cond.methodLink E.2.1 idx yX11_fault ∈ TB) (hdep : 8 + 1 ≤ E.2.2.2.2.2.2) (hroom : a.1 + 0 ≤ E.2.2.2.2.1 ∧ a.2 + 0 ≤ E.2.2.2.2.2.1) (hsr : st.length ≤ 4) (hd : decode E.1 pc = .ok (.invokevirtual idx, 3)) (hsp : Sp_X11_fault [vr 11 i] m (fun r m2 => B E Φ (pc + 3) L (r.toList ++ st) m2 a)) : B E Φ pc L (vr 11 i :: st) m a := b_callV S_X11_fault [] (RX11, TX11, 28) rfl rfl (by decide) (Or.inl hl) k1165 k1166 k80 k1167 (show _ ∧ _ ∧ Option.map (fun d => d.parameters.length) (parseMethodDescriptor yX11_fault.desc) = some 0 from by decide +kernel) ⟨hdep, by decide⟩ hroom hsr hd hsp
abbrev e_X11_status : ME := (cX11_status, (RX11, (1, ((some .int), (0, (0, 8))))))
theorem dX11_status_0 : decode cX11_status 0 = .ok (.aload_n 0, 1) := by decide +kernel
theorem dX11_status_1 : decode cX11_status 1 = .ok (.iconst 0, 1) := by decide +kernel
theorem dX11_status_2 : decode cX11_status 2 = .ok (.putfield 53, 3) := by decide +kernel
theorem dX11_status_5 : decode cX11_status 5 = .ok (.aload_n 0, 1) := by decide +kernel
theorem dX11_status_6 : decode cX11_status 6 = .ok (.getfield 57, 3) := by decide +kernel
theorem dX11_status_9 : decode cX11_status 9 = .ok (.ireturn, 1) := by decide +kernel
def Sp_X11_status (av : List AV) (m : AM) (Φ : Option AV → AM → Prop) : Prop := av = [vr 11 110] ∧ Φ (some (vi (m.1 110 1))) (mset m 110 0 (nI 0))
set_option maxRecDepth 20000 in
set_option maxHeartbeats 4000000 in
theorem S_X11_status : Snd yX11_status e_X11_status Sp_X11_status := by
  refine Snd.of (by decide +kernel) rfl ?_ ?_
  · rintro av m Φ ⟨rfl, _⟩; exact Nat.le_of_ble_eq_true rfl
  rintro av m Φ ⟨rfl, h⟩ hav hty
  show B e_X11_status Φ 0 [some (vr 11 110)] [] m (0, 0)
  refine b_aloadN (pc := 0) 0 dX11_status_0 rfl rfl ?_
  refine b_iconst (pc := 1) (nI 0) dX11_status_1 (by decide) ?_
  refine pf11_0 (pc := 2) k1042 dX11_status_2 ?_
  refine b_aloadN (pc := 5) 0 dX11_status_5 rfl rfl ?_
  refine gf11_1 (pc := 6) k1043 dX11_status_6 ?_
  refine b_iret (pc := 9) rfl dX11_status_9 ⟨Nat.le_of_ble_eq_true rfl, Nat.le_of_ble_eq_true rfl⟩ ?_
  rotate_left -- leaf 0: return at 9
  -- leaves: 0 return at 9
  exact h
theorem call_X11_status {E : ME} {Φ : Option AV → AM → Prop} {pc : Nat} {L : List (Option AV)} {st : List AV} {m : AM} {a : Nat × Nat} {idx : Nat} {i : Nat} (hl : Cond.methodLink E.2.1 idx yX11_status ∈ TB) (hdep : 8 + 1 ≤ E.2.2.2.2.2.2) (hroom : a.1 + 0 ≤ E.2.2.2.2.1 ∧ a.2 + 0 ≤ E.2.2.2.2.2.1) (hsr : st.length ≤ 4) (hd : decode E.1 pc = .ok (.invokevirtual idx, 3)) (hsp : Sp_X11_status [vr 11 i] m (fun r m2 => B E Φ (pc + 3) L (r.toList ++ st) m2 a)) : B E Φ pc L (vr 11 i :: st) m a := b_callV S_X11_status [] (RX11, TX11, 28) rfl rfl (by decide) (Or.inl hl) k1448 k1449 k80 k1450 (show _ ∧ _ ∧ Option.map (fun d => d.parameters.length) (parseMethodDescriptor yX11_status.desc) = some 0 from by decide +kernel) ⟨hdep, by decide⟩ hroom hsr hd hsp
abbrev e_X11_feed : ME := (cX11_feed, (RX11, (2, ((some .int), (0, (0, 8))))))
theorem dX11_feed_0 : decode cX11_feed 0 = .ok (.aload_n 0, 1) := by decide +kernel
theorem dX11_feed_1 : decode cX11_feed 1 = .ok (.iconst 0, 1) := by decide +kernel
theorem dX11_feed_2 : decode cX11_feed 2 = .ok (.putfield 53, 3) := by decide +kernel
theorem dX11_feed_5 : decode cX11_feed 5 = .ok (.iload_n 1, 1) := by decide +kernel
theorem dX11_feed_6 : decode cX11_feed 6 = .ok (.i2l, 1) := by decide +kernel
theorem dX11_feed_7 : decode cX11_feed 7 = .ok (.lconst 0, 1) := by decide +kernel
theorem dX11_feed_8 : decode cX11_feed 8 = .ok (.ldc2_w 78, 3) := by decide +kernel
theorem dX11_feed_11 : decode cX11_feed 11 = .ok (.invokestatic 63, 3) := by decide +kernel
theorem dX11_feed_14 : decode cX11_feed 14 = .ok (.ifCond .ne 6, 3) := by decide +kernel
theorem dX11_feed_17 : decode cX11_feed 17 = .ok (.ldc 73, 2) := by decide +kernel
theorem dX11_feed_19 : decode cX11_feed 19 = .ok (.ireturn, 1) := by decide +kernel
theorem dX11_feed_20 : decode cX11_feed 20 = .ok (.aload_n 0, 1) := by decide +kernel
theorem dX11_feed_21 : decode cX11_feed 21 = .ok (.getfield 80, 3) := by decide +kernel
theorem dX11_feed_24 : decode cX11_feed 24 = .ok (.bipush 120, 2) := by decide +kernel
theorem dX11_feed_26 : decode cX11_feed 26 = .ok (.if_icmp .ne 6, 3) := by decide +kernel
theorem dX11_feed_29 : decode cX11_feed 29 = .ok (.ldc 83, 2) := by decide +kernel
theorem dX11_feed_31 : decode cX11_feed 31 = .ok (.ireturn, 1) := by decide +kernel
theorem dX11_feed_32 : decode cX11_feed 32 = .ok (.aload_n 0, 1) := by decide +kernel
theorem dX11_feed_33 : decode cX11_feed 33 = .ok (.getfield 28, 3) := by decide +kernel
theorem dX11_feed_36 : decode cX11_feed 36 = .ok (.aload_n 0, 1) := by decide +kernel
theorem dX11_feed_37 : decode cX11_feed 37 = .ok (.getfield 80, 3) := by decide +kernel
theorem dX11_feed_40 : decode cX11_feed 40 = .ok (.iload_n 1, 1) := by decide +kernel
theorem dX11_feed_41 : decode cX11_feed 41 = .ok (.iastore, 1) := by decide +kernel
theorem dX11_feed_42 : decode cX11_feed 42 = .ok (.aload_n 0, 1) := by decide +kernel
theorem dX11_feed_43 : decode cX11_feed 43 = .ok (.dup, 1) := by decide +kernel
theorem dX11_feed_44 : decode cX11_feed 44 = .ok (.getfield 80, 3) := by decide +kernel
theorem dX11_feed_47 : decode cX11_feed 47 = .ok (.iconst 1, 1) := by decide +kernel
theorem dX11_feed_48 : decode cX11_feed 48 = .ok (.iadd, 1) := by decide +kernel
theorem dX11_feed_49 : decode cX11_feed 49 = .ok (.putfield 80, 3) := by decide +kernel
theorem dX11_feed_52 : decode cX11_feed 52 = .ok (.aload_n 0, 1) := by decide +kernel
theorem dX11_feed_53 : decode cX11_feed 53 = .ok (.getfield 80, 3) := by decide +kernel
theorem dX11_feed_56 : decode cX11_feed 56 = .ok (.ireturn, 1) := by decide +kernel
def Sp_X11_feed (av : List AV) (m : AM) (Φ : Option AV → AM → Prop) : Prop := ∃ x, av = [vr 11 110, vi x] ∧ ∃ n, m.1 110 10 = nI n ∧ n ≤ 120 ∧ (inB x 256 = false → ∀ m2, Fm [] [0] m m2 → Φ (some (vi (-1000001))) m2) ∧ (inB x 256 = true → n = 120 → ∀ m2, Fm [] [0] m m2 → Φ (some (vi (-1000003))) m2) ∧ (inB x 256 = true → n < 120 → ∀ m2, Fm [117] [0, 10] m m2 → m2.1 110 10 = nI (n + 1) → m2.1 117 = upd (m.1 117) n x → Φ (some (vi (nI (n + 1)))) m2)
set_option maxRecDepth 20000 in
set_option maxHeartbeats 4000000 in
theorem S_X11_feed : Snd yX11_feed e_X11_feed Sp_X11_feed := by
  refine Snd.of (by decide +kernel) rfl ?_ ?_
  · rintro av m Φ ⟨x, rfl, _⟩; exact Nat.le_of_ble_eq_true rfl
  rintro av m Φ ⟨x, rfl, n, hn, hl, h1, h2, h3⟩ hav hty
  show B e_X11_feed Φ 0 [some (vr 11 110), some (vi x)] [] m (0, 0)
  have e10 : ∀ y, (mset m 110 0 y).1 110 10 = nI n := fun y => by rw [mset_at, if_neg (by decide)]; exact hn
  refine b_aloadN (pc := 0) 0 dX11_feed_0 rfl rfl ?_
  refine b_iconst (pc := 1) (nI 0) dX11_feed_1 (by decide) ?_
  refine pf11_0 (pc := 2) k1042 dX11_feed_2 ?_
  refine b_iloadN (pc := 5) 1 dX11_feed_5 rfl rfl ?_
  refine b_i2l (pc := 6) dX11_feed_6 ?_
  refine b_lconst (pc := 7) 0 dX11_feed_7 (by decide) ?_
  refine b_ldc2 (pc := 8) k1162 dX11_feed_8 ?_
  refine call_X11_in (pc := 11) k1136 (by decide) ⟨Nat.le_of_ble_eq_true rfl, Nat.le_of_ble_eq_true rfl⟩ (Nat.le_of_ble_eq_true rfl) dX11_feed_11 ?_
  refine ⟨_, _, _, rfl, ?_⟩
  refine b_if_ne (pc := 14) 20 dX11_feed_14 (by decide) (fun c14 => ?_) (fun c14 => ?_)
  refine b_aloadN (pc := 20) 0 dX11_feed_20 rfl rfl ?_
  refine gf11_10 (pc := 21) k1052 dX11_feed_21 ?_
  refine b_bipush (pc := 24) (nI 120) dX11_feed_24 (by decide) ?_
  refine b_icmp_ne (pc := 26) 32 dX11_feed_26 (by decide) (fun c26 => ?_) (fun c26 => ?_)
  refine b_aloadN (pc := 32) 0 dX11_feed_32 rfl rfl ?_
  refine gf11_9 (pc := 33) 117 rfl k1051 dX11_feed_33 ?_
  refine b_aloadN (pc := 36) 0 dX11_feed_36 rfl rfl ?_
  refine gf11_10 (pc := 37) k1052 dX11_feed_37 ?_
  refine b_iloadN (pc := 40) 1 dX11_feed_40 rfl rfl ?_
  refine b_iast (pc := 41) (by decide) ?_ dX11_feed_41 ?_
  rotate_left -- leaf 0: index at 41
  refine b_aloadN (pc := 42) 0 dX11_feed_42 rfl rfl ?_
  refine b_dup_r (pc := 43) dX11_feed_43 ?_
  refine gf11_10 (pc := 44) k1052 dX11_feed_44 ?_
  refine b_iconst (pc := 47) (nI 1) dX11_feed_47 (by decide) ?_
  refine b_iadd (pc := 48) dX11_feed_48 ?_
  refine pf11_10 (pc := 49) k1052 dX11_feed_49 ?_
  refine b_aloadN (pc := 52) 0 dX11_feed_52 rfl rfl ?_
  refine gf11_10 (pc := 53) k1052 dX11_feed_53 ?_
  refine b_iret (pc := 56) rfl dX11_feed_56 ⟨Nat.le_of_ble_eq_true rfl, Nat.le_of_ble_eq_true rfl⟩ ?_
  rotate_left -- leaf 1: return at 56
  refine b_ldc (pc := 29) k1163 dX11_feed_29 ?_
  refine b_iret (pc := 31) rfl dX11_feed_31 ⟨Nat.le_of_ble_eq_true rfl, Nat.le_of_ble_eq_true rfl⟩ ?_
  rotate_left -- leaf 2: return at 31
  refine b_ldc (pc := 17) k1140 dX11_feed_17 ?_
  refine b_iret (pc := 19) rfl dX11_feed_19 ⟨Nat.le_of_ble_eq_true rfl, Nat.le_of_ble_eq_true rfl⟩ ?_
  rotate_left -- leaf 3: return at 19
  -- leaves: 0 index at 41; 1 return at 56; 2 return at 31; 3 return at 19
  · rw [e10, n_eq (by omega) (by omega)] at c26
    rw [e10]; exact n_in (by omega) (by omega)
  · rw [inLc 256 rfl (by omega)] at c14
    rw [e10, n_eq (by omega) (by omega)] at c26
    rw [e10, n_cl (by omega)]
    have e : (mset (mset m 110 0 (nI 0)) 117 n x).1 110 10 = nI n := by rw [mset_ne _ _ _ (by decide)]; exact e10 _
    rw [e, mset_at, if_pos rfl, n_add]
    refine h3 (bT c14) (by omega) _ ((((Fm.rf _ _ m).m0 (by simp)).ms (by decide) (by simp)).m0 (by simp)) ?_ ?_
    · rw [mset_at, if_pos rfl]
    · rw [mset_ne _ _ _ (by decide), mset_upd, mset_ne _ _ _ (by decide)]
  · rw [inLc 256 rfl (by omega)] at c14
    rw [e10, n_eq (by omega) (by omega)] at c26
    exact h2 (bT c14) c26 _ ((Fm.rf _ _ m).m0 (by simp))
  · rw [inLc 256 rfl (by omega)] at c14
    exact h1 (bF c14) _ ((Fm.rf _ _ m).m0 (by simp))
theorem call_X11_feed {E : ME} {Φ : Option AV → AM → Prop} {pc : Nat} {L : List (Option AV)} {st : List AV} {m : AM} {a : Nat × Nat} {idx : Nat} {x0 : AV} {i : Nat} (hl : Cond.methodLink E.2.1 idx yX11_feed ∈ TB) (hdep : 8 + 1 ≤ E.2.2.2.2.2.2) (hroom : a.1 + 0 ≤ E.2.2.2.2.1 ∧ a.2 + 0 ≤ E.2.2.2.2.2.1) (hsr : st.length ≤ 4) (hd : decode E.1 pc = .ok (.invokevirtual idx, 3)) (hsp : Sp_X11_feed [vr 11 i, x0] m (fun r m2 => B E Φ (pc + 3) L (r.toList ++ st) m2 a)) : B E Φ pc L (x0 :: vr 11 i :: st) m a := b_callV S_X11_feed [x0] (RX11, TX11, 28) rfl rfl (by decide) (Or.inl hl) k1159 k1160 k80 k1161 (show _ ∧ _ ∧ Option.map (fun d => d.parameters.length) (parseMethodDescriptor yX11_feed.desc) = some 1 from by decide +kernel) ⟨hdep, by decide⟩ hroom hsr hd hsp
def filR (f : Nat → Int32) (b j : Nat) : Nat → Int32 := fun k => if b ≤ k ∧ k < b + j then nI 0 else f k
theorem filR_0 (f : Nat → Int32) (b : Nat) : filR f b 0 = f := by
  funext k
  unfold filR
  rw [if_neg (by omega)]
theorem filR_s (f : Nat → Int32) (b j : Nat) : upd (filR f b j) (b + j) (nI 0) = filR f b (j + 1) := by
  funext k
  unfold filR upd
  by_cases e : k = b + j
  · rw [if_pos e, if_pos (by omega)]
  · rw [if_neg e]
    by_cases q : b ≤ k ∧ k < b + j
    · show (if _ then _ else _) = _
      rw [if_pos q, if_pos (by omega)]
    · show (if _ then _ else _) = _
      rw [if_neg q, if_neg (by omega)]
abbrev e_X11_row : ME := (cX11_row, (RX11, (5, ((some .int), (0, (0, 8))))))
theorem dX11_row_0 : decode cX11_row 0 = .ok (.aload_n 0, 1) := by decide +kernel
theorem dX11_row_1 : decode cX11_row 1 = .ok (.iconst 0, 1) := by decide +kernel
theorem dX11_row_2 : decode cX11_row 2 = .ok (.putfield 53, 3) := by decide +kernel
theorem dX11_row_5 : decode cX11_row 5 = .ok (.iload_n 1, 1) := by decide +kernel
theorem dX11_row_6 : decode cX11_row 6 = .ok (.invokestatic 67, 3) := by decide +kernel
theorem dX11_row_9 : decode cX11_row 9 = .ok (.ifCond .eq 21, 3) := by decide +kernel
theorem dX11_row_12 : decode cX11_row 12 = .ok (.iload_n 2, 1) := by decide +kernel
theorem dX11_row_13 : decode cX11_row 13 = .ok (.i2l, 1) := by decide +kernel
theorem dX11_row_14 : decode cX11_row 14 = .ok (.lconst 0, 1) := by decide +kernel
theorem dX11_row_15 : decode cX11_row 15 = .ok (.ldc2_w 71, 3) := by decide +kernel
theorem dX11_row_18 : decode cX11_row 18 = .ok (.invokestatic 63, 3) := by decide +kernel
theorem dX11_row_21 : decode cX11_row 21 = .ok (.ifCond .eq 9, 3) := by decide +kernel
theorem dX11_row_24 : decode cX11_row 24 = .ok (.iload_n 3, 1) := by decide +kernel
theorem dX11_row_25 : decode cX11_row 25 = .ok (.bipush 40, 2) := by decide +kernel
theorem dX11_row_27 : decode cX11_row 27 = .ok (.if_icmp .le 6, 3) := by decide +kernel
theorem dX11_row_30 : decode cX11_row 30 = .ok (.ldc 73, 2) := by decide +kernel
theorem dX11_row_32 : decode cX11_row 32 = .ok (.ireturn, 1) := by decide +kernel
theorem dX11_row_33 : decode cX11_row 33 = .ok (.aload_n 0, 1) := by decide +kernel
theorem dX11_row_34 : decode cX11_row 34 = .ok (.iconst 0, 1) := by decide +kernel
theorem dX11_row_35 : decode cX11_row 35 = .ok (.putfield 57, 3) := by decide +kernel
theorem dX11_row_38 : decode cX11_row 38 = .ok (.iload_n 3, 1) := by decide +kernel
theorem dX11_row_39 : decode cX11_row 39 = .ok (.ifCond .ge 9, 3) := by decide +kernel
theorem dX11_row_42 : decode cX11_row 42 = .ok (.aload_n 0, 1) := by decide +kernel
theorem dX11_row_43 : decode cX11_row 43 = .ok (.iconst 4, 1) := by decide +kernel
theorem dX11_row_44 : decode cX11_row 44 = .ok (.invokevirtual 74, 3) := by decide +kernel
theorem dX11_row_47 : decode cX11_row 47 = .ok (.ireturn, 1) := by decide +kernel
theorem dX11_row_48 : decode cX11_row 48 = .ok (.aload_n 0, 1) := by decide +kernel
theorem dX11_row_49 : decode cX11_row 49 = .ok (.getfield 7, 3) := by decide +kernel
theorem dX11_row_52 : decode cX11_row 52 = .ok (.iload_n 1, 1) := by decide +kernel
theorem dX11_row_53 : decode cX11_row 53 = .ok (.iload_n 2, 1) := by decide +kernel
theorem dX11_row_54 : decode cX11_row 54 = .ok (.iastore, 1) := by decide +kernel
theorem dX11_row_55 : decode cX11_row 55 = .ok (.aload_n 0, 1) := by decide +kernel
theorem dX11_row_56 : decode cX11_row 56 = .ok (.getfield 13, 3) := by decide +kernel
theorem dX11_row_59 : decode cX11_row 59 = .ok (.iload_n 1, 1) := by decide +kernel
theorem dX11_row_60 : decode cX11_row 60 = .ok (.iload_n 3, 1) := by decide +kernel
theorem dX11_row_61 : decode cX11_row 61 = .ok (.iastore, 1) := by decide +kernel
theorem dX11_row_62 : decode cX11_row 62 = .ok (.iconst 0, 1) := by decide +kernel
theorem dX11_row_63 : decode cX11_row 63 = .ok (.istore 4, 2) := by decide +kernel
theorem dX11_row_65 : decode cX11_row 65 = .ok (.iload 4, 2) := by decide +kernel
theorem dX11_row_67 : decode cX11_row 67 = .ok (.bipush 40, 2) := by decide +kernel
theorem dX11_row_69 : decode cX11_row 69 = .ok (.if_icmp .ge 22, 3) := by decide +kernel
theorem dX11_row_72 : decode cX11_row 72 = .ok (.aload_n 0, 1) := by decide +kernel
theorem dX11_row_73 : decode cX11_row 73 = .ok (.getfield 16, 3) := by decide +kernel
theorem dX11_row_76 : decode cX11_row 76 = .ok (.bipush 40, 2) := by decide +kernel
theorem dX11_row_78 : decode cX11_row 78 = .ok (.iload_n 1, 1) := by decide +kernel
theorem dX11_row_79 : decode cX11_row 79 = .ok (.imul, 1) := by decide +kernel
theorem dX11_row_80 : decode cX11_row 80 = .ok (.iload 4, 2) := by decide +kernel
theorem dX11_row_82 : decode cX11_row 82 = .ok (.iadd, 1) := by decide +kernel
theorem dX11_row_83 : decode cX11_row 83 = .ok (.iconst 0, 1) := by decide +kernel
theorem dX11_row_84 : decode cX11_row 84 = .ok (.iastore, 1) := by decide +kernel
theorem dX11_row_85 : decode cX11_row 85 = .ok (.iinc 4 1, 3) := by decide +kernel
theorem dX11_row_88 : decode cX11_row 88 = .ok (.goto (-23), 3) := by decide +kernel
theorem dX11_row_91 : decode cX11_row 91 = .ok (.iload_n 3, 1) := by decide +kernel
theorem dX11_row_92 : decode cX11_row 92 = .ok (.ireturn, 1) := by decide +kernel
def Sp_X11_row (av : List AV) (m : AM) (Φ : Option AV → AM → Prop) : Prop := ∃ x l n, av = [vr 11 110, vi x, vi l, vi n] ∧ ∃ La Ma It, MRow m La Ma It ∧ ((inB x 8 = false ∨ inB l 3 = false ∨ nI 40 < n) → ∀ m2, Fm [] [0] m m2 → Φ (some (vi (-1000001))) m2) ∧ (inB x 8 = true → inB l 3 = true → n < 0 → ∀ m2, Fm [] [0, 1] m m2 → m2.1 110 1 = nI 4 → Φ (some (vi (-1000010 - nI 4))) m2) ∧ (inB x 8 = true → inB l 3 = true → inB n 41 = true → ∀ m2, Fm [111, 112, 113] [0, 1] m m2 → MRow m2 (upC La x.toNatClampNeg (l.toNatClampNeg + 1)) (upC Ma x.toNatClampNeg n.toNatClampNeg) (layI It x.toNatClampNeg) → m2.1 110 1 = nI 0 → Φ (some (vi n)) m2)
set_option maxRecDepth 20000 in
set_option maxHeartbeats 4000000 in
theorem S_X11_row : Snd yX11_row e_X11_row Sp_X11_row := by
  refine Snd.of (by decide +kernel) rfl ?_ ?_
  · rintro av m Φ ⟨x, l, n, rfl, _⟩; exact Nat.le_of_ble_eq_true rfl
  rintro av m Φ ⟨x, l, n, rfl, La, Ma, It, hR, h1, h2, h3⟩ hav hty
  show B e_X11_row Φ 0 [some (vr 11 110), some (vi x), some (vi l), some (vi n), none] [] m (0, 0)
  have loop : ∀ r, x = nI r → r < 8 → ∀ q k (m2 : AM), 41 ≤ k + q → k ≤ 40 → (∀ m3, m3 = aset m2 113 (filR (m2.1 113) (40 * r) 40) → Φ (some (vi n)) m3) → B e_X11_row Φ 65 [some (vr 11 110), some (vi x), some (vi l), some (vi n), some (vi (nI k))] [] (aset m2 113 (filR (m2.1 113) (40 * r) k)) (0, 0) := by
    intro r hx hr q
    induction q with
    | zero => intro k m2 a b; omega
    | succ q ih =>
      intro k m2 a b hk
      subst hx
      refine b_iloadG (pc := 65) 4 dX11_row_65 rfl ?_
      refine b_bipush (pc := 67) (nI 40) dX11_row_67 (by decide) ?_
      refine b_icmp_ge (pc := 69) 91 dX11_row_69 (by decide) (fun c69 => ?_) (fun c69 => ?_)
      refine b_iloadN (pc := 91) 3 dX11_row_91 rfl rfl ?_
      refine b_iret (pc := 92) rfl dX11_row_92 ⟨Nat.le_of_ble_eq_true rfl, Nat.le_of_ble_eq_true rfl⟩ ?_
      rotate_left -- leaf 0: return at 92
      refine b_aloadN (pc := 72) 0 dX11_row_72 rfl rfl ?_
      refine gf11_4 (pc := 73) 113 rfl k1046 dX11_row_73 ?_
      refine b_bipush (pc := 76) (nI 40) dX11_row_76 (by decide) ?_
      refine b_iloadN (pc := 78) 1 dX11_row_78 rfl rfl ?_
      refine b_imul (pc := 79) dX11_row_79 ?_
      refine b_iloadG (pc := 80) 4 dX11_row_80 rfl ?_
      refine b_iadd (pc := 82) dX11_row_82 ?_
      refine b_iconst (pc := 83) (nI 0) dX11_row_83 (by decide) ?_
      refine b_iast (pc := 84) (by decide) ?_ dX11_row_84 ?_
      rotate_left -- leaf 1: index at 84
      refine inc4 (pc := 85) notL_i (by decide) dX11_row_85 ?_
      refine b_goto (pc := 88) 65 dX11_row_88 (by decide) ?_
      rotate_left -- leaf 2: at 65
      -- leaves: 0 return at 92; 1 index at 84; 2 at 65
      · rw [n_le (by omega) (by omega)] at c69
        have e : k = 40 := by omega
        subst e
        exact hk _ rfl
      · rw [n_le (by omega) (by omega)] at c69
        rw [n_mul, n_add]; exact n_in (by omega) (by omega)
      · rw [n_le (by omega) (by omega)] at c69
        rw [n_mul, n_add, n_cl (by omega), n_inc, mset_of_aset, filR_s]
        exact ih (k + 1) m2 (by omega) (by omega) hk
  have len : n ≤ nI 40 → 0 ≤ n → inB n 41 = true := fun a b => by
    have b2 : ¬ n < 0 := fun c => by
      rw [i_lt, i_0] at c
      rw [i_le, i_0] at b
      omega
    obtain ⟨j, hj, rfl⟩ := nI_of b2
    rw [n_le (by omega) (by omega)] at a
    exact (inB_iff (by omega)).mpr ⟨j, by omega, rfl⟩
  have cl : ∀ {z : Int32} {k : Nat}, inB z k = true → k < 1000 → z = nI z.toNatClampNeg ∧ z.toNatClampNeg < k := fun {z k} a b => by
    obtain ⟨j, hj, rfl⟩ := (inB_iff (by omega)).mp a
    rw [n_cl (by omega)]
    exact ⟨rfl, hj⟩
  refine b_aloadN (pc := 0) 0 dX11_row_0 rfl rfl ?_
  refine b_iconst (pc := 1) (nI 0) dX11_row_1 (by decide) ?_
  refine pf11_0 (pc := 2) k1042 dX11_row_2 ?_
  refine b_iloadN (pc := 5) 1 dX11_row_5 rfl rfl ?_
  refine call_X11_isRow (pc := 6) k1132 (by decide) ⟨Nat.le_of_ble_eq_true rfl, Nat.le_of_ble_eq_true rfl⟩ (Nat.le_of_ble_eq_true rfl) dX11_row_6 ?_
  refine ⟨_, rfl, ?_⟩
  refine b_if_eq (pc := 9) 30 dX11_row_9 (by decide) (fun c9 => ?_) (fun c9 => ?_)
  refine b_ldc (pc := 30) k1140 dX11_row_30 ?_
  refine b_iret (pc := 32) rfl dX11_row_32 ⟨Nat.le_of_ble_eq_true rfl, Nat.le_of_ble_eq_true rfl⟩ ?_
  rotate_left -- leaf 0: return at 32
  refine b_iloadN (pc := 12) 2 dX11_row_12 rfl rfl ?_
  refine b_i2l (pc := 13) dX11_row_13 ?_
  refine b_lconst (pc := 14) 0 dX11_row_14 (by decide) ?_
  refine b_ldc2 (pc := 15) k1139 dX11_row_15 ?_
  refine call_X11_in (pc := 18) k1136 (by decide) ⟨Nat.le_of_ble_eq_true rfl, Nat.le_of_ble_eq_true rfl⟩ (Nat.le_of_ble_eq_true rfl) dX11_row_18 ?_
  refine ⟨_, _, _, rfl, ?_⟩
  refine b_if_eq (pc := 21) 30 dX11_row_21 (by decide) (fun c21 => ?_) (fun c21 => ?_)
  refine b_ldc (pc := 30) k1140 dX11_row_30 ?_
  refine b_iret (pc := 32) rfl dX11_row_32 ⟨Nat.le_of_ble_eq_true rfl, Nat.le_of_ble_eq_true rfl⟩ ?_
  rotate_left -- leaf 1: return at 32
  refine b_iloadN (pc := 24) 3 dX11_row_24 rfl rfl ?_
  refine b_bipush (pc := 25) (nI 40) dX11_row_25 (by decide) ?_
  refine b_icmp_le (pc := 27) 33 dX11_row_27 (by decide) (fun c27 => ?_) (fun c27 => ?_)
  refine b_aloadN (pc := 33) 0 dX11_row_33 rfl rfl ?_
  refine b_iconst (pc := 34) (nI 0) dX11_row_34 (by decide) ?_
  refine pf11_1 (pc := 35) k1043 dX11_row_35 ?_
  refine b_iloadN (pc := 38) 3 dX11_row_38 rfl rfl ?_
  refine b_if_ge (pc := 39) 48 dX11_row_39 (by decide) (fun c39 => ?_) (fun c39 => ?_)
  refine b_aloadN (pc := 48) 0 dX11_row_48 rfl rfl ?_
  refine gf11_2 (pc := 49) 111 rfl k1044 dX11_row_49 ?_
  refine b_iloadN (pc := 52) 1 dX11_row_52 rfl rfl ?_
  refine b_iloadN (pc := 53) 2 dX11_row_53 rfl rfl ?_
  refine b_iast (pc := 54) (by decide) ?_ dX11_row_54 ?_
  rotate_left -- leaf 2: index at 54
  refine b_aloadN (pc := 55) 0 dX11_row_55 rfl rfl ?_
  refine gf11_3 (pc := 56) 112 rfl k1045 dX11_row_56 ?_
  refine b_iloadN (pc := 59) 1 dX11_row_59 rfl rfl ?_
  refine b_iloadN (pc := 60) 3 dX11_row_60 rfl rfl ?_
  refine b_iast (pc := 61) (by decide) ?_ dX11_row_61 ?_
  rotate_left -- leaf 3: index at 61
  refine b_iconst (pc := 62) (nI 0) dX11_row_62 (by decide) ?_
  refine siG4 (pc := 63) notL_i (by decide) dX11_row_63 ?_
  rotate_left -- leaf 4: at 65
  refine b_aloadN (pc := 42) 0 dX11_row_42 rfl rfl ?_
  refine b_iconst (pc := 43) (nI 4) dX11_row_43 (by decide) ?_
  refine call_X11_finding (pc := 44) k1141 (by decide) ⟨Nat.le_of_ble_eq_true rfl, Nat.le_of_ble_eq_true rfl⟩ (Nat.le_of_ble_eq_true rfl) dX11_row_44 ?_
  refine ⟨_, rfl, ?_⟩
  refine b_iret (pc := 47) rfl dX11_row_47 ⟨Nat.le_of_ble_eq_true rfl, Nat.le_of_ble_eq_true rfl⟩ ?_
  rotate_left -- leaf 5: return at 47
  refine b_ldc (pc := 30) k1140 dX11_row_30 ?_
  refine b_iret (pc := 32) rfl dX11_row_32 ⟨Nat.le_of_ble_eq_true rfl, Nat.le_of_ble_eq_true rfl⟩ ?_
  rotate_left -- leaf 6: return at 32
  -- leaves: 0 return at 32; 1 return at 32; 2 index at 54; 3 index at 61; 4 at 65; 5 return at 47; 6 return at 32
  · exact h1 (Or.inl (bF c9)) _ ((Fm.rf _ _ m).m0 (by simp))
  · rw [inLc 3 rfl (by omega)] at c21
    exact h1 (Or.inr (Or.inl (bF c21))) _ ((Fm.rf _ _ m).m0 (by simp))
  · have q := cl (bT c9) (by omega)
    rw [q.1]
    exact n_in q.2 (by omega)
  · have q := cl (bT c9) (by omega)
    rw [q.1]
    exact n_in q.2 (by omega)
  · rw [inLc 3 rfl (by omega)] at c21
    obtain ⟨r, hr, rfl⟩ := (inB_iff (by omega)).mp (bT c9)
    obtain ⟨q, hq, rfl⟩ := (inB_iff (by omega)).mp (bT c21)
    obtain ⟨j, hj, rfl⟩ := (inB_iff (by omega)).mp (len c27 c39)
    rw [n_cl (show r < 2147483648 by omega), n_cl (show q < 2147483648 by omega), n_cl (show j < 2147483648 by omega)] at h3
    rw [n_cl (show r < 2147483648 by omega)]
    have l2 := loop r rfl hr 41 0 (mset (mset (mset (mset m 110 0 (nI 0)) 110 1 (nI 0)) 111 r (nI q)) 112 r (nI j)) (by omega) (by omega) (fun m3 e3 => by
      subst e3
      refine h3 (bT c9) (bT c21) (len c27 c39) _ ((((((Fm.rf _ _ m).m0 (by simp)).m0 (by simp)).ms (by decide) (by simp)).ms (by decide) (by simp)).as (by decide) (by simp)) (fun a ha => ?_) ?_
      · have w := hR a ha
        rw [aset_at, aset_ne _ _ (show 111 ≠ 113 by decide), aset_ne _ _ (show 112 ≠ 113 by decide), mset_ne _ _ _ (show 111 ≠ 112 by decide), mset_at, mset_at, mset_ne _ _ _ (show 112 ≠ 111 by decide), mset_ne _ _ _ (show 113 ≠ 112 by decide), mset_ne _ _ _ (show 113 ≠ 111 by decide), mset_ne _ _ _ (show 113 ≠ 110 by decide), mset_ne _ _ _ (show 113 ≠ 110 by decide), mset_ne _ _ _ (show 111 ≠ 110 by decide), mset_ne _ _ _ (show 111 ≠ 110 by decide), mset_ne _ _ _ (show 112 ≠ 110 by decide), mset_ne _ _ _ (show 112 ≠ 110 by decide)]
        by_cases e : a = r
        · subst e
          rw [upC_at, upC_at, if_pos rfl, if_pos rfl]
          refine ⟨fun z => by omega, fun _ => ⟨by omega, by rw [Nat.add_sub_cancel], rfl, by omega, fun b hb => ?_⟩⟩
          unfold filR layI
          rw [if_pos (by omega), if_pos rfl]
        · rw [upC_ne _ _ e, upC_ne _ _ e, if_neg e, if_neg e]
          refine ⟨w.1, fun z => ⟨(w.2 z).1, (w.2 z).2.1, (w.2 z).2.2.1, (w.2 z).2.2.2.1, fun b hb => ?_⟩⟩
          unfold filR layI
          rw [if_neg (by omega), if_neg e]
          exact (w.2 z).2.2.2.2 b hb
      · rw [aset_ne _ _ (by decide), mset_ne _ _ _ (by decide), mset_ne _ _ _ (by decide), mset_at, if_pos rfl])
    rw [filR_0, aset_self _ _ _ rfl] at l2
    exact l2
  · rw [inLc 3 rfl (by omega)] at c21
    refine h2 (bT c9) (bT c21) ?_ _ ((((Fm.rf _ _ m).m0 (by simp)).m0 (by simp)).m0 (by simp)) (by rw [mset_at, if_pos rfl])
    rw [i_le, i_0] at c39
    rw [i_lt, i_0]
    omega
  · exact h1 (Or.inr (Or.inr (Int32.not_le.mp c27))) _ ((Fm.rf _ _ m).m0 (by simp))
theorem call_X11_row {E : ME} {Φ : Option AV → AM → Prop} {pc : Nat} {L : List (Option AV)} {st : List AV} {m : AM} {a : Nat × Nat} {idx : Nat} {x0 x1 x2 : AV} {i : Nat} (hl : Cond.methodLink E.2.1 idx yX11_row ∈ TB) (hdep : 8 + 1 ≤ E.2.2.2.2.2.2) (hroom : a.1 + 0 ≤ E.2.2.2.2.1 ∧ a.2 + 0 ≤ E.2.2.2.2.2.1) (hsr : st.length ≤ 4) (hd : decode E.1 pc = .ok (.invokevirtual idx, 3)) (hsp : Sp_X11_row [vr 11 i, x0, x1, x2] m (fun r m2 => B E Φ (pc + 3) L (r.toList ++ st) m2 a)) : B E Φ pc L (x2 :: x1 :: x0 :: vr 11 i :: st) m a := b_callV S_X11_row [x0, x1, x2] (RX11, TX11, 28) rfl rfl (by decide) (Or.inl hl) k1129 k1130 k80 k1131 (show _ ∧ _ ∧ Option.map (fun d => d.parameters.length) (parseMethodDescriptor yX11_row.desc) = some 3 from by decide +kernel) ⟨hdep, by decide⟩ hroom hsr hd hsp
abbrev e_X11_drop : ME := (cX11_drop, (RX11, (2, ((some .int), (0, (0, 8))))))
theorem dX11_drop_0 : decode cX11_drop 0 = .ok (.aload_n 0, 1) := by decide +kernel
theorem dX11_drop_1 : decode cX11_drop 1 = .ok (.iconst 0, 1) := by decide +kernel
theorem dX11_drop_2 : decode cX11_drop 2 = .ok (.putfield 53, 3) := by decide +kernel
theorem dX11_drop_5 : decode cX11_drop 5 = .ok (.iload_n 1, 1) := by decide +kernel
theorem dX11_drop_6 : decode cX11_drop 6 = .ok (.invokestatic 67, 3) := by decide +kernel
theorem dX11_drop_9 : decode cX11_drop 9 = .ok (.ifCond .ne 6, 3) := by decide +kernel
theorem dX11_drop_12 : decode cX11_drop 12 = .ok (.ldc 73, 2) := by decide +kernel
theorem dX11_drop_14 : decode cX11_drop 14 = .ok (.ireturn, 1) := by decide +kernel
theorem dX11_drop_15 : decode cX11_drop 15 = .ok (.aload_n 0, 1) := by decide +kernel
theorem dX11_drop_16 : decode cX11_drop 16 = .ok (.iconst 0, 1) := by decide +kernel
theorem dX11_drop_17 : decode cX11_drop 17 = .ok (.putfield 57, 3) := by decide +kernel
theorem dX11_drop_20 : decode cX11_drop 20 = .ok (.aload_n 0, 1) := by decide +kernel
theorem dX11_drop_21 : decode cX11_drop 21 = .ok (.getfield 7, 3) := by decide +kernel
theorem dX11_drop_24 : decode cX11_drop 24 = .ok (.iload_n 1, 1) := by decide +kernel
theorem dX11_drop_25 : decode cX11_drop 25 = .ok (.iaload, 1) := by decide +kernel
theorem dX11_drop_26 : decode cX11_drop 26 = .ok (.ifCond .ge 9, 3) := by decide +kernel
theorem dX11_drop_29 : decode cX11_drop 29 = .ok (.aload_n 0, 1) := by decide +kernel
theorem dX11_drop_30 : decode cX11_drop 30 = .ok (.iconst 1, 1) := by decide +kernel
theorem dX11_drop_31 : decode cX11_drop 31 = .ok (.invokevirtual 74, 3) := by decide +kernel
theorem dX11_drop_34 : decode cX11_drop 34 = .ok (.ireturn, 1) := by decide +kernel
theorem dX11_drop_35 : decode cX11_drop 35 = .ok (.aload_n 0, 1) := by decide +kernel
theorem dX11_drop_36 : decode cX11_drop 36 = .ok (.getfield 7, 3) := by decide +kernel
theorem dX11_drop_39 : decode cX11_drop 39 = .ok (.iload_n 1, 1) := by decide +kernel
theorem dX11_drop_40 : decode cX11_drop 40 = .ok (.iconst (-1), 1) := by decide +kernel
theorem dX11_drop_41 : decode cX11_drop 41 = .ok (.iastore, 1) := by decide +kernel
theorem dX11_drop_42 : decode cX11_drop 42 = .ok (.aload_n 0, 1) := by decide +kernel
theorem dX11_drop_43 : decode cX11_drop 43 = .ok (.getfield 13, 3) := by decide +kernel
theorem dX11_drop_46 : decode cX11_drop 46 = .ok (.iload_n 1, 1) := by decide +kernel
theorem dX11_drop_47 : decode cX11_drop 47 = .ok (.iaload, 1) := by decide +kernel
theorem dX11_drop_48 : decode cX11_drop 48 = .ok (.ireturn, 1) := by decide +kernel
def Sp_X11_drop (av : List AV) (m : AM) (Φ : Option AV → AM → Prop) : Prop := ∃ x, av = [vr 11 110, vi x] ∧ ∃ La Ma It, MRow m La Ma It ∧ (inB x 8 = false → ∀ m2, Fm [] [0] m m2 → Φ (some (vi (-1000001))) m2) ∧ (inB x 8 = true → La x.toNatClampNeg = 0 → ∀ m2, Fm [] [0, 1] m m2 → m2.1 110 1 = nI 1 → Φ (some (vi (-1000010 - nI 1))) m2) ∧ (inB x 8 = true → 0 < La x.toNatClampNeg → ∀ m2, Fm [111] [0, 1] m m2 → MRow m2 (upC La x.toNatClampNeg 0) Ma It → m2.1 110 1 = nI 0 → Φ (some (vi (nI (Ma x.toNatClampNeg)))) m2)
theorem MRow.lane {m : AM} {La Ma : Nat → Nat} {It : Nat → Nat → Int32} (h : MRow m La Ma It) {r : Nat} (hr : r < 8) : (0 ≤ m.1 111 r ↔ 0 < La r) := by
  have q := h r hr
  by_cases e : La r = 0
  · rw [q.1 e, e]
    exact ⟨fun z => absurd z (by decide), fun z => absurd z (by decide)⟩
  · have w := q.2 (by omega)
    rw [w.2.1, n_ge0 (by omega)]
    exact ⟨fun _ => by omega, fun _ => trivial⟩
set_option maxRecDepth 20000 in
set_option maxHeartbeats 4000000 in
theorem S_X11_drop : Snd yX11_drop e_X11_drop Sp_X11_drop := by
  refine Snd.of (by decide +kernel) rfl ?_ ?_
  · rintro av m Φ ⟨x, rfl, _⟩; exact Nat.le_of_ble_eq_true rfl
  rintro av m Φ ⟨x, rfl, La, Ma, It, hR, h1, h2, h3⟩ hav hty
  show B e_X11_drop Φ 0 [some (vr 11 110), some (vi x)] [] m (0, 0)
  have cl : ∀ {z : Int32} {k : Nat}, inB z k = true → k < 1000 → z = nI z.toNatClampNeg ∧ z.toNatClampNeg < k := fun {z k} a b => by
    obtain ⟨j, hj, rfl⟩ := (inB_iff (by omega)).mp a
    rw [n_cl (by omega)]
    exact ⟨rfl, hj⟩
  have hR2 : MRow (mset (mset m 110 0 (nI 0)) 110 1 (nI 0)) La Ma It := hR.ms.ms
  refine b_aloadN (pc := 0) 0 dX11_drop_0 rfl rfl ?_
  refine b_iconst (pc := 1) (nI 0) dX11_drop_1 (by decide) ?_
  refine pf11_0 (pc := 2) k1042 dX11_drop_2 ?_
  refine b_iloadN (pc := 5) 1 dX11_drop_5 rfl rfl ?_
  refine call_X11_isRow (pc := 6) k1132 (by decide) ⟨Nat.le_of_ble_eq_true rfl, Nat.le_of_ble_eq_true rfl⟩ (Nat.le_of_ble_eq_true rfl) dX11_drop_6 ?_
  refine ⟨_, rfl, ?_⟩
  refine b_if_ne (pc := 9) 15 dX11_drop_9 (by decide) (fun c9 => ?_) (fun c9 => ?_)
  refine b_aloadN (pc := 15) 0 dX11_drop_15 rfl rfl ?_
  refine b_iconst (pc := 16) (nI 0) dX11_drop_16 (by decide) ?_
  refine pf11_1 (pc := 17) k1043 dX11_drop_17 ?_
  refine b_aloadN (pc := 20) 0 dX11_drop_20 rfl rfl ?_
  refine gf11_2 (pc := 21) 111 rfl k1044 dX11_drop_21 ?_
  refine b_iloadN (pc := 24) 1 dX11_drop_24 rfl rfl ?_
  refine b_iald (pc := 25) (by decide) ?_ dX11_drop_25 ?_
  rotate_left -- leaf 0: index at 25
  refine b_if_ge (pc := 26) 35 dX11_drop_26 (by decide) (fun c26 => ?_) (fun c26 => ?_)
  refine b_aloadN (pc := 35) 0 dX11_drop_35 rfl rfl ?_
  refine gf11_2 (pc := 36) 111 rfl k1044 dX11_drop_36 ?_
  refine b_iloadN (pc := 39) 1 dX11_drop_39 rfl rfl ?_
  refine b_iconst (pc := 40) (-1) dX11_drop_40 (by decide) ?_
  refine b_iast (pc := 41) (by decide) ?_ dX11_drop_41 ?_
  rotate_left -- leaf 1: index at 41
  refine b_aloadN (pc := 42) 0 dX11_drop_42 rfl rfl ?_
  refine gf11_3 (pc := 43) 112 rfl k1045 dX11_drop_43 ?_
  refine b_iloadN (pc := 46) 1 dX11_drop_46 rfl rfl ?_
  refine b_iald (pc := 47) (by decide) ?_ dX11_drop_47 ?_
  rotate_left -- leaf 2: index at 47
  refine b_iret (pc := 48) rfl dX11_drop_48 ⟨Nat.le_of_ble_eq_true rfl, Nat.le_of_ble_eq_true rfl⟩ ?_
  rotate_left -- leaf 3: return at 48
  refine b_aloadN (pc := 29) 0 dX11_drop_29 rfl rfl ?_
  refine b_iconst (pc := 30) (nI 1) dX11_drop_30 (by decide) ?_
  refine call_X11_finding (pc := 31) k1141 (by decide) ⟨Nat.le_of_ble_eq_true rfl, Nat.le_of_ble_eq_true rfl⟩ (Nat.le_of_ble_eq_true rfl) dX11_drop_31 ?_
  refine ⟨_, rfl, ?_⟩
  refine b_iret (pc := 34) rfl dX11_drop_34 ⟨Nat.le_of_ble_eq_true rfl, Nat.le_of_ble_eq_true rfl⟩ ?_
  rotate_left -- leaf 4: return at 34
  refine b_ldc (pc := 12) k1140 dX11_drop_12 ?_
  refine b_iret (pc := 14) rfl dX11_drop_14 ⟨Nat.le_of_ble_eq_true rfl, Nat.le_of_ble_eq_true rfl⟩ ?_
  rotate_left -- leaf 5: return at 14
  -- leaves: 0 index at 25; 1 index at 41; 2 index at 47; 3 return at 48; 4 return at 34; 5 return at 14
  · have q := cl (bT c9) (by omega)
    rw [q.1]
    exact n_in q.2 (by omega)
  · have q := cl (bT c9) (by omega)
    rw [q.1]
    exact n_in q.2 (by omega)
  · have q := cl (bT c9) (by omega)
    rw [q.1]
    exact n_in q.2 (by omega)
  · have q := cl (bT c9) (by omega)
    rw [hR2.lane q.2] at c26
    have w := (hR2 _ q.2).2 c26
    rw [mset_ne _ _ _ (show 112 ≠ 111 by decide), w.2.2.1]
    refine h3 (bT c9) c26 _ ((((Fm.rf _ _ m).m0 (by simp)).m0 (by simp)).ms (by decide) (by simp)) (fun a ha => ?_) ?_
    · rw [mset_at, mset_ne _ _ _ (show 112 ≠ 111 by decide), mset_ne _ _ _ (show 113 ≠ 111 by decide)]
      by_cases e : a = x.toNatClampNeg
      · rw [e, upC_at, if_pos rfl]
        exact ⟨fun _ => rfl, fun z => by omega⟩
      · rw [upC_ne _ _ e, if_neg e]
        exact hR2 a ha
    · rw [mset_ne _ _ _ (by decide), mset_at, if_pos rfl]
  · have q := cl (bT c9) (by omega)
    have c26 := c26
    rw [hR2.lane q.2] at c26
    exact h2 (bT c9) (by omega) _ ((((Fm.rf _ _ m).m0 (by simp)).m0 (by simp)).m0 (by simp)) (by rw [mset_at, if_pos rfl])
  · exact h1 (bF c9) _ ((Fm.rf _ _ m).m0 (by simp))
theorem call_X11_drop {E : ME} {Φ : Option AV → AM → Prop} {pc : Nat} {L : List (Option AV)} {st : List AV} {m : AM} {a : Nat × Nat} {idx : Nat} {x0 : AV} {i : Nat} (hl : Cond.methodLink E.2.1 idx yX11_drop ∈ TB) (hdep : 8 + 1 ≤ E.2.2.2.2.2.2) (hroom : a.1 + 0 ≤ E.2.2.2.2.1 ∧ a.2 + 0 ≤ E.2.2.2.2.2.1) (hsr : st.length ≤ 4) (hd : decode E.1 pc = .ok (.invokevirtual idx, 3)) (hsp : Sp_X11_drop [vr 11 i, x0] m (fun r m2 => B E Φ (pc + 3) L (r.toList ++ st) m2 a)) : B E Φ pc L (x0 :: vr 11 i :: st) m a := b_callV S_X11_drop [x0] (RX11, TX11, 28) rfl rfl (by decide) (Or.inl hl) k1155 k1156 k80 k1157 (show _ ∧ _ ∧ Option.map (fun d => d.parameters.length) (parseMethodDescriptor yX11_drop.desc) = some 1 from by decide +kernel) ⟨hdep, by decide⟩ hroom hsr hd hsp
abbrev e_X11_set : ME := (cX11_set, (RX11, (4, ((some .int), (0, (0, 8))))))
theorem dX11_set_0 : decode cX11_set 0 = .ok (.aload_n 0, 1) := by decide +kernel
theorem dX11_set_1 : decode cX11_set 1 = .ok (.iconst 0, 1) := by decide +kernel
theorem dX11_set_2 : decode cX11_set 2 = .ok (.putfield 53, 3) := by decide +kernel
theorem dX11_set_5 : decode cX11_set 5 = .ok (.iload_n 1, 1) := by decide +kernel
theorem dX11_set_6 : decode cX11_set 6 = .ok (.invokestatic 67, 3) := by decide +kernel
theorem dX11_set_9 : decode cX11_set 9 = .ok (.ifCond .ne 6, 3) := by decide +kernel
theorem dX11_set_12 : decode cX11_set 12 = .ok (.ldc 73, 2) := by decide +kernel
theorem dX11_set_14 : decode cX11_set 14 = .ok (.ireturn, 1) := by decide +kernel
theorem dX11_set_15 : decode cX11_set 15 = .ok (.aload_n 0, 1) := by decide +kernel
theorem dX11_set_16 : decode cX11_set 16 = .ok (.iconst 0, 1) := by decide +kernel
theorem dX11_set_17 : decode cX11_set 17 = .ok (.putfield 57, 3) := by decide +kernel
theorem dX11_set_20 : decode cX11_set 20 = .ok (.aload_n 0, 1) := by decide +kernel
theorem dX11_set_21 : decode cX11_set 21 = .ok (.getfield 7, 3) := by decide +kernel
theorem dX11_set_24 : decode cX11_set 24 = .ok (.iload_n 1, 1) := by decide +kernel
theorem dX11_set_25 : decode cX11_set 25 = .ok (.iaload, 1) := by decide +kernel
theorem dX11_set_26 : decode cX11_set 26 = .ok (.ifCond .ge 9, 3) := by decide +kernel
theorem dX11_set_29 : decode cX11_set 29 = .ok (.aload_n 0, 1) := by decide +kernel
theorem dX11_set_30 : decode cX11_set 30 = .ok (.iconst 1, 1) := by decide +kernel
theorem dX11_set_31 : decode cX11_set 31 = .ok (.invokevirtual 74, 3) := by decide +kernel
theorem dX11_set_34 : decode cX11_set 34 = .ok (.ireturn, 1) := by decide +kernel
theorem dX11_set_35 : decode cX11_set 35 = .ok (.iload_n 2, 1) := by decide +kernel
theorem dX11_set_36 : decode cX11_set 36 = .ok (.i2l, 1) := by decide +kernel
theorem dX11_set_37 : decode cX11_set 37 = .ok (.lconst 0, 1) := by decide +kernel
theorem dX11_set_38 : decode cX11_set 38 = .ok (.aload_n 0, 1) := by decide +kernel
theorem dX11_set_39 : decode cX11_set 39 = .ok (.getfield 13, 3) := by decide +kernel
theorem dX11_set_42 : decode cX11_set 42 = .ok (.iload_n 1, 1) := by decide +kernel
theorem dX11_set_43 : decode cX11_set 43 = .ok (.iaload, 1) := by decide +kernel
theorem dX11_set_44 : decode cX11_set 44 = .ok (.iconst 1, 1) := by decide +kernel
theorem dX11_set_45 : decode cX11_set 45 = .ok (.isub, 1) := by decide +kernel
theorem dX11_set_46 : decode cX11_set 46 = .ok (.i2l, 1) := by decide +kernel
theorem dX11_set_47 : decode cX11_set 47 = .ok (.invokestatic 63, 3) := by decide +kernel
theorem dX11_set_50 : decode cX11_set 50 = .ok (.ifCond .ne 9, 3) := by decide +kernel
theorem dX11_set_53 : decode cX11_set 53 = .ok (.aload_n 0, 1) := by decide +kernel
theorem dX11_set_54 : decode cX11_set 54 = .ok (.iconst 2, 1) := by decide +kernel
theorem dX11_set_55 : decode cX11_set 55 = .ok (.invokevirtual 74, 3) := by decide +kernel
theorem dX11_set_58 : decode cX11_set 58 = .ok (.ireturn, 1) := by decide +kernel
theorem dX11_set_59 : decode cX11_set 59 = .ok (.aload_n 0, 1) := by decide +kernel
theorem dX11_set_60 : decode cX11_set 60 = .ok (.getfield 16, 3) := by decide +kernel
theorem dX11_set_63 : decode cX11_set 63 = .ok (.bipush 40, 2) := by decide +kernel
theorem dX11_set_65 : decode cX11_set 65 = .ok (.iload_n 1, 1) := by decide +kernel
theorem dX11_set_66 : decode cX11_set 66 = .ok (.imul, 1) := by decide +kernel
theorem dX11_set_67 : decode cX11_set 67 = .ok (.iload_n 2, 1) := by decide +kernel
theorem dX11_set_68 : decode cX11_set 68 = .ok (.iadd, 1) := by decide +kernel
theorem dX11_set_69 : decode cX11_set 69 = .ok (.aload_n 0, 1) := by decide +kernel
theorem dX11_set_70 : decode cX11_set 70 = .ok (.getfield 7, 3) := by decide +kernel
theorem dX11_set_73 : decode cX11_set 73 = .ok (.iload_n 1, 1) := by decide +kernel
theorem dX11_set_74 : decode cX11_set 74 = .ok (.iaload, 1) := by decide +kernel
theorem dX11_set_75 : decode cX11_set 75 = .ok (.ifCond .ne 8, 3) := by decide +kernel
theorem dX11_set_78 : decode cX11_set 78 = .ok (.iload_n 3, 1) := by decide +kernel
theorem dX11_set_79 : decode cX11_set 79 = .ok (.i2b, 1) := by decide +kernel
theorem dX11_set_80 : decode cX11_set 80 = .ok (.goto 19, 3) := by decide +kernel
theorem dX11_set_83 : decode cX11_set 83 = .ok (.aload_n 0, 1) := by decide +kernel
theorem dX11_set_84 : decode cX11_set 84 = .ok (.getfield 7, 3) := by decide +kernel
theorem dX11_set_87 : decode cX11_set 87 = .ok (.iload_n 1, 1) := by decide +kernel
theorem dX11_set_88 : decode cX11_set 88 = .ok (.iaload, 1) := by decide +kernel
theorem dX11_set_89 : decode cX11_set 89 = .ok (.iconst 1, 1) := by decide +kernel
theorem dX11_set_90 : decode cX11_set 90 = .ok (.if_icmp .ne 8, 3) := by decide +kernel
theorem dX11_set_93 : decode cX11_set 93 = .ok (.iload_n 3, 1) := by decide +kernel
theorem dX11_set_94 : decode cX11_set 94 = .ok (.i2s, 1) := by decide +kernel
theorem dX11_set_95 : decode cX11_set 95 = .ok (.goto 4, 3) := by decide +kernel
theorem dX11_set_98 : decode cX11_set 98 = .ok (.iload_n 3, 1) := by decide +kernel
theorem dX11_set_99 : decode cX11_set 99 = .ok (.iastore, 1) := by decide +kernel
theorem dX11_set_100 : decode cX11_set 100 = .ok (.aload_n 0, 1) := by decide +kernel
theorem dX11_set_101 : decode cX11_set 101 = .ok (.getfield 16, 3) := by decide +kernel
theorem dX11_set_104 : decode cX11_set 104 = .ok (.bipush 40, 2) := by decide +kernel
theorem dX11_set_106 : decode cX11_set 106 = .ok (.iload_n 1, 1) := by decide +kernel
theorem dX11_set_107 : decode cX11_set 107 = .ok (.imul, 1) := by decide +kernel
theorem dX11_set_108 : decode cX11_set 108 = .ok (.iload_n 2, 1) := by decide +kernel
theorem dX11_set_109 : decode cX11_set 109 = .ok (.iadd, 1) := by decide +kernel
theorem dX11_set_110 : decode cX11_set 110 = .ok (.iaload, 1) := by decide +kernel
theorem dX11_set_111 : decode cX11_set 111 = .ok (.ireturn, 1) := by decide +kernel
def Sp_X11_set (av : List AV) (m : AM) (Φ : Option AV → AM → Prop) : Prop := ∃ x i v, av = [vr 11 110, vi x, vi i, vi v] ∧ ∃ La Ma It, MRow m La Ma It ∧ (inB x 8 = false → ∀ m2, Fm [] [0] m m2 → Φ (some (vi (-1000001))) m2) ∧ (inB x 8 = true → La x.toNatClampNeg = 0 → ∀ m2, Fm [] [0, 1] m m2 → m2.1 110 1 = nI 1 → Φ (some (vi (-1000010 - nI 1))) m2) ∧ (inB x 8 = true → 0 < La x.toNatClampNeg → inB i (Ma x.toNatClampNeg) = false → ∀ m2, Fm [] [0, 1] m m2 → m2.1 110 1 = nI 2 → Φ (some (vi (-1000010 - nI 2))) m2) ∧ (inB x 8 = true → 0 < La x.toNatClampNeg → inB i (Ma x.toNatClampNeg) = true → ∀ m2, Fm [113] [0, 1] m m2 → MRow m2 La Ma (upI It x.toNatClampNeg i.toNatClampNeg (narV (La x.toNatClampNeg - 1) v)) → m2.1 110 1 = nI 0 → Φ (some (vi (narV (La x.toNatClampNeg - 1) v))) m2)
set_option maxRecDepth 20000 in
set_option maxHeartbeats 4000000 in
theorem S_X11_set : Snd yX11_set e_X11_set Sp_X11_set := by
  refine Snd.of (by decide +kernel) rfl ?_ ?_
  · rintro av m Φ ⟨x, i, v, rfl, _⟩; exact Nat.le_of_ble_eq_true rfl
  rintro av m Φ ⟨x, i, v, rfl, La, Ma, It, hR, h1, h2, h3, h4⟩ hav hty
  show B e_X11_set Φ 0 [some (vr 11 110), some (vi x), some (vi i), some (vi v)] [] m (0, 0)
  have cl : ∀ {z : Int32} {k : Nat}, inB z k = true → k < 1000 → z = nI z.toNatClampNeg ∧ z.toNatClampNeg < k := fun {z k} a b => by
    obtain ⟨j, hj, rfl⟩ := (inB_iff (by omega)).mp a
    rw [n_cl (by omega)]
    exact ⟨rfl, hj⟩
  have hR2 : MRow (mset (mset m 110 0 (nI 0)) 110 1 (nI 0)) La Ma It := hR.ms.ms
  have fin : ∀ r j w, x = nI r → i = nI j → r < 8 → 0 < La r → j < Ma r → w = narV (La r - 1) v → B e_X11_set Φ 99 [some (vr 11 110), some (vi x), some (vi i), some (vi v)] [vi w, vi (nI (40 * r + j)), vr 420 113] (mset (mset m 110 0 (nI 0)) 110 1 (nI 0)) (0, 0) := by
    intro r j w hx hi hr hl hj hw
    subst hx
    subst hi
    have q := (hR2 r hr).2 hl
    have e1 : inB (nI r) 8 = true := (inB_iff (by omega)).mpr ⟨r, hr, rfl⟩
    have e2 : inB (nI j) (Ma r) = true := (inB_iff (by omega)).mpr ⟨j, hj, rfl⟩
    rw [n_cl (show r < 2147483648 by omega), n_cl (show j < 2147483648 by omega)] at h4
    refine b_iast (pc := 99) (by decide) ?_ dX11_set_99 ?_
    rotate_left -- leaf 0: index at 99
    refine b_aloadN (pc := 100) 0 dX11_set_100 rfl rfl ?_
    refine gf11_4 (pc := 101) 113 rfl k1046 dX11_set_101 ?_
    refine b_bipush (pc := 104) (nI 40) dX11_set_104 (by decide) ?_
    refine b_iloadN (pc := 106) 1 dX11_set_106 rfl rfl ?_
    refine b_imul (pc := 107) dX11_set_107 ?_
    refine b_iloadN (pc := 108) 2 dX11_set_108 rfl rfl ?_
    refine b_iadd (pc := 109) dX11_set_109 ?_
    refine b_iald (pc := 110) (by decide) ?_ dX11_set_110 ?_
    rotate_left -- leaf 1: index at 110
    refine b_iret (pc := 111) rfl dX11_set_111 ⟨Nat.le_of_ble_eq_true rfl, Nat.le_of_ble_eq_true rfl⟩ ?_
    rotate_left -- leaf 2: return at 111
    -- leaves: 0 index at 99; 1 index at 110; 2 return at 111
    · exact n_in (by omega) (by omega)
    · rw [n_mul, n_add]; exact n_in (by omega) (by omega)
    · rw [n_mul, n_add, n_cl (by omega), mset_at, if_pos rfl, hw]
      refine h4 e1 hl e2 _ ((((Fm.rf _ _ m).m0 (by simp)).m0 (by simp)).ms (by decide) (by simp)) (fun a ha => ?_) ?_
      · rw [mset_upd, mset_ne _ _ _ (show 111 ≠ 113 by decide), mset_ne _ _ _ (show 112 ≠ 113 by decide)]
        refine ⟨(hR2 a ha).1, fun z => ?_⟩
        have w := (hR2 a ha).2 z
        refine ⟨w.1, w.2.1, w.2.2.1, w.2.2.2.1, fun b hb => ?_⟩
        unfold upI
        by_cases e : a = r
        · subst e
          rw [if_pos rfl]
          by_cases e3 : b = j
          · subst e3
            rw [if_pos rfl]; exact pk_us
          · rw [if_neg e3, pk_un (by omega)]
            exact w.2.2.2.2 b hb
        · rw [if_neg e, pk_un (by omega)]
          exact w.2.2.2.2 b hb
      · rw [mset_ne _ _ _ (by decide), mset_at, if_pos rfl]
  have st : ∀ (P : Prop), (∀ r j, x = nI r → i = nI j → r < 8 → 0 < La r → j < Ma r → P) → inB x 8 = true → 0 ≤ (mset (mset m 110 0 (nI 0)) 110 1 (nI 0)).1 111 x.toNatClampNeg → (¬ nI (if (0 : Int64).toInt ≤ i.toInt64.toInt ∧ i.toInt64.toInt ≤ ((mset (mset m 110 0 (nI 0)) 110 1 (nI 0)).1 112 x.toNatClampNeg - nI 1).toInt64.toInt then 1 else 0) = 0) → P := by
    intro P k a b c
    have q := cl a (by omega)
    rw [hR2.lane q.2] at b
    have w := (hR2 _ q.2).2 b
    rw [w.2.2.1, inL (by omega)] at c
    obtain ⟨j, hj, e⟩ := (inB_iff (by omega)).mp (bT c)
    exact k _ j q.1 e q.2 b hj
  refine b_aloadN (pc := 0) 0 dX11_set_0 rfl rfl ?_
  refine b_iconst (pc := 1) (nI 0) dX11_set_1 (by decide) ?_
  refine pf11_0 (pc := 2) k1042 dX11_set_2 ?_
  refine b_iloadN (pc := 5) 1 dX11_set_5 rfl rfl ?_
  refine call_X11_isRow (pc := 6) k1132 (by decide) ⟨Nat.le_of_ble_eq_true rfl, Nat.le_of_ble_eq_true rfl⟩ (Nat.le_of_ble_eq_true rfl) dX11_set_6 ?_
  refine ⟨_, rfl, ?_⟩
  refine b_if_ne (pc := 9) 15 dX11_set_9 (by decide) (fun c9 => ?_) (fun c9 => ?_)
  refine b_aloadN (pc := 15) 0 dX11_set_15 rfl rfl ?_
  refine b_iconst (pc := 16) (nI 0) dX11_set_16 (by decide) ?_
  refine pf11_1 (pc := 17) k1043 dX11_set_17 ?_
  refine b_aloadN (pc := 20) 0 dX11_set_20 rfl rfl ?_
  refine gf11_2 (pc := 21) 111 rfl k1044 dX11_set_21 ?_
  refine b_iloadN (pc := 24) 1 dX11_set_24 rfl rfl ?_
  refine b_iald (pc := 25) (by decide) ?_ dX11_set_25 ?_
  rotate_left -- leaf 0: index at 25
  refine b_if_ge (pc := 26) 35 dX11_set_26 (by decide) (fun c26 => ?_) (fun c26 => ?_)
  refine b_iloadN (pc := 35) 2 dX11_set_35 rfl rfl ?_
  refine b_i2l (pc := 36) dX11_set_36 ?_
  refine b_lconst (pc := 37) 0 dX11_set_37 (by decide) ?_
  refine b_aloadN (pc := 38) 0 dX11_set_38 rfl rfl ?_
  refine gf11_3 (pc := 39) 112 rfl k1045 dX11_set_39 ?_
  refine b_iloadN (pc := 42) 1 dX11_set_42 rfl rfl ?_
  refine b_iald (pc := 43) (by decide) ?_ dX11_set_43 ?_
  rotate_left -- leaf 1: index at 43
  refine b_iconst (pc := 44) (nI 1) dX11_set_44 (by decide) ?_
  refine b_isub (pc := 45) dX11_set_45 ?_
  refine b_i2l (pc := 46) dX11_set_46 ?_
  refine call_X11_in (pc := 47) k1136 (by decide) ⟨Nat.le_of_ble_eq_true rfl, Nat.le_of_ble_eq_true rfl⟩ (Nat.le_of_ble_eq_true rfl) dX11_set_47 ?_
  refine ⟨_, _, _, rfl, ?_⟩
  refine b_if_ne (pc := 50) 59 dX11_set_50 (by decide) (fun c50 => ?_) (fun c50 => ?_)
  refine b_aloadN (pc := 59) 0 dX11_set_59 rfl rfl ?_
  refine gf11_4 (pc := 60) 113 rfl k1046 dX11_set_60 ?_
  refine b_bipush (pc := 63) (nI 40) dX11_set_63 (by decide) ?_
  refine b_iloadN (pc := 65) 1 dX11_set_65 rfl rfl ?_
  refine b_imul (pc := 66) dX11_set_66 ?_
  refine b_iloadN (pc := 67) 2 dX11_set_67 rfl rfl ?_
  refine b_iadd (pc := 68) dX11_set_68 ?_
  refine b_aloadN (pc := 69) 0 dX11_set_69 rfl rfl ?_
  refine gf11_2 (pc := 70) 111 rfl k1044 dX11_set_70 ?_
  refine b_iloadN (pc := 73) 1 dX11_set_73 rfl rfl ?_
  refine b_iald (pc := 74) (by decide) ?_ dX11_set_74 ?_
  rotate_left -- leaf 2: index at 74
  refine b_if_ne (pc := 75) 83 dX11_set_75 (by decide) (fun c75 => ?_) (fun c75 => ?_)
  refine b_aloadN (pc := 83) 0 dX11_set_83 rfl rfl ?_
  refine gf11_2 (pc := 84) 111 rfl k1044 dX11_set_84 ?_
  refine b_iloadN (pc := 87) 1 dX11_set_87 rfl rfl ?_
  refine b_iald (pc := 88) (by decide) ?_ dX11_set_88 ?_
  rotate_left -- leaf 3: index at 88
  refine b_iconst (pc := 89) (nI 1) dX11_set_89 (by decide) ?_
  refine b_icmp_ne (pc := 90) 98 dX11_set_90 (by decide) (fun c90 => ?_) (fun c90 => ?_)
  refine b_iloadN (pc := 98) 3 dX11_set_98 rfl rfl ?_
  rotate_left -- leaf 4: at 99
  refine b_iloadN (pc := 93) 3 dX11_set_93 rfl rfl ?_
  refine b_i2s (pc := 94) dX11_set_94 ?_
  refine b_goto (pc := 95) 99 dX11_set_95 (by decide) ?_
  rotate_left -- leaf 5: at 99
  refine b_iloadN (pc := 78) 3 dX11_set_78 rfl rfl ?_
  refine b_i2b (pc := 79) dX11_set_79 ?_
  refine b_goto (pc := 80) 99 dX11_set_80 (by decide) ?_
  rotate_left -- leaf 6: at 99
  refine b_aloadN (pc := 53) 0 dX11_set_53 rfl rfl ?_
  refine b_iconst (pc := 54) (nI 2) dX11_set_54 (by decide) ?_
  refine call_X11_finding (pc := 55) k1141 (by decide) ⟨Nat.le_of_ble_eq_true rfl, Nat.le_of_ble_eq_true rfl⟩ (Nat.le_of_ble_eq_true rfl) dX11_set_55 ?_
  refine ⟨_, rfl, ?_⟩
  refine b_iret (pc := 58) rfl dX11_set_58 ⟨Nat.le_of_ble_eq_true rfl, Nat.le_of_ble_eq_true rfl⟩ ?_
  rotate_left -- leaf 7: return at 58
  refine b_aloadN (pc := 29) 0 dX11_set_29 rfl rfl ?_
  refine b_iconst (pc := 30) (nI 1) dX11_set_30 (by decide) ?_
  refine call_X11_finding (pc := 31) k1141 (by decide) ⟨Nat.le_of_ble_eq_true rfl, Nat.le_of_ble_eq_true rfl⟩ (Nat.le_of_ble_eq_true rfl) dX11_set_31 ?_
  refine ⟨_, rfl, ?_⟩
  refine b_iret (pc := 34) rfl dX11_set_34 ⟨Nat.le_of_ble_eq_true rfl, Nat.le_of_ble_eq_true rfl⟩ ?_
  rotate_left -- leaf 8: return at 34
  refine b_ldc (pc := 12) k1140 dX11_set_12 ?_
  refine b_iret (pc := 14) rfl dX11_set_14 ⟨Nat.le_of_ble_eq_true rfl, Nat.le_of_ble_eq_true rfl⟩ ?_
  rotate_left -- leaf 9: return at 14
  -- leaves: 0 index at 25; 1 index at 43; 2 index at 74; 3 index at 88; 4 at 99; 5 at 99; 6 at 99; 7 return at 58; 8 return at 34; 9 return at 14
  all_goals try (have q9 := cl (bT c9) (by omega))
  · rw [q9.1]
    exact n_in q9.2 (by omega)
  · rw [q9.1]
    exact n_in q9.2 (by omega)
  · rw [q9.1]
    exact n_in q9.2 (by omega)
  · rw [q9.1]
    exact n_in q9.2 (by omega)
  · refine st _ (fun r j e1 e2 hr hl hj => ?_) (bT c9) c26 c50
    subst e1
    subst e2
    have w := (hR2 r hr).2 hl
    rw [n_cl (by omega), w.2.1, n_eq0 (by omega)] at c75
    rw [n_cl (by omega), w.2.1, n_eq (by omega) (by omega)] at c90
    rw [n_mul, n_add]
    exact fin r j _ rfl rfl hr hl hj (by unfold narV; rw [if_neg c75, if_neg c90])
  · refine st _ (fun r j e1 e2 hr hl hj => ?_) (bT c9) c26 c50
    subst e1
    subst e2
    have w := (hR2 r hr).2 hl
    rw [n_cl (by omega), w.2.1, n_eq0 (by omega)] at c75
    rw [n_cl (by omega), w.2.1, n_eq (by omega) (by omega)] at c90
    rw [n_mul, n_add]
    exact fin r j _ rfl rfl hr hl hj (by unfold narV; rw [if_neg c75, if_pos c90])
  · refine st _ (fun r j e1 e2 hr hl hj => ?_) (bT c9) c26 c50
    subst e1
    subst e2
    have w := (hR2 r hr).2 hl
    rw [n_cl (by omega), w.2.1, n_eq0 (by omega)] at c75
    rw [n_mul, n_add]
    exact fin r j _ rfl rfl hr hl hj (by unfold narV; rw [if_pos c75])
  · rw [hR2.lane q9.2] at c26
    have w := (hR2 _ q9.2).2 c26
    rw [w.2.2.1, inL (by omega)] at c50
    exact h3 (bT c9) c26 (bF c50) _ ((((Fm.rf _ _ m).m0 (by simp)).m0 (by simp)).m0 (by simp)) (by rw [mset_at, if_pos rfl])
  · rw [hR2.lane q9.2] at c26
    exact h2 (bT c9) (by omega) _ ((((Fm.rf _ _ m).m0 (by simp)).m0 (by simp)).m0 (by simp)) (by rw [mset_at, if_pos rfl])
  · exact h1 (bF c9) _ ((Fm.rf _ _ m).m0 (by simp))
theorem call_X11_set {E : ME} {Φ : Option AV → AM → Prop} {pc : Nat} {L : List (Option AV)} {st : List AV} {m : AM} {a : Nat × Nat} {idx : Nat} {x0 x1 x2 : AV} {i : Nat} (hl : Cond.methodLink E.2.1 idx yX11_set ∈ TB) (hdep : 8 + 1 ≤ E.2.2.2.2.2.2) (hroom : a.1 + 0 ≤ E.2.2.2.2.1 ∧ a.2 + 0 ≤ E.2.2.2.2.2.1) (hsr : st.length ≤ 4) (hd : decode E.1 pc = .ok (.invokevirtual idx, 3)) (hsp : Sp_X11_set [vr 11 i, x0, x1, x2] m (fun r m2 => B E Φ (pc + 3) L (r.toList ++ st) m2 a)) : B E Φ pc L (x2 :: x1 :: x0 :: vr 11 i :: st) m a := b_callV S_X11_set [x0, x1, x2] (RX11, TX11, 28) rfl rfl (by decide) (Or.inl hl) k1147 k1148 k80 k1149 (show _ ∧ _ ∧ Option.map (fun d => d.parameters.length) (parseMethodDescriptor yX11_set.desc) = some 3 from by decide +kernel) ⟨hdep, by decide⟩ hroom hsr hd hsp
