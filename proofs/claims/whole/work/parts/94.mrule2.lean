/-! the reference reads a rule; failed -/
theorem n_ok {T : Nat → Nat} {n lo hi p w q : Nat} (h : tknN T n lo hi p = .ok (w, q)) : (lo ≤ w ∧ w ≤ hi) ∧ numO T n p = some w ∧ q = bhdN T n p := by
  cases e : numO T n p with
  | none => rw [n_none e] at h; cases h
  | some v =>
    rw [n_some e] at h
    by_cases z : lo ≤ v ∧ v ≤ hi
    · rw [if_pos z] at h
      cases h
      exact ⟨z, rfl, rfl⟩
    · rw [if_neg z] at h
      cases h
theorem numP_ok {T : Nat → Nat} {n lo hi p w q : Nat} (h : tknN T n lo hi p = .ok (w, q)) : numP T n lo hi (.ok p) = .ok q := by
  unfold numP
  rw [bndR_ok rfl, h]
  rfl
theorem numP_er {T : Nat → Nat} {n lo hi p : Nat} {e : Nat × Nat} (h : tknN T n lo hi p = .error e) : numP T n lo hi (.ok p) = .error e := by
  unfold numP
  rw [bndR_ok rfl, h]
  rfl
def rrP (T : Nat → Nat) (n : Nat) (G : Nat → Nat) (s p : Nat) : Except (Nat × Nat) ((Nat → Nat) × Nat) := if G 3 = 8 then .error (3, p) else ruleP T n G s (bhdN T n p)
theorem GM.fm {li ls : List Nat} {m m2 : AM} {G : Nat → Nat} (h : GM m G) (f : Fm li ls m m2) (h1 : 115 ∉ li) : GM m2 G := fun k hk => by
  rw [f.2.1 115 (by decide) h1]
  exact h k hk
theorem GM.up {m : AM} {G : Nat → Nat} (h : GM m G) {k v : Nat} : GM (mset m 115 k (nI v)) (upC G k v) := fun j hj => by
  rw [mset_at]
  by_cases e : j = k
  · rw [if_pos e, e, upC_at]
  · rw [if_neg e, upC_ne _ _ e]
    exact h j hj
abbrev e_X11_readRule : ME := (cX11_readRule, (RX11, (5, (none, (0, (0, 8))))))
theorem dX11_readRule_0 : decode cX11_readRule 0 = .ok (.aload_n 0, 1) := by decide +kernel
theorem dX11_readRule_1 : decode cX11_readRule 1 = .ok (.getfield 97, 3) := by decide +kernel
theorem dX11_readRule_4 : decode cX11_readRule 4 = .ok (.bipush 120, 2) := by decide +kernel
theorem dX11_readRule_6 : decode cX11_readRule 6 = .ok (.if_icmp .ne 7, 3) := by decide +kernel
theorem dX11_readRule_9 : decode cX11_readRule 9 = .ok (.iconst 1, 1) := by decide +kernel
theorem dX11_readRule_10 : decode cX11_readRule 10 = .ok (.goto 4, 3) := by decide +kernel
theorem dX11_readRule_13 : decode cX11_readRule 13 = .ok (.iconst 0, 1) := by decide +kernel
theorem dX11_readRule_14 : decode cX11_readRule 14 = .ok (.istore_n 1, 1) := by decide +kernel
theorem dX11_readRule_15 : decode cX11_readRule 15 = .ok (.aload_n 0, 1) := by decide +kernel
theorem dX11_readRule_16 : decode cX11_readRule 16 = .ok (.getfield 22, 3) := by decide +kernel
theorem dX11_readRule_19 : decode cX11_readRule 19 = .ok (.iconst 3, 1) := by decide +kernel
theorem dX11_readRule_20 : decode cX11_readRule 20 = .ok (.iaload, 1) := by decide +kernel
theorem dX11_readRule_21 : decode cX11_readRule 21 = .ok (.bipush 8, 2) := by decide +kernel
theorem dX11_readRule_23 : decode cX11_readRule 23 = .ok (.if_icmp .ne 8, 3) := by decide +kernel
theorem dX11_readRule_26 : decode cX11_readRule 26 = .ok (.aload_n 0, 1) := by decide +kernel
theorem dX11_readRule_27 : decode cX11_readRule 27 = .ok (.iconst 3, 1) := by decide +kernel
theorem dX11_readRule_28 : decode cX11_readRule 28 = .ok (.invokevirtual 111, 3) := by decide +kernel
theorem dX11_readRule_31 : decode cX11_readRule 31 = .ok (.aload_n 0, 1) := by decide +kernel
theorem dX11_readRule_32 : decode cX11_readRule 32 = .ok (.iconst 1, 1) := by decide +kernel
theorem dX11_readRule_33 : decode cX11_readRule 33 = .ok (.invokevirtual 118, 3) := by decide +kernel
theorem dX11_readRule_36 : decode cX11_readRule 36 = .ok (.aload_n 0, 1) := by decide +kernel
theorem dX11_readRule_37 : decode cX11_readRule 37 = .ok (.iconst 0, 1) := by decide +kernel
theorem dX11_readRule_38 : decode cX11_readRule 38 = .ok (.aload_n 0, 1) := by decide +kernel
theorem dX11_readRule_39 : decode cX11_readRule 39 = .ok (.getfield 22, 3) := by decide +kernel
theorem dX11_readRule_42 : decode cX11_readRule 42 = .ok (.iconst 0, 1) := by decide +kernel
theorem dX11_readRule_43 : decode cX11_readRule 43 = .ok (.iaload, 1) := by decide +kernel
theorem dX11_readRule_44 : decode cX11_readRule 44 = .ok (.iconst 1, 1) := by decide +kernel
theorem dX11_readRule_45 : decode cX11_readRule 45 = .ok (.isub, 1) := by decide +kernel
theorem dX11_readRule_46 : decode cX11_readRule 46 = .ok (.invokevirtual 128, 3) := by decide +kernel
theorem dX11_readRule_49 : decode cX11_readRule 49 = .ok (.istore_n 2, 1) := by decide +kernel
theorem dX11_readRule_50 : decode cX11_readRule 50 = .ok (.aload_n 0, 1) := by decide +kernel
theorem dX11_readRule_51 : decode cX11_readRule 51 = .ok (.bipush 44, 2) := by decide +kernel
theorem dX11_readRule_53 : decode cX11_readRule 53 = .ok (.invokevirtual 132, 3) := by decide +kernel
theorem dX11_readRule_56 : decode cX11_readRule 56 = .ok (.aload_n 0, 1) := by decide +kernel
theorem dX11_readRule_57 : decode cX11_readRule 57 = .ok (.getfield 84, 3) := by decide +kernel
theorem dX11_readRule_60 : decode cX11_readRule 60 = .ok (.ifCond .ne 38, 3) := by decide +kernel
theorem dX11_readRule_63 : decode cX11_readRule 63 = .ok (.aload_n 0, 1) := by decide +kernel
theorem dX11_readRule_64 : decode cX11_readRule 64 = .ok (.getfield 108, 3) := by decide +kernel
theorem dX11_readRule_67 : decode cX11_readRule 67 = .ok (.iconst 3, 1) := by decide +kernel
theorem dX11_readRule_68 : decode cX11_readRule 68 = .ok (.if_icmp .ne 30, 3) := by decide +kernel
theorem dX11_readRule_71 : decode cX11_readRule 71 = .ok (.aload_n 0, 1) := by decide +kernel
theorem dX11_readRule_72 : decode cX11_readRule 72 = .ok (.getfield 97, 3) := by decide +kernel
theorem dX11_readRule_75 : decode cX11_readRule 75 = .ok (.iload_n 2, 1) := by decide +kernel
theorem dX11_readRule_76 : decode cX11_readRule 76 = .ok (.if_icmp .eq 17, 3) := by decide +kernel
theorem dX11_readRule_79 : decode cX11_readRule 79 = .ok (.aload_n 0, 1) := by decide +kernel
theorem dX11_readRule_80 : decode cX11_readRule 80 = .ok (.iload_n 1, 1) := by decide +kernel
theorem dX11_readRule_81 : decode cX11_readRule 81 = .ok (.iload_n 2, 1) := by decide +kernel
theorem dX11_readRule_82 : decode cX11_readRule 82 = .ok (.aload_n 0, 1) := by decide +kernel
theorem dX11_readRule_83 : decode cX11_readRule 83 = .ok (.getfield 97, 3) := by decide +kernel
theorem dX11_readRule_86 : decode cX11_readRule 86 = .ok (.i2l, 1) := by decide +kernel
theorem dX11_readRule_87 : decode cX11_readRule 87 = .ok (.invokevirtual 135, 3) := by decide +kernel
theorem dX11_readRule_90 : decode cX11_readRule 90 = .ok (.ifCond .eq 8, 3) := by decide +kernel
theorem dX11_readRule_93 : decode cX11_readRule 93 = .ok (.aload_n 0, 1) := by decide +kernel
theorem dX11_readRule_94 : decode cX11_readRule 94 = .ok (.iconst 2, 1) := by decide +kernel
theorem dX11_readRule_95 : decode cX11_readRule 95 = .ok (.invokevirtual 111, 3) := by decide +kernel
theorem dX11_readRule_98 : decode cX11_readRule 98 = .ok (.aload_n 0, 1) := by decide +kernel
theorem dX11_readRule_99 : decode cX11_readRule 99 = .ok (.iconst 0, 1) := by decide +kernel
theorem dX11_readRule_100 : decode cX11_readRule 100 = .ok (.aload_n 0, 1) := by decide +kernel
theorem dX11_readRule_101 : decode cX11_readRule 101 = .ok (.getfield 22, 3) := by decide +kernel
theorem dX11_readRule_104 : decode cX11_readRule 104 = .ok (.iconst 0, 1) := by decide +kernel
theorem dX11_readRule_105 : decode cX11_readRule 105 = .ok (.iaload, 1) := by decide +kernel
theorem dX11_readRule_106 : decode cX11_readRule 106 = .ok (.iconst 1, 1) := by decide +kernel
theorem dX11_readRule_107 : decode cX11_readRule 107 = .ok (.isub, 1) := by decide +kernel
theorem dX11_readRule_108 : decode cX11_readRule 108 = .ok (.invokevirtual 128, 3) := by decide +kernel
theorem dX11_readRule_111 : decode cX11_readRule 111 = .ok (.istore_n 3, 1) := by decide +kernel
theorem dX11_readRule_112 : decode cX11_readRule 112 = .ok (.aload_n 0, 1) := by decide +kernel
theorem dX11_readRule_113 : decode cX11_readRule 113 = .ok (.bipush 59, 2) := by decide +kernel
theorem dX11_readRule_115 : decode cX11_readRule 115 = .ok (.invokevirtual 132, 3) := by decide +kernel
theorem dX11_readRule_118 : decode cX11_readRule 118 = .ok (.aload_n 0, 1) := by decide +kernel
theorem dX11_readRule_119 : decode cX11_readRule 119 = .ok (.getfield 84, 3) := by decide +kernel
theorem dX11_readRule_122 : decode cX11_readRule 122 = .ok (.ifCond .ne 54, 3) := by decide +kernel
theorem dX11_readRule_125 : decode cX11_readRule 125 = .ok (.bipush 8, 2) := by decide +kernel
theorem dX11_readRule_127 : decode cX11_readRule 127 = .ok (.iconst 4, 1) := by decide +kernel
theorem dX11_readRule_128 : decode cX11_readRule 128 = .ok (.aload_n 0, 1) := by decide +kernel
theorem dX11_readRule_129 : decode cX11_readRule 129 = .ok (.getfield 22, 3) := by decide +kernel
theorem dX11_readRule_132 : decode cX11_readRule 132 = .ok (.iconst 3, 1) := by decide +kernel
theorem dX11_readRule_133 : decode cX11_readRule 133 = .ok (.iaload, 1) := by decide +kernel
theorem dX11_readRule_134 : decode cX11_readRule 134 = .ok (.imul, 1) := by decide +kernel
theorem dX11_readRule_135 : decode cX11_readRule 135 = .ok (.iadd, 1) := by decide +kernel
theorem dX11_readRule_136 : decode cX11_readRule 136 = .ok (.istore 4, 2) := by decide +kernel
theorem dX11_readRule_138 : decode cX11_readRule 138 = .ok (.aload_n 0, 1) := by decide +kernel
theorem dX11_readRule_139 : decode cX11_readRule 139 = .ok (.getfield 22, 3) := by decide +kernel
theorem dX11_readRule_142 : decode cX11_readRule 142 = .ok (.iload 4, 2) := by decide +kernel
theorem dX11_readRule_144 : decode cX11_readRule 144 = .ok (.iload_n 1, 1) := by decide +kernel
theorem dX11_readRule_145 : decode cX11_readRule 145 = .ok (.iastore, 1) := by decide +kernel
theorem dX11_readRule_146 : decode cX11_readRule 146 = .ok (.aload_n 0, 1) := by decide +kernel
theorem dX11_readRule_147 : decode cX11_readRule 147 = .ok (.getfield 22, 3) := by decide +kernel
theorem dX11_readRule_150 : decode cX11_readRule 150 = .ok (.iload 4, 2) := by decide +kernel
theorem dX11_readRule_152 : decode cX11_readRule 152 = .ok (.iconst 1, 1) := by decide +kernel
theorem dX11_readRule_153 : decode cX11_readRule 153 = .ok (.iadd, 1) := by decide +kernel
theorem dX11_readRule_154 : decode cX11_readRule 154 = .ok (.iload_n 2, 1) := by decide +kernel
theorem dX11_readRule_155 : decode cX11_readRule 155 = .ok (.iastore, 1) := by decide +kernel
theorem dX11_readRule_156 : decode cX11_readRule 156 = .ok (.aload_n 0, 1) := by decide +kernel
theorem dX11_readRule_157 : decode cX11_readRule 157 = .ok (.getfield 22, 3) := by decide +kernel
theorem dX11_readRule_160 : decode cX11_readRule 160 = .ok (.iload 4, 2) := by decide +kernel
theorem dX11_readRule_162 : decode cX11_readRule 162 = .ok (.iconst 2, 1) := by decide +kernel
theorem dX11_readRule_163 : decode cX11_readRule 163 = .ok (.iadd, 1) := by decide +kernel
theorem dX11_readRule_164 : decode cX11_readRule 164 = .ok (.iload_n 3, 1) := by decide +kernel
theorem dX11_readRule_165 : decode cX11_readRule 165 = .ok (.iastore, 1) := by decide +kernel
theorem dX11_readRule_166 : decode cX11_readRule 166 = .ok (.aload_n 0, 1) := by decide +kernel
theorem dX11_readRule_167 : decode cX11_readRule 167 = .ok (.getfield 22, 3) := by decide +kernel
theorem dX11_readRule_170 : decode cX11_readRule 170 = .ok (.iconst 3, 1) := by decide +kernel
theorem dX11_readRule_171 : decode cX11_readRule 171 = .ok (.dup2, 1) := by decide +kernel
theorem dX11_readRule_172 : decode cX11_readRule 172 = .ok (.iaload, 1) := by decide +kernel
theorem dX11_readRule_173 : decode cX11_readRule 173 = .ok (.iconst 1, 1) := by decide +kernel
theorem dX11_readRule_174 : decode cX11_readRule 174 = .ok (.iadd, 1) := by decide +kernel
theorem dX11_readRule_175 : decode cX11_readRule 175 = .ok (.iastore, 1) := by decide +kernel
theorem dX11_readRule_176 : decode cX11_readRule 176 = .ok (.return_, 1) := by decide +kernel
def Sp_X11_readRule (av : List AV) (m : AM) (Φ : Option AV → AM → Prop) : Prop := av = [vr 11 110] ∧ ∃ T n p G s, TapM m T n ∧ RdS m T n (.ok p) ∧ symO T n p = some (if s = 0 then 109 else 120) ∧ s ≤ 1 ∧ PV G ∧ GM m G ∧ ∀ m2, Fm [115] rdL m m2 → ((∃ a b q, rrP T n G s p = .ok (addR G s a b, q) ∧ RdS m2 T n (.ok q) ∧ G 3 < 8 ∧ a < G 0 ∧ b < G 0 ∧ GM m2 (addR G s a b)) ∨ ∃ e, rrP T n G s p = .error e ∧ RdS m2 T n (.error e)) → Φ none m2
set_option maxRecDepth 20000 in
set_option maxHeartbeats 4000000 in
theorem S_X11_readRule : Snd yX11_readRule e_X11_readRule Sp_X11_readRule := by
  refine Snd.of (by decide +kernel) rfl ?_ ?_
  · rintro av m Φ ⟨rfl, _⟩; exact Nat.le_of_ble_eq_true rfl
  rintro av m Φ ⟨rfl, T, n, p0, G, s, hT, hR, hsy, hs, hp, hG, h⟩ hav hty
  show B e_X11_readRule Φ 0 [some (vr 11 110), none, none, none, none] [] m (0, 0)
  have hn := hT.2.1
  have hp0 := hp.1
  have up : ∀ {M M2 : AM}, Fm [115] rdL m M → Fm [] rdL M M2 → Fm [115] rdL m M2 := fun a b => a.tr (b.mono (fun a z => by cases z) (fun a z => z))
  have e118 : ∀ M e y1 y2 o3 o4, RdS M T n (.error e) → Fm [115] rdL m M → rrP T n G s p0 = .error e → B e_X11_readRule Φ 118 [some (vr 11 110), some (vi y1), some (vi y2), o3, o4] [] M (0, 0) := by
    intro M e y1 y2 o3 o4 hRM hF hE
    have h1 := hRM.1
    refine b_aloadN (pc := 118) 0 dX11_readRule_118 rfl rfl ?_
    refine gf11_15 (pc := 119) k1057 dX11_readRule_119 ?_
    refine b_if_ne (pc := 122) 176 dX11_readRule_122 (by decide) (fun c122 => ?_) (fun c122 => ?_)
    refine b_vret (pc := 176) rfl dX11_readRule_176 ⟨Nat.le_of_ble_eq_true rfl, Nat.le_of_ble_eq_true rfl⟩ ?_
    rotate_left -- leaf 0: return at 176
    rotate_left -- leaf 1: at 125
    -- leaves: 0 return at 176; 1 at 125
    · exact h M hF (Or.inr ⟨e, hE, hRM⟩)
    · rw [hRM.2.1, n_eq0 (by omega)] at c122
      omega
  have e112 : ∀ M e y1 y2 o3 o4, RdS M T n (.error e) → Fm [115] rdL m M → rrP T n G s p0 = .error e → B e_X11_readRule Φ 112 [some (vr 11 110), some (vi y1), some (vi y2), o3, o4] [] M (0, 0) := by
    intro M e y1 y2 o3 o4 hRM hF hE
    refine b_aloadN (pc := 112) 0 dX11_readRule_112 rfl rfl ?_
    refine b_bipush (pc := 113) (nI 59) dX11_readRule_113 (by decide) ?_
    refine call_X11_mustSign (pc := 115) k1201 (by decide) ⟨Nat.le_of_ble_eq_true rfl, Nat.le_of_ble_eq_true rfl⟩ (Nat.le_of_ble_eq_true rfl) dX11_readRule_115 ?_
    refine ⟨_, rfl, T, n, .error e, 59, hT.fm hF (by decide) (by decide), hRM, rfl, by decide, fun m115 fm115 rd115 => ?_⟩
    rotate_left -- leaf 0: at 118
    -- leaves: 0 at 118
    exact e118 m115 e _ _ _ _ rd115 (up hF fm115) hE
  have e98 : ∀ M e y1 y2 o3 o4, RdS M T n (.error e) → Fm [115] rdL m M → rrP T n G s p0 = .error e → B e_X11_readRule Φ 98 [some (vr 11 110), some (vi y1), some (vi y2), o3, o4] [] M (0, 0) := by
    intro M e y1 y2 o3 o4 hRM hF hE
    refine b_aloadN (pc := 98) 0 dX11_readRule_98 rfl rfl ?_
    refine b_iconst (pc := 99) (nI 0) dX11_readRule_99 (by decide) ?_
    refine b_aloadN (pc := 100) 0 dX11_readRule_100 rfl rfl ?_
    refine gf11_6 (pc := 101) 115 rfl k1048 dX11_readRule_101 ?_
    refine b_iconst (pc := 104) (nI 0) dX11_readRule_104 (by decide) ?_
    refine b_iald (pc := 105) (by decide) ?_ dX11_readRule_105 ?_
    rotate_left -- leaf 0: index at 105
    refine b_iconst (pc := 106) (nI 1) dX11_readRule_106 (by decide) ?_
    refine b_isub (pc := 107) dX11_readRule_107 ?_
    refine call_X11_number (pc := 108) k1197 (by decide) ⟨Nat.le_of_ble_eq_true rfl, Nat.le_of_ble_eq_true rfl⟩ (Nat.le_of_ble_eq_true rfl) dX11_readRule_108 ?_
    refine ⟨_, _, rfl, T, n, .error e, 0, 0, hT.fm hF (by decide) (by decide), hRM, (fun p z => by cases z), fun v108 m108 fm108 rd108 hv108 => ?_⟩
    refine siN3 (pc := 111) rfl notL_i (by decide) dX11_readRule_111 ?_
    rotate_left -- leaf 1: at 112
    -- leaves: 0 index at 105; 1 at 112
    · exact n_in (by omega) (by omega)
    · exact e112 m108 e _ _ _ _ rd108 (up hF fm108) hE
  have e50 : ∀ M e y1 y2 o3 o4, RdS M T n (.error e) → Fm [115] rdL m M → rrP T n G s p0 = .error e → B e_X11_readRule Φ 50 [some (vr 11 110), some (vi y1), some (vi y2), o3, o4] [] M (0, 0) := by
    intro M e y1 y2 o3 o4 hRM hF hE
    have h1 := hRM.1
    refine b_aloadN (pc := 50) 0 dX11_readRule_50 rfl rfl ?_
    refine b_bipush (pc := 51) (nI 44) dX11_readRule_51 (by decide) ?_
    refine call_X11_mustSign (pc := 53) k1201 (by decide) ⟨Nat.le_of_ble_eq_true rfl, Nat.le_of_ble_eq_true rfl⟩ (Nat.le_of_ble_eq_true rfl) dX11_readRule_53 ?_
    refine ⟨_, rfl, T, n, .error e, 44, hT.fm hF (by decide) (by decide), hRM, rfl, by decide, fun m53 fm53 rd53 => ?_⟩
    refine b_aloadN (pc := 56) 0 dX11_readRule_56 rfl rfl ?_
    refine gf11_15 (pc := 57) k1057 dX11_readRule_57 ?_
    refine b_if_ne (pc := 60) 98 dX11_readRule_60 (by decide) (fun c60 => ?_) (fun c60 => ?_)
    rotate_left -- leaf 0: at 98
    rotate_left -- leaf 1: at 63
    -- leaves: 0 at 98; 1 at 63
    · exact e98 m53 e _ _ _ _ rd53 (up hF fm53) hE
    · have r2 : m53.1 110 15 = nI e.1 := rd53.2.1
      rw [r2, n_eq0 (by omega)] at c60
      omega
  have e31 : ∀ M e y1 o2 o3 o4, RdS M T n (.error e) → Fm [115] rdL m M → rrP T n G s p0 = .error e → B e_X11_readRule Φ 31 [some (vr 11 110), some (vi y1), o2, o3, o4] [] M (0, 0) := by
    intro M e y1 o2 o3 o4 hRM hF hE
    refine b_aloadN (pc := 31) 0 dX11_readRule_31 rfl rfl ?_
    refine b_iconst (pc := 32) (nI 1) dX11_readRule_32 (by decide) ?_
    refine call_X11_must (pc := 33) k1189 (by decide) ⟨Nat.le_of_ble_eq_true rfl, Nat.le_of_ble_eq_true rfl⟩ (Nat.le_of_ble_eq_true rfl) dX11_readRule_33 ?_
    refine ⟨_, rfl, T, n, .error e, true, hT.fm hF (by decide) (by decide), hRM, rfl, fun m33 fm33 rd33 => ?_⟩
    refine b_aloadN (pc := 36) 0 dX11_readRule_36 rfl rfl ?_
    refine b_iconst (pc := 37) (nI 0) dX11_readRule_37 (by decide) ?_
    refine b_aloadN (pc := 38) 0 dX11_readRule_38 rfl rfl ?_
    refine gf11_6 (pc := 39) 115 rfl k1048 dX11_readRule_39 ?_
    refine b_iconst (pc := 42) (nI 0) dX11_readRule_42 (by decide) ?_
    refine b_iald (pc := 43) (by decide) ?_ dX11_readRule_43 ?_
    rotate_left -- leaf 0: index at 43
    refine b_iconst (pc := 44) (nI 1) dX11_readRule_44 (by decide) ?_
    refine b_isub (pc := 45) dX11_readRule_45 ?_
    refine call_X11_number (pc := 46) k1197 (by decide) ⟨Nat.le_of_ble_eq_true rfl, Nat.le_of_ble_eq_true rfl⟩ (Nat.le_of_ble_eq_true rfl) dX11_readRule_46 ?_
    refine ⟨_, _, rfl, T, n, .error e, 0, 0, hT.fm (up hF fm33) (by decide) (by decide), rd33, (fun p z => by cases z), fun v46 m46 fm46 rd46 hv46 => ?_⟩
    refine siN2 (pc := 49) rfl notL_i (by decide) dX11_readRule_49 ?_
    rotate_left -- leaf 1: at 50
    -- leaves: 0 index at 43; 1 at 50
    · exact n_in (by omega) (by omega)
    · exact e50 m46 e _ _ _ _ rd46 (up (up hF fm33) fm46) hE
  have o118 : ∀ M a b q o4, RdS M T n (.ok q) → Fm [115] rdL m M → GM M G → G 3 < 8 → a < G 0 → b < G 0 → rrP T n G s p0 = .ok (addR G s a b, q) → B e_X11_readRule Φ 118 [some (vr 11 110), some (vi (nI s)), some (vi (nI a)), some (vi (nI b)), o4] [] M (0, 0) := by
    intro M a b q o4 hRM hF hGM h3 ha hb hE
    have g3 := hGM 3 (by omega)
    have e8 : (nI 8 + nI 4 * M.1 115 (nI 3).toNatClampNeg).toNatClampNeg = 8 + 4 * G 3 := by rw [n_cl (by omega), g3, n_mul, n_add, n_cl (by omega)]
    have e9 : (nI 8 + nI 4 * M.1 115 (nI 3).toNatClampNeg + nI 1).toNatClampNeg = 9 + 4 * G 3 := by
      rw [n_cl (by omega), g3, n_mul, n_add, n_add, n_cl (by omega)]
      omega
    have e10 : (nI 8 + nI 4 * M.1 115 (nI 3).toNatClampNeg + nI 2).toNatClampNeg = 10 + 4 * G 3 := by
      rw [n_cl (by omega), g3, n_mul, n_add, n_add, n_cl (by omega)]
      omega
    have e3 : (mset (mset (mset M 115 (8 + 4 * G 3) (nI s)) 115 (9 + 4 * G 3) (nI a)) 115 (10 + 4 * G 3) (nI b)).1 115 3 + nI 1 = nI (G 3 + 1) := by
      rw [ms_o (by omega), ms_o (by omega), ms_o (by omega), g3, n_add]
    have gm := (((hGM.up (k := 8 + 4 * G 3) (v := s)).up (k := 9 + 4 * G 3) (v := a)).up (k := 10 + 4 * G 3) (v := b)).up (k := 3) (v := G 3 + 1)
    refine b_aloadN (pc := 118) 0 dX11_readRule_118 rfl rfl ?_
    refine gf11_15 (pc := 119) k1057 dX11_readRule_119 ?_
    refine b_if_ne (pc := 122) 176 dX11_readRule_122 (by decide) (fun c122 => ?_) (fun c122 => ?_)
    refine b_vret (pc := 176) rfl dX11_readRule_176 ⟨Nat.le_of_ble_eq_true rfl, Nat.le_of_ble_eq_true rfl⟩ ?_
    rotate_left -- leaf 0: return at 176
    refine b_bipush (pc := 125) (nI 8) dX11_readRule_125 (by decide) ?_
    refine b_iconst (pc := 127) (nI 4) dX11_readRule_127 (by decide) ?_
    refine b_aloadN (pc := 128) 0 dX11_readRule_128 rfl rfl ?_
    refine gf11_6 (pc := 129) 115 rfl k1048 dX11_readRule_129 ?_
    refine b_iconst (pc := 132) (nI 3) dX11_readRule_132 (by decide) ?_
    refine b_iald (pc := 133) (by decide) ?_ dX11_readRule_133 ?_
    rotate_left -- leaf 1: index at 133
    refine b_imul (pc := 134) dX11_readRule_134 ?_
    refine b_iadd (pc := 135) dX11_readRule_135 ?_
    refine siG4 (pc := 136) notL_i (by decide) dX11_readRule_136 ?_
    refine b_aloadN (pc := 138) 0 dX11_readRule_138 rfl rfl ?_
    refine gf11_6 (pc := 139) 115 rfl k1048 dX11_readRule_139 ?_
    refine b_iloadG (pc := 142) 4 dX11_readRule_142 rfl ?_
    refine b_iloadN (pc := 144) 1 dX11_readRule_144 rfl rfl ?_
    refine b_iast (pc := 145) (by decide) ?_ dX11_readRule_145 ?_
    rotate_left -- leaf 2: index at 145
    refine b_aloadN (pc := 146) 0 dX11_readRule_146 rfl rfl ?_
    refine gf11_6 (pc := 147) 115 rfl k1048 dX11_readRule_147 ?_
    refine b_iloadG (pc := 150) 4 dX11_readRule_150 rfl ?_
    refine b_iconst (pc := 152) (nI 1) dX11_readRule_152 (by decide) ?_
    refine b_iadd (pc := 153) dX11_readRule_153 ?_
    refine b_iloadN (pc := 154) 2 dX11_readRule_154 rfl rfl ?_
    refine b_iast (pc := 155) (by decide) ?_ dX11_readRule_155 ?_
    rotate_left -- leaf 3: index at 155
    refine b_aloadN (pc := 156) 0 dX11_readRule_156 rfl rfl ?_
    refine gf11_6 (pc := 157) 115 rfl k1048 dX11_readRule_157 ?_
    refine b_iloadG (pc := 160) 4 dX11_readRule_160 rfl ?_
    refine b_iconst (pc := 162) (nI 2) dX11_readRule_162 (by decide) ?_
    refine b_iadd (pc := 163) dX11_readRule_163 ?_
    refine b_iloadN (pc := 164) 3 dX11_readRule_164 rfl rfl ?_
    refine b_iast (pc := 165) (by decide) ?_ dX11_readRule_165 ?_
    rotate_left -- leaf 4: index at 165
    refine b_aloadN (pc := 166) 0 dX11_readRule_166 rfl rfl ?_
    refine gf11_6 (pc := 167) 115 rfl k1048 dX11_readRule_167 ?_
    refine b_iconst (pc := 170) (nI 3) dX11_readRule_170 (by decide) ?_
    refine b_dup2 (pc := 171) dX11_readRule_171 ?_
    refine b_iald (pc := 172) (by decide) ?_ dX11_readRule_172 ?_
    rotate_left -- leaf 5: index at 172
    refine b_iconst (pc := 173) (nI 1) dX11_readRule_173 (by decide) ?_
    refine b_iadd (pc := 174) dX11_readRule_174 ?_
    refine b_iast (pc := 175) (by decide) ?_ dX11_readRule_175 ?_
    rotate_left -- leaf 6: index at 175
    refine b_vret (pc := 176) rfl dX11_readRule_176 ⟨Nat.le_of_ble_eq_true rfl, Nat.le_of_ble_eq_true rfl⟩ ?_
    rotate_left -- leaf 7: return at 176
    -- leaves: 0 return at 176; 1 index at 133; 2 index at 145; 3 index at 155; 4 index at 165; 5 index at 172; 6 index at 175; 7 return at 176
    · exact absurd hRM.2.1 c122
    · exact n_in (by omega) (by omega)
    · rw [n_cl (by omega), g3, n_mul, n_add]; exact n_in (by omega) (by omega)
    · rw [n_cl (by omega), g3, n_mul, n_add, n_add]; exact n_in (by omega) (by omega)
    · rw [n_cl (by omega), g3, n_mul, n_add, n_add]; exact n_in (by omega) (by omega)
    · exact n_in (by omega) (by omega)
    · exact n_in (by omega) (by omega)
    · rw [e8, e9, e10, n_cl (by omega), e3]
      have hF2 := (((hF.ms (i := 115) (j := 8 + 4 * G 3) (x := nI s) (by decide) (by simp)).ms (i := 115) (j := 9 + 4 * G 3) (x := nI a) (by decide) (by simp)).ms (i := 115) (j := 10 + 4 * G 3) (x := nI b) (by decide) (by simp)).ms (i := 115) (j := 3) (x := nI (G 3 + 1)) (by decide) (by simp)
      refine h _ hF2 (Or.inl ⟨a, b, q, hE, ?_, h3, ha, hb, gm⟩)
      exact hRM.fm (li := [115]) (ls := []) (((((Fm.rf [115] [] M).ms (by decide) (by simp)).ms (by decide) (by simp)).ms (by decide) (by simp)).ms (by decide) (by simp)) (fun k z => by cases z)
  have o112 : ∀ M p a b o4, RdS M T n (.ok p) → Fm [115] rdL m M → GM M G → G 3 < 8 → a < G 0 → b < G 0 → rrP T n G s p0 = rl4 T n G s a b p → B e_X11_readRule Φ 112 [some (vr 11 110), some (vi (nI s)), some (vi (nI a)), some (vi (nI b)), o4] [] M (0, 0) := by
    intro M p a b o4 hRM hF hGM h3 ha hb hE
    refine b_aloadN (pc := 112) 0 dX11_readRule_112 rfl rfl ?_
    refine b_bipush (pc := 113) (nI 59) dX11_readRule_113 (by decide) ?_
    refine call_X11_mustSign (pc := 115) k1201 (by decide) ⟨Nat.le_of_ble_eq_true rfl, Nat.le_of_ble_eq_true rfl⟩ (Nat.le_of_ble_eq_true rfl) dX11_readRule_115 ?_
    refine ⟨_, rfl, T, n, .ok p, 59, hT.fm hF (by decide) (by decide), hRM, rfl, by decide, fun m115 fm115 rd115 => ?_⟩
    rotate_left -- leaf 0: at 118
    -- leaves: 0 at 118
    have rd : RdS m115 T n (tknS T n 59 p) := rd115
    unfold rl4 at hE
    cases e : tknS T n 59 p with
    | ok q =>
      rw [e] at rd hE
      exact o118 m115 a b q _ rd (up hF fm115) (hGM.fm fm115 (by decide)) h3 ha hb hE
    | error e2 =>
      rw [e] at rd hE
      exact e118 m115 e2 _ _ _ _ rd (up hF fm115) hE
  have o98 : ∀ M p a o3 o4, RdS M T n (.ok p) → Fm [115] rdL m M → GM M G → G 3 < 8 → a < G 0 → rrP T n G s p0 = bnd (tknN T n 0 (G 0 - 1) p) (fun y => rl4 T n G s a y.1 y.2) → B e_X11_readRule Φ 98 [some (vr 11 110), some (vi (nI s)), some (vi (nI a)), o3, o4] [] M (0, 0) := by
    intro M p a o3 o4 hRM hF hGM h3 ha hE
    have g0 := hGM 0 (by omega)
    have hsub : M.1 115 (nI 0).toNatClampNeg - nI 1 = nI (G 0 - 1) := by rw [n_cl (by omega), g0, n_sub (by omega)]
    refine b_aloadN (pc := 98) 0 dX11_readRule_98 rfl rfl ?_
    refine b_iconst (pc := 99) (nI 0) dX11_readRule_99 (by decide) ?_
    refine b_aloadN (pc := 100) 0 dX11_readRule_100 rfl rfl ?_
    refine gf11_6 (pc := 101) 115 rfl k1048 dX11_readRule_101 ?_
    refine b_iconst (pc := 104) (nI 0) dX11_readRule_104 (by decide) ?_
    refine b_iald (pc := 105) (by decide) ?_ dX11_readRule_105 ?_
    rotate_left -- leaf 0: index at 105
    refine b_iconst (pc := 106) (nI 1) dX11_readRule_106 (by decide) ?_
    refine b_isub (pc := 107) dX11_readRule_107 ?_
    refine call_X11_number (pc := 108) k1197 (by decide) ⟨Nat.le_of_ble_eq_true rfl, Nat.le_of_ble_eq_true rfl⟩ (Nat.le_of_ble_eq_true rfl) dX11_readRule_108 ?_
    refine ⟨_, _, rfl, T, n, .ok p, 0, G 0 - 1, hT.fm hF (by decide) (by decide), hRM, (fun p z => ⟨rfl, hsub, by omega, by omega⟩), fun v108 m108 fm108 rd108 hv108 => ?_⟩
    refine siN3 (pc := 111) rfl notL_i (by decide) dX11_readRule_111 ?_
    rotate_left -- leaf 1: at 112
    -- leaves: 0 index at 105; 1 at 112
    · exact n_in (by omega) (by omega)
    · cases e : tknN T n 0 (G 0 - 1) p with
      | ok y =>
        obtain ⟨w, q⟩ := y
        have wo := n_ok e
        rw [numP_ok e] at rd108
        rw [hv108 p w q rfl e]
        rw [e] at hE
        exact o112 m108 q a w _ rd108 (up hF fm108) (hGM.fm fm108 (by decide)) h3 ha (by omega) hE
      | error e2 =>
        rw [numP_er e] at rd108
        rw [e] at hE
        exact e112 m108 e2 _ _ _ _ rd108 (up hF fm108) hE
  have o56 : ∀ M p a o3 o4, RdS M T n (.ok p) → Fm [115] rdL m M → GM M G → G 3 < 8 → a < G 0 → rrP T n G s p0 = rl3 T n G s a p → B e_X11_readRule Φ 56 [some (vr 11 110), some (vi (nI s)), some (vi (nI a)), o3, o4] [] M (0, 0) := by
    intro M p a o3 o4 hRM hF hGM h3 ha hE
    have tk := tkQ (T := T) (n := n) p
    cases hN : numO T n p with
    | none =>
      have e1 : tknN T n 0 (G 0 - 1) p = .error (1, p) := n_none hN
      refine b_aloadN (pc := 56) 0 dX11_readRule_56 rfl rfl ?_
      refine gf11_15 (pc := 57) k1057 dX11_readRule_57 ?_
      refine b_if_ne (pc := 60) 98 dX11_readRule_60 (by decide) (fun c60 => ?_) (fun c60 => ?_)
      rotate_left -- leaf 0: at 98
      refine b_aloadN (pc := 63) 0 dX11_readRule_63 rfl rfl ?_
      refine gf11_13 (pc := 64) k1055 dX11_readRule_64 ?_
      refine b_iconst (pc := 67) (nI 3) dX11_readRule_67 (by decide) ?_
      refine b_icmp_ne (pc := 68) 98 dX11_readRule_68 (by decide) (fun c68 => ?_) (fun c68 => ?_)
      rotate_left -- leaf 1: at 98
      rotate_left -- leaf 2: at 71
      -- leaves: 0 at 98; 1 at 98; 2 at 71
      · exact absurd hRM.2.1 c60
      · exact o98 M p a _ _ hRM hF hGM h3 ha (by rw [hE]; unfold rl3; rw [e1]; rfl)
      · rw [hRM.2.2.2.2.1, n_eq (by omega) (by omega), tk.2.2.1] at c68
        obtain ⟨v, z⟩ := c68
        rw [hN] at z
        cases z
    | some v =>
      have hv := num_lt (fun k hk => (hT.2.2 k hk).2) hn hN
      have hvv := hRM.2.2.2.2.2.2 v hN
      have t3 := tk.2.2.1.mpr ⟨v, hN⟩
      have bad : v = a ∨ hasR G s a v (G 3) = true → rrP T n G s p0 = .error (2, p) := by
        intro z
        rw [hE]
        unfold rl3
        rw [n_some hN]
        by_cases y : 0 ≤ v ∧ v ≤ G 0 - 1
        · rw [if_pos y]
          show (if v = a ∨ hasR G s a v (G 3) = true then _ else _) = _
          rw [if_pos z]
        · rw [if_neg y]
          rfl
      have good : ¬ (v = a ∨ hasR G s a v (G 3) = true) → rrP T n G s p0 = bnd (tknN T n 0 (G 0 - 1) p) (fun y => rl4 T n G s a y.1 y.2) := by
        intro z
        rw [hE]
        unfold rl3
        rw [n_some hN]
        by_cases y : 0 ≤ v ∧ v ≤ G 0 - 1
        · rw [if_pos y]
          show (if v = a ∨ hasR G s a v (G 3) = true then _ else _) = _
          rw [if_neg z]
          rfl
        · rw [if_neg y]
          rfl
      refine b_aloadN (pc := 56) 0 dX11_readRule_56 rfl rfl ?_
      refine gf11_15 (pc := 57) k1057 dX11_readRule_57 ?_
      refine b_if_ne (pc := 60) 98 dX11_readRule_60 (by decide) (fun c60 => ?_) (fun c60 => ?_)
      rotate_left -- leaf 0: at 98
      refine b_aloadN (pc := 63) 0 dX11_readRule_63 rfl rfl ?_
      refine gf11_13 (pc := 64) k1055 dX11_readRule_64 ?_
      refine b_iconst (pc := 67) (nI 3) dX11_readRule_67 (by decide) ?_
      refine b_icmp_ne (pc := 68) 98 dX11_readRule_68 (by decide) (fun c68 => ?_) (fun c68 => ?_)
      rotate_left -- leaf 1: at 98
      refine b_aloadN (pc := 71) 0 dX11_readRule_71 rfl rfl ?_
      refine gf11_14 (pc := 72) k1056 dX11_readRule_72 ?_
      refine b_iloadN (pc := 75) 2 dX11_readRule_75 rfl rfl ?_
      refine b_icmp_eq (pc := 76) 93 dX11_readRule_76 (by decide) (fun c76 => ?_) (fun c76 => ?_)
      refine b_aloadN (pc := 93) 0 dX11_readRule_93 rfl rfl ?_
      refine b_iconst (pc := 94) (nI 2) dX11_readRule_94 (by decide) ?_
      refine call_X11_bad (pc := 95) k1193 (by decide) ⟨Nat.le_of_ble_eq_true rfl, Nat.le_of_ble_eq_true rfl⟩ (Nat.le_of_ble_eq_true rfl) dX11_readRule_95 ?_
      refine ⟨_, rfl, T, n, .ok p, 2, hRM, rfl, by decide, fun m95 fm95 rd95 => ?_⟩
      rotate_left -- leaf 2: at 98
      refine b_aloadN (pc := 79) 0 dX11_readRule_79 rfl rfl ?_
      refine b_iloadN (pc := 80) 1 dX11_readRule_80 rfl rfl ?_
      refine b_iloadN (pc := 81) 2 dX11_readRule_81 rfl rfl ?_
      refine b_aloadN (pc := 82) 0 dX11_readRule_82 rfl rfl ?_
      refine gf11_14 (pc := 83) k1056 dX11_readRule_83 ?_
      refine b_i2l (pc := 86) dX11_readRule_86 ?_
      refine call_X11_isTold (pc := 87) k1209 (by decide) ⟨Nat.le_of_ble_eq_true rfl, Nat.le_of_ble_eq_true rfl⟩ (Nat.le_of_ble_eq_true rfl) dX11_readRule_87 ?_
      refine ⟨_, _, _, rfl, G, s, a, v, hGM, hp, rfl, rfl, by rw [hvv], by omega, by omega, by omega, ?_⟩
      refine b_if_eq (pc := 90) 98 dX11_readRule_90 (by decide) (fun c90 => ?_) (fun c90 => ?_)
      rotate_left -- leaf 3: at 98
      refine b_aloadN (pc := 93) 0 dX11_readRule_93 rfl rfl ?_
      refine b_iconst (pc := 94) (nI 2) dX11_readRule_94 (by decide) ?_
      refine call_X11_bad (pc := 95) k1193 (by decide) ⟨Nat.le_of_ble_eq_true rfl, Nat.le_of_ble_eq_true rfl⟩ (Nat.le_of_ble_eq_true rfl) dX11_readRule_95 ?_
      refine ⟨_, rfl, T, n, .ok p, 2, hRM, rfl, by decide, fun m95 fm95 rd95 => ?_⟩
      rotate_left -- leaf 4: at 98
      -- leaves: 0 at 98; 1 at 98; 2 at 98; 3 at 98; 4 at 98
      · exact absurd hRM.2.1 c60
      · rw [hRM.2.2.2.2.1, n_eq (by omega) (by omega)] at c68
        exact absurd t3 c68
      · rw [hvv, n_eq (by omega) (by omega)] at c76
        exact e98 m95 (2, p) _ _ _ _ rd95 (up hF (fm95.mono (fun a z => z) (fun a z => by simp at z; simp; omega))) (bad (Or.inl c76))
      · rw [hvv, n_eq (by omega) (by omega)] at c76
        refine o98 M p a _ _ hRM hF hGM h3 ha (good (fun z => ?_))
        rcases z with z | z
        · exact c76 z
        · rw [bF c90] at z
          cases z
      · exact e98 m95 (2, p) _ _ _ _ rd95 (up hF (fm95.mono (fun a z => z) (fun a z => by simp at z; simp; omega))) (bad (Or.inr (bT c90)))
  have o50 : ∀ M p a o3 o4, RdS M T n (.ok p) → Fm [115] rdL m M → GM M G → G 3 < 8 → a < G 0 → rrP T n G s p0 = rl2 T n G s a p → B e_X11_readRule Φ 50 [some (vr 11 110), some (vi (nI s)), some (vi (nI a)), o3, o4] [] M (0, 0) := by
    intro M p a o3 o4 hRM hF hGM h3 ha hE
    refine b_aloadN (pc := 50) 0 dX11_readRule_50 rfl rfl ?_
    refine b_bipush (pc := 51) (nI 44) dX11_readRule_51 (by decide) ?_
    refine call_X11_mustSign (pc := 53) k1201 (by decide) ⟨Nat.le_of_ble_eq_true rfl, Nat.le_of_ble_eq_true rfl⟩ (Nat.le_of_ble_eq_true rfl) dX11_readRule_53 ?_
    refine ⟨_, rfl, T, n, .ok p, 44, hT.fm hF (by decide) (by decide), hRM, rfl, by decide, fun m53 fm53 rd53 => ?_⟩
    rotate_left -- leaf 0: at 56
    -- leaves: 0 at 56
    have rd : RdS m53 T n (tknS T n 44 p) := rd53
    unfold rl2 at hE
    cases e : tknS T n 44 p with
    | ok q =>
      rw [e] at rd hE
      exact o56 m53 q a _ _ rd (up hF fm53) (hGM.fm fm53 (by decide)) h3 ha hE
    | error e2 =>
      rw [e] at rd hE
      have h1 := rd.1
      have q50 : B e_X11_readRule Φ 56 [some (vr 11 110), some (vi (nI s)), some (vi (nI a)), o3, o4] [] m53 (0, 0) := by
        refine b_aloadN (pc := 56) 0 dX11_readRule_56 rfl rfl ?_
        refine gf11_15 (pc := 57) k1057 dX11_readRule_57 ?_
        refine b_if_ne (pc := 60) 98 dX11_readRule_60 (by decide) (fun c60 => ?_) (fun c60 => ?_)
        rotate_left -- leaf 0: at 98
        rotate_left -- leaf 1: at 63
        -- leaves: 0 at 98; 1 at 63
        · exact e98 m53 e2 _ _ _ _ rd (up hF fm53) hE
        · have r2 : m53.1 110 15 = nI e2.1 := rd.2.1
          rw [r2, n_eq0 (by omega)] at c60
          omega
      exact q50
  have o31 : ∀ M o2 o3 o4, RdS M T n (.ok p0) → Fm [115] rdL m M → GM M G → G 3 < 8 → B e_X11_readRule Φ 31 [some (vr 11 110), some (vi (nI s)), o2, o3, o4] [] M (0, 0) := by
    intro M o2 o3 o4 hRM hF hGM h3
    have hE : rrP T n G s p0 = ruleP T n G s (bhdN T n p0) := if_neg (by omega)
    refine b_aloadN (pc := 31) 0 dX11_readRule_31 rfl rfl ?_
    refine b_iconst (pc := 32) (nI 1) dX11_readRule_32 (by decide) ?_
    refine call_X11_must (pc := 33) k1189 (by decide) ⟨Nat.le_of_ble_eq_true rfl, Nat.le_of_ble_eq_true rfl⟩ (Nat.le_of_ble_eq_true rfl) dX11_readRule_33 ?_
    refine ⟨_, rfl, T, n, .ok p0, true, hT.fm hF (by decide) (by decide), hRM, rfl, fun m33 fm33 rd33 => ?_⟩
    refine b_aloadN (pc := 36) 0 dX11_readRule_36 rfl rfl ?_
    refine b_iconst (pc := 37) (nI 0) dX11_readRule_37 (by decide) ?_
    refine b_aloadN (pc := 38) 0 dX11_readRule_38 rfl rfl ?_
    refine gf11_6 (pc := 39) 115 rfl k1048 dX11_readRule_39 ?_
    refine b_iconst (pc := 42) (nI 0) dX11_readRule_42 (by decide) ?_
    refine b_iald (pc := 43) (by decide) ?_ dX11_readRule_43 ?_
    rotate_left -- leaf 0: index at 43
    refine b_iconst (pc := 44) (nI 1) dX11_readRule_44 (by decide) ?_
    refine b_isub (pc := 45) dX11_readRule_45 ?_
    refine call_X11_number (pc := 46) k1197 (by decide) ⟨Nat.le_of_ble_eq_true rfl, Nat.le_of_ble_eq_true rfl⟩ (Nat.le_of_ble_eq_true rfl) dX11_readRule_46 ?_
    refine ⟨_, _, rfl, T, n, .ok (bhdN T n p0), 0, G 0 - 1, hT.fm (up hF fm33) (by decide) (by decide), rd33, (fun p z => ⟨rfl, ?_, by omega, by omega⟩), fun v46 m46 fm46 rd46 hv46 => ?_⟩
    rotate_left -- leaf 1: hi of X11_number at 46
    refine siN2 (pc := 49) rfl notL_i (by decide) dX11_readRule_49 ?_
    rotate_left -- leaf 2: at 50
    -- leaves: 0 index at 43; 1 hi of X11_number at 46; 2 at 50
    · exact n_in (by omega) (by omega)
    · rw [n_cl (by omega), (hGM.fm fm33 (by decide)) 0 (by omega), n_sub (by omega)]
    · unfold ruleP at hE
      cases e : tknN T n 0 (G 0 - 1) (bhdN T n p0) with
      | ok y =>
        obtain ⟨w, q⟩ := y
        have wo := n_ok e
        rw [numP_ok e] at rd46
        rw [hv46 _ w q rfl e]
        rw [e] at hE
        exact o50 m46 q w _ _ rd46 (up (up hF fm33) fm46) ((hGM.fm fm33 (by decide)).fm fm46 (by decide)) h3 (by omega) hE
      | error e2 =>
        rw [numP_er e] at rd46
        rw [e] at hE
        exact e50 m46 e2 _ _ _ _ rd46 (up (up hF fm33) fm46) hE
  have hv := hR.2.2.2.2.2.1 _ hsy
  have g3 := hG 3 (by omega)
  have hp3 := hp.2.2.2.1
  refine b_aloadN (pc := 0) 0 dX11_readRule_0 rfl rfl ?_
  refine gf11_14 (pc := 1) k1056 dX11_readRule_1 ?_
  refine b_bipush (pc := 4) (nI 120) dX11_readRule_4 (by decide) ?_
  refine b_icmp_ne (pc := 6) 13 dX11_readRule_6 (by decide) (fun c6 => ?_) (fun c6 => ?_)
  refine b_iconst (pc := 13) (nI 0) dX11_readRule_13 (by decide) ?_
  refine siN1 (pc := 14) rfl notL_r (by decide) dX11_readRule_14 ?_
  refine b_aloadN (pc := 15) 0 dX11_readRule_15 rfl rfl ?_
  refine gf11_6 (pc := 16) 115 rfl k1048 dX11_readRule_16 ?_
  refine b_iconst (pc := 19) (nI 3) dX11_readRule_19 (by decide) ?_
  refine b_iald (pc := 20) (by decide) ?_ dX11_readRule_20 ?_
  rotate_left -- leaf 0: index at 20
  refine b_bipush (pc := 21) (nI 8) dX11_readRule_21 (by decide) ?_
  refine b_icmp_ne (pc := 23) 31 dX11_readRule_23 (by decide) (fun c23 => ?_) (fun c23 => ?_)
  rotate_left -- leaf 1: at 31
  refine b_aloadN (pc := 26) 0 dX11_readRule_26 rfl rfl ?_
  refine b_iconst (pc := 27) (nI 3) dX11_readRule_27 (by decide) ?_
  refine call_X11_bad (pc := 28) k1193 (by decide) ⟨Nat.le_of_ble_eq_true rfl, Nat.le_of_ble_eq_true rfl⟩ (Nat.le_of_ble_eq_true rfl) dX11_readRule_28 ?_
  refine ⟨_, rfl, T, n, .ok p0, 3, hR, rfl, by decide, fun m28 fm28 rd28 => ?_⟩
  rotate_left -- leaf 2: at 31
  refine b_iconst (pc := 9) (nI 1) dX11_readRule_9 (by decide) ?_
  refine b_goto (pc := 10) 14 dX11_readRule_10 (by decide) ?_
  refine siN1 (pc := 14) rfl notL_r (by decide) dX11_readRule_14 ?_
  refine b_aloadN (pc := 15) 0 dX11_readRule_15 rfl rfl ?_
  refine gf11_6 (pc := 16) 115 rfl k1048 dX11_readRule_16 ?_
  refine b_iconst (pc := 19) (nI 3) dX11_readRule_19 (by decide) ?_
  refine b_iald (pc := 20) (by decide) ?_ dX11_readRule_20 ?_
  rotate_left -- leaf 3: index at 20
  refine b_bipush (pc := 21) (nI 8) dX11_readRule_21 (by decide) ?_
  refine b_icmp_ne (pc := 23) 31 dX11_readRule_23 (by decide) (fun c23 => ?_) (fun c23 => ?_)
  rotate_left -- leaf 4: at 31
  refine b_aloadN (pc := 26) 0 dX11_readRule_26 rfl rfl ?_
  refine b_iconst (pc := 27) (nI 3) dX11_readRule_27 (by decide) ?_
  refine call_X11_bad (pc := 28) k1193 (by decide) ⟨Nat.le_of_ble_eq_true rfl, Nat.le_of_ble_eq_true rfl⟩ (Nat.le_of_ble_eq_true rfl) dX11_readRule_28 ?_
  refine ⟨_, rfl, T, n, .ok p0, 3, hR, rfl, by decide, fun m28 fm28 rd28 => ?_⟩
  rotate_left -- leaf 5: at 31
  -- leaves: 0 index at 20; 1 at 31; 2 at 31; 3 index at 20; 4 at 31; 5 at 31
  · exact n_in (by omega) (by omega)
  · rw [n_cl (by omega), g3, n_eq (by omega) (by omega)] at c23
    have s0 : s = 0 := by
      by_cases z : s = 0
      · exact z
      · rw [hv, if_neg z] at c6
        exact absurd rfl c6
    rw [s0] at o31
    exact o31 m _ _ _ hR (Fm.rf _ _ m) hG (by omega)
  · rw [n_cl (by omega), g3, n_eq (by omega) (by omega)] at c23
    exact e31 m28 (3, p0) _ _ _ _ rd28 (fm28.mono (fun a z => by cases z) (fun a z => by simp at z; simp; omega)) (if_pos c23)
  · exact n_in (by omega) (by omega)
  · rw [n_cl (by omega), g3, n_eq (by omega) (by omega)] at c23
    have s1 : s = 1 := by
      by_cases z : s = 0
      · rw [hv, if_pos z] at c6
        exact absurd c6 (by decide)
      · omega
    rw [s1] at o31
    exact o31 m _ _ _ hR (Fm.rf _ _ m) hG (by omega)
  · rw [n_cl (by omega), g3, n_eq (by omega) (by omega)] at c23
    exact e31 m28 (3, p0) _ _ _ _ rd28 (fm28.mono (fun a z => by cases z) (fun a z => by simp at z; simp; omega)) (if_pos c23)
theorem call_X11_readRule {E : ME} {Φ : Option AV → AM → Prop} {pc : Nat} {L : List (Option AV)} {st : List AV} {m : AM} {a : Nat × Nat} {idx : Nat} {i : Nat} (hl : Cond.methodLink E.2.1 idx yX11_readRule ∈ TB) (hdep : 8 + 1 ≤ E.2.2.2.2.2.2) (hroom : a.1 + 0 ≤ E.2.2.2.2.1 ∧ a.2 + 0 ≤ E.2.2.2.2.2.1) (hsr : st.length ≤ 4) (hd : decode E.1 pc = .ok (.invokevirtual idx, 3)) (hsp : Sp_X11_readRule [vr 11 i] m (fun r m2 => B E Φ (pc + 3) L (r.toList ++ st) m2 a)) : B E Φ pc L (vr 11 i :: st) m a := b_callV S_X11_readRule [] (RX11, TX11, 28) rfl rfl (by decide) (Or.inl hl) k1207 k38 k80 k1208 (show _ ∧ _ ∧ Option.map (fun d => d.parameters.length) (parseMethodDescriptor yX11_readRule.desc) = some 0 from by decide +kernel) ⟨hdep, by decide⟩ hroom hsr hd hsp
abbrev e_X11_failed : ME := (cX11_failed, (RX11, (1, ((some .boolean), (0, (0, 2))))))
theorem dX11_failed_0 : decode cX11_failed 0 = .ok (.aload_n 0, 1) := by decide +kernel
theorem dX11_failed_1 : decode cX11_failed 1 = .ok (.getfield 84, 3) := by decide +kernel
theorem dX11_failed_4 : decode cX11_failed 4 = .ok (.ifCond .ne 16, 3) := by decide +kernel
theorem dX11_failed_7 : decode cX11_failed 7 = .ok (.aload_n 0, 1) := by decide +kernel
theorem dX11_failed_8 : decode cX11_failed 8 = .ok (.getfield 108, 3) := by decide +kernel
theorem dX11_failed_11 : decode cX11_failed 11 = .ok (.iconst 1, 1) := by decide +kernel
theorem dX11_failed_12 : decode cX11_failed 12 = .ok (.if_icmp .eq 8, 3) := by decide +kernel
theorem dX11_failed_15 : decode cX11_failed 15 = .ok (.aload_n 0, 1) := by decide +kernel
theorem dX11_failed_16 : decode cX11_failed 16 = .ok (.iconst 1, 1) := by decide +kernel
theorem dX11_failed_17 : decode cX11_failed 17 = .ok (.invokevirtual 111, 3) := by decide +kernel
theorem dX11_failed_20 : decode cX11_failed 20 = .ok (.aload_n 0, 1) := by decide +kernel
theorem dX11_failed_21 : decode cX11_failed 21 = .ok (.iconst 0, 1) := by decide +kernel
theorem dX11_failed_22 : decode cX11_failed 22 = .ok (.putfield 80, 3) := by decide +kernel
theorem dX11_failed_25 : decode cX11_failed 25 = .ok (.aload_n 0, 1) := by decide +kernel
theorem dX11_failed_26 : decode cX11_failed 26 = .ok (.aload_n 0, 1) := by decide +kernel
theorem dX11_failed_27 : decode cX11_failed 27 = .ok (.getfield 84, 3) := by decide +kernel
theorem dX11_failed_30 : decode cX11_failed 30 = .ok (.ifCond .le 10, 3) := by decide +kernel
theorem dX11_failed_33 : decode cX11_failed 33 = .ok (.aload_n 0, 1) := by decide +kernel
theorem dX11_failed_34 : decode cX11_failed 34 = .ok (.getfield 84, 3) := by decide +kernel
theorem dX11_failed_37 : decode cX11_failed 37 = .ok (.goto 7, 3) := by decide +kernel
theorem dX11_failed_40 : decode cX11_failed 40 = .ok (.aload_n 0, 1) := by decide +kernel
theorem dX11_failed_41 : decode cX11_failed 41 = .ok (.getfield 122, 3) := by decide +kernel
theorem dX11_failed_44 : decode cX11_failed 44 = .ok (.putfield 122, 3) := by decide +kernel
theorem dX11_failed_47 : decode cX11_failed 47 = .ok (.aload_n 0, 1) := by decide +kernel
theorem dX11_failed_48 : decode cX11_failed 48 = .ok (.getfield 84, 3) := by decide +kernel
theorem dX11_failed_51 : decode cX11_failed 51 = .ok (.ifCond .le 7, 3) := by decide +kernel
theorem dX11_failed_54 : decode cX11_failed 54 = .ok (.iconst 1, 1) := by decide +kernel
theorem dX11_failed_55 : decode cX11_failed 55 = .ok (.goto 4, 3) := by decide +kernel
theorem dX11_failed_58 : decode cX11_failed 58 = .ok (.iconst 0, 1) := by decide +kernel
theorem dX11_failed_59 : decode cX11_failed 59 = .ok (.ireturn, 1) := by decide +kernel
def Sp_X11_failed (av : List AV) (m : AM) (Φ : Option AV → AM → Prop) : Prop := av = [vr 11 110] ∧ ∃ T n x, RdS m T n x ∧ ∀ b m2, Fm [] [10, 15, 16, 17] m m2 → m2.1 110 10 = nI 0 → (b = 0 ∧ (∃ p, x = .ok p ∧ n ≤ p) ∧ m2.1 110 17 = m.1 110 17 ∨ b = 1 ∧ ∃ e, (∀ p, x = .ok p → p < n ∧ e = (1, p)) ∧ (∀ e2, x = .error e2 → e = e2) ∧ m2.1 110 16 = nI e.2 ∧ m2.1 110 17 = nI e.1) → Φ (some (vi (nI b))) m2
set_option maxRecDepth 20000 in
set_option maxHeartbeats 4000000 in
theorem S_X11_failed : Snd yX11_failed e_X11_failed Sp_X11_failed := by
  refine Snd.of (by decide +kernel) rfl ?_ ?_
  · rintro av m Φ ⟨rfl, _⟩; exact Nat.le_of_ble_eq_true rfl
  rintro av m Φ ⟨rfl, T, n, x, hR, h⟩ hav hty
  show B e_X11_failed Φ 0 [some (vr 11 110)] [] m (0, 0)
  have hk : ∀ p m2, x = .ok p → n ≤ p → Fm [] [10, 15, 16, 17] m m2 → m2.1 110 10 = nI 0 → m2.1 110 17 = m.1 110 17 → Φ (some (vi (nI 0))) m2 := fun p m2 a b c d e => h 0 m2 c d (Or.inl ⟨rfl, ⟨p, a, b⟩, e⟩)
  have hf : ∀ e m2, (∀ p, x = .ok p → p < n ∧ e = (1, p)) → (∀ e2, x = .error e2 → e = e2) → Fm [] [10, 15, 16, 17] m m2 → m2.1 110 10 = nI 0 → m2.1 110 16 = nI e.2 → m2.1 110 17 = nI e.1 → Φ (some (vi (nI 1))) m2 := fun e m2 a b c d f g => h 1 m2 c d (Or.inr ⟨rfl, e, a, b, f, g⟩)
  have s20e : ∀ M e, RdS M T n (.error e) → Fm [] [10, 15, 16, 17] m M → (∀ p, x = .ok p → p < n ∧ e = (1, p)) → (∀ e2, x = .error e2 → e = e2) → B e_X11_failed Φ 20 [some (vr 11 110)] [] M (0, 0) := by
    intro M e hRM hF a1 a2
    have h1 := hRM.1
    refine b_aloadN (pc := 20) 0 dX11_failed_20 rfl rfl ?_
    refine b_iconst (pc := 21) (nI 0) dX11_failed_21 (by decide) ?_
    refine pf11_10 (pc := 22) k1052 dX11_failed_22 ?_
    refine b_aloadN (pc := 25) 0 dX11_failed_25 rfl rfl ?_
    refine b_aloadN (pc := 26) 0 dX11_failed_26 rfl rfl ?_
    refine gf11_15 (pc := 27) k1057 dX11_failed_27 ?_
    refine b_if_le (pc := 30) 40 dX11_failed_30 (by decide) (fun c30 => ?_) (fun c30 => ?_)
    refine b_aloadN (pc := 40) 0 dX11_failed_40 rfl rfl ?_
    refine gf11_17 (pc := 41) k1059 dX11_failed_41 ?_
    refine pf11_17 (pc := 44) k1059 dX11_failed_44 ?_
    refine b_aloadN (pc := 47) 0 dX11_failed_47 rfl rfl ?_
    refine gf11_15 (pc := 48) k1057 dX11_failed_48 ?_
    refine b_if_le (pc := 51) 58 dX11_failed_51 (by decide) (fun c51 => ?_) (fun c51 => ?_)
    refine b_iconst (pc := 58) (nI 0) dX11_failed_58 (by decide) ?_
    refine b_zret (pc := 59) rfl ?_ dX11_failed_59 ⟨Nat.le_of_ble_eq_true rfl, Nat.le_of_ble_eq_true rfl⟩ ?_
    rotate_left -- leaf 0: bool at 59
    rotate_left -- leaf 1: return at 59
    refine b_iconst (pc := 54) (nI 1) dX11_failed_54 (by decide) ?_
    refine b_goto (pc := 55) 59 dX11_failed_55 (by decide) ?_
    refine b_zret (pc := 59) rfl ?_ dX11_failed_59 ⟨Nat.le_of_ble_eq_true rfl, Nat.le_of_ble_eq_true rfl⟩ ?_
    rotate_left -- leaf 2: bool at 59
    rotate_left -- leaf 3: return at 59
    refine b_aloadN (pc := 33) 0 dX11_failed_33 rfl rfl ?_
    refine gf11_15 (pc := 34) k1057 dX11_failed_34 ?_
    refine b_goto (pc := 37) 44 dX11_failed_37 (by decide) ?_
    refine pf11_17 (pc := 44) k1059 dX11_failed_44 ?_
    refine b_aloadN (pc := 47) 0 dX11_failed_47 rfl rfl ?_
    refine gf11_15 (pc := 48) k1057 dX11_failed_48 ?_
    refine b_if_le (pc := 51) 58 dX11_failed_51 (by decide) (fun c51 => ?_) (fun c51 => ?_)
    refine b_iconst (pc := 58) (nI 0) dX11_failed_58 (by decide) ?_
    refine b_zret (pc := 59) rfl ?_ dX11_failed_59 ⟨Nat.le_of_ble_eq_true rfl, Nat.le_of_ble_eq_true rfl⟩ ?_
    rotate_left -- leaf 4: bool at 59
    rotate_left -- leaf 5: return at 59
    refine b_iconst (pc := 54) (nI 1) dX11_failed_54 (by decide) ?_
    refine b_goto (pc := 55) 59 dX11_failed_55 (by decide) ?_
    refine b_zret (pc := 59) rfl ?_ dX11_failed_59 ⟨Nat.le_of_ble_eq_true rfl, Nat.le_of_ble_eq_true rfl⟩ ?_
    rotate_left -- leaf 6: bool at 59
    rotate_left -- leaf 7: return at 59
    -- leaves: 0 bool at 59; 1 return at 59; 2 bool at 59; 3 return at 59; 4 bool at 59; 5 return at 59; 6 bool at 59; 7 return at 59
    all_goals rw [ms_o (by decide), hRM.2.1, n_le0 (by omega)] at c30
    · omega
    · omega
    · omega
    · omega
    · exact Or.inl rfl
    · rw [ms_o (by decide), ms_o (by decide), hRM.2.1, n_le0 (by omega)] at c51
      omega
    · exact Or.inr rfl
    · refine hf e _ a1 a2 ((hF.m0 (by simp)).m0 (by simp)) ?_ ?_ ?_
      · rw [ms_o (by decide), ms_e]
      · rw [ms_o (by decide), ms_o (by decide)]; exact hRM.2.2
      · rw [ms_e, ms_o (by decide)]; exact hRM.2.1
  cases x with
  | error e =>
    have h1 := hR.1
    refine b_aloadN (pc := 0) 0 dX11_failed_0 rfl rfl ?_
    refine gf11_15 (pc := 1) k1057 dX11_failed_1 ?_
    refine b_if_ne (pc := 4) 20 dX11_failed_4 (by decide) (fun c4 => ?_) (fun c4 => ?_)
    rotate_left -- leaf 0: at 20
    rotate_left -- leaf 1: at 7
    -- leaves: 0 at 20; 1 at 7
    · exact s20e m e hR (Fm.rf _ _ m) (fun p z => by cases z) (fun e2 z => by cases z; rfl)
    · rw [hR.2.1, n_eq0 (by omega)] at c4
      omega
  | ok p =>
    have tk := tkQ (T := T) (n := n) p
    have s20o : n ≤ p → B e_X11_failed Φ 20 [some (vr 11 110)] [] m (0, 0) := by
      intro hpn
      refine b_aloadN (pc := 20) 0 dX11_failed_20 rfl rfl ?_
      refine b_iconst (pc := 21) (nI 0) dX11_failed_21 (by decide) ?_
      refine pf11_10 (pc := 22) k1052 dX11_failed_22 ?_
      refine b_aloadN (pc := 25) 0 dX11_failed_25 rfl rfl ?_
      refine b_aloadN (pc := 26) 0 dX11_failed_26 rfl rfl ?_
      refine gf11_15 (pc := 27) k1057 dX11_failed_27 ?_
      refine b_if_le (pc := 30) 40 dX11_failed_30 (by decide) (fun c30 => ?_) (fun c30 => ?_)
      refine b_aloadN (pc := 40) 0 dX11_failed_40 rfl rfl ?_
      refine gf11_17 (pc := 41) k1059 dX11_failed_41 ?_
      refine pf11_17 (pc := 44) k1059 dX11_failed_44 ?_
      refine b_aloadN (pc := 47) 0 dX11_failed_47 rfl rfl ?_
      refine gf11_15 (pc := 48) k1057 dX11_failed_48 ?_
      refine b_if_le (pc := 51) 58 dX11_failed_51 (by decide) (fun c51 => ?_) (fun c51 => ?_)
      refine b_iconst (pc := 58) (nI 0) dX11_failed_58 (by decide) ?_
      refine b_zret (pc := 59) rfl ?_ dX11_failed_59 ⟨Nat.le_of_ble_eq_true rfl, Nat.le_of_ble_eq_true rfl⟩ ?_
      rotate_left -- leaf 0: bool at 59
      rotate_left -- leaf 1: return at 59
      refine b_iconst (pc := 54) (nI 1) dX11_failed_54 (by decide) ?_
      refine b_goto (pc := 55) 59 dX11_failed_55 (by decide) ?_
      refine b_zret (pc := 59) rfl ?_ dX11_failed_59 ⟨Nat.le_of_ble_eq_true rfl, Nat.le_of_ble_eq_true rfl⟩ ?_
      rotate_left -- leaf 2: bool at 59
      rotate_left -- leaf 3: return at 59
      refine b_aloadN (pc := 33) 0 dX11_failed_33 rfl rfl ?_
      refine gf11_15 (pc := 34) k1057 dX11_failed_34 ?_
      refine b_goto (pc := 37) 44 dX11_failed_37 (by decide) ?_
      refine pf11_17 (pc := 44) k1059 dX11_failed_44 ?_
      refine b_aloadN (pc := 47) 0 dX11_failed_47 rfl rfl ?_
      refine gf11_15 (pc := 48) k1057 dX11_failed_48 ?_
      refine b_if_le (pc := 51) 58 dX11_failed_51 (by decide) (fun c51 => ?_) (fun c51 => ?_)
      refine b_iconst (pc := 58) (nI 0) dX11_failed_58 (by decide) ?_
      refine b_zret (pc := 59) rfl ?_ dX11_failed_59 ⟨Nat.le_of_ble_eq_true rfl, Nat.le_of_ble_eq_true rfl⟩ ?_
      rotate_left -- leaf 4: bool at 59
      rotate_left -- leaf 5: return at 59
      refine b_iconst (pc := 54) (nI 1) dX11_failed_54 (by decide) ?_
      refine b_goto (pc := 55) 59 dX11_failed_55 (by decide) ?_
      refine b_zret (pc := 59) rfl ?_ dX11_failed_59 ⟨Nat.le_of_ble_eq_true rfl, Nat.le_of_ble_eq_true rfl⟩ ?_
      rotate_left -- leaf 6: bool at 59
      rotate_left -- leaf 7: return at 59
      -- leaves: 0 bool at 59; 1 return at 59; 2 bool at 59; 3 return at 59; 4 bool at 59; 5 return at 59; 6 bool at 59; 7 return at 59
      all_goals rw [ms_o (by decide), hR.2.1, n_le0 (by omega)] at c30
      · exact Or.inl rfl
      · refine hk p _ rfl hpn (((Fm.rf _ _ m).m0 (by simp)).m0 (by simp)) ?_ ?_
        · rw [ms_o (by decide), ms_e]
        · rw [ms_e, ms_o (by decide)]
      · exact Or.inr rfl
      · rw [ms_o (by decide), ms_o (by decide), hR.2.1, n_le0 (by omega)] at c51
        omega
      · omega
      · omega
      · omega
      · omega
    refine b_aloadN (pc := 0) 0 dX11_failed_0 rfl rfl ?_
    refine gf11_15 (pc := 1) k1057 dX11_failed_1 ?_
    refine b_if_ne (pc := 4) 20 dX11_failed_4 (by decide) (fun c4 => ?_) (fun c4 => ?_)
    rotate_left -- leaf 0: at 20
    refine b_aloadN (pc := 7) 0 dX11_failed_7 rfl rfl ?_
    refine gf11_13 (pc := 8) k1055 dX11_failed_8 ?_
    refine b_iconst (pc := 11) (nI 1) dX11_failed_11 (by decide) ?_
    refine b_icmp_eq (pc := 12) 20 dX11_failed_12 (by decide) (fun c12 => ?_) (fun c12 => ?_)
    rotate_left -- leaf 1: at 20
    refine b_aloadN (pc := 15) 0 dX11_failed_15 rfl rfl ?_
    refine b_iconst (pc := 16) (nI 1) dX11_failed_16 (by decide) ?_
    refine call_X11_bad (pc := 17) k1193 (by decide) ⟨Nat.le_of_ble_eq_true rfl, Nat.le_of_ble_eq_true rfl⟩ (Nat.le_of_ble_eq_true rfl) dX11_failed_17 ?_
    refine ⟨_, rfl, T, n, .ok p, 1, hR, rfl, by decide, fun m17 fm17 rd17 => ?_⟩
    rotate_left -- leaf 2: at 20
    -- leaves: 0 at 20; 1 at 20; 2 at 20
    · exact absurd hR.2.1 c4
    · rw [hR.2.2.2.2.1, n_eq (by omega) (by omega), tk.2.2.2.1] at c12
      exact s20o c12
    · rw [hR.2.2.2.2.1, n_eq (by omega) (by omega), tk.2.2.2.1] at c12
      exact s20e m17 (1, p) rd17 (fm17.mono (fun a z => z) (fun a z => by simp at z; simp; omega)) (fun p2 z => by cases z; exact ⟨by omega, rfl⟩) (fun e2 z => by cases z)
theorem call_X11_failed {E : ME} {Φ : Option AV → AM → Prop} {pc : Nat} {L : List (Option AV)} {st : List AV} {m : AM} {a : Nat × Nat} {idx : Nat} {i : Nat} (hl : Cond.methodLink E.2.1 idx yX11_failed ∈ TB) (hdep : 2 + 1 ≤ E.2.2.2.2.2.2) (hroom : a.1 + 0 ≤ E.2.2.2.2.1 ∧ a.2 + 0 ≤ E.2.2.2.2.2.1) (hsr : st.length ≤ 4) (hd : decode E.1 pc = .ok (.invokevirtual idx, 3)) (hsp : Sp_X11_failed [vr 11 i] m (fun r m2 => B E Φ (pc + 3) L (r.toList ++ st) m2 a)) : B E Φ pc L (vr 11 i :: st) m a := b_callV S_X11_failed [] (RX11, TX11, 28) rfl rfl (by decide) (Or.inl hl) k1222 k41 k80 k1223 (show _ ∧ _ ∧ Option.map (fun d => d.parameters.length) (parseMethodDescriptor yX11_failed.desc) = some 0 from by decide +kernel) ⟨hdep, by decide⟩ hroom hsr hd hsp
