/-! the class's asks -/
theorem Fr.tr2 {l : List Nat} {m m2 m3 : AM} (h : Fr l m m2) (h2 : Fr l m2 m3) : Fr l m m3 := ⟨h2.1.trans h.1, fun a ha => (h2.2 a ha).trans (h.2 a ha)⟩
abbrev eb (d : Nat) : ME := (cX1_body, (RX1, (6, ((some .int), (0, (0, d))))))
abbrev ea (d : Nat) : ME := (cX1_askedOf, (RX1, (6, ((some .int), (0, (0, d))))))
def SpB (nu lim : Nat) (K : Nat → Prop) (V : (Nat → Nat) → Nat → Int32) (Tr : Nat → Nat × (Nat → Nat) → Nat × (Nat → Nat)) (av : List AV) (m : AM) (Φ : Option AV → AM → Prop) : Prop := ∃ x z w, av = [vr 1 108, vr 2 20, vi x, vi z, vi w] ∧ ∃ C p T k, BR m C ∧ x = nI p ∧ p < C 4 ∧ z = nI nu ∧ w = nI k ∧ k ≤ lim ∧ K (C (40 + 2 * p)) ∧ CTr m T ∧ ∀ m2, Fr [108, 109] m m2 → CTr m2 (Tr (C (40 + 2 * p)) T) → Φ (some (vi (V C p))) m2
abbrev e_X1_body : ME := (cX1_body, (RX1, (6, ((some .int), (0, (0, 1))))))
theorem dX1_body_0 : decode cX1_body 0 = .ok (.iload 4, 2) := by decide +kernel
theorem dX1_body_2 : decode cX1_body 2 = .ok (.bipush 20, 2) := by decide +kernel
theorem dX1_body_4 : decode cX1_body 4 = .ok (.if_icmp .le 5, 3) := by decide +kernel
theorem dX1_body_7 : decode cX1_body 7 = .ok (.iconst 0, 1) := by decide +kernel
theorem dX1_body_8 : decode cX1_body 8 = .ok (.ireturn, 1) := by decide +kernel
theorem dX1_body_9 : decode cX1_body 9 = .ok (.aload_n 0, 1) := by decide +kernel
theorem dX1_body_10 : decode cX1_body 10 = .ok (.iload_n 3, 1) := by decide +kernel
theorem dX1_body_11 : decode cX1_body 11 = .ok (.invokevirtual 47, 3) := by decide +kernel
theorem dX1_body_14 : decode cX1_body 14 = .ok (.iload 4, 2) := by decide +kernel
theorem dX1_body_16 : decode cX1_body 16 = .ok (.iconst 1, 1) := by decide +kernel
theorem dX1_body_17 : decode cX1_body 17 = .ok (.iadd, 1) := by decide +kernel
theorem dX1_body_18 : decode cX1_body 18 = .ok (.istore 5, 2) := by decide +kernel
theorem dX1_body_20 : decode cX1_body 20 = .ok (.iload_n 3, 1) := by decide +kernel
theorem dX1_body_21 : decode cX1_body 21 = .ok (.tableswitch 215 10 24 #[75, 85, 106, 118, 132, 215, 215, 215, 215, 215, 145, 147, 166, 181, 202], 75) := by decide +kernel
theorem dX1_body_96 : decode cX1_body 96 = .ok (.aload_n 1, 1) := by decide +kernel
theorem dX1_body_97 : decode cX1_body 97 = .ok (.getfield 51, 3) := by decide +kernel
theorem dX1_body_100 : decode cX1_body 100 = .ok (.getfield 55, 3) := by decide +kernel
theorem dX1_body_103 : decode cX1_body 103 = .ok (.iload_n 2, 1) := by decide +kernel
theorem dX1_body_104 : decode cX1_body 104 = .ok (.iaload, 1) := by decide +kernel
theorem dX1_body_105 : decode cX1_body 105 = .ok (.ireturn, 1) := by decide +kernel
theorem dX1_body_106 : decode cX1_body 106 = .ok (.aload_n 0, 1) := by decide +kernel
theorem dX1_body_107 : decode cX1_body 107 = .ok (.aload_n 1, 1) := by decide +kernel
theorem dX1_body_108 : decode cX1_body 108 = .ok (.iload_n 2, 1) := by decide +kernel
theorem dX1_body_109 : decode cX1_body 109 = .ok (.bipush 10, 2) := by decide +kernel
theorem dX1_body_111 : decode cX1_body 111 = .ok (.iload 5, 2) := by decide +kernel
theorem dX1_body_113 : decode cX1_body 113 = .ok (.invokevirtual 44, 3) := by decide +kernel
theorem dX1_body_116 : decode cX1_body 116 = .ok (.aload_n 0, 1) := by decide +kernel
theorem dX1_body_117 : decode cX1_body 117 = .ok (.aload_n 1, 1) := by decide +kernel
theorem dX1_body_118 : decode cX1_body 118 = .ok (.iload_n 2, 1) := by decide +kernel
theorem dX1_body_119 : decode cX1_body 119 = .ok (.iconst 1, 1) := by decide +kernel
theorem dX1_body_120 : decode cX1_body 120 = .ok (.iload 5, 2) := by decide +kernel
theorem dX1_body_122 : decode cX1_body 122 = .ok (.invokevirtual 23, 3) := by decide +kernel
theorem dX1_body_125 : decode cX1_body 125 = .ok (.iadd, 1) := by decide +kernel
theorem dX1_body_126 : decode cX1_body 126 = .ok (.ireturn, 1) := by decide +kernel
theorem dX1_body_127 : decode cX1_body 127 = .ok (.aload_n 0, 1) := by decide +kernel
theorem dX1_body_128 : decode cX1_body 128 = .ok (.aload_n 1, 1) := by decide +kernel
theorem dX1_body_129 : decode cX1_body 129 = .ok (.iload_n 2, 1) := by decide +kernel
theorem dX1_body_130 : decode cX1_body 130 = .ok (.bipush 11, 2) := by decide +kernel
theorem dX1_body_132 : decode cX1_body 132 = .ok (.iload 5, 2) := by decide +kernel
theorem dX1_body_134 : decode cX1_body 134 = .ok (.invokevirtual 44, 3) := by decide +kernel
theorem dX1_body_137 : decode cX1_body 137 = .ok (.ineg, 1) := by decide +kernel
theorem dX1_body_138 : decode cX1_body 138 = .ok (.ireturn, 1) := by decide +kernel
theorem dX1_body_139 : decode cX1_body 139 = .ok (.aload_n 0, 1) := by decide +kernel
theorem dX1_body_140 : decode cX1_body 140 = .ok (.aload_n 1, 1) := by decide +kernel
theorem dX1_body_141 : decode cX1_body 141 = .ok (.iload_n 2, 1) := by decide +kernel
theorem dX1_body_142 : decode cX1_body 142 = .ok (.bipush 10, 2) := by decide +kernel
theorem dX1_body_144 : decode cX1_body 144 = .ok (.iload 5, 2) := by decide +kernel
theorem dX1_body_146 : decode cX1_body 146 = .ok (.invokevirtual 44, 3) := by decide +kernel
theorem dX1_body_149 : decode cX1_body 149 = .ok (.bipush 100, 2) := by decide +kernel
theorem dX1_body_151 : decode cX1_body 151 = .ok (.isub, 1) := by decide +kernel
theorem dX1_body_152 : decode cX1_body 152 = .ok (.ireturn, 1) := by decide +kernel
theorem dX1_body_153 : decode cX1_body 153 = .ok (.iconst 2, 1) := by decide +kernel
theorem dX1_body_154 : decode cX1_body 154 = .ok (.aload_n 0, 1) := by decide +kernel
theorem dX1_body_155 : decode cX1_body 155 = .ok (.aload_n 1, 1) := by decide +kernel
theorem dX1_body_156 : decode cX1_body 156 = .ok (.iload_n 2, 1) := by decide +kernel
theorem dX1_body_157 : decode cX1_body 157 = .ok (.bipush 13, 2) := by decide +kernel
theorem dX1_body_159 : decode cX1_body 159 = .ok (.iload 5, 2) := by decide +kernel
theorem dX1_body_161 : decode cX1_body 161 = .ok (.invokevirtual 44, 3) := by decide +kernel
theorem dX1_body_164 : decode cX1_body 164 = .ok (.imul, 1) := by decide +kernel
theorem dX1_body_165 : decode cX1_body 165 = .ok (.ireturn, 1) := by decide +kernel
theorem dX1_body_166 : decode cX1_body 166 = .ok (.iload_n 2, 1) := by decide +kernel
theorem dX1_body_167 : decode cX1_body 167 = .ok (.ireturn, 1) := by decide +kernel
theorem dX1_body_168 : decode cX1_body 168 = .ok (.aload_n 0, 1) := by decide +kernel
theorem dX1_body_169 : decode cX1_body 169 = .ok (.aload_n 1, 1) := by decide +kernel
theorem dX1_body_170 : decode cX1_body 170 = .ok (.iload_n 2, 1) := by decide +kernel
theorem dX1_body_171 : decode cX1_body 171 = .ok (.bipush 20, 2) := by decide +kernel
theorem dX1_body_173 : decode cX1_body 173 = .ok (.iload 5, 2) := by decide +kernel
theorem dX1_body_175 : decode cX1_body 175 = .ok (.invokevirtual 44, 3) := by decide +kernel
theorem dX1_body_178 : decode cX1_body 178 = .ok (.aload_n 1, 1) := by decide +kernel
theorem dX1_body_179 : decode cX1_body 179 = .ok (.getfield 51, 3) := by decide +kernel
theorem dX1_body_182 : decode cX1_body 182 = .ok (.getfield 60, 3) := by decide +kernel
theorem dX1_body_185 : decode cX1_body 185 = .ok (.iadd, 1) := by decide +kernel
theorem dX1_body_186 : decode cX1_body 186 = .ok (.ireturn, 1) := by decide +kernel
theorem dX1_body_187 : decode cX1_body 187 = .ok (.aload_n 0, 1) := by decide +kernel
theorem dX1_body_188 : decode cX1_body 188 = .ok (.aload_n 1, 1) := by decide +kernel
theorem dX1_body_189 : decode cX1_body 189 = .ok (.iload_n 2, 1) := by decide +kernel
theorem dX1_body_190 : decode cX1_body 190 = .ok (.bipush 21, 2) := by decide +kernel
theorem dX1_body_192 : decode cX1_body 192 = .ok (.iload 5, 2) := by decide +kernel
theorem dX1_body_194 : decode cX1_body 194 = .ok (.invokevirtual 44, 3) := by decide +kernel
theorem dX1_body_197 : decode cX1_body 197 = .ok (.sipush 1000, 3) := by decide +kernel
theorem dX1_body_200 : decode cX1_body 200 = .ok (.isub, 1) := by decide +kernel
theorem dX1_body_201 : decode cX1_body 201 = .ok (.ireturn, 1) := by decide +kernel
theorem dX1_body_202 : decode cX1_body 202 = .ok (.aload_n 0, 1) := by decide +kernel
theorem dX1_body_203 : decode cX1_body 203 = .ok (.aload_n 1, 1) := by decide +kernel
theorem dX1_body_204 : decode cX1_body 204 = .ok (.iload_n 2, 1) := by decide +kernel
theorem dX1_body_205 : decode cX1_body 205 = .ok (.bipush 20, 2) := by decide +kernel
theorem dX1_body_207 : decode cX1_body 207 = .ok (.iload 5, 2) := by decide +kernel
theorem dX1_body_209 : decode cX1_body 209 = .ok (.invokevirtual 44, 3) := by decide +kernel
theorem dX1_body_212 : decode cX1_body 212 = .ok (.aload_n 0, 1) := by decide +kernel
theorem dX1_body_213 : decode cX1_body 213 = .ok (.aload_n 1, 1) := by decide +kernel
theorem dX1_body_214 : decode cX1_body 214 = .ok (.iload_n 2, 1) := by decide +kernel
theorem dX1_body_215 : decode cX1_body 215 = .ok (.iconst 0, 1) := by decide +kernel
theorem dX1_body_216 : decode cX1_body 216 = .ok (.iload 5, 2) := by decide +kernel
theorem dX1_body_218 : decode cX1_body 218 = .ok (.invokevirtual 23, 3) := by decide +kernel
theorem dX1_body_221 : decode cX1_body 221 = .ok (.isub, 1) := by decide +kernel
theorem dX1_body_222 : decode cX1_body 222 = .ok (.ireturn, 1) := by decide +kernel
theorem dX1_body_223 : decode cX1_body 223 = .ok (.iconst 2, 1) := by decide +kernel
theorem dX1_body_224 : decode cX1_body 224 = .ok (.aload_n 0, 1) := by decide +kernel
theorem dX1_body_225 : decode cX1_body 225 = .ok (.aload_n 1, 1) := by decide +kernel
theorem dX1_body_226 : decode cX1_body 226 = .ok (.iload_n 2, 1) := by decide +kernel
theorem dX1_body_227 : decode cX1_body 227 = .ok (.bipush 21, 2) := by decide +kernel
theorem dX1_body_229 : decode cX1_body 229 = .ok (.iload 5, 2) := by decide +kernel
theorem dX1_body_231 : decode cX1_body 231 = .ok (.invokevirtual 44, 3) := by decide +kernel
theorem dX1_body_234 : decode cX1_body 234 = .ok (.imul, 1) := by decide +kernel
theorem dX1_body_235 : decode cX1_body 235 = .ok (.ireturn, 1) := by decide +kernel
theorem dX1_body_236 : decode cX1_body 236 = .ok (.iconst 0, 1) := by decide +kernel
theorem dX1_body_237 : decode cX1_body 237 = .ok (.ireturn, 1) := by decide +kernel
abbrev e_X1_askedOf : ME := (cX1_askedOf, (RX1, (6, ((some .int), (0, (0, 1))))))
theorem dX1_askedOf_0 : decode cX1_askedOf 0 = .ok (.aload_n 1, 1) := by decide +kernel
theorem dX1_askedOf_1 : decode cX1_askedOf 1 = .ok (.getfield 27, 3) := by decide +kernel
theorem dX1_askedOf_4 : decode cX1_askedOf 4 = .ok (.getfield 33, 3) := by decide +kernel
theorem dX1_askedOf_7 : decode cX1_askedOf 7 = .ok (.iload_n 2, 1) := by decide +kernel
theorem dX1_askedOf_8 : decode cX1_askedOf 8 = .ok (.iaload, 1) := by decide +kernel
theorem dX1_askedOf_9 : decode cX1_askedOf 9 = .ok (.istore 5, 2) := by decide +kernel
theorem dX1_askedOf_11 : decode cX1_askedOf 11 = .ok (.aload_n 0, 1) := by decide +kernel
theorem dX1_askedOf_12 : decode cX1_askedOf 12 = .ok (.aload_n 1, 1) := by decide +kernel
theorem dX1_askedOf_13 : decode cX1_askedOf 13 = .ok (.iload_n 2, 1) := by decide +kernel
theorem dX1_askedOf_14 : decode cX1_askedOf 14 = .ok (.iload_n 3, 1) := by decide +kernel
theorem dX1_askedOf_15 : decode cX1_askedOf 15 = .ok (.ifCond .ne 12, 3) := by decide +kernel
theorem dX1_askedOf_18 : decode cX1_askedOf 18 = .ok (.getstatic 38, 3) := by decide +kernel
theorem dX1_askedOf_21 : decode cX1_askedOf 21 = .ok (.iload 5, 2) := by decide +kernel
theorem dX1_askedOf_23 : decode cX1_askedOf 23 = .ok (.iaload, 1) := by decide +kernel
theorem dX1_askedOf_24 : decode cX1_askedOf 24 = .ok (.goto 9, 3) := by decide +kernel
theorem dX1_askedOf_27 : decode cX1_askedOf 27 = .ok (.getstatic 41, 3) := by decide +kernel
theorem dX1_askedOf_30 : decode cX1_askedOf 30 = .ok (.iload 5, 2) := by decide +kernel
theorem dX1_askedOf_32 : decode cX1_askedOf 32 = .ok (.iaload, 1) := by decide +kernel
theorem dX1_askedOf_33 : decode cX1_askedOf 33 = .ok (.iload 4, 2) := by decide +kernel
theorem dX1_askedOf_35 : decode cX1_askedOf 35 = .ok (.invokevirtual 44, 3) := by decide +kernel
theorem dX1_askedOf_38 : decode cX1_askedOf 38 = .ok (.ireturn, 1) := by decide +kernel
theorem numS {k q v : Nat} (hq : q < 100) (h : stV k q = v) : nI (stV k (nI q).toNatClampNeg) = nI v := by rw [n_cl (by omega), h]

def Sp_bq10 : List AV → AM → (Option AV → AM → Prop) → Prop := SpB 10 20 (fun q => True) (fun C p => nI (C (41 + 2 * p))) (fun q T => bg T 10)
set_option maxRecDepth 20000 in
set_option maxHeartbeats 4000000 in
theorem S_bq10 : Snd yX1_body (eb 2) Sp_bq10 := by
  refine Snd.of (by decide +kernel) rfl ?_ ?_
  · rintro av m Φ ⟨x, z, w, rfl, _⟩; exact Nat.le_of_ble_eq_true rfl
  rintro av m Φ ⟨x, z, w, rfl, C, p, T, k, hB, rfl, hp, rfl, rfl, hk, hq, hT, h⟩ hav hty
  have h5 := hB.1.2.2.2.2.1.2
  have hq15 := (hB.1.2.2.2.2.2.2.2.2.2 p hp).1
  show B (eb 2) Φ 0 [some (vr 1 108), some (vr 2 20), some (vi (nI p)), some (vi (nI 10)), some (vi (nI k)), none] [] m (0, 0)
  refine b_iloadG (pc := 0) 4 dX1_body_0 rfl ?_
  refine b_bipush (pc := 2) (nI 20) dX1_body_2 (by decide) ?_
  refine b_icmp_le (pc := 4) 9 dX1_body_4 (by decide) (fun c4 => ?_) (fun c4 => ?_)
  refine b_aloadN (pc := 9) 0 dX1_body_9 rfl rfl ?_
  refine b_iloadN (pc := 10) 3 dX1_body_10 rfl rfl ?_
  refine call_X1_leave (pc := 11) k1011 (by decide) ⟨Nat.le_of_ble_eq_true rfl, Nat.le_of_ble_eq_true rfl⟩ (Nat.le_of_ble_eq_true rfl) dX1_body_11 ?_
  refine ⟨_, rfl, _, _, hT, rfl, fun m11 fr11 tr11 => ?_⟩
  have hT := tr11
  have hB := hB.fr (fun a h1 h2 => fr11.2 a (by simp; omega))
  refine b_iloadG (pc := 14) 4 dX1_body_14 rfl ?_
  refine b_iconst (pc := 16) (nI 1) dX1_body_16 (by decide) ?_
  refine b_iadd (pc := 17) dX1_body_17 ?_
  refine siG5 (pc := 18) notL_i (by decide) dX1_body_18 ?_
  rotate_left -- leaf 0: at 20
  rotate_left -- leaf 1: at 7
  -- leaves: 0 at 20; 1 at 7
  rotate_left
  · rw [n_le (by omega) (by omega)] at c4; omega
  refine b_iloadN (pc := 20) 3 dX1_body_20 rfl rfl ?_
  refine b_tableIn (pc := 21) (off := 75) 96 dX1_body_21 (by decide) (by decide) (by decide) (by decide) ?_
  refine b_aloadN (pc := 96) 1 dX1_body_96 rfl rfl ?_
  refine gf2_1 (pc := 97) 26 rfl k274 dX1_body_97 ?_
  refine gf8_0 (pc := 100) 27 rfl k228 dX1_body_100 ?_
  refine b_iloadN (pc := 103) 2 dX1_body_103 rfl rfl ?_
  refine b_iald (pc := 104) (by decide) ?_ dX1_body_104 ?_
  rotate_left -- leaf 0: index at 104
  refine b_iret (pc := 105) rfl dX1_body_105 ⟨Nat.le_of_ble_eq_true rfl, Nat.le_of_ble_eq_true rfl⟩ ?_
  rotate_left -- leaf 1: return at 105
  -- leaves: 0 index at 104; 1 return at 105
  · exact n_in (by omega) (by omega)
  · rw [n_cl (by omega), hB.2.2.1.2.2.2.2.2 p hp]
    exact h m11 fr11 tr11
theorem call_bq10 {E : ME} {Φ : Option AV → AM → Prop} {pc : Nat} {L : List (Option AV)} {st : List AV} {m : AM} {a : Nat × Nat} {idx : Nat} {x0 x1 x2 x3 : AV} {i : Nat} (hl : Cond.methodLink E.2.1 idx yX1_body ∈ TB) (hdep : 2 + 1 ≤ E.2.2.2.2.2.2) (hroom : a.1 + 0 ≤ E.2.2.2.2.1 ∧ a.2 + 0 ≤ E.2.2.2.2.2.1) (hsr : st.length ≤ 4) (hd : decode E.1 pc = .ok (.invokevirtual idx, 3)) (hsp : Sp_bq10 [vr 1 i, x0, x1, x2, x3] m (fun r m2 => B E Φ (pc + 3) L (r.toList ++ st) m2 a)) : B E Φ pc L (x3 :: x2 :: x1 :: x0 :: vr 1 i :: st) m a := b_callV S_bq10 [x0, x1, x2, x3] (RX1, TX1, 2) rfl rfl (by decide) (Or.inl hl) k1009 k28 k78 k1010 (show _ ∧ _ ∧ Option.map (fun d => d.parameters.length) (parseMethodDescriptor yX1_body.desc) = some 4 from by decide +kernel) ⟨hdep, by decide⟩ hroom hsr hd hsp
def Sp_bq20 : List AV → AM → (Option AV → AM → Prop) → Prop := SpB 20 20 (fun q => True) (fun C p => nI p) (fun q T => bg T 20)
set_option maxRecDepth 20000 in
set_option maxHeartbeats 4000000 in
theorem S_bq20 : Snd yX1_body (eb 2) Sp_bq20 := by
  refine Snd.of (by decide +kernel) rfl ?_ ?_
  · rintro av m Φ ⟨x, z, w, rfl, _⟩; exact Nat.le_of_ble_eq_true rfl
  rintro av m Φ ⟨x, z, w, rfl, C, p, T, k, hB, rfl, hp, rfl, rfl, hk, hq, hT, h⟩ hav hty
  have h5 := hB.1.2.2.2.2.1.2
  have hq15 := (hB.1.2.2.2.2.2.2.2.2.2 p hp).1
  show B (eb 2) Φ 0 [some (vr 1 108), some (vr 2 20), some (vi (nI p)), some (vi (nI 20)), some (vi (nI k)), none] [] m (0, 0)
  refine b_iloadG (pc := 0) 4 dX1_body_0 rfl ?_
  refine b_bipush (pc := 2) (nI 20) dX1_body_2 (by decide) ?_
  refine b_icmp_le (pc := 4) 9 dX1_body_4 (by decide) (fun c4 => ?_) (fun c4 => ?_)
  refine b_aloadN (pc := 9) 0 dX1_body_9 rfl rfl ?_
  refine b_iloadN (pc := 10) 3 dX1_body_10 rfl rfl ?_
  refine call_X1_leave (pc := 11) k1011 (by decide) ⟨Nat.le_of_ble_eq_true rfl, Nat.le_of_ble_eq_true rfl⟩ (Nat.le_of_ble_eq_true rfl) dX1_body_11 ?_
  refine ⟨_, rfl, _, _, hT, rfl, fun m11 fr11 tr11 => ?_⟩
  have hT := tr11
  have hB := hB.fr (fun a h1 h2 => fr11.2 a (by simp; omega))
  refine b_iloadG (pc := 14) 4 dX1_body_14 rfl ?_
  refine b_iconst (pc := 16) (nI 1) dX1_body_16 (by decide) ?_
  refine b_iadd (pc := 17) dX1_body_17 ?_
  refine siG5 (pc := 18) notL_i (by decide) dX1_body_18 ?_
  rotate_left -- leaf 0: at 20
  rotate_left -- leaf 1: at 7
  -- leaves: 0 at 20; 1 at 7
  rotate_left
  · rw [n_le (by omega) (by omega)] at c4; omega
  refine b_iloadN (pc := 20) 3 dX1_body_20 rfl rfl ?_
  refine b_tableIn (pc := 21) (off := 145) 166 dX1_body_21 (by decide) (by decide) (by decide) (by decide) ?_
  refine b_iloadN (pc := 166) 2 dX1_body_166 rfl rfl ?_
  refine b_iret (pc := 167) rfl dX1_body_167 ⟨Nat.le_of_ble_eq_true rfl, Nat.le_of_ble_eq_true rfl⟩ ?_
  rotate_left -- leaf 0: return at 167
  -- leaves: 0 return at 167
  exact h m11 fr11 tr11
theorem call_bq20 {E : ME} {Φ : Option AV → AM → Prop} {pc : Nat} {L : List (Option AV)} {st : List AV} {m : AM} {a : Nat × Nat} {idx : Nat} {x0 x1 x2 x3 : AV} {i : Nat} (hl : Cond.methodLink E.2.1 idx yX1_body ∈ TB) (hdep : 2 + 1 ≤ E.2.2.2.2.2.2) (hroom : a.1 + 0 ≤ E.2.2.2.2.1 ∧ a.2 + 0 ≤ E.2.2.2.2.2.1) (hsr : st.length ≤ 4) (hd : decode E.1 pc = .ok (.invokevirtual idx, 3)) (hsp : Sp_bq20 [vr 1 i, x0, x1, x2, x3] m (fun r m2 => B E Φ (pc + 3) L (r.toList ++ st) m2 a)) : B E Φ pc L (x3 :: x2 :: x1 :: x0 :: vr 1 i :: st) m a := b_callV S_bq20 [x0, x1, x2, x3] (RX1, TX1, 2) rfl rfl (by decide) (Or.inl hl) k1009 k28 k78 k1010 (show _ ∧ _ ∧ Option.map (fun d => d.parameters.length) (parseMethodDescriptor yX1_body.desc) = some 4 from by decide +kernel) ⟨hdep, by decide⟩ hroom hsr hd hsp
def Sp_bq13 : List AV → AM → (Option AV → AM → Prop) → Prop := SpB 13 19 (fun q => True) (fun C p => nI (C (41 + 2 * p)) - nI 100) (fun q T => bg (bg T 13) 10)
set_option maxRecDepth 20000 in
set_option maxHeartbeats 4000000 in
theorem S_bq13 : Snd yX1_body (eb 3) Sp_bq13 := by
  refine Snd.of (by decide +kernel) rfl ?_ ?_
  · rintro av m Φ ⟨x, z, w, rfl, _⟩; exact Nat.le_of_ble_eq_true rfl
  rintro av m Φ ⟨x, z, w, rfl, C, p, T, k, hB, rfl, hp, rfl, rfl, hk, hq, hT, h⟩ hav hty
  have h5 := hB.1.2.2.2.2.1.2
  have hq15 := (hB.1.2.2.2.2.2.2.2.2.2 p hp).1
  show B (eb 3) Φ 0 [some (vr 1 108), some (vr 2 20), some (vi (nI p)), some (vi (nI 13)), some (vi (nI k)), none] [] m (0, 0)
  refine b_iloadG (pc := 0) 4 dX1_body_0 rfl ?_
  refine b_bipush (pc := 2) (nI 20) dX1_body_2 (by decide) ?_
  refine b_icmp_le (pc := 4) 9 dX1_body_4 (by decide) (fun c4 => ?_) (fun c4 => ?_)
  refine b_aloadN (pc := 9) 0 dX1_body_9 rfl rfl ?_
  refine b_iloadN (pc := 10) 3 dX1_body_10 rfl rfl ?_
  refine call_X1_leave (pc := 11) k1011 (by decide) ⟨Nat.le_of_ble_eq_true rfl, Nat.le_of_ble_eq_true rfl⟩ (Nat.le_of_ble_eq_true rfl) dX1_body_11 ?_
  refine ⟨_, rfl, _, _, hT, rfl, fun m11 fr11 tr11 => ?_⟩
  have hT := tr11
  have hB := hB.fr (fun a h1 h2 => fr11.2 a (by simp; omega))
  refine b_iloadG (pc := 14) 4 dX1_body_14 rfl ?_
  refine b_iconst (pc := 16) (nI 1) dX1_body_16 (by decide) ?_
  refine b_iadd (pc := 17) dX1_body_17 ?_
  refine siG5 (pc := 18) notL_i (by decide) dX1_body_18 ?_
  rotate_left -- leaf 0: at 20
  rotate_left -- leaf 1: at 7
  -- leaves: 0 at 20; 1 at 7
  rotate_left
  · rw [n_le (by omega) (by omega)] at c4; omega
  refine b_iloadN (pc := 20) 3 dX1_body_20 rfl rfl ?_
  refine b_tableIn (pc := 21) (off := 118) 139 dX1_body_21 (by decide) (by decide) (by decide) (by decide) ?_
  refine b_aloadN (pc := 139) 0 dX1_body_139 rfl rfl ?_
  refine b_aloadN (pc := 140) 1 dX1_body_140 rfl rfl ?_
  refine b_iloadN (pc := 141) 2 dX1_body_141 rfl rfl ?_
  refine b_bipush (pc := 142) (nI 10) dX1_body_142 (by decide) ?_
  refine b_iloadG (pc := 144) 5 dX1_body_144 rfl ?_
  refine call_bq10 (pc := 146) k1007 (by decide) ⟨Nat.le_of_ble_eq_true rfl, Nat.le_of_ble_eq_true rfl⟩ (Nat.le_of_ble_eq_true rfl) dX1_body_146 ?_
  refine ⟨_, _, _, rfl, C, p, _, k + 1, hB, rfl, hp, ?_, ?_, ?_, ?_, hT, fun m146 fr146 tr146 => ?_⟩
  rotate_left -- leaf 0: num of X1_body at 146
  rotate_left -- leaf 1: dep of X1_body at 146
  rotate_left -- leaf 2: lim of X1_body at 146
  rotate_left -- leaf 3: kd of X1_body at 146
  have hT := tr146
  have hB := hB.fr (fun a h1 h2 => fr146.2 a (by simp; omega))
  refine b_bipush (pc := 149) (nI 100) dX1_body_149 (by decide) ?_
  refine b_isub (pc := 151) dX1_body_151 ?_
  refine b_iret (pc := 152) rfl dX1_body_152 ⟨Nat.le_of_ble_eq_true rfl, Nat.le_of_ble_eq_true rfl⟩ ?_
  rotate_left -- leaf 4: return at 152
  -- leaves: 0 num of X1_body at 146; 1 dep of X1_body at 146; 2 lim of X1_body at 146; 3 kd of X1_body at 146; 4 return at 152
  · rfl
  · exact n_add _ _
  · omega
  · exact trivial
  · exact h m146 (fr11.tr2 fr146) tr146
theorem call_bq13 {E : ME} {Φ : Option AV → AM → Prop} {pc : Nat} {L : List (Option AV)} {st : List AV} {m : AM} {a : Nat × Nat} {idx : Nat} {x0 x1 x2 x3 : AV} {i : Nat} (hl : Cond.methodLink E.2.1 idx yX1_body ∈ TB) (hdep : 3 + 1 ≤ E.2.2.2.2.2.2) (hroom : a.1 + 0 ≤ E.2.2.2.2.1 ∧ a.2 + 0 ≤ E.2.2.2.2.2.1) (hsr : st.length ≤ 4) (hd : decode E.1 pc = .ok (.invokevirtual idx, 3)) (hsp : Sp_bq13 [vr 1 i, x0, x1, x2, x3] m (fun r m2 => B E Φ (pc + 3) L (r.toList ++ st) m2 a)) : B E Φ pc L (x3 :: x2 :: x1 :: x0 :: vr 1 i :: st) m a := b_callV S_bq13 [x0, x1, x2, x3] (RX1, TX1, 2) rfl rfl (by decide) (Or.inl hl) k1009 k28 k78 k1010 (show _ ∧ _ ∧ Option.map (fun d => d.parameters.length) (parseMethodDescriptor yX1_body.desc) = some 4 from by decide +kernel) ⟨hdep, by decide⟩ hroom hsr hd hsp
def Sp_bq14 : List AV → AM → (Option AV → AM → Prop) → Prop := SpB 14 18 (fun q => True) (fun C p => nI 2 * (nI (C (41 + 2 * p)) - nI 100)) (fun q T => bg (bg (bg T 14) 13) 10)
set_option maxRecDepth 20000 in
set_option maxHeartbeats 4000000 in
theorem S_bq14 : Snd yX1_body (eb 4) Sp_bq14 := by
  refine Snd.of (by decide +kernel) rfl ?_ ?_
  · rintro av m Φ ⟨x, z, w, rfl, _⟩; exact Nat.le_of_ble_eq_true rfl
  rintro av m Φ ⟨x, z, w, rfl, C, p, T, k, hB, rfl, hp, rfl, rfl, hk, hq, hT, h⟩ hav hty
  have h5 := hB.1.2.2.2.2.1.2
  have hq15 := (hB.1.2.2.2.2.2.2.2.2.2 p hp).1
  show B (eb 4) Φ 0 [some (vr 1 108), some (vr 2 20), some (vi (nI p)), some (vi (nI 14)), some (vi (nI k)), none] [] m (0, 0)
  refine b_iloadG (pc := 0) 4 dX1_body_0 rfl ?_
  refine b_bipush (pc := 2) (nI 20) dX1_body_2 (by decide) ?_
  refine b_icmp_le (pc := 4) 9 dX1_body_4 (by decide) (fun c4 => ?_) (fun c4 => ?_)
  refine b_aloadN (pc := 9) 0 dX1_body_9 rfl rfl ?_
  refine b_iloadN (pc := 10) 3 dX1_body_10 rfl rfl ?_
  refine call_X1_leave (pc := 11) k1011 (by decide) ⟨Nat.le_of_ble_eq_true rfl, Nat.le_of_ble_eq_true rfl⟩ (Nat.le_of_ble_eq_true rfl) dX1_body_11 ?_
  refine ⟨_, rfl, _, _, hT, rfl, fun m11 fr11 tr11 => ?_⟩
  have hT := tr11
  have hB := hB.fr (fun a h1 h2 => fr11.2 a (by simp; omega))
  refine b_iloadG (pc := 14) 4 dX1_body_14 rfl ?_
  refine b_iconst (pc := 16) (nI 1) dX1_body_16 (by decide) ?_
  refine b_iadd (pc := 17) dX1_body_17 ?_
  refine siG5 (pc := 18) notL_i (by decide) dX1_body_18 ?_
  rotate_left -- leaf 0: at 20
  rotate_left -- leaf 1: at 7
  -- leaves: 0 at 20; 1 at 7
  rotate_left
  · rw [n_le (by omega) (by omega)] at c4; omega
  refine b_iloadN (pc := 20) 3 dX1_body_20 rfl rfl ?_
  refine b_tableIn (pc := 21) (off := 132) 153 dX1_body_21 (by decide) (by decide) (by decide) (by decide) ?_
  refine b_iconst (pc := 153) (nI 2) dX1_body_153 (by decide) ?_
  refine b_aloadN (pc := 154) 0 dX1_body_154 rfl rfl ?_
  refine b_aloadN (pc := 155) 1 dX1_body_155 rfl rfl ?_
  refine b_iloadN (pc := 156) 2 dX1_body_156 rfl rfl ?_
  refine b_bipush (pc := 157) (nI 13) dX1_body_157 (by decide) ?_
  refine b_iloadG (pc := 159) 5 dX1_body_159 rfl ?_
  refine call_bq13 (pc := 161) k1007 (by decide) ⟨Nat.le_of_ble_eq_true rfl, Nat.le_of_ble_eq_true rfl⟩ (Nat.le_of_ble_eq_true rfl) dX1_body_161 ?_
  refine ⟨_, _, _, rfl, C, p, _, k + 1, hB, rfl, hp, ?_, ?_, ?_, ?_, hT, fun m161 fr161 tr161 => ?_⟩
  rotate_left -- leaf 0: num of X1_body at 161
  rotate_left -- leaf 1: dep of X1_body at 161
  rotate_left -- leaf 2: lim of X1_body at 161
  rotate_left -- leaf 3: kd of X1_body at 161
  have hT := tr161
  have hB := hB.fr (fun a h1 h2 => fr161.2 a (by simp; omega))
  refine b_imul (pc := 164) dX1_body_164 ?_
  refine b_iret (pc := 165) rfl dX1_body_165 ⟨Nat.le_of_ble_eq_true rfl, Nat.le_of_ble_eq_true rfl⟩ ?_
  rotate_left -- leaf 4: return at 165
  -- leaves: 0 num of X1_body at 161; 1 dep of X1_body at 161; 2 lim of X1_body at 161; 3 kd of X1_body at 161; 4 return at 165
  · rfl
  · exact n_add _ _
  · omega
  · exact trivial
  · exact h m161 (fr11.tr2 fr161) tr161
theorem call_bq14 {E : ME} {Φ : Option AV → AM → Prop} {pc : Nat} {L : List (Option AV)} {st : List AV} {m : AM} {a : Nat × Nat} {idx : Nat} {x0 x1 x2 x3 : AV} {i : Nat} (hl : Cond.methodLink E.2.1 idx yX1_body ∈ TB) (hdep : 4 + 1 ≤ E.2.2.2.2.2.2) (hroom : a.1 + 0 ≤ E.2.2.2.2.1 ∧ a.2 + 0 ≤ E.2.2.2.2.2.1) (hsr : st.length ≤ 4) (hd : decode E.1 pc = .ok (.invokevirtual idx, 3)) (hsp : Sp_bq14 [vr 1 i, x0, x1, x2, x3] m (fun r m2 => B E Φ (pc + 3) L (r.toList ++ st) m2 a)) : B E Φ pc L (x3 :: x2 :: x1 :: x0 :: vr 1 i :: st) m a := b_callV S_bq14 [x0, x1, x2, x3] (RX1, TX1, 2) rfl rfl (by decide) (Or.inl hl) k1009 k28 k78 k1010 (show _ ∧ _ ∧ Option.map (fun d => d.parameters.length) (parseMethodDescriptor yX1_body.desc) = some 4 from by decide +kernel) ⟨hdep, by decide⟩ hroom hsr hd hsp
def Sp_bq21 : List AV → AM → (Option AV → AM → Prop) → Prop := SpB 21 19 (fun q => True) (fun C p => nI (p + C 1)) (fun q T => bg (bg T 21) 20)
set_option maxRecDepth 20000 in
set_option maxHeartbeats 4000000 in
theorem S_bq21 : Snd yX1_body (eb 3) Sp_bq21 := by
  refine Snd.of (by decide +kernel) rfl ?_ ?_
  · rintro av m Φ ⟨x, z, w, rfl, _⟩; exact Nat.le_of_ble_eq_true rfl
  rintro av m Φ ⟨x, z, w, rfl, C, p, T, k, hB, rfl, hp, rfl, rfl, hk, hq, hT, h⟩ hav hty
  have h5 := hB.1.2.2.2.2.1.2
  have hq15 := (hB.1.2.2.2.2.2.2.2.2.2 p hp).1
  show B (eb 3) Φ 0 [some (vr 1 108), some (vr 2 20), some (vi (nI p)), some (vi (nI 21)), some (vi (nI k)), none] [] m (0, 0)
  refine b_iloadG (pc := 0) 4 dX1_body_0 rfl ?_
  refine b_bipush (pc := 2) (nI 20) dX1_body_2 (by decide) ?_
  refine b_icmp_le (pc := 4) 9 dX1_body_4 (by decide) (fun c4 => ?_) (fun c4 => ?_)
  refine b_aloadN (pc := 9) 0 dX1_body_9 rfl rfl ?_
  refine b_iloadN (pc := 10) 3 dX1_body_10 rfl rfl ?_
  refine call_X1_leave (pc := 11) k1011 (by decide) ⟨Nat.le_of_ble_eq_true rfl, Nat.le_of_ble_eq_true rfl⟩ (Nat.le_of_ble_eq_true rfl) dX1_body_11 ?_
  refine ⟨_, rfl, _, _, hT, rfl, fun m11 fr11 tr11 => ?_⟩
  have hT := tr11
  have hB := hB.fr (fun a h1 h2 => fr11.2 a (by simp; omega))
  refine b_iloadG (pc := 14) 4 dX1_body_14 rfl ?_
  refine b_iconst (pc := 16) (nI 1) dX1_body_16 (by decide) ?_
  refine b_iadd (pc := 17) dX1_body_17 ?_
  refine siG5 (pc := 18) notL_i (by decide) dX1_body_18 ?_
  rotate_left -- leaf 0: at 20
  rotate_left -- leaf 1: at 7
  -- leaves: 0 at 20; 1 at 7
  rotate_left
  · rw [n_le (by omega) (by omega)] at c4; omega
  refine b_iloadN (pc := 20) 3 dX1_body_20 rfl rfl ?_
  refine b_tableIn (pc := 21) (off := 147) 168 dX1_body_21 (by decide) (by decide) (by decide) (by decide) ?_
  refine b_aloadN (pc := 168) 0 dX1_body_168 rfl rfl ?_
  refine b_aloadN (pc := 169) 1 dX1_body_169 rfl rfl ?_
  refine b_iloadN (pc := 170) 2 dX1_body_170 rfl rfl ?_
  refine b_bipush (pc := 171) (nI 20) dX1_body_171 (by decide) ?_
  refine b_iloadG (pc := 173) 5 dX1_body_173 rfl ?_
  refine call_bq20 (pc := 175) k1007 (by decide) ⟨Nat.le_of_ble_eq_true rfl, Nat.le_of_ble_eq_true rfl⟩ (Nat.le_of_ble_eq_true rfl) dX1_body_175 ?_
  refine ⟨_, _, _, rfl, C, p, _, k + 1, hB, rfl, hp, ?_, ?_, ?_, ?_, hT, fun m175 fr175 tr175 => ?_⟩
  rotate_left -- leaf 0: num of X1_body at 175
  rotate_left -- leaf 1: dep of X1_body at 175
  rotate_left -- leaf 2: lim of X1_body at 175
  rotate_left -- leaf 3: kd of X1_body at 175
  have hT := tr175
  have hB := hB.fr (fun a h1 h2 => fr175.2 a (by simp; omega))
  refine b_aloadN (pc := 178) 1 dX1_body_178 rfl rfl ?_
  refine gf2_1 (pc := 179) 26 rfl k274 dX1_body_179 ?_
  refine gf8_1 (pc := 182) k234 dX1_body_182 ?_
  refine b_iadd (pc := 185) dX1_body_185 ?_
  refine b_iret (pc := 186) rfl dX1_body_186 ⟨Nat.le_of_ble_eq_true rfl, Nat.le_of_ble_eq_true rfl⟩ ?_
  rotate_left -- leaf 4: return at 186
  -- leaves: 0 num of X1_body at 175; 1 dep of X1_body at 175; 2 lim of X1_body at 175; 3 kd of X1_body at 175; 4 return at 186
  · rfl
  · exact n_add _ _
  · omega
  · exact trivial
  · have e : m175.1 26 1 = nI (C 1) := hB.2.2.1.1
    show Φ (some (vi (nI p + m175.1 26 1))) m175
    rw [e, n_add]
    exact h m175 (fr11.tr2 fr175) tr175
theorem call_bq21 {E : ME} {Φ : Option AV → AM → Prop} {pc : Nat} {L : List (Option AV)} {st : List AV} {m : AM} {a : Nat × Nat} {idx : Nat} {x0 x1 x2 x3 : AV} {i : Nat} (hl : Cond.methodLink E.2.1 idx yX1_body ∈ TB) (hdep : 3 + 1 ≤ E.2.2.2.2.2.2) (hroom : a.1 + 0 ≤ E.2.2.2.2.1 ∧ a.2 + 0 ≤ E.2.2.2.2.2.1) (hsr : st.length ≤ 4) (hd : decode E.1 pc = .ok (.invokevirtual idx, 3)) (hsp : Sp_bq21 [vr 1 i, x0, x1, x2, x3] m (fun r m2 => B E Φ (pc + 3) L (r.toList ++ st) m2 a)) : B E Φ pc L (x3 :: x2 :: x1 :: x0 :: vr 1 i :: st) m a := b_callV S_bq21 [x0, x1, x2, x3] (RX1, TX1, 2) rfl rfl (by decide) (Or.inl hl) k1009 k28 k78 k1010 (show _ ∧ _ ∧ Option.map (fun d => d.parameters.length) (parseMethodDescriptor yX1_body.desc) = some 4 from by decide +kernel) ⟨hdep, by decide⟩ hroom hsr hd hsp
def Sp_bq22 : List AV → AM → (Option AV → AM → Prop) → Prop := SpB 22 18 (fun q => True) (fun C p => nI (p + C 1) - nI 1000) (fun q T => bg (bg (bg T 22) 21) 20)
set_option maxRecDepth 20000 in
set_option maxHeartbeats 4000000 in
theorem S_bq22 : Snd yX1_body (eb 4) Sp_bq22 := by
  refine Snd.of (by decide +kernel) rfl ?_ ?_
  · rintro av m Φ ⟨x, z, w, rfl, _⟩; exact Nat.le_of_ble_eq_true rfl
  rintro av m Φ ⟨x, z, w, rfl, C, p, T, k, hB, rfl, hp, rfl, rfl, hk, hq, hT, h⟩ hav hty
  have h5 := hB.1.2.2.2.2.1.2
  have hq15 := (hB.1.2.2.2.2.2.2.2.2.2 p hp).1
  show B (eb 4) Φ 0 [some (vr 1 108), some (vr 2 20), some (vi (nI p)), some (vi (nI 22)), some (vi (nI k)), none] [] m (0, 0)
  refine b_iloadG (pc := 0) 4 dX1_body_0 rfl ?_
  refine b_bipush (pc := 2) (nI 20) dX1_body_2 (by decide) ?_
  refine b_icmp_le (pc := 4) 9 dX1_body_4 (by decide) (fun c4 => ?_) (fun c4 => ?_)
  refine b_aloadN (pc := 9) 0 dX1_body_9 rfl rfl ?_
  refine b_iloadN (pc := 10) 3 dX1_body_10 rfl rfl ?_
  refine call_X1_leave (pc := 11) k1011 (by decide) ⟨Nat.le_of_ble_eq_true rfl, Nat.le_of_ble_eq_true rfl⟩ (Nat.le_of_ble_eq_true rfl) dX1_body_11 ?_
  refine ⟨_, rfl, _, _, hT, rfl, fun m11 fr11 tr11 => ?_⟩
  have hT := tr11
  have hB := hB.fr (fun a h1 h2 => fr11.2 a (by simp; omega))
  refine b_iloadG (pc := 14) 4 dX1_body_14 rfl ?_
  refine b_iconst (pc := 16) (nI 1) dX1_body_16 (by decide) ?_
  refine b_iadd (pc := 17) dX1_body_17 ?_
  refine siG5 (pc := 18) notL_i (by decide) dX1_body_18 ?_
  rotate_left -- leaf 0: at 20
  rotate_left -- leaf 1: at 7
  -- leaves: 0 at 20; 1 at 7
  rotate_left
  · rw [n_le (by omega) (by omega)] at c4; omega
  refine b_iloadN (pc := 20) 3 dX1_body_20 rfl rfl ?_
  refine b_tableIn (pc := 21) (off := 166) 187 dX1_body_21 (by decide) (by decide) (by decide) (by decide) ?_
  refine b_aloadN (pc := 187) 0 dX1_body_187 rfl rfl ?_
  refine b_aloadN (pc := 188) 1 dX1_body_188 rfl rfl ?_
  refine b_iloadN (pc := 189) 2 dX1_body_189 rfl rfl ?_
  refine b_bipush (pc := 190) (nI 21) dX1_body_190 (by decide) ?_
  refine b_iloadG (pc := 192) 5 dX1_body_192 rfl ?_
  refine call_bq21 (pc := 194) k1007 (by decide) ⟨Nat.le_of_ble_eq_true rfl, Nat.le_of_ble_eq_true rfl⟩ (Nat.le_of_ble_eq_true rfl) dX1_body_194 ?_
  refine ⟨_, _, _, rfl, C, p, _, k + 1, hB, rfl, hp, ?_, ?_, ?_, ?_, hT, fun m194 fr194 tr194 => ?_⟩
  rotate_left -- leaf 0: num of X1_body at 194
  rotate_left -- leaf 1: dep of X1_body at 194
  rotate_left -- leaf 2: lim of X1_body at 194
  rotate_left -- leaf 3: kd of X1_body at 194
  have hT := tr194
  have hB := hB.fr (fun a h1 h2 => fr194.2 a (by simp; omega))
  refine b_sipush (pc := 197) (nI 1000) dX1_body_197 (by decide) ?_
  refine b_isub (pc := 200) dX1_body_200 ?_
  refine b_iret (pc := 201) rfl dX1_body_201 ⟨Nat.le_of_ble_eq_true rfl, Nat.le_of_ble_eq_true rfl⟩ ?_
  rotate_left -- leaf 4: return at 201
  -- leaves: 0 num of X1_body at 194; 1 dep of X1_body at 194; 2 lim of X1_body at 194; 3 kd of X1_body at 194; 4 return at 201
  · rfl
  · exact n_add _ _
  · omega
  · exact trivial
  · exact h m194 (fr11.tr2 fr194) tr194
theorem call_bq22 {E : ME} {Φ : Option AV → AM → Prop} {pc : Nat} {L : List (Option AV)} {st : List AV} {m : AM} {a : Nat × Nat} {idx : Nat} {x0 x1 x2 x3 : AV} {i : Nat} (hl : Cond.methodLink E.2.1 idx yX1_body ∈ TB) (hdep : 4 + 1 ≤ E.2.2.2.2.2.2) (hroom : a.1 + 0 ≤ E.2.2.2.2.1 ∧ a.2 + 0 ≤ E.2.2.2.2.2.1) (hsr : st.length ≤ 4) (hd : decode E.1 pc = .ok (.invokevirtual idx, 3)) (hsp : Sp_bq22 [vr 1 i, x0, x1, x2, x3] m (fun r m2 => B E Φ (pc + 3) L (r.toList ++ st) m2 a)) : B E Φ pc L (x3 :: x2 :: x1 :: x0 :: vr 1 i :: st) m a := b_callV S_bq22 [x0, x1, x2, x3] (RX1, TX1, 2) rfl rfl (by decide) (Or.inl hl) k1009 k28 k78 k1010 (show _ ∧ _ ∧ Option.map (fun d => d.parameters.length) (parseMethodDescriptor yX1_body.desc) = some 4 from by decide +kernel) ⟨hdep, by decide⟩ hroom hsr hd hsp
def Sp_bq24 : List AV → AM → (Option AV → AM → Prop) → Prop := SpB 24 18 (fun q => True) (fun C p => nI 2 * nI (p + C 1)) (fun q T => bg (bg (bg T 24) 21) 20)
set_option maxRecDepth 20000 in
set_option maxHeartbeats 4000000 in
theorem S_bq24 : Snd yX1_body (eb 4) Sp_bq24 := by
  refine Snd.of (by decide +kernel) rfl ?_ ?_
  · rintro av m Φ ⟨x, z, w, rfl, _⟩; exact Nat.le_of_ble_eq_true rfl
  rintro av m Φ ⟨x, z, w, rfl, C, p, T, k, hB, rfl, hp, rfl, rfl, hk, hq, hT, h⟩ hav hty
  have h5 := hB.1.2.2.2.2.1.2
  have hq15 := (hB.1.2.2.2.2.2.2.2.2.2 p hp).1
  show B (eb 4) Φ 0 [some (vr 1 108), some (vr 2 20), some (vi (nI p)), some (vi (nI 24)), some (vi (nI k)), none] [] m (0, 0)
  refine b_iloadG (pc := 0) 4 dX1_body_0 rfl ?_
  refine b_bipush (pc := 2) (nI 20) dX1_body_2 (by decide) ?_
  refine b_icmp_le (pc := 4) 9 dX1_body_4 (by decide) (fun c4 => ?_) (fun c4 => ?_)
  refine b_aloadN (pc := 9) 0 dX1_body_9 rfl rfl ?_
  refine b_iloadN (pc := 10) 3 dX1_body_10 rfl rfl ?_
  refine call_X1_leave (pc := 11) k1011 (by decide) ⟨Nat.le_of_ble_eq_true rfl, Nat.le_of_ble_eq_true rfl⟩ (Nat.le_of_ble_eq_true rfl) dX1_body_11 ?_
  refine ⟨_, rfl, _, _, hT, rfl, fun m11 fr11 tr11 => ?_⟩
  have hT := tr11
  have hB := hB.fr (fun a h1 h2 => fr11.2 a (by simp; omega))
  refine b_iloadG (pc := 14) 4 dX1_body_14 rfl ?_
  refine b_iconst (pc := 16) (nI 1) dX1_body_16 (by decide) ?_
  refine b_iadd (pc := 17) dX1_body_17 ?_
  refine siG5 (pc := 18) notL_i (by decide) dX1_body_18 ?_
  rotate_left -- leaf 0: at 20
  rotate_left -- leaf 1: at 7
  -- leaves: 0 at 20; 1 at 7
  rotate_left
  · rw [n_le (by omega) (by omega)] at c4; omega
  refine b_iloadN (pc := 20) 3 dX1_body_20 rfl rfl ?_
  refine b_tableIn (pc := 21) (off := 202) 223 dX1_body_21 (by decide) (by decide) (by decide) (by decide) ?_
  refine b_iconst (pc := 223) (nI 2) dX1_body_223 (by decide) ?_
  refine b_aloadN (pc := 224) 0 dX1_body_224 rfl rfl ?_
  refine b_aloadN (pc := 225) 1 dX1_body_225 rfl rfl ?_
  refine b_iloadN (pc := 226) 2 dX1_body_226 rfl rfl ?_
  refine b_bipush (pc := 227) (nI 21) dX1_body_227 (by decide) ?_
  refine b_iloadG (pc := 229) 5 dX1_body_229 rfl ?_
  refine call_bq21 (pc := 231) k1007 (by decide) ⟨Nat.le_of_ble_eq_true rfl, Nat.le_of_ble_eq_true rfl⟩ (Nat.le_of_ble_eq_true rfl) dX1_body_231 ?_
  refine ⟨_, _, _, rfl, C, p, _, k + 1, hB, rfl, hp, ?_, ?_, ?_, ?_, hT, fun m231 fr231 tr231 => ?_⟩
  rotate_left -- leaf 0: num of X1_body at 231
  rotate_left -- leaf 1: dep of X1_body at 231
  rotate_left -- leaf 2: lim of X1_body at 231
  rotate_left -- leaf 3: kd of X1_body at 231
  have hT := tr231
  have hB := hB.fr (fun a h1 h2 => fr231.2 a (by simp; omega))
  refine b_imul (pc := 234) dX1_body_234 ?_
  refine b_iret (pc := 235) rfl dX1_body_235 ⟨Nat.le_of_ble_eq_true rfl, Nat.le_of_ble_eq_true rfl⟩ ?_
  rotate_left -- leaf 4: return at 235
  -- leaves: 0 num of X1_body at 231; 1 dep of X1_body at 231; 2 lim of X1_body at 231; 3 kd of X1_body at 231; 4 return at 235
  · rfl
  · exact n_add _ _
  · omega
  · exact trivial
  · exact h m231 (fr11.tr2 fr231) tr231
theorem call_bq24 {E : ME} {Φ : Option AV → AM → Prop} {pc : Nat} {L : List (Option AV)} {st : List AV} {m : AM} {a : Nat × Nat} {idx : Nat} {x0 x1 x2 x3 : AV} {i : Nat} (hl : Cond.methodLink E.2.1 idx yX1_body ∈ TB) (hdep : 4 + 1 ≤ E.2.2.2.2.2.2) (hroom : a.1 + 0 ≤ E.2.2.2.2.1 ∧ a.2 + 0 ≤ E.2.2.2.2.2.1) (hsr : st.length ≤ 4) (hd : decode E.1 pc = .ok (.invokevirtual idx, 3)) (hsp : Sp_bq24 [vr 1 i, x0, x1, x2, x3] m (fun r m2 => B E Φ (pc + 3) L (r.toList ++ st) m2 a)) : B E Φ pc L (x3 :: x2 :: x1 :: x0 :: vr 1 i :: st) m a := b_callV S_bq24 [x0, x1, x2, x3] (RX1, TX1, 2) rfl rfl (by decide) (Or.inl hl) k1009 k28 k78 k1010 (show _ ∧ _ ∧ Option.map (fun d => d.parameters.length) (parseMethodDescriptor yX1_body.desc) = some 4 from by decide +kernel) ⟨hdep, by decide⟩ hroom hsr hd hsp
def Sp_aqS : List AV → AM → (Option AV → AM → Prop) → Prop := SpB 0 18 (fun q => 4 ≤ q) (fun C p => qsV (C (40 + 2 * p)) (C (41 + 2 * p))) (fun q T => qsT q T)
set_option maxRecDepth 20000 in
set_option maxHeartbeats 4000000 in
theorem S_aqS : Snd yX1_askedOf (ea 5) Sp_aqS := by
  refine Snd.of (by decide +kernel) rfl ?_ ?_
  · rintro av m Φ ⟨x, z, w, rfl, _⟩; exact Nat.le_of_ble_eq_true rfl
  rintro av m Φ ⟨x, z, w, rfl, C, p, T, k, hB, rfl, hp, rfl, rfl, hk, hq, hT, h⟩ hav hty
  have h5 := hB.1.2.2.2.2.1.2
  have hq15 := (hB.1.2.2.2.2.2.2.2.2.2 p hp).1
  have hkd : m.1 25 p = nI (C (40 + 2 * p)) := hB.2.1.2.2.2.2.2 p hp
  show B (ea 5) Φ 0 [some (vr 1 108), some (vr 2 20), some (vi (nI p)), some (vi (nI 0)), some (vi (nI k)), none] [] m (0, 0)
  refine b_aloadN (pc := 0) 1 dX1_askedOf_0 rfl rfl ?_
  refine gf2_0 (pc := 1) 21 rfl k268 dX1_askedOf_1 ?_
  refine gf5_3 (pc := 4) 25 rfl k137 dX1_askedOf_4 ?_
  refine b_iloadN (pc := 7) 2 dX1_askedOf_7 rfl rfl ?_
  refine b_iald (pc := 8) (by decide) ?_ dX1_askedOf_8 ?_
  rotate_left -- leaf 0: index at 8
  refine siG5 (pc := 9) notL_i (by decide) dX1_askedOf_9 ?_
  rotate_left -- leaf 1: at 11
  -- leaves: 0 index at 8; 1 at 11
  · exact n_in (by omega) (by omega)
  rw [n_cl (by omega), hkd]
  rcases (by omega : C (40 + 2 * p) = 4 ∨ C (40 + 2 * p) = 5) with eq | eq
  · have hV : qsV (C (40 + 2 * p)) (C (41 + 2 * p)) = nI (C (41 + 2 * p)) - nI 100 := by rw [eq]; rfl
    have hTr : qsT (C (40 + 2 * p)) T = bg (bg T 13) 10 := by rw [eq]; rfl
    have h : ∀ m2, Fr [108, 109] m m2 → CTr m2 (bg (bg T 13) 10) → Φ (some (vi (nI (C (41 + 2 * p)) - nI 100))) m2 := fun m2 a b => by
      have t : Φ (some (vi (qsV (C (40 + 2 * p)) (C (41 + 2 * p))))) m2 := h m2 a (by
        show CTr m2 (qsT (C (40 + 2 * p)) T)
        rw [hTr]; exact b)
      rw [hV] at t
      exact t
    rw [eq]
    refine b_aloadN (pc := 11) 0 dX1_askedOf_11 rfl rfl ?_
    refine b_aloadN (pc := 12) 1 dX1_askedOf_12 rfl rfl ?_
    refine b_iloadN (pc := 13) 2 dX1_askedOf_13 rfl rfl ?_
    refine b_iloadN (pc := 14) 3 dX1_askedOf_14 rfl rfl ?_
    refine b_if_ne (pc := 15) 27 dX1_askedOf_15 (by decide) (fun c15 => ?_) (fun c15 => ?_)
    rotate_left -- leaf 0: at 27
    refine b_tabAtG (pc := 18) 1 5 (by decide) k1003 rfl ?_ dX1_askedOf_18 dX1_askedOf_21 dX1_askedOf_23 ?_
    rotate_left -- leaf 1: table index at 18
    refine b_goto (pc := 24) 33 dX1_askedOf_24 (by decide) ?_
    refine b_iloadG (pc := 33) 4 dX1_askedOf_33 rfl ?_
    refine call_bq13 (pc := 35) k1007 (by decide) ⟨Nat.le_of_ble_eq_true rfl, Nat.le_of_ble_eq_true rfl⟩ (Nat.le_of_ble_eq_true rfl) dX1_askedOf_35 ?_
    refine ⟨_, _, _, rfl, C, p, _, k, hB, rfl, hp, ?_, ?_, ?_, ?_, hT, fun m35 fr35 tr35 => ?_⟩
    rotate_left -- leaf 2: num of X1_body at 35
    rotate_left -- leaf 3: dep of X1_body at 35
    rotate_left -- leaf 4: lim of X1_body at 35
    rotate_left -- leaf 5: kd of X1_body at 35
    have hT := tr35
    have hB := hB.fr (fun a h1 h2 => fr35.2 a (by simp; omega))
    refine b_iret (pc := 38) rfl dX1_askedOf_38 ⟨Nat.le_of_ble_eq_true rfl, Nat.le_of_ble_eq_true rfl⟩ ?_
    rotate_left -- leaf 6: return at 38
    -- leaves: 0 at 27; 1 table index at 18; 2 num of X1_body at 35; 3 dep of X1_body at 35; 4 lim of X1_body at 35; 5 kd of X1_body at 35; 6 return at 38
    · exact absurd rfl c15
    · exact n_in (by omega) (by omega)
    · exact numS (by omega) rfl
    · rfl
    · omega
    · exact trivial
    · exact h m35 fr35 tr35
  · have hV : qsV (C (40 + 2 * p)) (C (41 + 2 * p)) = nI 2 * (nI (C (41 + 2 * p)) - nI 100) := by rw [eq]; rfl
    have hTr : qsT (C (40 + 2 * p)) T = bg (bg (bg T 14) 13) 10 := by rw [eq]; rfl
    have h : ∀ m2, Fr [108, 109] m m2 → CTr m2 (bg (bg (bg T 14) 13) 10) → Φ (some (vi (nI 2 * (nI (C (41 + 2 * p)) - nI 100)))) m2 := fun m2 a b => by
      have t : Φ (some (vi (qsV (C (40 + 2 * p)) (C (41 + 2 * p))))) m2 := h m2 a (by
        show CTr m2 (qsT (C (40 + 2 * p)) T)
        rw [hTr]; exact b)
      rw [hV] at t
      exact t
    rw [eq]
    refine b_aloadN (pc := 11) 0 dX1_askedOf_11 rfl rfl ?_
    refine b_aloadN (pc := 12) 1 dX1_askedOf_12 rfl rfl ?_
    refine b_iloadN (pc := 13) 2 dX1_askedOf_13 rfl rfl ?_
    refine b_iloadN (pc := 14) 3 dX1_askedOf_14 rfl rfl ?_
    refine b_if_ne (pc := 15) 27 dX1_askedOf_15 (by decide) (fun c15 => ?_) (fun c15 => ?_)
    rotate_left -- leaf 0: at 27
    refine b_tabAtG (pc := 18) 1 5 (by decide) k1003 rfl ?_ dX1_askedOf_18 dX1_askedOf_21 dX1_askedOf_23 ?_
    rotate_left -- leaf 1: table index at 18
    refine b_goto (pc := 24) 33 dX1_askedOf_24 (by decide) ?_
    refine b_iloadG (pc := 33) 4 dX1_askedOf_33 rfl ?_
    refine call_bq14 (pc := 35) k1007 (by decide) ⟨Nat.le_of_ble_eq_true rfl, Nat.le_of_ble_eq_true rfl⟩ (Nat.le_of_ble_eq_true rfl) dX1_askedOf_35 ?_
    refine ⟨_, _, _, rfl, C, p, _, k, hB, rfl, hp, ?_, ?_, ?_, ?_, hT, fun m35 fr35 tr35 => ?_⟩
    rotate_left -- leaf 2: num of X1_body at 35
    rotate_left -- leaf 3: dep of X1_body at 35
    rotate_left -- leaf 4: lim of X1_body at 35
    rotate_left -- leaf 5: kd of X1_body at 35
    have hT := tr35
    have hB := hB.fr (fun a h1 h2 => fr35.2 a (by simp; omega))
    refine b_iret (pc := 38) rfl dX1_askedOf_38 ⟨Nat.le_of_ble_eq_true rfl, Nat.le_of_ble_eq_true rfl⟩ ?_
    rotate_left -- leaf 6: return at 38
    -- leaves: 0 at 27; 1 table index at 18; 2 num of X1_body at 35; 3 dep of X1_body at 35; 4 lim of X1_body at 35; 5 kd of X1_body at 35; 6 return at 38
    · exact absurd rfl c15
    · exact n_in (by omega) (by omega)
    · exact numS (by omega) rfl
    · rfl
    · omega
    · exact trivial
    · exact h m35 fr35 tr35
theorem call_aqS {E : ME} {Φ : Option AV → AM → Prop} {pc : Nat} {L : List (Option AV)} {st : List AV} {m : AM} {a : Nat × Nat} {idx : Nat} {x0 x1 x2 x3 : AV} {i : Nat} (hl : Cond.methodLink E.2.1 idx yX1_askedOf ∈ TB) (hdep : 5 + 1 ≤ E.2.2.2.2.2.2) (hroom : a.1 + 0 ≤ E.2.2.2.2.1 ∧ a.2 + 0 ≤ E.2.2.2.2.2.1) (hsr : st.length ≤ 4) (hd : decode E.1 pc = .ok (.invokevirtual idx, 3)) (hsp : Sp_aqS [vr 1 i, x0, x1, x2, x3] m (fun r m2 => B E Φ (pc + 3) L (r.toList ++ st) m2 a)) : B E Φ pc L (x3 :: x2 :: x1 :: x0 :: vr 1 i :: st) m a := b_callV S_aqS [x0, x1, x2, x3] (RX1, TX1, 2) rfl rfl (by decide) (Or.inl hl) k1001 k27 k78 k1002 (show _ ∧ _ ∧ Option.map (fun d => d.parameters.length) (parseMethodDescriptor yX1_askedOf.desc) = some 4 from by decide +kernel) ⟨hdep, by decide⟩ hroom hsr hd hsp
def Sp_bq23 : List AV → AM → (Option AV → AM → Prop) → Prop := SpB 23 17 (fun q => 4 ≤ q) (fun C p => nI p - qsV (C (40 + 2 * p)) (C (41 + 2 * p))) (fun q T => qsT q (bg (bg T 23) 20))
set_option maxRecDepth 20000 in
set_option maxHeartbeats 4000000 in
theorem S_bq23 : Snd yX1_body (eb 6) Sp_bq23 := by
  refine Snd.of (by decide +kernel) rfl ?_ ?_
  · rintro av m Φ ⟨x, z, w, rfl, _⟩; exact Nat.le_of_ble_eq_true rfl
  rintro av m Φ ⟨x, z, w, rfl, C, p, T, k, hB, rfl, hp, rfl, rfl, hk, hq, hT, h⟩ hav hty
  have h5 := hB.1.2.2.2.2.1.2
  have hq15 := (hB.1.2.2.2.2.2.2.2.2.2 p hp).1
  show B (eb 6) Φ 0 [some (vr 1 108), some (vr 2 20), some (vi (nI p)), some (vi (nI 23)), some (vi (nI k)), none] [] m (0, 0)
  refine b_iloadG (pc := 0) 4 dX1_body_0 rfl ?_
  refine b_bipush (pc := 2) (nI 20) dX1_body_2 (by decide) ?_
  refine b_icmp_le (pc := 4) 9 dX1_body_4 (by decide) (fun c4 => ?_) (fun c4 => ?_)
  refine b_aloadN (pc := 9) 0 dX1_body_9 rfl rfl ?_
  refine b_iloadN (pc := 10) 3 dX1_body_10 rfl rfl ?_
  refine call_X1_leave (pc := 11) k1011 (by decide) ⟨Nat.le_of_ble_eq_true rfl, Nat.le_of_ble_eq_true rfl⟩ (Nat.le_of_ble_eq_true rfl) dX1_body_11 ?_
  refine ⟨_, rfl, _, _, hT, rfl, fun m11 fr11 tr11 => ?_⟩
  have hT := tr11
  have hB := hB.fr (fun a h1 h2 => fr11.2 a (by simp; omega))
  refine b_iloadG (pc := 14) 4 dX1_body_14 rfl ?_
  refine b_iconst (pc := 16) (nI 1) dX1_body_16 (by decide) ?_
  refine b_iadd (pc := 17) dX1_body_17 ?_
  refine siG5 (pc := 18) notL_i (by decide) dX1_body_18 ?_
  rotate_left -- leaf 0: at 20
  rotate_left -- leaf 1: at 7
  -- leaves: 0 at 20; 1 at 7
  rotate_left
  · rw [n_le (by omega) (by omega)] at c4; omega
  refine b_iloadN (pc := 20) 3 dX1_body_20 rfl rfl ?_
  refine b_tableIn (pc := 21) (off := 181) 202 dX1_body_21 (by decide) (by decide) (by decide) (by decide) ?_
  refine b_aloadN (pc := 202) 0 dX1_body_202 rfl rfl ?_
  refine b_aloadN (pc := 203) 1 dX1_body_203 rfl rfl ?_
  refine b_iloadN (pc := 204) 2 dX1_body_204 rfl rfl ?_
  refine b_bipush (pc := 205) (nI 20) dX1_body_205 (by decide) ?_
  refine b_iloadG (pc := 207) 5 dX1_body_207 rfl ?_
  refine call_bq20 (pc := 209) k1007 (by decide) ⟨Nat.le_of_ble_eq_true rfl, Nat.le_of_ble_eq_true rfl⟩ (Nat.le_of_ble_eq_true rfl) dX1_body_209 ?_
  refine ⟨_, _, _, rfl, C, p, _, k + 1, hB, rfl, hp, ?_, ?_, ?_, ?_, hT, fun m209 fr209 tr209 => ?_⟩
  rotate_left -- leaf 0: num of X1_body at 209
  rotate_left -- leaf 1: dep of X1_body at 209
  rotate_left -- leaf 2: lim of X1_body at 209
  rotate_left -- leaf 3: kd of X1_body at 209
  have hT := tr209
  have hB := hB.fr (fun a h1 h2 => fr209.2 a (by simp; omega))
  refine b_aloadN (pc := 212) 0 dX1_body_212 rfl rfl ?_
  refine b_aloadN (pc := 213) 1 dX1_body_213 rfl rfl ?_
  refine b_iloadN (pc := 214) 2 dX1_body_214 rfl rfl ?_
  refine b_iconst (pc := 215) (nI 0) dX1_body_215 (by decide) ?_
  refine b_iloadG (pc := 216) 5 dX1_body_216 rfl ?_
  refine call_aqS (pc := 218) k999 (by decide) ⟨Nat.le_of_ble_eq_true rfl, Nat.le_of_ble_eq_true rfl⟩ (Nat.le_of_ble_eq_true rfl) dX1_body_218 ?_
  refine ⟨_, _, _, rfl, C, p, _, k + 1, hB, rfl, hp, ?_, ?_, ?_, ?_, hT, fun m218 fr218 tr218 => ?_⟩
  rotate_left -- leaf 4: num of X1_askedOf at 218
  rotate_left -- leaf 5: dep of X1_askedOf at 218
  rotate_left -- leaf 6: lim of X1_askedOf at 218
  rotate_left -- leaf 7: kd of X1_askedOf at 218
  have hT := tr218
  have hB := hB.fr (fun a h1 h2 => fr218.2 a (by simp; omega))
  refine b_isub (pc := 221) dX1_body_221 ?_
  refine b_iret (pc := 222) rfl dX1_body_222 ⟨Nat.le_of_ble_eq_true rfl, Nat.le_of_ble_eq_true rfl⟩ ?_
  rotate_left -- leaf 8: return at 222
  -- leaves: 0 num of X1_body at 209; 1 dep of X1_body at 209; 2 lim of X1_body at 209; 3 kd of X1_body at 209; 4 num of X1_askedOf at 218; 5 dep of X1_askedOf at 218; 6 lim of X1_askedOf at 218; 7 kd of X1_askedOf at 218; 8 return at 222
  · rfl
  · exact n_add _ _
  · omega
  · exact trivial
  · rfl
  · exact n_add _ _
  · omega
  · exact hq
  · exact h m218 ((fr11.tr2 fr209).tr2 fr218) tr218
theorem call_bq23 {E : ME} {Φ : Option AV → AM → Prop} {pc : Nat} {L : List (Option AV)} {st : List AV} {m : AM} {a : Nat × Nat} {idx : Nat} {x0 x1 x2 x3 : AV} {i : Nat} (hl : Cond.methodLink E.2.1 idx yX1_body ∈ TB) (hdep : 6 + 1 ≤ E.2.2.2.2.2.2) (hroom : a.1 + 0 ≤ E.2.2.2.2.1 ∧ a.2 + 0 ≤ E.2.2.2.2.2.1) (hsr : st.length ≤ 4) (hd : decode E.1 pc = .ok (.invokevirtual idx, 3)) (hsp : Sp_bq23 [vr 1 i, x0, x1, x2, x3] m (fun r m2 => B E Φ (pc + 3) L (r.toList ++ st) m2 a)) : B E Φ pc L (x3 :: x2 :: x1 :: x0 :: vr 1 i :: st) m a := b_callV S_bq23 [x0, x1, x2, x3] (RX1, TX1, 2) rfl rfl (by decide) (Or.inl hl) k1009 k28 k78 k1010 (show _ ∧ _ ∧ Option.map (fun d => d.parameters.length) (parseMethodDescriptor yX1_body.desc) = some 4 from by decide +kernel) ⟨hdep, by decide⟩ hroom hsr hd hsp
def Sp_aqM : List AV → AM → (Option AV → AM → Prop) → Prop := SpB 1 17 (fun q => True) (fun C p => mkV (C (40 + 2 * p)) (C (41 + 2 * p)) (C 1) p) (fun q T => mkT q T)
set_option maxRecDepth 20000 in
set_option maxHeartbeats 4000000 in
theorem S_aqM : Snd yX1_askedOf (ea 7) Sp_aqM := by
  refine Snd.of (by decide +kernel) rfl ?_ ?_
  · rintro av m Φ ⟨x, z, w, rfl, _⟩; exact Nat.le_of_ble_eq_true rfl
  rintro av m Φ ⟨x, z, w, rfl, C, p, T, k, hB, rfl, hp, rfl, rfl, hk, hq, hT, h⟩ hav hty
  have h5 := hB.1.2.2.2.2.1.2
  have hq15 := (hB.1.2.2.2.2.2.2.2.2.2 p hp).1
  have hkd : m.1 25 p = nI (C (40 + 2 * p)) := hB.2.1.2.2.2.2.2 p hp
  show B (ea 7) Φ 0 [some (vr 1 108), some (vr 2 20), some (vi (nI p)), some (vi (nI 1)), some (vi (nI k)), none] [] m (0, 0)
  refine b_aloadN (pc := 0) 1 dX1_askedOf_0 rfl rfl ?_
  refine gf2_0 (pc := 1) 21 rfl k268 dX1_askedOf_1 ?_
  refine gf5_3 (pc := 4) 25 rfl k137 dX1_askedOf_4 ?_
  refine b_iloadN (pc := 7) 2 dX1_askedOf_7 rfl rfl ?_
  refine b_iald (pc := 8) (by decide) ?_ dX1_askedOf_8 ?_
  rotate_left -- leaf 0: index at 8
  refine siG5 (pc := 9) notL_i (by decide) dX1_askedOf_9 ?_
  rotate_left -- leaf 1: at 11
  -- leaves: 0 index at 8; 1 at 11
  · exact n_in (by omega) (by omega)
  rw [n_cl (by omega), hkd]
  rcases (by omega : C (40 + 2 * p) = 1 ∨ C (40 + 2 * p) = 2 ∨ C (40 + 2 * p) = 3 ∨ C (40 + 2 * p) = 4 ∨ C (40 + 2 * p) = 5) with eq | eq | eq | eq | eq
  · have hV : mkV (C (40 + 2 * p)) (C (41 + 2 * p)) (C 1) p = nI (p + C 1) := by rw [eq]; rfl
    have hTr : mkT (C (40 + 2 * p)) T = bg (bg T 21) 20 := by rw [eq]; rfl
    have h : ∀ m2, Fr [108, 109] m m2 → CTr m2 (bg (bg T 21) 20) → Φ (some (vi (nI (p + C 1)))) m2 := fun m2 a b => by
      have t : Φ (some (vi (mkV (C (40 + 2 * p)) (C (41 + 2 * p)) (C 1) p))) m2 := h m2 a (by
        show CTr m2 (mkT (C (40 + 2 * p)) T)
        rw [hTr]; exact b)
      rw [hV] at t
      exact t
    rw [eq]
    refine b_aloadN (pc := 11) 0 dX1_askedOf_11 rfl rfl ?_
    refine b_aloadN (pc := 12) 1 dX1_askedOf_12 rfl rfl ?_
    refine b_iloadN (pc := 13) 2 dX1_askedOf_13 rfl rfl ?_
    refine b_iloadN (pc := 14) 3 dX1_askedOf_14 rfl rfl ?_
    refine b_if_ne (pc := 15) 27 dX1_askedOf_15 (by decide) (fun c15 => ?_) (fun c15 => ?_)
    refine b_tabAtG (pc := 27) 2 5 (by decide) k1005 rfl ?_ dX1_askedOf_27 dX1_askedOf_30 dX1_askedOf_32 ?_
    rotate_left -- leaf 0: table index at 27
    refine b_iloadG (pc := 33) 4 dX1_askedOf_33 rfl ?_
    refine call_bq21 (pc := 35) k1007 (by decide) ⟨Nat.le_of_ble_eq_true rfl, Nat.le_of_ble_eq_true rfl⟩ (Nat.le_of_ble_eq_true rfl) dX1_askedOf_35 ?_
    refine ⟨_, _, _, rfl, C, p, _, k, hB, rfl, hp, ?_, ?_, ?_, ?_, hT, fun m35 fr35 tr35 => ?_⟩
    rotate_left -- leaf 1: num of X1_body at 35
    rotate_left -- leaf 2: dep of X1_body at 35
    rotate_left -- leaf 3: lim of X1_body at 35
    rotate_left -- leaf 4: kd of X1_body at 35
    have hT := tr35
    have hB := hB.fr (fun a h1 h2 => fr35.2 a (by simp; omega))
    refine b_iret (pc := 38) rfl dX1_askedOf_38 ⟨Nat.le_of_ble_eq_true rfl, Nat.le_of_ble_eq_true rfl⟩ ?_
    rotate_left -- leaf 5: return at 38
    rotate_left -- leaf 6: at 18
    -- leaves: 0 table index at 27; 1 num of X1_body at 35; 2 dep of X1_body at 35; 3 lim of X1_body at 35; 4 kd of X1_body at 35; 5 return at 38; 6 at 18
    · exact n_in (by omega) (by omega)
    · exact numS (by omega) rfl
    · rfl
    · omega
    · exact trivial
    · exact h m35 fr35 tr35
    · exact absurd c15 (by decide)
  · have hV : mkV (C (40 + 2 * p)) (C (41 + 2 * p)) (C 1) p = nI 2 * nI (p + C 1) := by rw [eq]; rfl
    have hTr : mkT (C (40 + 2 * p)) T = bg (bg (bg T 24) 21) 20 := by rw [eq]; rfl
    have h : ∀ m2, Fr [108, 109] m m2 → CTr m2 (bg (bg (bg T 24) 21) 20) → Φ (some (vi (nI 2 * nI (p + C 1)))) m2 := fun m2 a b => by
      have t : Φ (some (vi (mkV (C (40 + 2 * p)) (C (41 + 2 * p)) (C 1) p))) m2 := h m2 a (by
        show CTr m2 (mkT (C (40 + 2 * p)) T)
        rw [hTr]; exact b)
      rw [hV] at t
      exact t
    rw [eq]
    refine b_aloadN (pc := 11) 0 dX1_askedOf_11 rfl rfl ?_
    refine b_aloadN (pc := 12) 1 dX1_askedOf_12 rfl rfl ?_
    refine b_iloadN (pc := 13) 2 dX1_askedOf_13 rfl rfl ?_
    refine b_iloadN (pc := 14) 3 dX1_askedOf_14 rfl rfl ?_
    refine b_if_ne (pc := 15) 27 dX1_askedOf_15 (by decide) (fun c15 => ?_) (fun c15 => ?_)
    refine b_tabAtG (pc := 27) 2 5 (by decide) k1005 rfl ?_ dX1_askedOf_27 dX1_askedOf_30 dX1_askedOf_32 ?_
    rotate_left -- leaf 0: table index at 27
    refine b_iloadG (pc := 33) 4 dX1_askedOf_33 rfl ?_
    refine call_bq24 (pc := 35) k1007 (by decide) ⟨Nat.le_of_ble_eq_true rfl, Nat.le_of_ble_eq_true rfl⟩ (Nat.le_of_ble_eq_true rfl) dX1_askedOf_35 ?_
    refine ⟨_, _, _, rfl, C, p, _, k, hB, rfl, hp, ?_, ?_, ?_, ?_, hT, fun m35 fr35 tr35 => ?_⟩
    rotate_left -- leaf 1: num of X1_body at 35
    rotate_left -- leaf 2: dep of X1_body at 35
    rotate_left -- leaf 3: lim of X1_body at 35
    rotate_left -- leaf 4: kd of X1_body at 35
    have hT := tr35
    have hB := hB.fr (fun a h1 h2 => fr35.2 a (by simp; omega))
    refine b_iret (pc := 38) rfl dX1_askedOf_38 ⟨Nat.le_of_ble_eq_true rfl, Nat.le_of_ble_eq_true rfl⟩ ?_
    rotate_left -- leaf 5: return at 38
    rotate_left -- leaf 6: at 18
    -- leaves: 0 table index at 27; 1 num of X1_body at 35; 2 dep of X1_body at 35; 3 lim of X1_body at 35; 4 kd of X1_body at 35; 5 return at 38; 6 at 18
    · exact n_in (by omega) (by omega)
    · exact numS (by omega) rfl
    · rfl
    · omega
    · exact trivial
    · exact h m35 fr35 tr35
    · exact absurd c15 (by decide)
  · have hV : mkV (C (40 + 2 * p)) (C (41 + 2 * p)) (C 1) p = nI (p + C 1) - nI 1000 := by rw [eq]; rfl
    have hTr : mkT (C (40 + 2 * p)) T = bg (bg (bg T 22) 21) 20 := by rw [eq]; rfl
    have h : ∀ m2, Fr [108, 109] m m2 → CTr m2 (bg (bg (bg T 22) 21) 20) → Φ (some (vi (nI (p + C 1) - nI 1000))) m2 := fun m2 a b => by
      have t : Φ (some (vi (mkV (C (40 + 2 * p)) (C (41 + 2 * p)) (C 1) p))) m2 := h m2 a (by
        show CTr m2 (mkT (C (40 + 2 * p)) T)
        rw [hTr]; exact b)
      rw [hV] at t
      exact t
    rw [eq]
    refine b_aloadN (pc := 11) 0 dX1_askedOf_11 rfl rfl ?_
    refine b_aloadN (pc := 12) 1 dX1_askedOf_12 rfl rfl ?_
    refine b_iloadN (pc := 13) 2 dX1_askedOf_13 rfl rfl ?_
    refine b_iloadN (pc := 14) 3 dX1_askedOf_14 rfl rfl ?_
    refine b_if_ne (pc := 15) 27 dX1_askedOf_15 (by decide) (fun c15 => ?_) (fun c15 => ?_)
    refine b_tabAtG (pc := 27) 2 5 (by decide) k1005 rfl ?_ dX1_askedOf_27 dX1_askedOf_30 dX1_askedOf_32 ?_
    rotate_left -- leaf 0: table index at 27
    refine b_iloadG (pc := 33) 4 dX1_askedOf_33 rfl ?_
    refine call_bq22 (pc := 35) k1007 (by decide) ⟨Nat.le_of_ble_eq_true rfl, Nat.le_of_ble_eq_true rfl⟩ (Nat.le_of_ble_eq_true rfl) dX1_askedOf_35 ?_
    refine ⟨_, _, _, rfl, C, p, _, k, hB, rfl, hp, ?_, ?_, ?_, ?_, hT, fun m35 fr35 tr35 => ?_⟩
    rotate_left -- leaf 1: num of X1_body at 35
    rotate_left -- leaf 2: dep of X1_body at 35
    rotate_left -- leaf 3: lim of X1_body at 35
    rotate_left -- leaf 4: kd of X1_body at 35
    have hT := tr35
    have hB := hB.fr (fun a h1 h2 => fr35.2 a (by simp; omega))
    refine b_iret (pc := 38) rfl dX1_askedOf_38 ⟨Nat.le_of_ble_eq_true rfl, Nat.le_of_ble_eq_true rfl⟩ ?_
    rotate_left -- leaf 5: return at 38
    rotate_left -- leaf 6: at 18
    -- leaves: 0 table index at 27; 1 num of X1_body at 35; 2 dep of X1_body at 35; 3 lim of X1_body at 35; 4 kd of X1_body at 35; 5 return at 38; 6 at 18
    · exact n_in (by omega) (by omega)
    · exact numS (by omega) rfl
    · rfl
    · omega
    · exact trivial
    · exact h m35 fr35 tr35
    · exact absurd c15 (by decide)
  · have hV : mkV (C (40 + 2 * p)) (C (41 + 2 * p)) (C 1) p = nI p - qsV (C (40 + 2 * p)) (C (41 + 2 * p)) := by rw [eq]; rfl
    have hTr : mkT (C (40 + 2 * p)) T = qsT (C (40 + 2 * p)) (bg (bg T 23) 20) := by rw [eq]; rfl
    have h : ∀ m2, Fr [108, 109] m m2 → CTr m2 (qsT (C (40 + 2 * p)) (bg (bg T 23) 20)) → Φ (some (vi (nI p - qsV (C (40 + 2 * p)) (C (41 + 2 * p))))) m2 := fun m2 a b => by
      have t : Φ (some (vi (mkV (C (40 + 2 * p)) (C (41 + 2 * p)) (C 1) p))) m2 := h m2 a (by
        show CTr m2 (mkT (C (40 + 2 * p)) T)
        rw [hTr]; exact b)
      rw [hV] at t
      exact t
    rw [eq]
    refine b_aloadN (pc := 11) 0 dX1_askedOf_11 rfl rfl ?_
    refine b_aloadN (pc := 12) 1 dX1_askedOf_12 rfl rfl ?_
    refine b_iloadN (pc := 13) 2 dX1_askedOf_13 rfl rfl ?_
    refine b_iloadN (pc := 14) 3 dX1_askedOf_14 rfl rfl ?_
    refine b_if_ne (pc := 15) 27 dX1_askedOf_15 (by decide) (fun c15 => ?_) (fun c15 => ?_)
    refine b_tabAtG (pc := 27) 2 5 (by decide) k1005 rfl ?_ dX1_askedOf_27 dX1_askedOf_30 dX1_askedOf_32 ?_
    rotate_left -- leaf 0: table index at 27
    refine b_iloadG (pc := 33) 4 dX1_askedOf_33 rfl ?_
    refine call_bq23 (pc := 35) k1007 (by decide) ⟨Nat.le_of_ble_eq_true rfl, Nat.le_of_ble_eq_true rfl⟩ (Nat.le_of_ble_eq_true rfl) dX1_askedOf_35 ?_
    refine ⟨_, _, _, rfl, C, p, _, k, hB, rfl, hp, ?_, ?_, ?_, ?_, hT, fun m35 fr35 tr35 => ?_⟩
    rotate_left -- leaf 1: num of X1_body at 35
    rotate_left -- leaf 2: dep of X1_body at 35
    rotate_left -- leaf 3: lim of X1_body at 35
    rotate_left -- leaf 4: kd of X1_body at 35
    have hT := tr35
    have hB := hB.fr (fun a h1 h2 => fr35.2 a (by simp; omega))
    refine b_iret (pc := 38) rfl dX1_askedOf_38 ⟨Nat.le_of_ble_eq_true rfl, Nat.le_of_ble_eq_true rfl⟩ ?_
    rotate_left -- leaf 5: return at 38
    rotate_left -- leaf 6: at 18
    -- leaves: 0 table index at 27; 1 num of X1_body at 35; 2 dep of X1_body at 35; 3 lim of X1_body at 35; 4 kd of X1_body at 35; 5 return at 38; 6 at 18
    · exact n_in (by omega) (by omega)
    · exact numS (by omega) rfl
    · rfl
    · omega
    · exact (show 4 ≤ C (40 + 2 * p) by omega)
    · exact h m35 fr35 tr35
    · exact absurd c15 (by decide)
  · have hV : mkV (C (40 + 2 * p)) (C (41 + 2 * p)) (C 1) p = nI p - qsV (C (40 + 2 * p)) (C (41 + 2 * p)) := by rw [eq]; rfl
    have hTr : mkT (C (40 + 2 * p)) T = qsT (C (40 + 2 * p)) (bg (bg T 23) 20) := by rw [eq]; rfl
    have h : ∀ m2, Fr [108, 109] m m2 → CTr m2 (qsT (C (40 + 2 * p)) (bg (bg T 23) 20)) → Φ (some (vi (nI p - qsV (C (40 + 2 * p)) (C (41 + 2 * p))))) m2 := fun m2 a b => by
      have t : Φ (some (vi (mkV (C (40 + 2 * p)) (C (41 + 2 * p)) (C 1) p))) m2 := h m2 a (by
        show CTr m2 (mkT (C (40 + 2 * p)) T)
        rw [hTr]; exact b)
      rw [hV] at t
      exact t
    rw [eq]
    refine b_aloadN (pc := 11) 0 dX1_askedOf_11 rfl rfl ?_
    refine b_aloadN (pc := 12) 1 dX1_askedOf_12 rfl rfl ?_
    refine b_iloadN (pc := 13) 2 dX1_askedOf_13 rfl rfl ?_
    refine b_iloadN (pc := 14) 3 dX1_askedOf_14 rfl rfl ?_
    refine b_if_ne (pc := 15) 27 dX1_askedOf_15 (by decide) (fun c15 => ?_) (fun c15 => ?_)
    refine b_tabAtG (pc := 27) 2 5 (by decide) k1005 rfl ?_ dX1_askedOf_27 dX1_askedOf_30 dX1_askedOf_32 ?_
    rotate_left -- leaf 0: table index at 27
    refine b_iloadG (pc := 33) 4 dX1_askedOf_33 rfl ?_
    refine call_bq23 (pc := 35) k1007 (by decide) ⟨Nat.le_of_ble_eq_true rfl, Nat.le_of_ble_eq_true rfl⟩ (Nat.le_of_ble_eq_true rfl) dX1_askedOf_35 ?_
    refine ⟨_, _, _, rfl, C, p, _, k, hB, rfl, hp, ?_, ?_, ?_, ?_, hT, fun m35 fr35 tr35 => ?_⟩
    rotate_left -- leaf 1: num of X1_body at 35
    rotate_left -- leaf 2: dep of X1_body at 35
    rotate_left -- leaf 3: lim of X1_body at 35
    rotate_left -- leaf 4: kd of X1_body at 35
    have hT := tr35
    have hB := hB.fr (fun a h1 h2 => fr35.2 a (by simp; omega))
    refine b_iret (pc := 38) rfl dX1_askedOf_38 ⟨Nat.le_of_ble_eq_true rfl, Nat.le_of_ble_eq_true rfl⟩ ?_
    rotate_left -- leaf 5: return at 38
    rotate_left -- leaf 6: at 18
    -- leaves: 0 table index at 27; 1 num of X1_body at 35; 2 dep of X1_body at 35; 3 lim of X1_body at 35; 4 kd of X1_body at 35; 5 return at 38; 6 at 18
    · exact n_in (by omega) (by omega)
    · exact numS (by omega) rfl
    · rfl
    · omega
    · exact (show 4 ≤ C (40 + 2 * p) by omega)
    · exact h m35 fr35 tr35
    · exact absurd c15 (by decide)
theorem call_aqM {E : ME} {Φ : Option AV → AM → Prop} {pc : Nat} {L : List (Option AV)} {st : List AV} {m : AM} {a : Nat × Nat} {idx : Nat} {x0 x1 x2 x3 : AV} {i : Nat} (hl : Cond.methodLink E.2.1 idx yX1_askedOf ∈ TB) (hdep : 7 + 1 ≤ E.2.2.2.2.2.2) (hroom : a.1 + 0 ≤ E.2.2.2.2.1 ∧ a.2 + 0 ≤ E.2.2.2.2.2.1) (hsr : st.length ≤ 4) (hd : decode E.1 pc = .ok (.invokevirtual idx, 3)) (hsp : Sp_aqM [vr 1 i, x0, x1, x2, x3] m (fun r m2 => B E Φ (pc + 3) L (r.toList ++ st) m2 a)) : B E Φ pc L (x3 :: x2 :: x1 :: x0 :: vr 1 i :: st) m a := b_callV S_aqM [x0, x1, x2, x3] (RX1, TX1, 2) rfl rfl (by decide) (Or.inl hl) k1001 k27 k78 k1002 (show _ ∧ _ ∧ Option.map (fun d => d.parameters.length) (parseMethodDescriptor yX1_askedOf.desc) = some 4 from by decide +kernel) ⟨hdep, by decide⟩ hroom hsr hd hsp
def Sp_bq11 : List AV → AM → (Option AV → AM → Prop) → Prop := SpB 11 16 (fun q => True) (fun C p => nI (C (41 + 2 * p)) + mkV (C (40 + 2 * p)) (C (41 + 2 * p)) (C 1) p) (fun q T => mkT q (bg (bg T 11) 10))
set_option maxRecDepth 20000 in
set_option maxHeartbeats 4000000 in
theorem S_bq11 : Snd yX1_body (eb 8) Sp_bq11 := by
  refine Snd.of (by decide +kernel) rfl ?_ ?_
  · rintro av m Φ ⟨x, z, w, rfl, _⟩; exact Nat.le_of_ble_eq_true rfl
  rintro av m Φ ⟨x, z, w, rfl, C, p, T, k, hB, rfl, hp, rfl, rfl, hk, hq, hT, h⟩ hav hty
  have h5 := hB.1.2.2.2.2.1.2
  have hq15 := (hB.1.2.2.2.2.2.2.2.2.2 p hp).1
  show B (eb 8) Φ 0 [some (vr 1 108), some (vr 2 20), some (vi (nI p)), some (vi (nI 11)), some (vi (nI k)), none] [] m (0, 0)
  refine b_iloadG (pc := 0) 4 dX1_body_0 rfl ?_
  refine b_bipush (pc := 2) (nI 20) dX1_body_2 (by decide) ?_
  refine b_icmp_le (pc := 4) 9 dX1_body_4 (by decide) (fun c4 => ?_) (fun c4 => ?_)
  refine b_aloadN (pc := 9) 0 dX1_body_9 rfl rfl ?_
  refine b_iloadN (pc := 10) 3 dX1_body_10 rfl rfl ?_
  refine call_X1_leave (pc := 11) k1011 (by decide) ⟨Nat.le_of_ble_eq_true rfl, Nat.le_of_ble_eq_true rfl⟩ (Nat.le_of_ble_eq_true rfl) dX1_body_11 ?_
  refine ⟨_, rfl, _, _, hT, rfl, fun m11 fr11 tr11 => ?_⟩
  have hT := tr11
  have hB := hB.fr (fun a h1 h2 => fr11.2 a (by simp; omega))
  refine b_iloadG (pc := 14) 4 dX1_body_14 rfl ?_
  refine b_iconst (pc := 16) (nI 1) dX1_body_16 (by decide) ?_
  refine b_iadd (pc := 17) dX1_body_17 ?_
  refine siG5 (pc := 18) notL_i (by decide) dX1_body_18 ?_
  rotate_left -- leaf 0: at 20
  rotate_left -- leaf 1: at 7
  -- leaves: 0 at 20; 1 at 7
  rotate_left
  · rw [n_le (by omega) (by omega)] at c4; omega
  refine b_iloadN (pc := 20) 3 dX1_body_20 rfl rfl ?_
  refine b_tableIn (pc := 21) (off := 85) 106 dX1_body_21 (by decide) (by decide) (by decide) (by decide) ?_
  refine b_aloadN (pc := 106) 0 dX1_body_106 rfl rfl ?_
  refine b_aloadN (pc := 107) 1 dX1_body_107 rfl rfl ?_
  refine b_iloadN (pc := 108) 2 dX1_body_108 rfl rfl ?_
  refine b_bipush (pc := 109) (nI 10) dX1_body_109 (by decide) ?_
  refine b_iloadG (pc := 111) 5 dX1_body_111 rfl ?_
  refine call_bq10 (pc := 113) k1007 (by decide) ⟨Nat.le_of_ble_eq_true rfl, Nat.le_of_ble_eq_true rfl⟩ (Nat.le_of_ble_eq_true rfl) dX1_body_113 ?_
  refine ⟨_, _, _, rfl, C, p, _, k + 1, hB, rfl, hp, ?_, ?_, ?_, ?_, hT, fun m113 fr113 tr113 => ?_⟩
  rotate_left -- leaf 0: num of X1_body at 113
  rotate_left -- leaf 1: dep of X1_body at 113
  rotate_left -- leaf 2: lim of X1_body at 113
  rotate_left -- leaf 3: kd of X1_body at 113
  have hT := tr113
  have hB := hB.fr (fun a h1 h2 => fr113.2 a (by simp; omega))
  refine b_aloadN (pc := 116) 0 dX1_body_116 rfl rfl ?_
  refine b_aloadN (pc := 117) 1 dX1_body_117 rfl rfl ?_
  refine b_iloadN (pc := 118) 2 dX1_body_118 rfl rfl ?_
  refine b_iconst (pc := 119) (nI 1) dX1_body_119 (by decide) ?_
  refine b_iloadG (pc := 120) 5 dX1_body_120 rfl ?_
  refine call_aqM (pc := 122) k999 (by decide) ⟨Nat.le_of_ble_eq_true rfl, Nat.le_of_ble_eq_true rfl⟩ (Nat.le_of_ble_eq_true rfl) dX1_body_122 ?_
  refine ⟨_, _, _, rfl, C, p, _, k + 1, hB, rfl, hp, ?_, ?_, ?_, ?_, hT, fun m122 fr122 tr122 => ?_⟩
  rotate_left -- leaf 4: num of X1_askedOf at 122
  rotate_left -- leaf 5: dep of X1_askedOf at 122
  rotate_left -- leaf 6: lim of X1_askedOf at 122
  rotate_left -- leaf 7: kd of X1_askedOf at 122
  have hT := tr122
  have hB := hB.fr (fun a h1 h2 => fr122.2 a (by simp; omega))
  refine b_iadd (pc := 125) dX1_body_125 ?_
  refine b_iret (pc := 126) rfl dX1_body_126 ⟨Nat.le_of_ble_eq_true rfl, Nat.le_of_ble_eq_true rfl⟩ ?_
  rotate_left -- leaf 8: return at 126
  -- leaves: 0 num of X1_body at 113; 1 dep of X1_body at 113; 2 lim of X1_body at 113; 3 kd of X1_body at 113; 4 num of X1_askedOf at 122; 5 dep of X1_askedOf at 122; 6 lim of X1_askedOf at 122; 7 kd of X1_askedOf at 122; 8 return at 126
  · rfl
  · exact n_add _ _
  · omega
  · exact trivial
  · rfl
  · exact n_add _ _
  · omega
  · exact trivial
  · exact h m122 ((fr11.tr2 fr113).tr2 fr122) tr122
theorem call_bq11 {E : ME} {Φ : Option AV → AM → Prop} {pc : Nat} {L : List (Option AV)} {st : List AV} {m : AM} {a : Nat × Nat} {idx : Nat} {x0 x1 x2 x3 : AV} {i : Nat} (hl : Cond.methodLink E.2.1 idx yX1_body ∈ TB) (hdep : 8 + 1 ≤ E.2.2.2.2.2.2) (hroom : a.1 + 0 ≤ E.2.2.2.2.1 ∧ a.2 + 0 ≤ E.2.2.2.2.2.1) (hsr : st.length ≤ 4) (hd : decode E.1 pc = .ok (.invokevirtual idx, 3)) (hsp : Sp_bq11 [vr 1 i, x0, x1, x2, x3] m (fun r m2 => B E Φ (pc + 3) L (r.toList ++ st) m2 a)) : B E Φ pc L (x3 :: x2 :: x1 :: x0 :: vr 1 i :: st) m a := b_callV S_bq11 [x0, x1, x2, x3] (RX1, TX1, 2) rfl rfl (by decide) (Or.inl hl) k1009 k28 k78 k1010 (show _ ∧ _ ∧ Option.map (fun d => d.parameters.length) (parseMethodDescriptor yX1_body.desc) = some 4 from by decide +kernel) ⟨hdep, by decide⟩ hroom hsr hd hsp
def Sp_bq12 : List AV → AM → (Option AV → AM → Prop) → Prop := SpB 12 15 (fun q => True) (fun C p => -(nI (C (41 + 2 * p)) + mkV (C (40 + 2 * p)) (C (41 + 2 * p)) (C 1) p)) (fun q T => mkT q (bg (bg (bg T 12) 11) 10))
set_option maxRecDepth 20000 in
set_option maxHeartbeats 4000000 in
theorem S_bq12 : Snd yX1_body (eb 9) Sp_bq12 := by
  refine Snd.of (by decide +kernel) rfl ?_ ?_
  · rintro av m Φ ⟨x, z, w, rfl, _⟩; exact Nat.le_of_ble_eq_true rfl
  rintro av m Φ ⟨x, z, w, rfl, C, p, T, k, hB, rfl, hp, rfl, rfl, hk, hq, hT, h⟩ hav hty
  have h5 := hB.1.2.2.2.2.1.2
  have hq15 := (hB.1.2.2.2.2.2.2.2.2.2 p hp).1
  show B (eb 9) Φ 0 [some (vr 1 108), some (vr 2 20), some (vi (nI p)), some (vi (nI 12)), some (vi (nI k)), none] [] m (0, 0)
  refine b_iloadG (pc := 0) 4 dX1_body_0 rfl ?_
  refine b_bipush (pc := 2) (nI 20) dX1_body_2 (by decide) ?_
  refine b_icmp_le (pc := 4) 9 dX1_body_4 (by decide) (fun c4 => ?_) (fun c4 => ?_)
  refine b_aloadN (pc := 9) 0 dX1_body_9 rfl rfl ?_
  refine b_iloadN (pc := 10) 3 dX1_body_10 rfl rfl ?_
  refine call_X1_leave (pc := 11) k1011 (by decide) ⟨Nat.le_of_ble_eq_true rfl, Nat.le_of_ble_eq_true rfl⟩ (Nat.le_of_ble_eq_true rfl) dX1_body_11 ?_
  refine ⟨_, rfl, _, _, hT, rfl, fun m11 fr11 tr11 => ?_⟩
  have hT := tr11
  have hB := hB.fr (fun a h1 h2 => fr11.2 a (by simp; omega))
  refine b_iloadG (pc := 14) 4 dX1_body_14 rfl ?_
  refine b_iconst (pc := 16) (nI 1) dX1_body_16 (by decide) ?_
  refine b_iadd (pc := 17) dX1_body_17 ?_
  refine siG5 (pc := 18) notL_i (by decide) dX1_body_18 ?_
  rotate_left -- leaf 0: at 20
  rotate_left -- leaf 1: at 7
  -- leaves: 0 at 20; 1 at 7
  rotate_left
  · rw [n_le (by omega) (by omega)] at c4; omega
  refine b_iloadN (pc := 20) 3 dX1_body_20 rfl rfl ?_
  refine b_tableIn (pc := 21) (off := 106) 127 dX1_body_21 (by decide) (by decide) (by decide) (by decide) ?_
  refine b_aloadN (pc := 127) 0 dX1_body_127 rfl rfl ?_
  refine b_aloadN (pc := 128) 1 dX1_body_128 rfl rfl ?_
  refine b_iloadN (pc := 129) 2 dX1_body_129 rfl rfl ?_
  refine b_bipush (pc := 130) (nI 11) dX1_body_130 (by decide) ?_
  refine b_iloadG (pc := 132) 5 dX1_body_132 rfl ?_
  refine call_bq11 (pc := 134) k1007 (by decide) ⟨Nat.le_of_ble_eq_true rfl, Nat.le_of_ble_eq_true rfl⟩ (Nat.le_of_ble_eq_true rfl) dX1_body_134 ?_
  refine ⟨_, _, _, rfl, C, p, _, k + 1, hB, rfl, hp, ?_, ?_, ?_, ?_, hT, fun m134 fr134 tr134 => ?_⟩
  rotate_left -- leaf 0: num of X1_body at 134
  rotate_left -- leaf 1: dep of X1_body at 134
  rotate_left -- leaf 2: lim of X1_body at 134
  rotate_left -- leaf 3: kd of X1_body at 134
  have hT := tr134
  have hB := hB.fr (fun a h1 h2 => fr134.2 a (by simp; omega))
  refine b_ineg (pc := 137) dX1_body_137 ?_
  refine b_iret (pc := 138) rfl dX1_body_138 ⟨Nat.le_of_ble_eq_true rfl, Nat.le_of_ble_eq_true rfl⟩ ?_
  rotate_left -- leaf 4: return at 138
  -- leaves: 0 num of X1_body at 134; 1 dep of X1_body at 134; 2 lim of X1_body at 134; 3 kd of X1_body at 134; 4 return at 138
  · rfl
  · exact n_add _ _
  · omega
  · exact trivial
  · exact h m134 (fr11.tr2 fr134) tr134
theorem call_bq12 {E : ME} {Φ : Option AV → AM → Prop} {pc : Nat} {L : List (Option AV)} {st : List AV} {m : AM} {a : Nat × Nat} {idx : Nat} {x0 x1 x2 x3 : AV} {i : Nat} (hl : Cond.methodLink E.2.1 idx yX1_body ∈ TB) (hdep : 9 + 1 ≤ E.2.2.2.2.2.2) (hroom : a.1 + 0 ≤ E.2.2.2.2.1 ∧ a.2 + 0 ≤ E.2.2.2.2.2.1) (hsr : st.length ≤ 4) (hd : decode E.1 pc = .ok (.invokevirtual idx, 3)) (hsp : Sp_bq12 [vr 1 i, x0, x1, x2, x3] m (fun r m2 => B E Φ (pc + 3) L (r.toList ++ st) m2 a)) : B E Φ pc L (x3 :: x2 :: x1 :: x0 :: vr 1 i :: st) m a := b_callV S_bq12 [x0, x1, x2, x3] (RX1, TX1, 2) rfl rfl (by decide) (Or.inl hl) k1009 k28 k78 k1010 (show _ ∧ _ ∧ Option.map (fun d => d.parameters.length) (parseMethodDescriptor yX1_body.desc) = some 4 from by decide +kernel) ⟨hdep, by decide⟩ hroom hsr hd hsp
def Sp_aqA : List AV → AM → (Option AV → AM → Prop) → Prop := SpB 0 15 (fun q => True) (fun C p => szV (C (40 + 2 * p)) (C (41 + 2 * p)) (C 1) p) (fun q T => szT q T)
set_option maxRecDepth 20000 in
set_option maxHeartbeats 4000000 in
theorem S_aqA : Snd yX1_askedOf (ea 10) Sp_aqA := by
  refine Snd.of (by decide +kernel) rfl ?_ ?_
  · rintro av m Φ ⟨x, z, w, rfl, _⟩; exact Nat.le_of_ble_eq_true rfl
  rintro av m Φ ⟨x, z, w, rfl, C, p, T, k, hB, rfl, hp, rfl, rfl, hk, hq, hT, h⟩ hav hty
  have h5 := hB.1.2.2.2.2.1.2
  have hq15 := (hB.1.2.2.2.2.2.2.2.2.2 p hp).1
  have hkd : m.1 25 p = nI (C (40 + 2 * p)) := hB.2.1.2.2.2.2.2 p hp
  show B (ea 10) Φ 0 [some (vr 1 108), some (vr 2 20), some (vi (nI p)), some (vi (nI 0)), some (vi (nI k)), none] [] m (0, 0)
  refine b_aloadN (pc := 0) 1 dX1_askedOf_0 rfl rfl ?_
  refine gf2_0 (pc := 1) 21 rfl k268 dX1_askedOf_1 ?_
  refine gf5_3 (pc := 4) 25 rfl k137 dX1_askedOf_4 ?_
  refine b_iloadN (pc := 7) 2 dX1_askedOf_7 rfl rfl ?_
  refine b_iald (pc := 8) (by decide) ?_ dX1_askedOf_8 ?_
  rotate_left -- leaf 0: index at 8
  refine siG5 (pc := 9) notL_i (by decide) dX1_askedOf_9 ?_
  rotate_left -- leaf 1: at 11
  -- leaves: 0 index at 8; 1 at 11
  · exact n_in (by omega) (by omega)
  rw [n_cl (by omega), hkd]
  rcases (by omega : C (40 + 2 * p) = 1 ∨ C (40 + 2 * p) = 2 ∨ C (40 + 2 * p) = 3 ∨ C (40 + 2 * p) = 4 ∨ C (40 + 2 * p) = 5) with eq | eq | eq | eq | eq
  · have hV : szV (C (40 + 2 * p)) (C (41 + 2 * p)) (C 1) p = nI (C (41 + 2 * p)) + mkV (C (40 + 2 * p)) (C (41 + 2 * p)) (C 1) p := by rw [eq]; rfl
    have hTr : szT (C (40 + 2 * p)) T = mkT (C (40 + 2 * p)) (bg (bg T 11) 10) := by rw [eq]; rfl
    have h : ∀ m2, Fr [108, 109] m m2 → CTr m2 (mkT (C (40 + 2 * p)) (bg (bg T 11) 10)) → Φ (some (vi (nI (C (41 + 2 * p)) + mkV (C (40 + 2 * p)) (C (41 + 2 * p)) (C 1) p))) m2 := fun m2 a b => by
      have t : Φ (some (vi (szV (C (40 + 2 * p)) (C (41 + 2 * p)) (C 1) p))) m2 := h m2 a (by
        show CTr m2 (szT (C (40 + 2 * p)) T)
        rw [hTr]; exact b)
      rw [hV] at t
      exact t
    rw [eq]
    refine b_aloadN (pc := 11) 0 dX1_askedOf_11 rfl rfl ?_
    refine b_aloadN (pc := 12) 1 dX1_askedOf_12 rfl rfl ?_
    refine b_iloadN (pc := 13) 2 dX1_askedOf_13 rfl rfl ?_
    refine b_iloadN (pc := 14) 3 dX1_askedOf_14 rfl rfl ?_
    refine b_if_ne (pc := 15) 27 dX1_askedOf_15 (by decide) (fun c15 => ?_) (fun c15 => ?_)
    rotate_left -- leaf 0: at 27
    refine b_tabAtG (pc := 18) 1 5 (by decide) k1003 rfl ?_ dX1_askedOf_18 dX1_askedOf_21 dX1_askedOf_23 ?_
    rotate_left -- leaf 1: table index at 18
    refine b_goto (pc := 24) 33 dX1_askedOf_24 (by decide) ?_
    refine b_iloadG (pc := 33) 4 dX1_askedOf_33 rfl ?_
    refine call_bq11 (pc := 35) k1007 (by decide) ⟨Nat.le_of_ble_eq_true rfl, Nat.le_of_ble_eq_true rfl⟩ (Nat.le_of_ble_eq_true rfl) dX1_askedOf_35 ?_
    refine ⟨_, _, _, rfl, C, p, _, k, hB, rfl, hp, ?_, ?_, ?_, ?_, hT, fun m35 fr35 tr35 => ?_⟩
    rotate_left -- leaf 2: num of X1_body at 35
    rotate_left -- leaf 3: dep of X1_body at 35
    rotate_left -- leaf 4: lim of X1_body at 35
    rotate_left -- leaf 5: kd of X1_body at 35
    have hT := tr35
    have hB := hB.fr (fun a h1 h2 => fr35.2 a (by simp; omega))
    refine b_iret (pc := 38) rfl dX1_askedOf_38 ⟨Nat.le_of_ble_eq_true rfl, Nat.le_of_ble_eq_true rfl⟩ ?_
    rotate_left -- leaf 6: return at 38
    -- leaves: 0 at 27; 1 table index at 18; 2 num of X1_body at 35; 3 dep of X1_body at 35; 4 lim of X1_body at 35; 5 kd of X1_body at 35; 6 return at 38
    · exact absurd rfl c15
    · exact n_in (by omega) (by omega)
    · exact numS (by omega) rfl
    · rfl
    · omega
    · exact trivial
    · exact h m35 fr35 tr35
  · have hV : szV (C (40 + 2 * p)) (C (41 + 2 * p)) (C 1) p = -(nI (C (41 + 2 * p)) + mkV (C (40 + 2 * p)) (C (41 + 2 * p)) (C 1) p) := by rw [eq]; rfl
    have hTr : szT (C (40 + 2 * p)) T = mkT (C (40 + 2 * p)) (bg (bg (bg T 12) 11) 10) := by rw [eq]; rfl
    have h : ∀ m2, Fr [108, 109] m m2 → CTr m2 (mkT (C (40 + 2 * p)) (bg (bg (bg T 12) 11) 10)) → Φ (some (vi (-(nI (C (41 + 2 * p)) + mkV (C (40 + 2 * p)) (C (41 + 2 * p)) (C 1) p)))) m2 := fun m2 a b => by
      have t : Φ (some (vi (szV (C (40 + 2 * p)) (C (41 + 2 * p)) (C 1) p))) m2 := h m2 a (by
        show CTr m2 (szT (C (40 + 2 * p)) T)
        rw [hTr]; exact b)
      rw [hV] at t
      exact t
    rw [eq]
    refine b_aloadN (pc := 11) 0 dX1_askedOf_11 rfl rfl ?_
    refine b_aloadN (pc := 12) 1 dX1_askedOf_12 rfl rfl ?_
    refine b_iloadN (pc := 13) 2 dX1_askedOf_13 rfl rfl ?_
    refine b_iloadN (pc := 14) 3 dX1_askedOf_14 rfl rfl ?_
    refine b_if_ne (pc := 15) 27 dX1_askedOf_15 (by decide) (fun c15 => ?_) (fun c15 => ?_)
    rotate_left -- leaf 0: at 27
    refine b_tabAtG (pc := 18) 1 5 (by decide) k1003 rfl ?_ dX1_askedOf_18 dX1_askedOf_21 dX1_askedOf_23 ?_
    rotate_left -- leaf 1: table index at 18
    refine b_goto (pc := 24) 33 dX1_askedOf_24 (by decide) ?_
    refine b_iloadG (pc := 33) 4 dX1_askedOf_33 rfl ?_
    refine call_bq12 (pc := 35) k1007 (by decide) ⟨Nat.le_of_ble_eq_true rfl, Nat.le_of_ble_eq_true rfl⟩ (Nat.le_of_ble_eq_true rfl) dX1_askedOf_35 ?_
    refine ⟨_, _, _, rfl, C, p, _, k, hB, rfl, hp, ?_, ?_, ?_, ?_, hT, fun m35 fr35 tr35 => ?_⟩
    rotate_left -- leaf 2: num of X1_body at 35
    rotate_left -- leaf 3: dep of X1_body at 35
    rotate_left -- leaf 4: lim of X1_body at 35
    rotate_left -- leaf 5: kd of X1_body at 35
    have hT := tr35
    have hB := hB.fr (fun a h1 h2 => fr35.2 a (by simp; omega))
    refine b_iret (pc := 38) rfl dX1_askedOf_38 ⟨Nat.le_of_ble_eq_true rfl, Nat.le_of_ble_eq_true rfl⟩ ?_
    rotate_left -- leaf 6: return at 38
    -- leaves: 0 at 27; 1 table index at 18; 2 num of X1_body at 35; 3 dep of X1_body at 35; 4 lim of X1_body at 35; 5 kd of X1_body at 35; 6 return at 38
    · exact absurd rfl c15
    · exact n_in (by omega) (by omega)
    · exact numS (by omega) rfl
    · rfl
    · omega
    · exact trivial
    · exact h m35 fr35 tr35
  · have hV : szV (C (40 + 2 * p)) (C (41 + 2 * p)) (C 1) p = nI (C (41 + 2 * p)) + mkV (C (40 + 2 * p)) (C (41 + 2 * p)) (C 1) p := by rw [eq]; rfl
    have hTr : szT (C (40 + 2 * p)) T = mkT (C (40 + 2 * p)) (bg (bg T 11) 10) := by rw [eq]; rfl
    have h : ∀ m2, Fr [108, 109] m m2 → CTr m2 (mkT (C (40 + 2 * p)) (bg (bg T 11) 10)) → Φ (some (vi (nI (C (41 + 2 * p)) + mkV (C (40 + 2 * p)) (C (41 + 2 * p)) (C 1) p))) m2 := fun m2 a b => by
      have t : Φ (some (vi (szV (C (40 + 2 * p)) (C (41 + 2 * p)) (C 1) p))) m2 := h m2 a (by
        show CTr m2 (szT (C (40 + 2 * p)) T)
        rw [hTr]; exact b)
      rw [hV] at t
      exact t
    rw [eq]
    refine b_aloadN (pc := 11) 0 dX1_askedOf_11 rfl rfl ?_
    refine b_aloadN (pc := 12) 1 dX1_askedOf_12 rfl rfl ?_
    refine b_iloadN (pc := 13) 2 dX1_askedOf_13 rfl rfl ?_
    refine b_iloadN (pc := 14) 3 dX1_askedOf_14 rfl rfl ?_
    refine b_if_ne (pc := 15) 27 dX1_askedOf_15 (by decide) (fun c15 => ?_) (fun c15 => ?_)
    rotate_left -- leaf 0: at 27
    refine b_tabAtG (pc := 18) 1 5 (by decide) k1003 rfl ?_ dX1_askedOf_18 dX1_askedOf_21 dX1_askedOf_23 ?_
    rotate_left -- leaf 1: table index at 18
    refine b_goto (pc := 24) 33 dX1_askedOf_24 (by decide) ?_
    refine b_iloadG (pc := 33) 4 dX1_askedOf_33 rfl ?_
    refine call_bq11 (pc := 35) k1007 (by decide) ⟨Nat.le_of_ble_eq_true rfl, Nat.le_of_ble_eq_true rfl⟩ (Nat.le_of_ble_eq_true rfl) dX1_askedOf_35 ?_
    refine ⟨_, _, _, rfl, C, p, _, k, hB, rfl, hp, ?_, ?_, ?_, ?_, hT, fun m35 fr35 tr35 => ?_⟩
    rotate_left -- leaf 2: num of X1_body at 35
    rotate_left -- leaf 3: dep of X1_body at 35
    rotate_left -- leaf 4: lim of X1_body at 35
    rotate_left -- leaf 5: kd of X1_body at 35
    have hT := tr35
    have hB := hB.fr (fun a h1 h2 => fr35.2 a (by simp; omega))
    refine b_iret (pc := 38) rfl dX1_askedOf_38 ⟨Nat.le_of_ble_eq_true rfl, Nat.le_of_ble_eq_true rfl⟩ ?_
    rotate_left -- leaf 6: return at 38
    -- leaves: 0 at 27; 1 table index at 18; 2 num of X1_body at 35; 3 dep of X1_body at 35; 4 lim of X1_body at 35; 5 kd of X1_body at 35; 6 return at 38
    · exact absurd rfl c15
    · exact n_in (by omega) (by omega)
    · exact numS (by omega) rfl
    · rfl
    · omega
    · exact trivial
    · exact h m35 fr35 tr35
  · have hV : szV (C (40 + 2 * p)) (C (41 + 2 * p)) (C 1) p = nI (C (41 + 2 * p)) - nI 100 := by rw [eq]; rfl
    have hTr : szT (C (40 + 2 * p)) T = bg (bg T 13) 10 := by rw [eq]; rfl
    have h : ∀ m2, Fr [108, 109] m m2 → CTr m2 (bg (bg T 13) 10) → Φ (some (vi (nI (C (41 + 2 * p)) - nI 100))) m2 := fun m2 a b => by
      have t : Φ (some (vi (szV (C (40 + 2 * p)) (C (41 + 2 * p)) (C 1) p))) m2 := h m2 a (by
        show CTr m2 (szT (C (40 + 2 * p)) T)
        rw [hTr]; exact b)
      rw [hV] at t
      exact t
    rw [eq]
    refine b_aloadN (pc := 11) 0 dX1_askedOf_11 rfl rfl ?_
    refine b_aloadN (pc := 12) 1 dX1_askedOf_12 rfl rfl ?_
    refine b_iloadN (pc := 13) 2 dX1_askedOf_13 rfl rfl ?_
    refine b_iloadN (pc := 14) 3 dX1_askedOf_14 rfl rfl ?_
    refine b_if_ne (pc := 15) 27 dX1_askedOf_15 (by decide) (fun c15 => ?_) (fun c15 => ?_)
    rotate_left -- leaf 0: at 27
    refine b_tabAtG (pc := 18) 1 5 (by decide) k1003 rfl ?_ dX1_askedOf_18 dX1_askedOf_21 dX1_askedOf_23 ?_
    rotate_left -- leaf 1: table index at 18
    refine b_goto (pc := 24) 33 dX1_askedOf_24 (by decide) ?_
    refine b_iloadG (pc := 33) 4 dX1_askedOf_33 rfl ?_
    refine call_bq13 (pc := 35) k1007 (by decide) ⟨Nat.le_of_ble_eq_true rfl, Nat.le_of_ble_eq_true rfl⟩ (Nat.le_of_ble_eq_true rfl) dX1_askedOf_35 ?_
    refine ⟨_, _, _, rfl, C, p, _, k, hB, rfl, hp, ?_, ?_, ?_, ?_, hT, fun m35 fr35 tr35 => ?_⟩
    rotate_left -- leaf 2: num of X1_body at 35
    rotate_left -- leaf 3: dep of X1_body at 35
    rotate_left -- leaf 4: lim of X1_body at 35
    rotate_left -- leaf 5: kd of X1_body at 35
    have hT := tr35
    have hB := hB.fr (fun a h1 h2 => fr35.2 a (by simp; omega))
    refine b_iret (pc := 38) rfl dX1_askedOf_38 ⟨Nat.le_of_ble_eq_true rfl, Nat.le_of_ble_eq_true rfl⟩ ?_
    rotate_left -- leaf 6: return at 38
    -- leaves: 0 at 27; 1 table index at 18; 2 num of X1_body at 35; 3 dep of X1_body at 35; 4 lim of X1_body at 35; 5 kd of X1_body at 35; 6 return at 38
    · exact absurd rfl c15
    · exact n_in (by omega) (by omega)
    · exact numS (by omega) rfl
    · rfl
    · omega
    · exact trivial
    · exact h m35 fr35 tr35
  · have hV : szV (C (40 + 2 * p)) (C (41 + 2 * p)) (C 1) p = nI 2 * (nI (C (41 + 2 * p)) - nI 100) := by rw [eq]; rfl
    have hTr : szT (C (40 + 2 * p)) T = bg (bg (bg T 14) 13) 10 := by rw [eq]; rfl
    have h : ∀ m2, Fr [108, 109] m m2 → CTr m2 (bg (bg (bg T 14) 13) 10) → Φ (some (vi (nI 2 * (nI (C (41 + 2 * p)) - nI 100)))) m2 := fun m2 a b => by
      have t : Φ (some (vi (szV (C (40 + 2 * p)) (C (41 + 2 * p)) (C 1) p))) m2 := h m2 a (by
        show CTr m2 (szT (C (40 + 2 * p)) T)
        rw [hTr]; exact b)
      rw [hV] at t
      exact t
    rw [eq]
    refine b_aloadN (pc := 11) 0 dX1_askedOf_11 rfl rfl ?_
    refine b_aloadN (pc := 12) 1 dX1_askedOf_12 rfl rfl ?_
    refine b_iloadN (pc := 13) 2 dX1_askedOf_13 rfl rfl ?_
    refine b_iloadN (pc := 14) 3 dX1_askedOf_14 rfl rfl ?_
    refine b_if_ne (pc := 15) 27 dX1_askedOf_15 (by decide) (fun c15 => ?_) (fun c15 => ?_)
    rotate_left -- leaf 0: at 27
    refine b_tabAtG (pc := 18) 1 5 (by decide) k1003 rfl ?_ dX1_askedOf_18 dX1_askedOf_21 dX1_askedOf_23 ?_
    rotate_left -- leaf 1: table index at 18
    refine b_goto (pc := 24) 33 dX1_askedOf_24 (by decide) ?_
    refine b_iloadG (pc := 33) 4 dX1_askedOf_33 rfl ?_
    refine call_bq14 (pc := 35) k1007 (by decide) ⟨Nat.le_of_ble_eq_true rfl, Nat.le_of_ble_eq_true rfl⟩ (Nat.le_of_ble_eq_true rfl) dX1_askedOf_35 ?_
    refine ⟨_, _, _, rfl, C, p, _, k, hB, rfl, hp, ?_, ?_, ?_, ?_, hT, fun m35 fr35 tr35 => ?_⟩
    rotate_left -- leaf 2: num of X1_body at 35
    rotate_left -- leaf 3: dep of X1_body at 35
    rotate_left -- leaf 4: lim of X1_body at 35
    rotate_left -- leaf 5: kd of X1_body at 35
    have hT := tr35
    have hB := hB.fr (fun a h1 h2 => fr35.2 a (by simp; omega))
    refine b_iret (pc := 38) rfl dX1_askedOf_38 ⟨Nat.le_of_ble_eq_true rfl, Nat.le_of_ble_eq_true rfl⟩ ?_
    rotate_left -- leaf 6: return at 38
    -- leaves: 0 at 27; 1 table index at 18; 2 num of X1_body at 35; 3 dep of X1_body at 35; 4 lim of X1_body at 35; 5 kd of X1_body at 35; 6 return at 38
    · exact absurd rfl c15
    · exact n_in (by omega) (by omega)
    · exact numS (by omega) rfl
    · rfl
    · omega
    · exact trivial
    · exact h m35 fr35 tr35
theorem call_aqA {E : ME} {Φ : Option AV → AM → Prop} {pc : Nat} {L : List (Option AV)} {st : List AV} {m : AM} {a : Nat × Nat} {idx : Nat} {x0 x1 x2 x3 : AV} {i : Nat} (hl : Cond.methodLink E.2.1 idx yX1_askedOf ∈ TB) (hdep : 10 + 1 ≤ E.2.2.2.2.2.2) (hroom : a.1 + 0 ≤ E.2.2.2.2.1 ∧ a.2 + 0 ≤ E.2.2.2.2.2.1) (hsr : st.length ≤ 4) (hd : decode E.1 pc = .ok (.invokevirtual idx, 3)) (hsp : Sp_aqA [vr 1 i, x0, x1, x2, x3] m (fun r m2 => B E Φ (pc + 3) L (r.toList ++ st) m2 a)) : B E Φ pc L (x3 :: x2 :: x1 :: x0 :: vr 1 i :: st) m a := b_callV S_aqA [x0, x1, x2, x3] (RX1, TX1, 2) rfl rfl (by decide) (Or.inl hl) k1001 k27 k78 k1002 (show _ ∧ _ ∧ Option.map (fun d => d.parameters.length) (parseMethodDescriptor yX1_askedOf.desc) = some 4 from by decide +kernel) ⟨hdep, by decide⟩ hroom hsr hd hsp
abbrev e_X1_answer : ME := (cX1_answer, (RX1, (4, ((some .int), (0, (0, 11))))))
theorem dX1_answer_0 : decode cX1_answer 0 = .ok (.aload_n 0, 1) := by decide +kernel
theorem dX1_answer_1 : decode cX1_answer 1 = .ok (.iconst 0, 1) := by decide +kernel
theorem dX1_answer_2 : decode cX1_answer 2 = .ok (.putfield 18, 3) := by decide +kernel
theorem dX1_answer_5 : decode cX1_answer 5 = .ok (.aload_n 0, 1) := by decide +kernel
theorem dX1_answer_6 : decode cX1_answer 6 = .ok (.aload_n 1, 1) := by decide +kernel
theorem dX1_answer_7 : decode cX1_answer 7 = .ok (.iload_n 2, 1) := by decide +kernel
theorem dX1_answer_8 : decode cX1_answer 8 = .ok (.iload_n 3, 1) := by decide +kernel
theorem dX1_answer_9 : decode cX1_answer 9 = .ok (.iconst 0, 1) := by decide +kernel
theorem dX1_answer_10 : decode cX1_answer 10 = .ok (.invokevirtual 23, 3) := by decide +kernel
theorem dX1_answer_13 : decode cX1_answer 13 = .ok (.ireturn, 1) := by decide +kernel
def Sp_X1_answer (av : List AV) (m : AM) (Φ : Option AV → AM → Prop) : Prop := ∃ x y, av = [vr 1 108, vr 2 20, vi x, vi y] ∧ ∃ C p w, BR m C ∧ x = nI p ∧ p < C 4 ∧ y = nI w ∧ w ≤ 1 ∧ ∀ m2, Fr [108, 109] m m2 → CTr m2 (if w = 0 then szT (C (40 + 2 * p)) T0 else mkT (C (40 + 2 * p)) T0) → Φ (some (vi (if w = 0 then szV (C (40 + 2 * p)) (C (41 + 2 * p)) (C 1) p else mkV (C (40 + 2 * p)) (C (41 + 2 * p)) (C 1) p))) m2
set_option maxRecDepth 20000 in
set_option maxHeartbeats 4000000 in
theorem S_X1_answer : Snd yX1_answer e_X1_answer Sp_X1_answer := by
  refine Snd.of (by decide +kernel) rfl ?_ ?_
  · rintro av m Φ ⟨x, y, rfl, _⟩; exact Nat.le_of_ble_eq_true rfl
  rintro av m Φ ⟨x, y, rfl, C, p, w, hB0, rfl, hp, rfl, hw, h⟩ hav hty
  show B e_X1_answer Φ 0 [some (vr 1 108), some (vr 2 20), some (vi (nI p)), some (vi (nI w))] [] m (0, 0)
  have hB : BR (mset m 108 1 (nI 0)) C := hB0.fr (fun a h1 h2 => mset_ne _ _ _ (by omega))
  have hT : CTr (mset m 108 1 (nI 0)) T0 := ⟨by rw [mset_at, if_pos rfl]; rfl, by decide, fun k hk => absurd hk (Nat.not_lt_zero k)⟩
  have f0 : Fr [108, 109] m (mset m 108 1 (nI 0)) := (Fr.rf _ m).ms (by simp)
  rcases (by omega : w = 0 ∨ w = 1) with rfl | rfl
  · skip
    refine b_aloadN (pc := 0) 0 dX1_answer_0 rfl rfl ?_
    refine b_iconst (pc := 1) (nI 0) dX1_answer_1 (by decide) ?_
    refine pf1_1 (pc := 2) k387 dX1_answer_2 ?_
    refine b_aloadN (pc := 5) 0 dX1_answer_5 rfl rfl ?_
    refine b_aloadN (pc := 6) 1 dX1_answer_6 rfl rfl ?_
    refine b_iloadN (pc := 7) 2 dX1_answer_7 rfl rfl ?_
    refine b_iloadN (pc := 8) 3 dX1_answer_8 rfl rfl ?_
    refine b_iconst (pc := 9) (nI 0) dX1_answer_9 (by decide) ?_
    refine call_aqA (pc := 10) k999 (by decide) ⟨Nat.le_of_ble_eq_true rfl, Nat.le_of_ble_eq_true rfl⟩ (Nat.le_of_ble_eq_true rfl) dX1_answer_10 ?_
    refine ⟨_, _, _, rfl, C, p, _, 0, hB, rfl, hp, ?_, ?_, ?_, ?_, hT, fun m10 fr10 tr10 => ?_⟩
    rotate_left -- leaf 0: num of X1_askedOf at 10
    rotate_left -- leaf 1: dep of X1_askedOf at 10
    rotate_left -- leaf 2: lim of X1_askedOf at 10
    rotate_left -- leaf 3: kd of X1_askedOf at 10
    have hT := tr10
    have hB := hB.fr (fun a h1 h2 => fr10.2 a (by simp; omega))
    refine b_iret (pc := 13) rfl dX1_answer_13 ⟨Nat.le_of_ble_eq_true rfl, Nat.le_of_ble_eq_true rfl⟩ ?_
    rotate_left -- leaf 4: return at 13
    -- leaves: 0 num of X1_askedOf at 10; 1 dep of X1_askedOf at 10; 2 lim of X1_askedOf at 10; 3 kd of X1_askedOf at 10; 4 return at 13
    · rfl
    · rfl
    · omega
    · exact trivial
    · exact h m10 (f0.tr2 fr10) tr10
  · skip
    refine b_aloadN (pc := 0) 0 dX1_answer_0 rfl rfl ?_
    refine b_iconst (pc := 1) (nI 0) dX1_answer_1 (by decide) ?_
    refine pf1_1 (pc := 2) k387 dX1_answer_2 ?_
    refine b_aloadN (pc := 5) 0 dX1_answer_5 rfl rfl ?_
    refine b_aloadN (pc := 6) 1 dX1_answer_6 rfl rfl ?_
    refine b_iloadN (pc := 7) 2 dX1_answer_7 rfl rfl ?_
    refine b_iloadN (pc := 8) 3 dX1_answer_8 rfl rfl ?_
    refine b_iconst (pc := 9) (nI 0) dX1_answer_9 (by decide) ?_
    refine call_aqM (pc := 10) k999 (by decide) ⟨Nat.le_of_ble_eq_true rfl, Nat.le_of_ble_eq_true rfl⟩ (Nat.le_of_ble_eq_true rfl) dX1_answer_10 ?_
    refine ⟨_, _, _, rfl, C, p, _, 0, hB, rfl, hp, ?_, ?_, ?_, ?_, hT, fun m10 fr10 tr10 => ?_⟩
    rotate_left -- leaf 0: num of X1_askedOf at 10
    rotate_left -- leaf 1: dep of X1_askedOf at 10
    rotate_left -- leaf 2: lim of X1_askedOf at 10
    rotate_left -- leaf 3: kd of X1_askedOf at 10
    have hT := tr10
    have hB := hB.fr (fun a h1 h2 => fr10.2 a (by simp; omega))
    refine b_iret (pc := 13) rfl dX1_answer_13 ⟨Nat.le_of_ble_eq_true rfl, Nat.le_of_ble_eq_true rfl⟩ ?_
    rotate_left -- leaf 4: return at 13
    -- leaves: 0 num of X1_askedOf at 10; 1 dep of X1_askedOf at 10; 2 lim of X1_askedOf at 10; 3 kd of X1_askedOf at 10; 4 return at 13
    · rfl
    · rfl
    · omega
    · exact trivial
    · exact h m10 (f0.tr2 fr10) tr10
theorem call_X1_answer {E : ME} {Φ : Option AV → AM → Prop} {pc : Nat} {L : List (Option AV)} {st : List AV} {m : AM} {a : Nat × Nat} {idx : Nat} {x0 x1 x2 : AV} {i : Nat} (hl : Cond.methodLink E.2.1 idx yX1_answer ∈ TB) (hdep : 11 + 1 ≤ E.2.2.2.2.2.2) (hroom : a.1 + 0 ≤ E.2.2.2.2.1 ∧ a.2 + 0 ≤ E.2.2.2.2.2.1) (hsr : st.length ≤ 4) (hd : decode E.1 pc = .ok (.invokevirtual idx, 3)) (hsp : Sp_X1_answer [vr 1 i, x0, x1, x2] m (fun r m2 => B E Φ (pc + 3) L (r.toList ++ st) m2 a)) : B E Φ pc L (x2 :: x1 :: x0 :: vr 1 i :: st) m a := b_callV S_X1_answer [x0, x1, x2] (RX1, TX1, 2) rfl rfl (by decide) (Or.inl hl) k996 k997 k78 k998 (show _ ∧ _ ∧ Option.map (fun d => d.parameters.length) (parseMethodDescriptor yX1_answer.desc) = some 3 from by decide +kernel) ⟨hdep, by decide⟩ hroom hsr hd hsp
abbrev e_X10_ask : ME := (cX10_ask, (RX10, (3, ((some .int), (0, (0, 12))))))
theorem dX10_ask_0 : decode cX10_ask 0 = .ok (.aload_n 0, 1) := by decide +kernel
theorem dX10_ask_1 : decode cX10_ask 1 = .ok (.getfield 26, 3) := by decide +kernel
theorem dX10_ask_4 : decode cX10_ask 4 = .ok (.getfield 127, 3) := by decide +kernel
theorem dX10_ask_7 : decode cX10_ask 7 = .ok (.iload_n 1, 1) := by decide +kernel
theorem dX10_ask_8 : decode cX10_ask 8 = .ok (.invokevirtual 147, 3) := by decide +kernel
theorem dX10_ask_11 : decode cX10_ask 11 = .ok (.ifCond .eq 10, 3) := by decide +kernel
theorem dX10_ask_14 : decode cX10_ask 14 = .ok (.iload_n 2, 1) := by decide +kernel
theorem dX10_ask_15 : decode cX10_ask 15 = .ok (.invokestatic 180, 3) := by decide +kernel
theorem dX10_ask_18 : decode cX10_ask 18 = .ok (.ifCond .eq 6, 3) := by decide +kernel
theorem dX10_ask_21 : decode cX10_ask 21 = .ok (.ldc 69, 2) := by decide +kernel
theorem dX10_ask_23 : decode cX10_ask 23 = .ok (.ireturn, 1) := by decide +kernel
theorem dX10_ask_24 : decode cX10_ask 24 = .ok (.aload_n 0, 1) := by decide +kernel
theorem dX10_ask_25 : decode cX10_ask 25 = .ok (.getfield 60, 3) := by decide +kernel
theorem dX10_ask_28 : decode cX10_ask 28 = .ok (.aload_n 0, 1) := by decide +kernel
theorem dX10_ask_29 : decode cX10_ask 29 = .ok (.getfield 26, 3) := by decide +kernel
theorem dX10_ask_32 : decode cX10_ask 32 = .ok (.iload_n 1, 1) := by decide +kernel
theorem dX10_ask_33 : decode cX10_ask 33 = .ok (.iload_n 2, 1) := by decide +kernel
theorem dX10_ask_34 : decode cX10_ask 34 = .ok (.invokevirtual 306, 3) := by decide +kernel
theorem dX10_ask_37 : decode cX10_ask 37 = .ok (.ireturn, 1) := by decide +kernel
def Sp_X10_ask (av : List AV) (m : AM) (Φ : Option AV → AM → Prop) : Prop := ∃ p w, av = [vr 10 0, vi p, vi w] ∧ ∃ C T, CR m C ∧ CTr m T ∧ ∀ m2, Fr [108, 109] m m2 → CTr m2 (askT C p w T) → Φ (some (vi (askV C p w))) m2
set_option maxRecDepth 20000 in
set_option maxHeartbeats 4000000 in
theorem S_X10_ask : Snd yX10_ask e_X10_ask Sp_X10_ask := by
  refine Snd.of (by decide +kernel) rfl ?_ ?_
  · rintro av m Φ ⟨p, w, rfl, _⟩; exact Nat.le_of_ble_eq_true rfl
  rintro av m Φ ⟨p, w, rfl, C, T, hC, hT, h⟩ hav hty
  show B e_X10_ask Φ 0 [some (vr 10 0), some (vi p), some (vi w)] [] m (0, 0)
  have hle := hC.le
  by_cases hp : inB p (C 4) = true
  · by_cases hw : inB w 2 = true
    · unfold askV askT at h
      rw [hp, hw, if_pos (show (true && true) = true from rfl), if_pos (show (true && true) = true from rfl)] at h
      obtain ⟨j, hj, rfl⟩ := (inB_iff (by omega)).mp hp
      rw [n_cl (by omega)] at h
      have hB := hC.op (Or.inr (Or.inr (by omega)))
      rcases (inB2 w).mp hw with rfl | rfl
      · rw [if_pos rfl, if_pos rfl] at h
        refine b_aloadN (pc := 0) 0 dX10_ask_0 rfl rfl ?_
        refine gf10_2 (pc := 1) 20 rfl k417 dX10_ask_1 ?_
        refine gf2_0 (pc := 4) 21 rfl k269 dX10_ask_4 ?_
        refine b_iloadN (pc := 7) 1 dX10_ask_7 rfl rfl ?_
        refine call_X5_isPerson (pc := 8) k642 (by decide) ⟨Nat.le_of_ble_eq_true rfl, Nat.le_of_ble_eq_true rfl⟩ (Nat.le_of_ble_eq_true rfl) dX10_ask_8 ?_
        refine ⟨_, rfl, _, hC.num.2.2.2.1, ?_⟩
        refine b_if_eq (pc := 11) 21 dX10_ask_11 (by decide) (fun c11 => ?_) (fun c11 => ?_)
        rotate_left -- leaf 0: at 21
        refine b_iloadN (pc := 14) 2 dX10_ask_14 rfl rfl ?_
        refine call_X10_isNoBit (pc := 15) k709 (by decide) ⟨Nat.le_of_ble_eq_true rfl, Nat.le_of_ble_eq_true rfl⟩ (Nat.le_of_ble_eq_true rfl) dX10_ask_15 ?_
        refine ⟨_, rfl, ?_⟩
        refine b_if_eq (pc := 18) 24 dX10_ask_18 (by decide) (fun c18 => ?_) (fun c18 => ?_)
        refine b_aloadN (pc := 24) 0 dX10_ask_24 rfl rfl ?_
        refine gf10_7 (pc := 25) 108 rfl k422 dX10_ask_25 ?_
        refine b_aloadN (pc := 28) 0 dX10_ask_28 rfl rfl ?_
        refine gf10_2 (pc := 29) 20 rfl k417 dX10_ask_29 ?_
        refine b_iloadN (pc := 32) 1 dX10_ask_32 rfl rfl ?_
        refine b_iloadN (pc := 33) 2 dX10_ask_33 rfl rfl ?_
        refine call_X1_answer (pc := 34) k995 (by decide) ⟨Nat.le_of_ble_eq_true rfl, Nat.le_of_ble_eq_true rfl⟩ (Nat.le_of_ble_eq_true rfl) dX10_ask_34 ?_
        refine ⟨_, _, rfl, C, _, _, hB, rfl, ?_, rfl, ?_, fun m34 fr34 tr34 => ?_⟩
        rotate_left -- leaf 1: person of X1_answer at 34
        rotate_left -- leaf 2: what of X1_answer at 34
        refine b_iret (pc := 37) rfl dX10_ask_37 ⟨Nat.le_of_ble_eq_true rfl, Nat.le_of_ble_eq_true rfl⟩ ?_
        rotate_left -- leaf 3: return at 37
        rotate_left -- leaf 4: at 21
        -- leaves: 0 at 21; 1 person of X1_answer at 34; 2 what of X1_answer at 34; 3 return at 37; 4 at 21
        · rw [hp] at c11; exact absurd c11 (by decide)
        · exact hj
        · omega
        · exact h m34 fr34 tr34
        · rw [hw] at c18; exact absurd rfl c18
      · rw [if_neg (show ¬ nI 1 = nI 0 by decide), if_neg (show ¬ nI 1 = nI 0 by decide)] at h
        refine b_aloadN (pc := 0) 0 dX10_ask_0 rfl rfl ?_
        refine gf10_2 (pc := 1) 20 rfl k417 dX10_ask_1 ?_
        refine gf2_0 (pc := 4) 21 rfl k269 dX10_ask_4 ?_
        refine b_iloadN (pc := 7) 1 dX10_ask_7 rfl rfl ?_
        refine call_X5_isPerson (pc := 8) k642 (by decide) ⟨Nat.le_of_ble_eq_true rfl, Nat.le_of_ble_eq_true rfl⟩ (Nat.le_of_ble_eq_true rfl) dX10_ask_8 ?_
        refine ⟨_, rfl, _, hC.num.2.2.2.1, ?_⟩
        refine b_if_eq (pc := 11) 21 dX10_ask_11 (by decide) (fun c11 => ?_) (fun c11 => ?_)
        rotate_left -- leaf 0: at 21
        refine b_iloadN (pc := 14) 2 dX10_ask_14 rfl rfl ?_
        refine call_X10_isNoBit (pc := 15) k709 (by decide) ⟨Nat.le_of_ble_eq_true rfl, Nat.le_of_ble_eq_true rfl⟩ (Nat.le_of_ble_eq_true rfl) dX10_ask_15 ?_
        refine ⟨_, rfl, ?_⟩
        refine b_if_eq (pc := 18) 24 dX10_ask_18 (by decide) (fun c18 => ?_) (fun c18 => ?_)
        refine b_aloadN (pc := 24) 0 dX10_ask_24 rfl rfl ?_
        refine gf10_7 (pc := 25) 108 rfl k422 dX10_ask_25 ?_
        refine b_aloadN (pc := 28) 0 dX10_ask_28 rfl rfl ?_
        refine gf10_2 (pc := 29) 20 rfl k417 dX10_ask_29 ?_
        refine b_iloadN (pc := 32) 1 dX10_ask_32 rfl rfl ?_
        refine b_iloadN (pc := 33) 2 dX10_ask_33 rfl rfl ?_
        refine call_X1_answer (pc := 34) k995 (by decide) ⟨Nat.le_of_ble_eq_true rfl, Nat.le_of_ble_eq_true rfl⟩ (Nat.le_of_ble_eq_true rfl) dX10_ask_34 ?_
        refine ⟨_, _, rfl, C, _, _, hB, rfl, ?_, rfl, ?_, fun m34 fr34 tr34 => ?_⟩
        rotate_left -- leaf 1: person of X1_answer at 34
        rotate_left -- leaf 2: what of X1_answer at 34
        refine b_iret (pc := 37) rfl dX10_ask_37 ⟨Nat.le_of_ble_eq_true rfl, Nat.le_of_ble_eq_true rfl⟩ ?_
        rotate_left -- leaf 3: return at 37
        rotate_left -- leaf 4: at 21
        -- leaves: 0 at 21; 1 person of X1_answer at 34; 2 what of X1_answer at 34; 3 return at 37; 4 at 21
        · rw [hp] at c11; exact absurd c11 (by decide)
        · exact hj
        · omega
        · exact h m34 fr34 tr34
        · rw [hw] at c18; exact absurd rfl c18
    · have e : inB w 2 = false := by
        cases q : inB w 2
        · rfl
        · exact absurd q hw
      unfold askV askT at h
      rw [e, Bool.and_false] at h
      refine b_aloadN (pc := 0) 0 dX10_ask_0 rfl rfl ?_
      refine gf10_2 (pc := 1) 20 rfl k417 dX10_ask_1 ?_
      refine gf2_0 (pc := 4) 21 rfl k269 dX10_ask_4 ?_
      refine b_iloadN (pc := 7) 1 dX10_ask_7 rfl rfl ?_
      refine call_X5_isPerson (pc := 8) k642 (by decide) ⟨Nat.le_of_ble_eq_true rfl, Nat.le_of_ble_eq_true rfl⟩ (Nat.le_of_ble_eq_true rfl) dX10_ask_8 ?_
      refine ⟨_, rfl, _, hC.num.2.2.2.1, ?_⟩
      refine b_if_eq (pc := 11) 21 dX10_ask_11 (by decide) (fun c11 => ?_) (fun c11 => ?_)
      refine b_ldc (pc := 21) k450 dX10_ask_21 ?_
      refine b_iret (pc := 23) rfl dX10_ask_23 ⟨Nat.le_of_ble_eq_true rfl, Nat.le_of_ble_eq_true rfl⟩ ?_
      rotate_left -- leaf 0: return at 23
      refine b_iloadN (pc := 14) 2 dX10_ask_14 rfl rfl ?_
      refine call_X10_isNoBit (pc := 15) k709 (by decide) ⟨Nat.le_of_ble_eq_true rfl, Nat.le_of_ble_eq_true rfl⟩ (Nat.le_of_ble_eq_true rfl) dX10_ask_15 ?_
      refine ⟨_, rfl, ?_⟩
      refine b_if_eq (pc := 18) 24 dX10_ask_18 (by decide) (fun c18 => ?_) (fun c18 => ?_)
      rotate_left -- leaf 1: at 24
      refine b_ldc (pc := 21) k450 dX10_ask_21 ?_
      refine b_iret (pc := 23) rfl dX10_ask_23 ⟨Nat.le_of_ble_eq_true rfl, Nat.le_of_ble_eq_true rfl⟩ ?_
      rotate_left -- leaf 2: return at 23
      -- leaves: 0 return at 23; 1 at 24; 2 return at 23
      · exact h m (Fr.rf _ m) hT
      · exact absurd (dT c18) hw
      · exact h m (Fr.rf _ m) hT
  · have e : inB p (C 4) = false := by
      cases q : inB p (C 4)
      · rfl
      · exact absurd q hp
    unfold askV askT at h
    rw [e, Bool.false_and] at h
    refine b_aloadN (pc := 0) 0 dX10_ask_0 rfl rfl ?_
    refine gf10_2 (pc := 1) 20 rfl k417 dX10_ask_1 ?_
    refine gf2_0 (pc := 4) 21 rfl k269 dX10_ask_4 ?_
    refine b_iloadN (pc := 7) 1 dX10_ask_7 rfl rfl ?_
    refine call_X5_isPerson (pc := 8) k642 (by decide) ⟨Nat.le_of_ble_eq_true rfl, Nat.le_of_ble_eq_true rfl⟩ (Nat.le_of_ble_eq_true rfl) dX10_ask_8 ?_
    refine ⟨_, rfl, _, hC.num.2.2.2.1, ?_⟩
    refine b_if_eq (pc := 11) 21 dX10_ask_11 (by decide) (fun c11 => ?_) (fun c11 => ?_)
    refine b_ldc (pc := 21) k450 dX10_ask_21 ?_
    refine b_iret (pc := 23) rfl dX10_ask_23 ⟨Nat.le_of_ble_eq_true rfl, Nat.le_of_ble_eq_true rfl⟩ ?_
    rotate_left -- leaf 0: return at 23
    rotate_left -- leaf 1: at 14
    -- leaves: 0 return at 23; 1 at 14
    · exact h m (Fr.rf _ m) hT
    · exact absurd (bT c11) hp
theorem call_X10_ask {E : ME} {Φ : Option AV → AM → Prop} {pc : Nat} {L : List (Option AV)} {st : List AV} {m : AM} {a : Nat × Nat} {idx : Nat} {x0 x1 : AV} {i : Nat} (hl : Cond.methodLink E.2.1 idx yX10_ask ∈ TB) (hdep : 12 + 1 ≤ E.2.2.2.2.2.2) (hroom : a.1 + 0 ≤ E.2.2.2.2.1 ∧ a.2 + 0 ≤ E.2.2.2.2.2.1) (hsr : st.length ≤ 4) (hd : decode E.1 pc = .ok (.invokevirtual idx, 3)) (hsp : Sp_X10_ask [vr 10 i, x0, x1] m (fun r m2 => B E Φ (pc + 3) L (r.toList ++ st) m2 a)) : B E Φ pc L (x1 :: x0 :: vr 10 i :: st) m a := b_callV S_X10_ask [x0, x1] (RX10, TX10, 9) rfl rfl (by decide) (Or.inl hl) k992 k993 k68 k994 (show _ ∧ _ ∧ Option.map (fun d => d.parameters.length) (parseMethodDescriptor yX10_ask.desc) = some 2 from by decide +kernel) ⟨hdep, by decide⟩ hroom hsr hd hsp
/-! as -/
def itK : Nat → Nat → Nat → Nat
  | 0, n, _ => n
  | j + 1, n, w => if n = w then n else itK j (stV 0 n) w
theorem par_le {n : Nat} (h : n ≤ 5) : stV 0 n ≤ 5 := by
  have q : ∀ n, n ≤ 5 → stV 0 n ≤ 5 := by decide
  exact q n h
abbrev e_X1_isOfKind : ME := (cX1_isOfKind, (RX1, (4, ((some .boolean), (0, (0, 1))))))
theorem dX1_isOfKind_0 : decode cX1_isOfKind 0 = .ok (.iload_n 0, 1) := by decide +kernel
theorem dX1_isOfKind_1 : decode cX1_isOfKind 1 = .ok (.istore_n 2, 1) := by decide +kernel
theorem dX1_isOfKind_2 : decode cX1_isOfKind 2 = .ok (.iconst 0, 1) := by decide +kernel
theorem dX1_isOfKind_3 : decode cX1_isOfKind 3 = .ok (.istore_n 3, 1) := by decide +kernel
theorem dX1_isOfKind_4 : decode cX1_isOfKind 4 = .ok (.iload_n 3, 1) := by decide +kernel
theorem dX1_isOfKind_5 : decode cX1_isOfKind 5 = .ok (.getstatic 15, 3) := by decide +kernel
theorem dX1_isOfKind_8 : decode cX1_isOfKind 8 = .ok (.arraylength, 1) := by decide +kernel
theorem dX1_isOfKind_9 : decode cX1_isOfKind 9 = .ok (.if_icmp .ge 20, 3) := by decide +kernel
theorem dX1_isOfKind_12 : decode cX1_isOfKind 12 = .ok (.iload_n 2, 1) := by decide +kernel
theorem dX1_isOfKind_13 : decode cX1_isOfKind 13 = .ok (.iload_n 1, 1) := by decide +kernel
theorem dX1_isOfKind_14 : decode cX1_isOfKind 14 = .ok (.if_icmp .eq 15, 3) := by decide +kernel
theorem dX1_isOfKind_17 : decode cX1_isOfKind 17 = .ok (.getstatic 15, 3) := by decide +kernel
theorem dX1_isOfKind_20 : decode cX1_isOfKind 20 = .ok (.iload_n 2, 1) := by decide +kernel
theorem dX1_isOfKind_21 : decode cX1_isOfKind 21 = .ok (.iaload, 1) := by decide +kernel
theorem dX1_isOfKind_22 : decode cX1_isOfKind 22 = .ok (.istore_n 2, 1) := by decide +kernel
theorem dX1_isOfKind_23 : decode cX1_isOfKind 23 = .ok (.iinc 3 1, 3) := by decide +kernel
theorem dX1_isOfKind_26 : decode cX1_isOfKind 26 = .ok (.goto (-22), 3) := by decide +kernel
theorem dX1_isOfKind_29 : decode cX1_isOfKind 29 = .ok (.iload_n 2, 1) := by decide +kernel
theorem dX1_isOfKind_30 : decode cX1_isOfKind 30 = .ok (.iload_n 1, 1) := by decide +kernel
theorem dX1_isOfKind_31 : decode cX1_isOfKind 31 = .ok (.if_icmp .ne 7, 3) := by decide +kernel
theorem dX1_isOfKind_34 : decode cX1_isOfKind 34 = .ok (.iconst 1, 1) := by decide +kernel
theorem dX1_isOfKind_35 : decode cX1_isOfKind 35 = .ok (.goto 4, 3) := by decide +kernel
theorem dX1_isOfKind_38 : decode cX1_isOfKind 38 = .ok (.iconst 0, 1) := by decide +kernel
theorem dX1_isOfKind_39 : decode cX1_isOfKind 39 = .ok (.ireturn, 1) := by decide +kernel
def Sp_X1_isOfKind (av : List AV) (m : AM) (Φ : Option AV → AM → Prop) : Prop := ∃ x y, av = [vi x, vi y] ∧ ∃ q w, x = nI q ∧ y = nI w ∧ q ≤ 5 ∧ w ≤ 5 ∧ Φ (some (vi (nI (if decide (itK 6 q w = w) = true then 1 else 0)))) m
set_option maxRecDepth 20000 in
set_option maxHeartbeats 4000000 in
theorem S_X1_isOfKind : Snd yX1_isOfKind e_X1_isOfKind Sp_X1_isOfKind := by
  refine Snd.of (by decide +kernel) rfl ?_ ?_
  · rintro av m Φ ⟨x, y, rfl, _⟩; exact Nat.le_of_ble_eq_true rfl
  rintro av m Φ ⟨x, y, rfl, q, w, rfl, rfl, hq, hw, h⟩ hav hty
  show B e_X1_isOfKind Φ 0 [some (vi (nI q)), some (vi (nI w)), none, none] [] m (0, 0)
  have loop : ∀ n i nr, i + n = 6 → nr ≤ 5 → Φ (some (vi (nI (if decide (itK n nr w = w) = true then 1 else 0)))) m → B e_X1_isOfKind Φ 4 [some (vi (nI q)), some (vi (nI w)), some (vi (nI nr)), some (vi (nI i))] [] m (0, 0) := by
    intro n
    induction n with
    | zero =>
      intro i nr h1 h2 h3
      refine b_iloadN (pc := 4) 3 dX1_isOfKind_4 rfl rfl ?_
      refine b_tabLen (pc := 5) 0 (by decide) k989 dX1_isOfKind_5 dX1_isOfKind_8 ?_
      refine b_icmp_ge (pc := 9) 29 dX1_isOfKind_9 (by decide) (fun c9 => ?_) (fun c9 => ?_)
      refine b_iloadN (pc := 29) 2 dX1_isOfKind_29 rfl rfl ?_
      refine b_iloadN (pc := 30) 1 dX1_isOfKind_30 rfl rfl ?_
      refine b_icmp_ne (pc := 31) 38 dX1_isOfKind_31 (by decide) (fun c31 => ?_) (fun c31 => ?_)
      refine b_iconst (pc := 38) (nI 0) dX1_isOfKind_38 (by decide) ?_
      refine b_zret (pc := 39) rfl ?_ dX1_isOfKind_39 ⟨Nat.le_of_ble_eq_true rfl, Nat.le_of_ble_eq_true rfl⟩ ?_
      rotate_left -- leaf 0: bool at 39
      rotate_left -- leaf 1: return at 39
      refine b_iconst (pc := 34) (nI 1) dX1_isOfKind_34 (by decide) ?_
      refine b_goto (pc := 35) 39 dX1_isOfKind_35 (by decide) ?_
      refine b_zret (pc := 39) rfl ?_ dX1_isOfKind_39 ⟨Nat.le_of_ble_eq_true rfl, Nat.le_of_ble_eq_true rfl⟩ ?_
      rotate_left -- leaf 2: bool at 39
      rotate_left -- leaf 3: return at 39
      rotate_left -- leaf 4: at 12
      -- leaves: 0 bool at 39; 1 return at 39; 2 bool at 39; 3 return at 39; 4 at 12
      · exact Or.inl rfl
      · rw [n_eq (by omega) (by omega)] at c31
        rw [decide_eq_false (show ¬ itK 0 nr w = w from c31)] at h3
        exact h3
      · exact Or.inr rfl
      · rw [n_eq (by omega) (by omega)] at c31
        rw [decide_eq_true (show itK 0 nr w = w from c31)] at h3
        exact h3
      · rw [n_le (by omega) (by omega)] at c9; omega
    | succ n ih =>
      intro i nr h1 h2 h3
      have un : itK (n + 1) nr w = if nr = w then nr else itK n (stV 0 nr) w := rfl
      have hp := par_le h2
      by_cases e : nr = w
      · rw [un, if_pos e, decide_eq_true e] at h3
        subst e
        refine b_iloadN (pc := 4) 3 dX1_isOfKind_4 rfl rfl ?_
        refine b_tabLen (pc := 5) 0 (by decide) k989 dX1_isOfKind_5 dX1_isOfKind_8 ?_
        refine b_icmp_ge (pc := 9) 29 dX1_isOfKind_9 (by decide) (fun c9 => ?_) (fun c9 => ?_)
        refine b_iloadN (pc := 29) 2 dX1_isOfKind_29 rfl rfl ?_
        refine b_iloadN (pc := 30) 1 dX1_isOfKind_30 rfl rfl ?_
        refine b_icmp_ne (pc := 31) 38 dX1_isOfKind_31 (by decide) (fun c31 => ?_) (fun c31 => ?_)
        refine b_iconst (pc := 38) (nI 0) dX1_isOfKind_38 (by decide) ?_
        refine b_zret (pc := 39) rfl ?_ dX1_isOfKind_39 ⟨Nat.le_of_ble_eq_true rfl, Nat.le_of_ble_eq_true rfl⟩ ?_
        rotate_left -- leaf 0: bool at 39
        rotate_left -- leaf 1: return at 39
        refine b_iconst (pc := 34) (nI 1) dX1_isOfKind_34 (by decide) ?_
        refine b_goto (pc := 35) 39 dX1_isOfKind_35 (by decide) ?_
        refine b_zret (pc := 39) rfl ?_ dX1_isOfKind_39 ⟨Nat.le_of_ble_eq_true rfl, Nat.le_of_ble_eq_true rfl⟩ ?_
        rotate_left -- leaf 2: bool at 39
        rotate_left -- leaf 3: return at 39
        refine b_iloadN (pc := 12) 2 dX1_isOfKind_12 rfl rfl ?_
        refine b_iloadN (pc := 13) 1 dX1_isOfKind_13 rfl rfl ?_
        refine b_icmp_eq (pc := 14) 29 dX1_isOfKind_14 (by decide) (fun c14 => ?_) (fun c14 => ?_)
        refine b_iloadN (pc := 29) 2 dX1_isOfKind_29 rfl rfl ?_
        refine b_iloadN (pc := 30) 1 dX1_isOfKind_30 rfl rfl ?_
        refine b_icmp_ne (pc := 31) 38 dX1_isOfKind_31 (by decide) (fun c31 => ?_) (fun c31 => ?_)
        refine b_iconst (pc := 38) (nI 0) dX1_isOfKind_38 (by decide) ?_
        refine b_zret (pc := 39) rfl ?_ dX1_isOfKind_39 ⟨Nat.le_of_ble_eq_true rfl, Nat.le_of_ble_eq_true rfl⟩ ?_
        rotate_left -- leaf 4: bool at 39
        rotate_left -- leaf 5: return at 39
        refine b_iconst (pc := 34) (nI 1) dX1_isOfKind_34 (by decide) ?_
        refine b_goto (pc := 35) 39 dX1_isOfKind_35 (by decide) ?_
        refine b_zret (pc := 39) rfl ?_ dX1_isOfKind_39 ⟨Nat.le_of_ble_eq_true rfl, Nat.le_of_ble_eq_true rfl⟩ ?_
        rotate_left -- leaf 6: bool at 39
        rotate_left -- leaf 7: return at 39
        rotate_left -- leaf 8: at 17
        -- leaves: 0 bool at 39; 1 return at 39; 2 bool at 39; 3 return at 39; 4 bool at 39; 5 return at 39; 6 bool at 39; 7 return at 39; 8 at 17
        · exact Or.inl rfl
        · exact absurd rfl c31
        · exact Or.inr rfl
        · exact h3
        · exact Or.inl rfl
        · exact absurd rfl c31
        · exact Or.inr rfl
        · exact h3
        · exact absurd rfl c14
      · rw [un, if_neg e] at h3
        refine b_iloadN (pc := 4) 3 dX1_isOfKind_4 rfl rfl ?_
        refine b_tabLen (pc := 5) 0 (by decide) k989 dX1_isOfKind_5 dX1_isOfKind_8 ?_
        refine b_icmp_ge (pc := 9) 29 dX1_isOfKind_9 (by decide) (fun c9 => ?_) (fun c9 => ?_)
        rotate_left -- leaf 0: at 29
        refine b_iloadN (pc := 12) 2 dX1_isOfKind_12 rfl rfl ?_
        refine b_iloadN (pc := 13) 1 dX1_isOfKind_13 rfl rfl ?_
        refine b_icmp_eq (pc := 14) 29 dX1_isOfKind_14 (by decide) (fun c14 => ?_) (fun c14 => ?_)
        rotate_left -- leaf 1: at 29
        refine b_tabAtN (pc := 17) 0 2 (by decide) k989 rfl ?_ dX1_isOfKind_17 dX1_isOfKind_20 dX1_isOfKind_21 ?_
        rotate_left -- leaf 2: table index at 17
        refine siN2 (pc := 22) rfl notL_i (by decide) dX1_isOfKind_22 ?_
        refine inc3 (pc := 23) notL_i (by decide) dX1_isOfKind_23 ?_
        refine b_goto (pc := 26) 4 dX1_isOfKind_26 (by decide) ?_
        rotate_left -- leaf 3: at 4
        -- leaves: 0 at 29; 1 at 29; 2 table index at 17; 3 at 4
        · rw [n_le (by omega) (by omega)] at c9; omega
        · rw [n_eq (by omega) (by omega)] at c14; exact absurd c14 e
        · exact n_in (by omega) (by omega)
        · rw [n_cl (by omega), n_inc]
          exact ih (i + 1) _ (by omega) hp h3
  refine b_iloadN (pc := 0) 0 dX1_isOfKind_0 rfl rfl ?_
  refine siN2 (pc := 1) rfl notL_i (by decide) dX1_isOfKind_1 ?_
  refine b_iconst (pc := 2) (nI 0) dX1_isOfKind_2 (by decide) ?_
  refine siN3 (pc := 3) rfl notL_i (by decide) dX1_isOfKind_3 ?_
  rotate_left -- leaf 0: at 4
  -- leaves: 0 at 4
  exact loop 6 0 q (by omega) hq h
theorem call_X1_isOfKind {E : ME} {Φ : Option AV → AM → Prop} {pc : Nat} {L : List (Option AV)} {st : List AV} {m : AM} {a : Nat × Nat} {idx : Nat} {x0 x1 : AV} (hl : Cond.methodLink E.2.1 idx yX1_isOfKind ∈ TB) (hdep : 1 + 1 ≤ E.2.2.2.2.2.2) (hroom : a.1 + 0 ≤ E.2.2.2.2.1 ∧ a.2 + 0 ≤ E.2.2.2.2.2.1) (hsr : st.length ≤ 4) (hd : decode E.1 pc = .ok (.invokestatic idx, 3)) (hsp : Sp_X1_isOfKind [x0, x1] m (fun r m2 => B E Φ (pc + 3) L (r.toList ++ st) m2 a)) : B E Φ pc L (x1 :: x0 :: st) m a := b_callS S_X1_isOfKind [x0, x1] (Or.inl hl) k987 k78 k988 (show _ ∧ _ ∧ Option.map (fun d => d.parameters.length) (parseMethodDescriptor yX1_isOfKind.desc) = some 2 from by decide +kernel) ⟨hdep, by decide⟩ hroom hsr hd hsp
abbrev e_X10_as : ME := (cX10_as, (RX10, (3, ((some .int), (0, (0, 8))))))
theorem dX10_as_0 : decode cX10_as 0 = .ok (.aload_n 0, 1) := by decide +kernel
theorem dX10_as_1 : decode cX10_as 1 = .ok (.getfield 26, 3) := by decide +kernel
theorem dX10_as_4 : decode cX10_as 4 = .ok (.getfield 127, 3) := by decide +kernel
theorem dX10_as_7 : decode cX10_as 7 = .ok (.iload_n 1, 1) := by decide +kernel
theorem dX10_as_8 : decode cX10_as 8 = .ok (.invokevirtual 147, 3) := by decide +kernel
theorem dX10_as_11 : decode cX10_as 11 = .ok (.ifCond .eq 12, 3) := by decide +kernel
theorem dX10_as_14 : decode cX10_as 14 = .ok (.iload_n 2, 1) := by decide +kernel
theorem dX10_as_15 : decode cX10_as 15 = .ok (.ifCond .lt 8, 3) := by decide +kernel
theorem dX10_as_18 : decode cX10_as 18 = .ok (.iload_n 2, 1) := by decide +kernel
theorem dX10_as_19 : decode cX10_as 19 = .ok (.iconst 5, 1) := by decide +kernel
theorem dX10_as_20 : decode cX10_as 20 = .ok (.if_icmp .le 6, 3) := by decide +kernel
theorem dX10_as_23 : decode cX10_as 23 = .ok (.ldc 69, 2) := by decide +kernel
theorem dX10_as_25 : decode cX10_as 25 = .ok (.ireturn, 1) := by decide +kernel
theorem dX10_as_26 : decode cX10_as 26 = .ok (.aload_n 0, 1) := by decide +kernel
theorem dX10_as_27 : decode cX10_as 27 = .ok (.getfield 26, 3) := by decide +kernel
theorem dX10_as_30 : decode cX10_as 30 = .ok (.getfield 127, 3) := by decide +kernel
theorem dX10_as_33 : decode cX10_as 33 = .ok (.getfield 211, 3) := by decide +kernel
theorem dX10_as_36 : decode cX10_as 36 = .ok (.iload_n 1, 1) := by decide +kernel
theorem dX10_as_37 : decode cX10_as 37 = .ok (.iaload, 1) := by decide +kernel
theorem dX10_as_38 : decode cX10_as 38 = .ok (.iload_n 2, 1) := by decide +kernel
theorem dX10_as_39 : decode cX10_as 39 = .ok (.invokestatic 302, 3) := by decide +kernel
theorem dX10_as_42 : decode cX10_as 42 = .ok (.ifCond .eq 11, 3) := by decide +kernel
theorem dX10_as_45 : decode cX10_as 45 = .ok (.aload_n 0, 1) := by decide +kernel
theorem dX10_as_46 : decode cX10_as 46 = .ok (.iload_n 1, 1) := by decide +kernel
theorem dX10_as_47 : decode cX10_as 47 = .ok (.invokevirtual 78, 3) := by decide +kernel
theorem dX10_as_50 : decode cX10_as 50 = .ok (.goto 8, 3) := by decide +kernel
theorem dX10_as_53 : decode cX10_as 53 = .ok (.aload_n 0, 1) := by decide +kernel
theorem dX10_as_54 : decode cX10_as 54 = .ok (.iconst 3, 1) := by decide +kernel
theorem dX10_as_55 : decode cX10_as 55 = .ok (.invokevirtual 70, 3) := by decide +kernel
theorem dX10_as_58 : decode cX10_as 58 = .ok (.ireturn, 1) := by decide +kernel
def Sp_X10_as (av : List AV) (m : AM) (Φ : Option AV → AM → Prop) : Prop := ∃ p k, av = [vr 10 0, vi p, vi k] ∧ ∃ C, CR m C ∧ ((inB p (C 4) && inB k 6) = false → Φ (some (vi (-1000001))) m) ∧ ((inB p (C 4) && inB k 6) = true → itK 6 (C (40 + 2 * p.toNatClampNeg)) k.toNatClampNeg = k.toNatClampNeg → Φ (some (vi p)) (mset m 0 8 (nI 0))) ∧ ((inB p (C 4) && inB k 6) = true → ¬ itK 6 (C (40 + 2 * p.toNatClampNeg)) k.toNatClampNeg = k.toNatClampNeg → Φ (some (vi (-1000010 - nI 3))) (mset m 0 8 (nI 3)))
set_option maxRecDepth 20000 in
set_option maxHeartbeats 4000000 in
theorem S_X10_as : Snd yX10_as e_X10_as Sp_X10_as := by
  refine Snd.of (by decide +kernel) rfl ?_ ?_
  · rintro av m Φ ⟨p, k, rfl, _⟩; exact Nat.le_of_ble_eq_true rfl
  rintro av m Φ ⟨p, k, rfl, C, hC, h1, h2, h3⟩ hav hty
  show B e_X10_as Φ 0 [some (vr 10 0), some (vi p), some (vi k)] [] m (0, 0)
  have hle := hC.le
  by_cases hp : inB p (C 4) = true
  · by_cases hk : inB k 6 = true
    · have hpk : (inB p (C 4) && inB k 6) = true := by rw [hp, hk]; rfl
      obtain ⟨j, hj, rfl⟩ := (inB_iff (by omega)).mp hp
      obtain ⟨w, hw, rfl⟩ := (inB_iff (by omega)).mp hk
      rw [n_cl (show j < 2147483648 by omega), n_cl (show w < 2147483648 by omega)] at h2 h3
      have hB := hC.op (Or.inr (Or.inr (by omega)))
      have hq := (hB.1.2.2.2.2.2.2.2.2.2 j hj).1
      have hkd : m.1 25 j = nI (C (40 + 2 * j)) := hB.2.1.2.2.2.2.2 j hj
      refine b_aloadN (pc := 0) 0 dX10_as_0 rfl rfl ?_
      refine gf10_2 (pc := 1) 20 rfl k417 dX10_as_1 ?_
      refine gf2_0 (pc := 4) 21 rfl k269 dX10_as_4 ?_
      refine b_iloadN (pc := 7) 1 dX10_as_7 rfl rfl ?_
      refine call_X5_isPerson (pc := 8) k642 (by decide) ⟨Nat.le_of_ble_eq_true rfl, Nat.le_of_ble_eq_true rfl⟩ (Nat.le_of_ble_eq_true rfl) dX10_as_8 ?_
      refine ⟨_, rfl, _, hC.num.2.2.2.1, ?_⟩
      refine b_if_eq (pc := 11) 23 dX10_as_11 (by decide) (fun c11 => ?_) (fun c11 => ?_)
      rotate_left -- leaf 0: at 23
      refine b_iloadN (pc := 14) 2 dX10_as_14 rfl rfl ?_
      refine b_if_lt (pc := 15) 23 dX10_as_15 (by decide) (fun c15 => ?_) (fun c15 => ?_)
      rotate_left -- leaf 1: at 23
      refine b_iloadN (pc := 18) 2 dX10_as_18 rfl rfl ?_
      refine b_iconst (pc := 19) (nI 5) dX10_as_19 (by decide) ?_
      refine b_icmp_le (pc := 20) 26 dX10_as_20 (by decide) (fun c20 => ?_) (fun c20 => ?_)
      refine b_aloadN (pc := 26) 0 dX10_as_26 rfl rfl ?_
      refine gf10_2 (pc := 27) 20 rfl k417 dX10_as_27 ?_
      refine gf2_0 (pc := 30) 21 rfl k269 dX10_as_30 ?_
      refine gf5_3 (pc := 33) 25 rfl k141 dX10_as_33 ?_
      refine b_iloadN (pc := 36) 1 dX10_as_36 rfl rfl ?_
      refine b_iald (pc := 37) (by decide) ?_ dX10_as_37 ?_
      rotate_left -- leaf 2: index at 37
      refine b_iloadN (pc := 38) 2 dX10_as_38 rfl rfl ?_
      refine call_X1_isOfKind (pc := 39) k986 (by decide) ⟨Nat.le_of_ble_eq_true rfl, Nat.le_of_ble_eq_true rfl⟩ (Nat.le_of_ble_eq_true rfl) dX10_as_39 ?_
      refine ⟨_, _, rfl, C (40 + 2 * j), w, ?_, rfl, ?_, ?_, ?_⟩
      rotate_left -- leaf 3: kd of X1_isOfKind at 39
      rotate_left -- leaf 4: q5 of X1_isOfKind at 39
      rotate_left -- leaf 5: w5 of X1_isOfKind at 39
      refine b_if_eq (pc := 42) 53 dX10_as_42 (by decide) (fun c42 => ?_) (fun c42 => ?_)
      refine b_aloadN (pc := 53) 0 dX10_as_53 rfl rfl ?_
      refine b_iconst (pc := 54) (nI 3) dX10_as_54 (by decide) ?_
      refine call_X10_found (pc := 55) k451 (by decide) ⟨Nat.le_of_ble_eq_true rfl, Nat.le_of_ble_eq_true rfl⟩ (Nat.le_of_ble_eq_true rfl) dX10_as_55 ?_
      refine ⟨_, rfl, ?_⟩
      refine b_iret (pc := 58) rfl dX10_as_58 ⟨Nat.le_of_ble_eq_true rfl, Nat.le_of_ble_eq_true rfl⟩ ?_
      rotate_left -- leaf 6: return at 58
      refine b_aloadN (pc := 45) 0 dX10_as_45 rfl rfl ?_
      refine b_iloadN (pc := 46) 1 dX10_as_46 rfl rfl ?_
      refine call_X10_fine (pc := 47) k460 (by decide) ⟨Nat.le_of_ble_eq_true rfl, Nat.le_of_ble_eq_true rfl⟩ (Nat.le_of_ble_eq_true rfl) dX10_as_47 ?_
      refine ⟨_, rfl, ?_⟩
      refine b_goto (pc := 50) 58 dX10_as_50 (by decide) ?_
      refine b_iret (pc := 58) rfl dX10_as_58 ⟨Nat.le_of_ble_eq_true rfl, Nat.le_of_ble_eq_true rfl⟩ ?_
      rotate_left -- leaf 7: return at 58
      rotate_left -- leaf 8: at 23
      -- leaves: 0 at 23; 1 at 23; 2 index at 37; 3 kd of X1_isOfKind at 39; 4 q5 of X1_isOfKind at 39; 5 w5 of X1_isOfKind at 39; 6 return at 58; 7 return at 58; 8 at 23
      · rw [hp] at c11; exact absurd c11 (by decide)
      · rw [n_lt0 (by omega)] at c15; exact c15.elim
      · exact n_in (by omega) (by omega)
      · rw [n_cl (by omega)]; exact hkd
      · omega
      · omega
      · exact h3 hpk (of_decide_eq_false (bF c42))
      · exact h2 hpk (of_decide_eq_true (bT c42))
      · rw [n_le (by omega) (by omega)] at c20; omega
    · have e : inB k 6 = false := by
        cases q : inB k 6
        · rfl
        · exact absurd q hk
      refine b_aloadN (pc := 0) 0 dX10_as_0 rfl rfl ?_
      refine gf10_2 (pc := 1) 20 rfl k417 dX10_as_1 ?_
      refine gf2_0 (pc := 4) 21 rfl k269 dX10_as_4 ?_
      refine b_iloadN (pc := 7) 1 dX10_as_7 rfl rfl ?_
      refine call_X5_isPerson (pc := 8) k642 (by decide) ⟨Nat.le_of_ble_eq_true rfl, Nat.le_of_ble_eq_true rfl⟩ (Nat.le_of_ble_eq_true rfl) dX10_as_8 ?_
      refine ⟨_, rfl, _, hC.num.2.2.2.1, ?_⟩
      refine b_if_eq (pc := 11) 23 dX10_as_11 (by decide) (fun c11 => ?_) (fun c11 => ?_)
      refine b_ldc (pc := 23) k450 dX10_as_23 ?_
      refine b_iret (pc := 25) rfl dX10_as_25 ⟨Nat.le_of_ble_eq_true rfl, Nat.le_of_ble_eq_true rfl⟩ ?_
      rotate_left -- leaf 0: return at 25
      refine b_iloadN (pc := 14) 2 dX10_as_14 rfl rfl ?_
      refine b_if_lt (pc := 15) 23 dX10_as_15 (by decide) (fun c15 => ?_) (fun c15 => ?_)
      refine b_ldc (pc := 23) k450 dX10_as_23 ?_
      refine b_iret (pc := 25) rfl dX10_as_25 ⟨Nat.le_of_ble_eq_true rfl, Nat.le_of_ble_eq_true rfl⟩ ?_
      rotate_left -- leaf 1: return at 25
      refine b_iloadN (pc := 18) 2 dX10_as_18 rfl rfl ?_
      refine b_iconst (pc := 19) (nI 5) dX10_as_19 (by decide) ?_
      refine b_icmp_le (pc := 20) 26 dX10_as_20 (by decide) (fun c20 => ?_) (fun c20 => ?_)
      rotate_left -- leaf 2: at 26
      refine b_ldc (pc := 23) k450 dX10_as_23 ?_
      refine b_iret (pc := 25) rfl dX10_as_25 ⟨Nat.le_of_ble_eq_true rfl, Nat.le_of_ble_eq_true rfl⟩ ?_
      rotate_left -- leaf 3: return at 25
      -- leaves: 0 return at 25; 1 return at 25; 2 at 26; 3 return at 25
      · exact h1 (by rw [e, Bool.and_false])
      · exact h1 (by rw [e, Bool.and_false])
      · exact absurd (inB_t c15 (fun z => by
          have c20 := Int32.le_iff_toInt_le.mp c20
          rw [i_le, nI_toInt (by omega)] at z
          rw [nI_toInt (by omega)] at c20
          omega)) hk
      · exact h1 (by rw [e, Bool.and_false])
  · have e : inB p (C 4) = false := by
      cases q : inB p (C 4)
      · rfl
      · exact absurd q hp
    refine b_aloadN (pc := 0) 0 dX10_as_0 rfl rfl ?_
    refine gf10_2 (pc := 1) 20 rfl k417 dX10_as_1 ?_
    refine gf2_0 (pc := 4) 21 rfl k269 dX10_as_4 ?_
    refine b_iloadN (pc := 7) 1 dX10_as_7 rfl rfl ?_
    refine call_X5_isPerson (pc := 8) k642 (by decide) ⟨Nat.le_of_ble_eq_true rfl, Nat.le_of_ble_eq_true rfl⟩ (Nat.le_of_ble_eq_true rfl) dX10_as_8 ?_
    refine ⟨_, rfl, _, hC.num.2.2.2.1, ?_⟩
    refine b_if_eq (pc := 11) 23 dX10_as_11 (by decide) (fun c11 => ?_) (fun c11 => ?_)
    refine b_ldc (pc := 23) k450 dX10_as_23 ?_
    refine b_iret (pc := 25) rfl dX10_as_25 ⟨Nat.le_of_ble_eq_true rfl, Nat.le_of_ble_eq_true rfl⟩ ?_
    rotate_left -- leaf 0: return at 25
    rotate_left -- leaf 1: at 14
    -- leaves: 0 return at 25; 1 at 14
    · exact h1 (by rw [e, Bool.false_and])
    · exact absurd (bT c11) hp
theorem call_X10_as {E : ME} {Φ : Option AV → AM → Prop} {pc : Nat} {L : List (Option AV)} {st : List AV} {m : AM} {a : Nat × Nat} {idx : Nat} {x0 x1 : AV} {i : Nat} (hl : Cond.methodLink E.2.1 idx yX10_as ∈ TB) (hdep : 8 + 1 ≤ E.2.2.2.2.2.2) (hroom : a.1 + 0 ≤ E.2.2.2.2.1 ∧ a.2 + 0 ≤ E.2.2.2.2.2.1) (hsr : st.length ≤ 4) (hd : decode E.1 pc = .ok (.invokevirtual idx, 3)) (hsp : Sp_X10_as [vr 10 i, x0, x1] m (fun r m2 => B E Φ (pc + 3) L (r.toList ++ st) m2 a)) : B E Φ pc L (x1 :: x0 :: vr 10 i :: st) m a := b_callV S_X10_as [x0, x1] (RX10, TX10, 9) rfl rfl (by decide) (Or.inl hl) k983 k984 k68 k985 (show _ ∧ _ ∧ Option.map (fun d => d.parameters.length) (parseMethodDescriptor yX10_as.desc) = some 2 from by decide +kernel) ⟨hdep, by decide⟩ hroom hsr hd hsp
