/-! the reference reads the tape: bad, nextToken, must, mustSign, number, isLetter, kindBy, isSort -/
def TapM (m : AM) (T : Nat → Nat) (n : Nat) : Prop := m.1 110 10 = nI n ∧ n ≤ 120 ∧ ∀ k, k < n → m.1 117 k = nI (T k) ∧ T k < 256
theorem TapM.fm {li ls : List Nat} {m m2 : AM} {T : Nat → Nat} {n : Nat} (h : TapM m T n) (f : Fm li ls m m2) (h1 : 117 ∉ li) (h2 : 10 ∉ ls) : TapM m2 T n := by
  unfold TapM
  rw [f.2.1 117 (by decide) h1, f.2.2 10 h2]
  exact h
/-- which token stands at p -/
def tkN (T : Nat → Nat) (n p : Nat) : Nat := if n ≤ p then 1 else if 97 ≤ T p ∧ T p ≤ 122 then 2 else if numO T n p ≠ none then 3 else if T p = 44 ∨ T p = 59 then 4 else 0
/-- the reference's reader: a token stands read at p; or a fault was found -/
def RdS (m : AM) (T : Nat → Nat) (n : Nat) (x : Except (Nat × Nat) Nat) : Prop := match x with
  | .ok p => p ≤ n ∧ m.1 110 15 = nI 0 ∧ m.1 110 12 = nI p ∧ m.1 110 11 = nI (bhdN T n p) ∧ m.1 110 13 = nI (tkN T n p) ∧ (∀ w, symO T n p = some w → m.1 110 14 = nI w) ∧ ∀ w, numO T n p = some w → m.1 110 14 = nI w
  | .error e => (1 ≤ e.1 ∧ e.1 ≤ 3) ∧ m.1 110 15 = nI e.1 ∧ m.1 110 16 = nI e.2
theorem RdS.fm {li ls : List Nat} {m m2 : AM} {T : Nat → Nat} {n : Nat} {x : Except (Nat × Nat) Nat} (h : RdS m T n x) (f : Fm li ls m m2) (hl : ∀ k, k ∈ ls → k ≤ 10 ∨ 17 ≤ k) : RdS m2 T n x := by
  have o : ∀ k, 11 ≤ k → k ≤ 16 → m2.1 110 k = m.1 110 k := fun k a b => f.2.2 k (fun z => by have := hl k z; omega)
  unfold RdS
  rw [o 11 (by omega) (by omega), o 12 (by omega) (by omega), o 13 (by omega) (by omega), o 14 (by omega) (by omega), o 15 (by omega) (by omega), o 16 (by omega) (by omega)]
  exact h
theorem in0 {a lo hi : Nat} {bl bh : Int64} (ha : a < 2147483648) (hl : bl.toInt = (lo : Int)) (hh : bh.toInt = (hi : Int)) : nI (if bl.toInt ≤ (nI a).toInt64.toInt ∧ (nI a).toInt64.toInt ≤ bh.toInt then 1 else 0) = 0 ↔ ¬ (lo ≤ a ∧ a ≤ hi) := by
  rw [Int32.toInt_toInt64, nI_toInt ha, hl, hh]
  by_cases q : lo ≤ a ∧ a ≤ hi
  · rw [if_pos (by omega)]
    exact ⟨fun z => absurd z (by decide), fun z => absurd q z⟩
  · rw [if_neg (by omega)]
    exact ⟨fun _ => q, fun _ => rfl⟩
/-- what j figures from p on come to, in the reference's way -/
def pvR (T : Nat → Nat) (p j : Nat) : Nat := if j = 1 then T p - 48 else (T p - 48) * 10 + T (p + 1) - 48
theorem num_pvR {T : Nat → Nat} {n p : Nat} (h : dgP T n p) (q : endT T n p ≤ p + 2) (q1 : p + 1 ≤ endT T n p) : numO T n p = some (pvR T p (endT T n p - p)) := by
  unfold numO pvR
  rw [if_pos ⟨h, q⟩]
  by_cases r : endT T n p = p + 1
  · rw [if_pos r, if_pos (by omega)]
  · rw [if_neg r, if_neg (by omega)]
theorem ms_o {m : AM} {i j k : Nat} {x : Int32} (h : k ≠ j) : (mset m i j x).1 i k = m.1 i k := by rw [mset_at, if_neg h]
theorem ms_e {m : AM} {i j : Nat} {x : Int32} : (mset m i j x).1 i j = x := by rw [mset_at, if_pos rfl]
abbrev e_X11_nextToken : ME := (cX11_nextToken, (RX11, (1, (none, (0, (0, 3))))))
theorem dX11_nextToken_0 : decode cX11_nextToken 0 = .ok (.aload_n 0, 1) := by decide +kernel
theorem dX11_nextToken_1 : decode cX11_nextToken 1 = .ok (.aload_n 0, 1) := by decide +kernel
theorem dX11_nextToken_2 : decode cX11_nextToken 2 = .ok (.getfield 93, 3) := by decide +kernel
theorem dX11_nextToken_5 : decode cX11_nextToken 5 = .ok (.putfield 87, 3) := by decide +kernel
theorem dX11_nextToken_8 : decode cX11_nextToken 8 = .ok (.aload_n 0, 1) := by decide +kernel
theorem dX11_nextToken_9 : decode cX11_nextToken 9 = .ok (.aload_n 0, 1) := by decide +kernel
theorem dX11_nextToken_10 : decode cX11_nextToken 10 = .ok (.getfield 93, 3) := by decide +kernel
theorem dX11_nextToken_13 : decode cX11_nextToken 13 = .ok (.aload_n 0, 1) := by decide +kernel
theorem dX11_nextToken_14 : decode cX11_nextToken 14 = .ok (.getfield 80, 3) := by decide +kernel
theorem dX11_nextToken_17 : decode cX11_nextToken 17 = .ok (.if_icmp .ge 15, 3) := by decide +kernel
theorem dX11_nextToken_20 : decode cX11_nextToken 20 = .ok (.aload_n 0, 1) := by decide +kernel
theorem dX11_nextToken_21 : decode cX11_nextToken 21 = .ok (.getfield 28, 3) := by decide +kernel
theorem dX11_nextToken_24 : decode cX11_nextToken 24 = .ok (.aload_n 0, 1) := by decide +kernel
theorem dX11_nextToken_25 : decode cX11_nextToken 25 = .ok (.getfield 93, 3) := by decide +kernel
theorem dX11_nextToken_28 : decode cX11_nextToken 28 = .ok (.iaload, 1) := by decide +kernel
theorem dX11_nextToken_29 : decode cX11_nextToken 29 = .ok (.goto 5, 3) := by decide +kernel
theorem dX11_nextToken_32 : decode cX11_nextToken 32 = .ok (.ldc 96, 2) := by decide +kernel
theorem dX11_nextToken_34 : decode cX11_nextToken 34 = .ok (.putfield 97, 3) := by decide +kernel
theorem dX11_nextToken_37 : decode cX11_nextToken 37 = .ok (.aload_n 0, 1) := by decide +kernel
theorem dX11_nextToken_38 : decode cX11_nextToken 38 = .ok (.aload_n 0, 1) := by decide +kernel
theorem dX11_nextToken_39 : decode cX11_nextToken 39 = .ok (.getfield 93, 3) := by decide +kernel
theorem dX11_nextToken_42 : decode cX11_nextToken 42 = .ok (.aload_n 0, 1) := by decide +kernel
theorem dX11_nextToken_43 : decode cX11_nextToken 43 = .ok (.getfield 80, 3) := by decide +kernel
theorem dX11_nextToken_46 : decode cX11_nextToken 46 = .ok (.if_icmp .ne 7, 3) := by decide +kernel
theorem dX11_nextToken_49 : decode cX11_nextToken 49 = .ok (.iconst 1, 1) := by decide +kernel
theorem dX11_nextToken_50 : decode cX11_nextToken 50 = .ok (.goto 68, 3) := by decide +kernel
theorem dX11_nextToken_53 : decode cX11_nextToken 53 = .ok (.aload_n 0, 1) := by decide +kernel
theorem dX11_nextToken_54 : decode cX11_nextToken 54 = .ok (.getfield 97, 3) := by decide +kernel
theorem dX11_nextToken_57 : decode cX11_nextToken 57 = .ok (.i2l, 1) := by decide +kernel
theorem dX11_nextToken_58 : decode cX11_nextToken 58 = .ok (.ldc2_w 100, 3) := by decide +kernel
theorem dX11_nextToken_61 : decode cX11_nextToken 61 = .ok (.ldc2_w 102, 3) := by decide +kernel
theorem dX11_nextToken_64 : decode cX11_nextToken 64 = .ok (.invokestatic 63, 3) := by decide +kernel
theorem dX11_nextToken_67 : decode cX11_nextToken 67 = .ok (.ifCond .eq 7, 3) := by decide +kernel
theorem dX11_nextToken_70 : decode cX11_nextToken 70 = .ok (.iconst 2, 1) := by decide +kernel
theorem dX11_nextToken_71 : decode cX11_nextToken 71 = .ok (.goto 47, 3) := by decide +kernel
theorem dX11_nextToken_74 : decode cX11_nextToken 74 = .ok (.aload_n 0, 1) := by decide +kernel
theorem dX11_nextToken_75 : decode cX11_nextToken 75 = .ok (.getfield 97, 3) := by decide +kernel
theorem dX11_nextToken_78 : decode cX11_nextToken 78 = .ok (.i2l, 1) := by decide +kernel
theorem dX11_nextToken_79 : decode cX11_nextToken 79 = .ok (.ldc2_w 104, 3) := by decide +kernel
theorem dX11_nextToken_82 : decode cX11_nextToken 82 = .ok (.ldc2_w 106, 3) := by decide +kernel
theorem dX11_nextToken_85 : decode cX11_nextToken 85 = .ok (.invokestatic 63, 3) := by decide +kernel
theorem dX11_nextToken_88 : decode cX11_nextToken 88 = .ok (.ifCond .eq 7, 3) := by decide +kernel
theorem dX11_nextToken_91 : decode cX11_nextToken 91 = .ok (.iconst 3, 1) := by decide +kernel
theorem dX11_nextToken_92 : decode cX11_nextToken 92 = .ok (.goto 26, 3) := by decide +kernel
theorem dX11_nextToken_95 : decode cX11_nextToken 95 = .ok (.aload_n 0, 1) := by decide +kernel
theorem dX11_nextToken_96 : decode cX11_nextToken 96 = .ok (.getfield 97, 3) := by decide +kernel
theorem dX11_nextToken_99 : decode cX11_nextToken 99 = .ok (.bipush 44, 2) := by decide +kernel
theorem dX11_nextToken_101 : decode cX11_nextToken 101 = .ok (.if_icmp .eq 12, 3) := by decide +kernel
theorem dX11_nextToken_104 : decode cX11_nextToken 104 = .ok (.aload_n 0, 1) := by decide +kernel
theorem dX11_nextToken_105 : decode cX11_nextToken 105 = .ok (.getfield 97, 3) := by decide +kernel
theorem dX11_nextToken_108 : decode cX11_nextToken 108 = .ok (.bipush 59, 2) := by decide +kernel
theorem dX11_nextToken_110 : decode cX11_nextToken 110 = .ok (.if_icmp .ne 7, 3) := by decide +kernel
theorem dX11_nextToken_113 : decode cX11_nextToken 113 = .ok (.iconst 4, 1) := by decide +kernel
theorem dX11_nextToken_114 : decode cX11_nextToken 114 = .ok (.goto 4, 3) := by decide +kernel
theorem dX11_nextToken_117 : decode cX11_nextToken 117 = .ok (.iconst 0, 1) := by decide +kernel
theorem dX11_nextToken_118 : decode cX11_nextToken 118 = .ok (.putfield 108, 3) := by decide +kernel
theorem dX11_nextToken_121 : decode cX11_nextToken 121 = .ok (.aload_n 0, 1) := by decide +kernel
theorem dX11_nextToken_122 : decode cX11_nextToken 122 = .ok (.dup, 1) := by decide +kernel
theorem dX11_nextToken_123 : decode cX11_nextToken 123 = .ok (.getfield 93, 3) := by decide +kernel
theorem dX11_nextToken_126 : decode cX11_nextToken 126 = .ok (.aload_n 0, 1) := by decide +kernel
theorem dX11_nextToken_127 : decode cX11_nextToken 127 = .ok (.getfield 93, 3) := by decide +kernel
theorem dX11_nextToken_130 : decode cX11_nextToken 130 = .ok (.aload_n 0, 1) := by decide +kernel
theorem dX11_nextToken_131 : decode cX11_nextToken 131 = .ok (.getfield 80, 3) := by decide +kernel
theorem dX11_nextToken_134 : decode cX11_nextToken 134 = .ok (.if_icmp .ge 7, 3) := by decide +kernel
theorem dX11_nextToken_137 : decode cX11_nextToken 137 = .ok (.iconst 1, 1) := by decide +kernel
theorem dX11_nextToken_138 : decode cX11_nextToken 138 = .ok (.goto 4, 3) := by decide +kernel
theorem dX11_nextToken_141 : decode cX11_nextToken 141 = .ok (.iconst 0, 1) := by decide +kernel
theorem dX11_nextToken_142 : decode cX11_nextToken 142 = .ok (.iadd, 1) := by decide +kernel
theorem dX11_nextToken_143 : decode cX11_nextToken 143 = .ok (.putfield 93, 3) := by decide +kernel
theorem dX11_nextToken_146 : decode cX11_nextToken 146 = .ok (.aload_n 0, 1) := by decide +kernel
theorem dX11_nextToken_147 : decode cX11_nextToken 147 = .ok (.getfield 108, 3) := by decide +kernel
theorem dX11_nextToken_150 : decode cX11_nextToken 150 = .ok (.iconst 3, 1) := by decide +kernel
theorem dX11_nextToken_151 : decode cX11_nextToken 151 = .ok (.if_icmp .ne 126, 3) := by decide +kernel
theorem dX11_nextToken_154 : decode cX11_nextToken 154 = .ok (.aload_n 0, 1) := by decide +kernel
theorem dX11_nextToken_155 : decode cX11_nextToken 155 = .ok (.dup, 1) := by decide +kernel
theorem dX11_nextToken_156 : decode cX11_nextToken 156 = .ok (.getfield 97, 3) := by decide +kernel
theorem dX11_nextToken_159 : decode cX11_nextToken 159 = .ok (.bipush 48, 2) := by decide +kernel
theorem dX11_nextToken_161 : decode cX11_nextToken 161 = .ok (.isub, 1) := by decide +kernel
theorem dX11_nextToken_162 : decode cX11_nextToken 162 = .ok (.putfield 97, 3) := by decide +kernel
theorem dX11_nextToken_165 : decode cX11_nextToken 165 = .ok (.aload_n 0, 1) := by decide +kernel
theorem dX11_nextToken_166 : decode cX11_nextToken 166 = .ok (.getfield 93, 3) := by decide +kernel
theorem dX11_nextToken_169 : decode cX11_nextToken 169 = .ok (.aload_n 0, 1) := by decide +kernel
theorem dX11_nextToken_170 : decode cX11_nextToken 170 = .ok (.getfield 80, 3) := by decide +kernel
theorem dX11_nextToken_173 : decode cX11_nextToken 173 = .ok (.if_icmp .ge 82, 3) := by decide +kernel
theorem dX11_nextToken_176 : decode cX11_nextToken 176 = .ok (.aload_n 0, 1) := by decide +kernel
theorem dX11_nextToken_177 : decode cX11_nextToken 177 = .ok (.getfield 28, 3) := by decide +kernel
theorem dX11_nextToken_180 : decode cX11_nextToken 180 = .ok (.aload_n 0, 1) := by decide +kernel
theorem dX11_nextToken_181 : decode cX11_nextToken 181 = .ok (.getfield 93, 3) := by decide +kernel
theorem dX11_nextToken_184 : decode cX11_nextToken 184 = .ok (.iaload, 1) := by decide +kernel
theorem dX11_nextToken_185 : decode cX11_nextToken 185 = .ok (.i2l, 1) := by decide +kernel
theorem dX11_nextToken_186 : decode cX11_nextToken 186 = .ok (.ldc2_w 104, 3) := by decide +kernel
theorem dX11_nextToken_189 : decode cX11_nextToken 189 = .ok (.ldc2_w 106, 3) := by decide +kernel
theorem dX11_nextToken_192 : decode cX11_nextToken 192 = .ok (.invokestatic 63, 3) := by decide +kernel
theorem dX11_nextToken_195 : decode cX11_nextToken 195 = .ok (.ifCond .eq 60, 3) := by decide +kernel
theorem dX11_nextToken_198 : decode cX11_nextToken 198 = .ok (.aload_n 0, 1) := by decide +kernel
theorem dX11_nextToken_199 : decode cX11_nextToken 199 = .ok (.aload_n 0, 1) := by decide +kernel
theorem dX11_nextToken_200 : decode cX11_nextToken 200 = .ok (.getfield 93, 3) := by decide +kernel
theorem dX11_nextToken_203 : decode cX11_nextToken 203 = .ok (.aload_n 0, 1) := by decide +kernel
theorem dX11_nextToken_204 : decode cX11_nextToken 204 = .ok (.getfield 87, 3) := by decide +kernel
theorem dX11_nextToken_207 : decode cX11_nextToken 207 = .ok (.isub, 1) := by decide +kernel
theorem dX11_nextToken_208 : decode cX11_nextToken 208 = .ok (.iconst 2, 1) := by decide +kernel
theorem dX11_nextToken_209 : decode cX11_nextToken 209 = .ok (.if_icmp .ge 26, 3) := by decide +kernel
theorem dX11_nextToken_212 : decode cX11_nextToken 212 = .ok (.bipush 10, 2) := by decide +kernel
theorem dX11_nextToken_214 : decode cX11_nextToken 214 = .ok (.aload_n 0, 1) := by decide +kernel
theorem dX11_nextToken_215 : decode cX11_nextToken 215 = .ok (.getfield 97, 3) := by decide +kernel
theorem dX11_nextToken_218 : decode cX11_nextToken 218 = .ok (.imul, 1) := by decide +kernel
theorem dX11_nextToken_219 : decode cX11_nextToken 219 = .ok (.aload_n 0, 1) := by decide +kernel
theorem dX11_nextToken_220 : decode cX11_nextToken 220 = .ok (.getfield 28, 3) := by decide +kernel
theorem dX11_nextToken_223 : decode cX11_nextToken 223 = .ok (.aload_n 0, 1) := by decide +kernel
theorem dX11_nextToken_224 : decode cX11_nextToken 224 = .ok (.getfield 93, 3) := by decide +kernel
theorem dX11_nextToken_227 : decode cX11_nextToken 227 = .ok (.iaload, 1) := by decide +kernel
theorem dX11_nextToken_228 : decode cX11_nextToken 228 = .ok (.iadd, 1) := by decide +kernel
theorem dX11_nextToken_229 : decode cX11_nextToken 229 = .ok (.bipush 48, 2) := by decide +kernel
theorem dX11_nextToken_231 : decode cX11_nextToken 231 = .ok (.isub, 1) := by decide +kernel
theorem dX11_nextToken_232 : decode cX11_nextToken 232 = .ok (.goto 7, 3) := by decide +kernel
theorem dX11_nextToken_235 : decode cX11_nextToken 235 = .ok (.aload_n 0, 1) := by decide +kernel
theorem dX11_nextToken_236 : decode cX11_nextToken 236 = .ok (.getfield 97, 3) := by decide +kernel
theorem dX11_nextToken_239 : decode cX11_nextToken 239 = .ok (.putfield 97, 3) := by decide +kernel
theorem dX11_nextToken_242 : decode cX11_nextToken 242 = .ok (.aload_n 0, 1) := by decide +kernel
theorem dX11_nextToken_243 : decode cX11_nextToken 243 = .ok (.dup, 1) := by decide +kernel
theorem dX11_nextToken_244 : decode cX11_nextToken 244 = .ok (.getfield 93, 3) := by decide +kernel
theorem dX11_nextToken_247 : decode cX11_nextToken 247 = .ok (.iconst 1, 1) := by decide +kernel
theorem dX11_nextToken_248 : decode cX11_nextToken 248 = .ok (.iadd, 1) := by decide +kernel
theorem dX11_nextToken_249 : decode cX11_nextToken 249 = .ok (.putfield 93, 3) := by decide +kernel
theorem dX11_nextToken_252 : decode cX11_nextToken 252 = .ok (.goto (-87), 3) := by decide +kernel
theorem dX11_nextToken_255 : decode cX11_nextToken 255 = .ok (.aload_n 0, 1) := by decide +kernel
theorem dX11_nextToken_256 : decode cX11_nextToken 256 = .ok (.aload_n 0, 1) := by decide +kernel
theorem dX11_nextToken_257 : decode cX11_nextToken 257 = .ok (.getfield 93, 3) := by decide +kernel
theorem dX11_nextToken_260 : decode cX11_nextToken 260 = .ok (.aload_n 0, 1) := by decide +kernel
theorem dX11_nextToken_261 : decode cX11_nextToken 261 = .ok (.getfield 87, 3) := by decide +kernel
theorem dX11_nextToken_264 : decode cX11_nextToken 264 = .ok (.isub, 1) := by decide +kernel
theorem dX11_nextToken_265 : decode cX11_nextToken 265 = .ok (.iconst 2, 1) := by decide +kernel
theorem dX11_nextToken_266 : decode cX11_nextToken 266 = .ok (.if_icmp .le 7, 3) := by decide +kernel
theorem dX11_nextToken_269 : decode cX11_nextToken 269 = .ok (.iconst 0, 1) := by decide +kernel
theorem dX11_nextToken_270 : decode cX11_nextToken 270 = .ok (.goto 4, 3) := by decide +kernel
theorem dX11_nextToken_273 : decode cX11_nextToken 273 = .ok (.iconst 3, 1) := by decide +kernel
theorem dX11_nextToken_274 : decode cX11_nextToken 274 = .ok (.putfield 108, 3) := by decide +kernel
theorem dX11_nextToken_277 : decode cX11_nextToken 277 = .ok (.return_, 1) := by decide +kernel
def Sp_X11_nextToken (av : List AV) (m : AM) (Φ : Option AV → AM → Prop) : Prop := av = [vr 11 110] ∧ ∃ T n p, TapM m T n ∧ m.1 110 11 = nI p ∧ p ≤ n ∧ m.1 110 15 = nI 0 ∧ ∀ m2, Fm [] [11, 12, 13, 14] m m2 → RdS m2 T n (.ok p) → Φ none m2
set_option maxRecDepth 20000 in
set_option maxHeartbeats 4000000 in
theorem S_X11_nextToken : Snd yX11_nextToken e_X11_nextToken Sp_X11_nextToken := by
  refine Snd.of (by decide +kernel) rfl ?_ ?_
  · rintro av m Φ ⟨rfl, _⟩; exact Nat.le_of_ble_eq_true rfl
  rintro av m Φ ⟨rfl, T, n, p, hT, h11, hp, h15, h⟩ hav hty
  show B e_X11_nextToken Φ 0 [some (vr 11 110)] [] m (0, 0)
  have hn := hT.2.1
  have fin : ∀ M, Fm [] [11, 12, 13, 14] m M → M.1 110 12 = nI p → M.1 110 11 = nI (bhdN T n p) → M.1 110 13 = nI (tkN T n p) → (∀ w, symO T n p = some w → M.1 110 14 = nI w) → (∀ w, numO T n p = some w → M.1 110 14 = nI w) → Φ none M := fun M hF a b c d e => h M hF ⟨hp, (hF.2.2 15 (by decide)).trans h15, a, b, c, d, e⟩
  have nosym : dgP T n p → symO T n p = none := fun q => if_neg (fun z => by have := q.2; omega)
  have loop : ∀ e M k, n + 1 ≤ k + e → p + 1 ≤ k → k ≤ n → dgP T n p → (∀ j, p ≤ j → j < k → dgP T n j) → Fm [] [11, 12, 13, 14] m M → M.1 110 12 = nI p → M.1 110 11 = nI k → M.1 110 13 = nI 3 → M.1 110 14 = nI (pvR T p (k - p)) → B e_X11_nextToken Φ 165 [some (vr 11 110)] [] M (0, 0) := by
    intro e
    induction e with
    | zero => intro M k z1 z2 z3; omega
    | succ e ih =>
      intro M k z1 z2 z3 dp hd hF h12 h11 h13 h14
      have hTM := hT.fm hF (by decide) (by decide)
      by_cases q : dgP T n k
      · have tk := hTM.2.2 k q.1
        have hd2 : ∀ j, p ≤ j → j < k + 1 → dgP T n j := fun j a b => by
          by_cases z : j = k
          · rw [z]; exact q
          · exact hd j a (by omega)
        have q1 := q.1
        have q2 := q.2
        refine b_aloadN (pc := 165) 0 dX11_nextToken_165 rfl rfl ?_
        refine gf11_11 (pc := 166) k1053 dX11_nextToken_166 ?_
        refine b_aloadN (pc := 169) 0 dX11_nextToken_169 rfl rfl ?_
        refine gf11_10 (pc := 170) k1052 dX11_nextToken_170 ?_
        refine b_icmp_ge (pc := 173) 255 dX11_nextToken_173 (by decide) (fun c173 => ?_) (fun c173 => ?_)
        rotate_left -- leaf 0: at 255
        refine b_aloadN (pc := 176) 0 dX11_nextToken_176 rfl rfl ?_
        refine gf11_9 (pc := 177) 117 rfl k1051 dX11_nextToken_177 ?_
        refine b_aloadN (pc := 180) 0 dX11_nextToken_180 rfl rfl ?_
        refine gf11_11 (pc := 181) k1053 dX11_nextToken_181 ?_
        refine b_iald (pc := 184) (by decide) ?_ dX11_nextToken_184 ?_
        rotate_left -- leaf 1: index at 184
        refine b_i2l (pc := 185) dX11_nextToken_185 ?_
        refine b_ldc2 (pc := 186) k1183 dX11_nextToken_186 ?_
        refine b_ldc2 (pc := 189) k1184 dX11_nextToken_189 ?_
        refine call_X11_in (pc := 192) k1136 (by decide) ⟨Nat.le_of_ble_eq_true rfl, Nat.le_of_ble_eq_true rfl⟩ (Nat.le_of_ble_eq_true rfl) dX11_nextToken_192 ?_
        refine ⟨_, _, _, rfl, ?_⟩
        refine b_if_eq (pc := 195) 255 dX11_nextToken_195 (by decide) (fun c195 => ?_) (fun c195 => ?_)
        rotate_left -- leaf 2: at 255
        refine b_aloadN (pc := 198) 0 dX11_nextToken_198 rfl rfl ?_
        refine b_aloadN (pc := 199) 0 dX11_nextToken_199 rfl rfl ?_
        refine gf11_11 (pc := 200) k1053 dX11_nextToken_200 ?_
        refine b_aloadN (pc := 203) 0 dX11_nextToken_203 rfl rfl ?_
        refine gf11_12 (pc := 204) k1054 dX11_nextToken_204 ?_
        refine b_isub (pc := 207) dX11_nextToken_207 ?_
        refine b_iconst (pc := 208) (nI 2) dX11_nextToken_208 (by decide) ?_
        refine b_icmp_ge (pc := 209) 235 dX11_nextToken_209 (by decide) (fun c209 => ?_) (fun c209 => ?_)
        refine b_aloadN (pc := 235) 0 dX11_nextToken_235 rfl rfl ?_
        refine gf11_14 (pc := 236) k1056 dX11_nextToken_236 ?_
        refine pf11_14 (pc := 239) k1056 dX11_nextToken_239 ?_
        refine b_aloadN (pc := 242) 0 dX11_nextToken_242 rfl rfl ?_
        refine b_dup_r (pc := 243) dX11_nextToken_243 ?_
        refine gf11_11 (pc := 244) k1053 dX11_nextToken_244 ?_
        refine b_iconst (pc := 247) (nI 1) dX11_nextToken_247 (by decide) ?_
        refine b_iadd (pc := 248) dX11_nextToken_248 ?_
        refine pf11_11 (pc := 249) k1053 dX11_nextToken_249 ?_
        refine b_goto (pc := 252) 165 dX11_nextToken_252 (by decide) ?_
        rotate_left -- leaf 3: at 165
        refine b_bipush (pc := 212) (nI 10) dX11_nextToken_212 (by decide) ?_
        refine b_aloadN (pc := 214) 0 dX11_nextToken_214 rfl rfl ?_
        refine gf11_14 (pc := 215) k1056 dX11_nextToken_215 ?_
        refine b_imul (pc := 218) dX11_nextToken_218 ?_
        refine b_aloadN (pc := 219) 0 dX11_nextToken_219 rfl rfl ?_
        refine gf11_9 (pc := 220) 117 rfl k1051 dX11_nextToken_220 ?_
        refine b_aloadN (pc := 223) 0 dX11_nextToken_223 rfl rfl ?_
        refine gf11_11 (pc := 224) k1053 dX11_nextToken_224 ?_
        refine b_iald (pc := 227) (by decide) ?_ dX11_nextToken_227 ?_
        rotate_left -- leaf 4: index at 227
        refine b_iadd (pc := 228) dX11_nextToken_228 ?_
        refine b_bipush (pc := 229) (nI 48) dX11_nextToken_229 (by decide) ?_
        refine b_isub (pc := 231) dX11_nextToken_231 ?_
        refine b_goto (pc := 232) 239 dX11_nextToken_232 (by decide) ?_
        refine pf11_14 (pc := 239) k1056 dX11_nextToken_239 ?_
        refine b_aloadN (pc := 242) 0 dX11_nextToken_242 rfl rfl ?_
        refine b_dup_r (pc := 243) dX11_nextToken_243 ?_
        refine gf11_11 (pc := 244) k1053 dX11_nextToken_244 ?_
        refine b_iconst (pc := 247) (nI 1) dX11_nextToken_247 (by decide) ?_
        refine b_iadd (pc := 248) dX11_nextToken_248 ?_
        refine pf11_11 (pc := 249) k1053 dX11_nextToken_249 ?_
        refine b_goto (pc := 252) 165 dX11_nextToken_252 (by decide) ?_
        rotate_left -- leaf 5: at 165
        -- leaves: 0 at 255; 1 index at 184; 2 at 255; 3 at 165; 4 index at 227; 5 at 165
        · rw [hTM.1, h11, n_le (by omega) (by omega)] at c173
          omega
        · rw [h11]; exact n_in (by omega) (by omega)
        · rw [h11, n_cl (by omega), tk.1, in0 (lo := 48) (hi := 57) (by omega) rfl rfl] at c195
          exact absurd q.2 c195
        · rw [h11, h12, n_sub (by omega), n_le (by omega) (by omega)] at c209
          refine ih _ (k + 1) (by omega) (by omega) (by omega) dp hd2 ((hF.m0 (by simp)).m0 (by simp)) ?_ ?_ ?_ ?_
          · rw [ms_o (by decide), ms_o (by decide)]; exact h12
          · rw [ms_e, ms_o (by decide), h11, n_add]
          · rw [ms_o (by decide), ms_o (by decide)]; exact h13
          · rw [ms_o (by decide), ms_e, h14]
            unfold pvR
            rw [if_neg (by omega), if_neg (by omega)]
        · rw [h11]; exact n_in (by omega) (by omega)
        · rw [h11, h12, n_sub (by omega), n_le (by omega) (by omega)] at c209
          have k1 : k = p + 1 := by omega
          have tp := dp.2
          refine ih _ (k + 1) (by omega) (by omega) (by omega) dp hd2 ((hF.m0 (by simp)).m0 (by simp)) ?_ ?_ ?_ ?_
          · rw [ms_o (by decide), ms_o (by decide)]; exact h12
          · rw [ms_e, ms_o (by decide), h11, n_add]
          · rw [ms_o (by decide), ms_o (by decide)]; exact h13
          · rw [ms_o (by decide), ms_e, h14, h11, n_cl (by omega), tk.1]
            unfold pvR
            rw [if_pos (by omega), if_neg (by omega), n_mul, n_add, n_sub (by omega), k1, Nat.mul_comm]
      · have ek := endT_is hn (by omega) z3 q hd
        have out : B e_X11_nextToken Φ 255 [some (vr 11 110)] [] M (0, 0) := by
          have t3 : tkN T n p = if numO T n p ≠ none then 3 else 0 := by
            have := dp.2
            have := dp.1
            unfold tkN
            rw [if_neg (by omega), if_neg (by omega), if_neg (show ¬ (T p = 44 ∨ T p = 59) by omega)]
          refine b_aloadN (pc := 255) 0 dX11_nextToken_255 rfl rfl ?_
          refine b_aloadN (pc := 256) 0 dX11_nextToken_256 rfl rfl ?_
          refine gf11_11 (pc := 257) k1053 dX11_nextToken_257 ?_
          refine b_aloadN (pc := 260) 0 dX11_nextToken_260 rfl rfl ?_
          refine gf11_12 (pc := 261) k1054 dX11_nextToken_261 ?_
          refine b_isub (pc := 264) dX11_nextToken_264 ?_
          refine b_iconst (pc := 265) (nI 2) dX11_nextToken_265 (by decide) ?_
          refine b_icmp_le (pc := 266) 273 dX11_nextToken_266 (by decide) (fun c266 => ?_) (fun c266 => ?_)
          refine b_iconst (pc := 273) (nI 3) dX11_nextToken_273 (by decide) ?_
          refine pf11_13 (pc := 274) k1055 dX11_nextToken_274 ?_
          refine b_vret (pc := 277) rfl dX11_nextToken_277 ⟨Nat.le_of_ble_eq_true rfl, Nat.le_of_ble_eq_true rfl⟩ ?_
          rotate_left -- leaf 0: return at 277
          refine b_iconst (pc := 269) (nI 0) dX11_nextToken_269 (by decide) ?_
          refine b_goto (pc := 270) 274 dX11_nextToken_270 (by decide) ?_
          refine pf11_13 (pc := 274) k1055 dX11_nextToken_274 ?_
          refine b_vret (pc := 277) rfl dX11_nextToken_277 ⟨Nat.le_of_ble_eq_true rfl, Nat.le_of_ble_eq_true rfl⟩ ?_
          rotate_left -- leaf 1: return at 277
          -- leaves: 0 return at 277; 1 return at 277
          · rw [h11, h12, n_sub (by omega), n_le (by omega) (by omega)] at c266
            have hnum := num_pvR dp (by omega) (by omega)
            rw [ek] at hnum
            refine fin _ (hF.m0 (by simp)) ?_ ?_ ?_ ?_ ?_
            · rw [ms_o (by decide)]; exact h12
            · rw [ms_o (by decide), h11]
              unfold bhdN
              rw [if_pos dp, ek]
            · rw [ms_e, t3, hnum, if_pos (fun z => by cases z)]
            · rw [nosym dp]; intro w z; cases z
            · rw [hnum]; intro w z; cases z
              rw [ms_o (by decide)]; exact h14
          · rw [h11, h12, n_sub (by omega), n_le (by omega) (by omega)] at c266
            have hnum : numO T n p = none := if_neg (fun z => by have := z.2; omega)
            refine fin _ (hF.m0 (by simp)) ?_ ?_ ?_ ?_ ?_
            · rw [ms_o (by decide)]; exact h12
            · rw [ms_o (by decide), h11]
              unfold bhdN
              rw [if_pos dp, ek]
            · rw [ms_e, t3, hnum, if_neg (fun z => z rfl)]
            · rw [nosym dp]; intro w z; cases z
            · rw [hnum]; intro w z; cases z
        refine b_aloadN (pc := 165) 0 dX11_nextToken_165 rfl rfl ?_
        refine gf11_11 (pc := 166) k1053 dX11_nextToken_166 ?_
        refine b_aloadN (pc := 169) 0 dX11_nextToken_169 rfl rfl ?_
        refine gf11_10 (pc := 170) k1052 dX11_nextToken_170 ?_
        refine b_icmp_ge (pc := 173) 255 dX11_nextToken_173 (by decide) (fun c173 => ?_) (fun c173 => ?_)
        rotate_left -- leaf 0: at 255
        refine b_aloadN (pc := 176) 0 dX11_nextToken_176 rfl rfl ?_
        refine gf11_9 (pc := 177) 117 rfl k1051 dX11_nextToken_177 ?_
        refine b_aloadN (pc := 180) 0 dX11_nextToken_180 rfl rfl ?_
        refine gf11_11 (pc := 181) k1053 dX11_nextToken_181 ?_
        refine b_iald (pc := 184) (by decide) ?_ dX11_nextToken_184 ?_
        rotate_left -- leaf 1: index at 184
        refine b_i2l (pc := 185) dX11_nextToken_185 ?_
        refine b_ldc2 (pc := 186) k1183 dX11_nextToken_186 ?_
        refine b_ldc2 (pc := 189) k1184 dX11_nextToken_189 ?_
        refine call_X11_in (pc := 192) k1136 (by decide) ⟨Nat.le_of_ble_eq_true rfl, Nat.le_of_ble_eq_true rfl⟩ (Nat.le_of_ble_eq_true rfl) dX11_nextToken_192 ?_
        refine ⟨_, _, _, rfl, ?_⟩
        refine b_if_eq (pc := 195) 255 dX11_nextToken_195 (by decide) (fun c195 => ?_) (fun c195 => ?_)
        rotate_left -- leaf 2: at 255
        rotate_left -- leaf 3: at 198
        -- leaves: 0 at 255; 1 index at 184; 2 at 255; 3 at 198
        · exact out
        · rw [hTM.1, h11, n_le (by omega) (by omega)] at c173
          rw [h11]; exact n_in (by omega) (by omega)
        · exact out
        · rw [hTM.1, h11, n_le (by omega) (by omega)] at c173
          have tk := hTM.2.2 k (by omega)
          rw [h11, n_cl (by omega), tk.1, in0 (lo := 48) (hi := 57) (by omega) rfl rfl] at c195
          exact absurd ⟨by omega, Decidable.not_not.mp c195⟩ q
  have s118 : ∀ M t, Fm [] [11, 12, 13, 14] m M → M.1 110 12 = nI p → M.1 110 11 = nI p → t ≤ 4 → (t ≠ 3 → ¬ dgP T n p ∧ tkN T n p = t) → (t = 3 → dgP T n p) → (p < n → M.1 110 14 = nI (T p)) → B e_X11_nextToken Φ 118 [some (vr 11 110)] [vi (nI t), vr 11 110] M (0, 0) := by
    intro M t hF h12 h11 ht t1 t2 h14
    have hTM := hT.fm hF (by decide) (by decide)
    have done : ∀ x, x = nI (bhdN T n p) → t ≠ 3 → Φ none (mset (mset M 110 13 (nI t)) 110 11 x) := by
      intro x hx z
      have tt := t1 z
      refine fin _ ((hF.m0 (by simp)).m0 (by simp)) ?_ ?_ ?_ ?_ ?_
      · rw [ms_o (by decide), ms_o (by decide)]; exact h12
      · rw [ms_e]; exact hx
      · rw [ms_o (by decide), ms_e, tt.2]
      · intro w z2
        rw [ms_o (by decide), ms_o (by decide)]
        unfold symO at z2
        split at z2
        next y => cases z2; exact h14 y.1
        next => cases z2
      · intro w z2
        unfold numO at z2
        rw [if_neg (fun y => tt.1 y.1)] at z2
        cases z2
    refine pf11_13 (pc := 118) k1055 dX11_nextToken_118 ?_
    refine b_aloadN (pc := 121) 0 dX11_nextToken_121 rfl rfl ?_
    refine b_dup_r (pc := 122) dX11_nextToken_122 ?_
    refine gf11_11 (pc := 123) k1053 dX11_nextToken_123 ?_
    refine b_aloadN (pc := 126) 0 dX11_nextToken_126 rfl rfl ?_
    refine gf11_11 (pc := 127) k1053 dX11_nextToken_127 ?_
    refine b_aloadN (pc := 130) 0 dX11_nextToken_130 rfl rfl ?_
    refine gf11_10 (pc := 131) k1052 dX11_nextToken_131 ?_
    refine b_icmp_ge (pc := 134) 141 dX11_nextToken_134 (by decide) (fun c134 => ?_) (fun c134 => ?_)
    refine b_iconst (pc := 141) (nI 0) dX11_nextToken_141 (by decide) ?_
    refine b_iadd (pc := 142) dX11_nextToken_142 ?_
    refine pf11_11 (pc := 143) k1053 dX11_nextToken_143 ?_
    refine b_aloadN (pc := 146) 0 dX11_nextToken_146 rfl rfl ?_
    refine gf11_13 (pc := 147) k1055 dX11_nextToken_147 ?_
    refine b_iconst (pc := 150) (nI 3) dX11_nextToken_150 (by decide) ?_
    refine b_icmp_ne (pc := 151) 277 dX11_nextToken_151 (by decide) (fun c151 => ?_) (fun c151 => ?_)
    refine b_vret (pc := 277) rfl dX11_nextToken_277 ⟨Nat.le_of_ble_eq_true rfl, Nat.le_of_ble_eq_true rfl⟩ ?_
    rotate_left -- leaf 0: return at 277
    refine b_aloadN (pc := 154) 0 dX11_nextToken_154 rfl rfl ?_
    refine b_dup_r (pc := 155) dX11_nextToken_155 ?_
    refine gf11_14 (pc := 156) k1056 dX11_nextToken_156 ?_
    refine b_bipush (pc := 159) (nI 48) dX11_nextToken_159 (by decide) ?_
    refine b_isub (pc := 161) dX11_nextToken_161 ?_
    refine pf11_14 (pc := 162) k1056 dX11_nextToken_162 ?_
    rotate_left -- leaf 1: at 165
    refine b_iconst (pc := 137) (nI 1) dX11_nextToken_137 (by decide) ?_
    refine b_goto (pc := 138) 142 dX11_nextToken_138 (by decide) ?_
    refine b_iadd (pc := 142) dX11_nextToken_142 ?_
    refine pf11_11 (pc := 143) k1053 dX11_nextToken_143 ?_
    refine b_aloadN (pc := 146) 0 dX11_nextToken_146 rfl rfl ?_
    refine gf11_13 (pc := 147) k1055 dX11_nextToken_147 ?_
    refine b_iconst (pc := 150) (nI 3) dX11_nextToken_150 (by decide) ?_
    refine b_icmp_ne (pc := 151) 277 dX11_nextToken_151 (by decide) (fun c151 => ?_) (fun c151 => ?_)
    refine b_vret (pc := 277) rfl dX11_nextToken_277 ⟨Nat.le_of_ble_eq_true rfl, Nat.le_of_ble_eq_true rfl⟩ ?_
    rotate_left -- leaf 2: return at 277
    refine b_aloadN (pc := 154) 0 dX11_nextToken_154 rfl rfl ?_
    refine b_dup_r (pc := 155) dX11_nextToken_155 ?_
    refine gf11_14 (pc := 156) k1056 dX11_nextToken_156 ?_
    refine b_bipush (pc := 159) (nI 48) dX11_nextToken_159 (by decide) ?_
    refine b_isub (pc := 161) dX11_nextToken_161 ?_
    refine pf11_14 (pc := 162) k1056 dX11_nextToken_162 ?_
    rotate_left -- leaf 3: at 165
    -- leaves: 0 return at 277; 1 at 165; 2 return at 277; 3 at 165
    · rw [ms_o (by decide), ms_o (by decide), hTM.1, h11, n_le (by omega) (by omega)] at c134
      rw [ms_o (by decide), ms_e, n_eq (by omega) (by omega)] at c151
      refine done _ ?_ c151
      rw [ms_o (by decide), h11, n_add]
      unfold bhdN
      rw [if_neg (fun z => by have := z.1; omega), if_neg (by omega), Nat.add_zero]
    · rw [ms_o (by decide), ms_o (by decide), hTM.1, h11, n_le (by omega) (by omega)] at c134
      rw [ms_o (by decide), ms_e, n_eq (by omega) (by omega)] at c151
      have := (t2 (by omega)).1
      omega
    · rw [ms_o (by decide), ms_o (by decide), hTM.1, h11, n_le (by omega) (by omega)] at c134
      rw [ms_o (by decide), ms_e, n_eq (by omega) (by omega)] at c151
      refine done _ ?_ c151
      rw [ms_o (by decide), h11, n_add]
      unfold bhdN
      rw [if_neg (t1 c151).1, if_pos (by omega)]
    · rw [ms_o (by decide), ms_o (by decide), hTM.1, h11, n_le (by omega) (by omega)] at c134
      rw [ms_o (by decide), ms_e, n_eq (by omega) (by omega)] at c151
      have t3 : t = 3 := by omega
      have dp := t2 t3
      have dp2 := dp.2
      refine loop (n + 1) _ (p + 1) (by omega) (by omega) (by omega) dp (fun j a b => by rw [show j = p by omega]; exact dp) (((hF.m0 (by simp)).m0 (by simp)).m0 (by simp)) ?_ ?_ ?_ ?_
      · rw [ms_o (by decide), ms_o (by decide), ms_o (by decide)]; exact h12
      · rw [ms_o (by decide), ms_e, ms_o (by decide), h11, n_add]
      · rw [ms_o (by decide), ms_o (by decide), ms_e, t3]
      · rw [ms_e, ms_o (by decide), ms_o (by decide), h14 (by omega), n_sub (by omega)]
        unfold pvR
        rw [if_pos (by omega)]
  have s37 : ∀ M, Fm [] [11, 12, 13, 14] m M → M.1 110 12 = nI p → M.1 110 11 = nI p → (p < n → M.1 110 14 = nI (T p)) → B e_X11_nextToken Φ 37 [some (vr 11 110)] [] M (0, 0) := by
    intro M hF h12 h11 h14
    have hTM := hT.fm hF (by decide) (by decide)
    have tkv : p < n → T p < 256 := fun z => (hTM.2.2 p z).2
    have nn : ¬ dgP T n p → numO T n p = none := fun q => if_neg (fun z => q z.1)
    have tko : ∀ t, p < n → ¬ (97 ≤ T p ∧ T p ≤ 122) → ¬ (48 ≤ T p ∧ T p ≤ 57) → t = (if T p = 44 ∨ T p = 59 then 4 else 0) → ¬ dgP T n p ∧ tkN T n p = t := by
      intro t a b c d
      have nd : ¬ dgP T n p := fun z => c z.2
      refine ⟨nd, ?_⟩
      unfold tkN
      rw [if_neg (by omega), if_neg b, nn nd, if_neg (fun z => z rfl), d]
    refine b_aloadN (pc := 37) 0 dX11_nextToken_37 rfl rfl ?_
    refine b_aloadN (pc := 38) 0 dX11_nextToken_38 rfl rfl ?_
    refine gf11_11 (pc := 39) k1053 dX11_nextToken_39 ?_
    refine b_aloadN (pc := 42) 0 dX11_nextToken_42 rfl rfl ?_
    refine gf11_10 (pc := 43) k1052 dX11_nextToken_43 ?_
    refine b_icmp_ne (pc := 46) 53 dX11_nextToken_46 (by decide) (fun c46 => ?_) (fun c46 => ?_)
    refine b_aloadN (pc := 53) 0 dX11_nextToken_53 rfl rfl ?_
    refine gf11_14 (pc := 54) k1056 dX11_nextToken_54 ?_
    refine b_i2l (pc := 57) dX11_nextToken_57 ?_
    refine b_ldc2 (pc := 58) k1181 dX11_nextToken_58 ?_
    refine b_ldc2 (pc := 61) k1182 dX11_nextToken_61 ?_
    refine call_X11_in (pc := 64) k1136 (by decide) ⟨Nat.le_of_ble_eq_true rfl, Nat.le_of_ble_eq_true rfl⟩ (Nat.le_of_ble_eq_true rfl) dX11_nextToken_64 ?_
    refine ⟨_, _, _, rfl, ?_⟩
    refine b_if_eq (pc := 67) 74 dX11_nextToken_67 (by decide) (fun c67 => ?_) (fun c67 => ?_)
    refine b_aloadN (pc := 74) 0 dX11_nextToken_74 rfl rfl ?_
    refine gf11_14 (pc := 75) k1056 dX11_nextToken_75 ?_
    refine b_i2l (pc := 78) dX11_nextToken_78 ?_
    refine b_ldc2 (pc := 79) k1183 dX11_nextToken_79 ?_
    refine b_ldc2 (pc := 82) k1184 dX11_nextToken_82 ?_
    refine call_X11_in (pc := 85) k1136 (by decide) ⟨Nat.le_of_ble_eq_true rfl, Nat.le_of_ble_eq_true rfl⟩ (Nat.le_of_ble_eq_true rfl) dX11_nextToken_85 ?_
    refine ⟨_, _, _, rfl, ?_⟩
    refine b_if_eq (pc := 88) 95 dX11_nextToken_88 (by decide) (fun c88 => ?_) (fun c88 => ?_)
    refine b_aloadN (pc := 95) 0 dX11_nextToken_95 rfl rfl ?_
    refine gf11_14 (pc := 96) k1056 dX11_nextToken_96 ?_
    refine b_bipush (pc := 99) (nI 44) dX11_nextToken_99 (by decide) ?_
    refine b_icmp_eq (pc := 101) 113 dX11_nextToken_101 (by decide) (fun c101 => ?_) (fun c101 => ?_)
    refine b_iconst (pc := 113) (nI 4) dX11_nextToken_113 (by decide) ?_
    refine b_goto (pc := 114) 118 dX11_nextToken_114 (by decide) ?_
    rotate_left -- leaf 0: at 118
    refine b_aloadN (pc := 104) 0 dX11_nextToken_104 rfl rfl ?_
    refine gf11_14 (pc := 105) k1056 dX11_nextToken_105 ?_
    refine b_bipush (pc := 108) (nI 59) dX11_nextToken_108 (by decide) ?_
    refine b_icmp_ne (pc := 110) 117 dX11_nextToken_110 (by decide) (fun c110 => ?_) (fun c110 => ?_)
    refine b_iconst (pc := 117) (nI 0) dX11_nextToken_117 (by decide) ?_
    rotate_left -- leaf 1: at 118
    refine b_iconst (pc := 113) (nI 4) dX11_nextToken_113 (by decide) ?_
    refine b_goto (pc := 114) 118 dX11_nextToken_114 (by decide) ?_
    rotate_left -- leaf 2: at 118
    refine b_iconst (pc := 91) (nI 3) dX11_nextToken_91 (by decide) ?_
    refine b_goto (pc := 92) 118 dX11_nextToken_92 (by decide) ?_
    rotate_left -- leaf 3: at 118
    refine b_iconst (pc := 70) (nI 2) dX11_nextToken_70 (by decide) ?_
    refine b_goto (pc := 71) 118 dX11_nextToken_71 (by decide) ?_
    rotate_left -- leaf 4: at 118
    refine b_iconst (pc := 49) (nI 1) dX11_nextToken_49 (by decide) ?_
    refine b_goto (pc := 50) 118 dX11_nextToken_50 (by decide) ?_
    rotate_left -- leaf 5: at 118
    -- leaves: 0 at 118; 1 at 118; 2 at 118; 3 at 118; 4 at 118; 5 at 118
    · rw [h11, hTM.1, n_eq (by omega) (by omega)] at c46
      have hpn : p < n := by omega
      have := tkv hpn
      rw [h14 hpn, in0 (lo := 97) (hi := 122) (by omega) rfl rfl] at c67
      rw [h14 hpn, in0 (lo := 48) (hi := 57) (by omega) rfl rfl] at c88
      rw [h14 hpn, n_eq (by omega) (by omega)] at c101
      exact s118 M 4 hF h12 h11 (by omega) (fun _ => tko 4 hpn c67 c88 (by rw [if_pos (Or.inl c101)])) (fun z => absurd z (by omega)) h14
    · rw [h11, hTM.1, n_eq (by omega) (by omega)] at c46
      have hpn : p < n := by omega
      have := tkv hpn
      rw [h14 hpn, in0 (lo := 97) (hi := 122) (by omega) rfl rfl] at c67
      rw [h14 hpn, in0 (lo := 48) (hi := 57) (by omega) rfl rfl] at c88
      rw [h14 hpn, n_eq (by omega) (by omega)] at c101
      rw [h14 hpn, n_eq (by omega) (by omega)] at c110
      exact s118 M 0 hF h12 h11 (by omega) (fun _ => tko 0 hpn c67 c88 (by rw [if_neg (by omega)])) (fun z => absurd z (by omega)) h14
    · rw [h11, hTM.1, n_eq (by omega) (by omega)] at c46
      have hpn : p < n := by omega
      have := tkv hpn
      rw [h14 hpn, in0 (lo := 97) (hi := 122) (by omega) rfl rfl] at c67
      rw [h14 hpn, in0 (lo := 48) (hi := 57) (by omega) rfl rfl] at c88
      rw [h14 hpn, n_eq (by omega) (by omega)] at c110
      exact s118 M 4 hF h12 h11 (by omega) (fun _ => tko 4 hpn c67 c88 (by rw [if_pos (by omega)])) (fun z => absurd z (by omega)) h14
    · rw [h11, hTM.1, n_eq (by omega) (by omega)] at c46
      have hpn : p < n := by omega
      have := tkv hpn
      rw [h14 hpn, in0 (lo := 48) (hi := 57) (by omega) rfl rfl] at c88
      exact s118 M 3 hF h12 h11 (by omega) (fun z => absurd rfl z) (fun _ => ⟨hpn, Decidable.not_not.mp c88⟩) h14
    · rw [h11, hTM.1, n_eq (by omega) (by omega)] at c46
      have hpn : p < n := by omega
      have := tkv hpn
      rw [h14 hpn, in0 (lo := 97) (hi := 122) (by omega) rfl rfl] at c67
      have c := Decidable.not_not.mp c67
      refine s118 M 2 hF h12 h11 (by omega) (fun _ => ⟨fun z => by have := z.2; omega, ?_⟩) (fun z => absurd z (by omega)) h14
      unfold tkN
      rw [if_neg (by omega), if_pos c]
    · rw [h11, hTM.1, n_eq (by omega) (by omega)] at c46
      refine s118 M 1 hF h12 h11 (by omega) (fun _ => ⟨fun z => by have := z.1; omega, ?_⟩) (fun z => absurd z (by omega)) h14
      unfold tkN
      rw [if_pos (by omega)]
  refine b_aloadN (pc := 0) 0 dX11_nextToken_0 rfl rfl ?_
  refine b_aloadN (pc := 1) 0 dX11_nextToken_1 rfl rfl ?_
  refine gf11_11 (pc := 2) k1053 dX11_nextToken_2 ?_
  refine pf11_12 (pc := 5) k1054 dX11_nextToken_5 ?_
  refine b_aloadN (pc := 8) 0 dX11_nextToken_8 rfl rfl ?_
  refine b_aloadN (pc := 9) 0 dX11_nextToken_9 rfl rfl ?_
  refine gf11_11 (pc := 10) k1053 dX11_nextToken_10 ?_
  refine b_aloadN (pc := 13) 0 dX11_nextToken_13 rfl rfl ?_
  refine gf11_10 (pc := 14) k1052 dX11_nextToken_14 ?_
  refine b_icmp_ge (pc := 17) 32 dX11_nextToken_17 (by decide) (fun c17 => ?_) (fun c17 => ?_)
  refine b_ldc (pc := 32) k1180 dX11_nextToken_32 ?_
  refine pf11_14 (pc := 34) k1056 dX11_nextToken_34 ?_
  rotate_left -- leaf 0: at 37
  refine b_aloadN (pc := 20) 0 dX11_nextToken_20 rfl rfl ?_
  refine gf11_9 (pc := 21) 117 rfl k1051 dX11_nextToken_21 ?_
  refine b_aloadN (pc := 24) 0 dX11_nextToken_24 rfl rfl ?_
  refine gf11_11 (pc := 25) k1053 dX11_nextToken_25 ?_
  refine b_iald (pc := 28) (by decide) ?_ dX11_nextToken_28 ?_
  rotate_left -- leaf 1: index at 28
  refine b_goto (pc := 29) 34 dX11_nextToken_29 (by decide) ?_
  refine pf11_14 (pc := 34) k1056 dX11_nextToken_34 ?_
  rotate_left -- leaf 2: at 37
  -- leaves: 0 at 37; 1 index at 28; 2 at 37
  · rw [ms_o (by decide), ms_o (by decide), hT.1, h11, n_le (by omega) (by omega)] at c17
    refine s37 _ (((Fm.rf _ _ m).m0 (by simp)).m0 (by simp)) ?_ ?_ (fun z => absurd z (by omega))
    · rw [ms_o (by decide), ms_e]; exact h11
    · rw [ms_o (by decide), ms_o (by decide)]; exact h11
  · rw [ms_o (by decide), ms_o (by decide), hT.1, h11, n_le (by omega) (by omega)] at c17
    rw [ms_o (by decide), h11]; exact n_in (by omega) (by omega)
  · rw [ms_o (by decide), ms_o (by decide), hT.1, h11, n_le (by omega) (by omega)] at c17
    refine s37 _ (((Fm.rf _ _ m).m0 (by simp)).m0 (by simp)) ?_ ?_ (fun z => ?_)
    · rw [ms_o (by decide), ms_e]; exact h11
    · rw [ms_o (by decide), ms_o (by decide)]; exact h11
    · rw [ms_e, ms_o (by decide), h11, n_cl (by omega), mset_ne _ _ _ (show 117 ≠ 110 by decide), (hT.2.2 p z).1]
theorem call_X11_nextToken {E : ME} {Φ : Option AV → AM → Prop} {pc : Nat} {L : List (Option AV)} {st : List AV} {m : AM} {a : Nat × Nat} {idx : Nat} {i : Nat} (hl : Cond.methodLink E.2.1 idx yX11_nextToken ∈ TB) (hdep : 3 + 1 ≤ E.2.2.2.2.2.2) (hroom : a.1 + 0 ≤ E.2.2.2.2.1 ∧ a.2 + 0 ≤ E.2.2.2.2.2.1) (hsr : st.length ≤ 4) (hd : decode E.1 pc = .ok (.invokevirtual idx, 3)) (hsp : Sp_X11_nextToken [vr 11 i] m (fun r m2 => B E Φ (pc + 3) L (r.toList ++ st) m2 a)) : B E Φ pc L (vr 11 i :: st) m a := b_callV S_X11_nextToken [] (RX11, TX11, 28) rfl rfl (by decide) (Or.inl hl) k1178 k32 k80 k1179 (show _ ∧ _ ∧ Option.map (fun d => d.parameters.length) (parseMethodDescriptor yX11_nextToken.desc) = some 0 from by decide +kernel) ⟨hdep, by decide⟩ hroom hsr hd hsp
