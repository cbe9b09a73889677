/-! said, of the reference -/
theorem pS_up {C : Nat → Nat} (hv : VC C) {q : Nat} {D : Nat → Int32} {n row : Nat} : ∀ e k, k + e = n → pS C q D k (row / (2 * C 0) ^ e) = none → pS C q D n row = none
  | 0, k, h1, h2 => by
    rw [Nat.pow_zero, Nat.div_one] at h2
    rw [← h1]; exact h2
  | e + 1, k, h1, h2 => by
    refine pS_up hv e (k + 1) (by omega) ?_
    show stepS C q (D k) (pS C q D k (row / (2 * C 0) ^ e / (2 * C 0))) (row / (2 * C 0) ^ e % (2 * C 0)) = none
    rw [Nat.div_div_eq_div_mul, ← Nat.pow_succ, h2]
    rfl
theorem pS_next {C : Nat → Nat} {q : Nat} {D : Nat → Int32} {e k row : Nat} : pS C q D (k + 1) (row / (2 * C 0) ^ e) = stepS C q (D k) (pS C q D k (row / (2 * C 0) ^ (e + 1))) (row / (2 * C 0) ^ e % (2 * C 0)) := by
  show stepS C q (D k) (pS C q D k (row / (2 * C 0) ^ e / (2 * C 0))) (row / (2 * C 0) ^ e % (2 * C 0)) = _
  rw [Nat.div_div_eq_div_mul, ← Nat.pow_succ]
/-- begun, behind all rows from R on -/
def bgR (f : Nat → Nat) (N E1 R : Nat) (v : Int32) : Prop := (v = -1000000 ∧ ∀ i, R ≤ i → i < N → f i = 0) ∨ ∃ r0, R ≤ r0 ∧ r0 < N ∧ 0 < f r0 ∧ v = nI (r0 / E1) ∧ ∀ i, R ≤ i → i < r0 → f i = 0
theorem bgR_0 {f : Nat → Nat} {N E1 : Nat} {v : Int32} (h : bgR f N E1 0 v) : v = (match lstN f N with | none => -1000000 | some r => nI (r / E1)) := by
  rcases h with ⟨h1, h2⟩ | ⟨r0, h1, h2, h3, h4, h5⟩
  · rw [(lstN_none N).mpr (fun i hi => h2 i (Nat.zero_le i) hi), h1]
  · cases e : lstN f N with
    | none =>
      have := (lstN_none N).mp e r0 h2
      omega
    | some r =>
      obtain ⟨a1, a2, a3⟩ := lstN_some N e
      have e2 : r = r0 := by
        rcases Nat.lt_trichotomy r r0 with z | z | z
        · have := h5 r (Nat.zero_le r) z; omega
        · exact z
        · have := a3 r0 z; omega
      rw [e2, h4]
abbrev e_X11_said : ME := (cX11_said, (RX11, (17, ((some .int), (0, (0, 8))))))
theorem dX11_said_0 : decode cX11_said 0 = .ok (.aload_n 0, 1) := by decide +kernel
theorem dX11_said_1 : decode cX11_said 1 = .ok (.iconst 0, 1) := by decide +kernel
theorem dX11_said_2 : decode cX11_said 2 = .ok (.putfield 53, 3) := by decide +kernel
theorem dX11_said_5 : decode cX11_said 5 = .ok (.aload_n 0, 1) := by decide +kernel
theorem dX11_said_6 : decode cX11_said 6 = .ok (.iload_n 1, 1) := by decide +kernel
theorem dX11_said_7 : decode cX11_said 7 = .ok (.invokevirtual 176, 3) := by decide +kernel
theorem dX11_said_10 : decode cX11_said 10 = .ok (.ifCond .eq 34, 3) := by decide +kernel
theorem dX11_said_13 : decode cX11_said 13 = .ok (.iload_n 2, 1) := by decide +kernel
theorem dX11_said_14 : decode cX11_said 14 = .ok (.invokestatic 67, 3) := by decide +kernel
theorem dX11_said_17 : decode cX11_said 17 = .ok (.ifCond .eq 27, 3) := by decide +kernel
theorem dX11_said_20 : decode cX11_said 20 = .ok (.iload 4, 2) := by decide +kernel
theorem dX11_said_22 : decode cX11_said 22 = .ok (.i2l, 1) := by decide +kernel
theorem dX11_said_23 : decode cX11_said 23 = .ok (.lconst 1, 1) := by decide +kernel
theorem dX11_said_24 : decode cX11_said 24 = .ok (.ldc2_w 236, 3) := by decide +kernel
theorem dX11_said_27 : decode cX11_said 27 = .ok (.invokestatic 63, 3) := by decide +kernel
theorem dX11_said_30 : decode cX11_said 30 = .ok (.ifCond .eq 14, 3) := by decide +kernel
theorem dX11_said_33 : decode cX11_said 33 = .ok (.iload 5, 2) := by decide +kernel
theorem dX11_said_35 : decode cX11_said 35 = .ok (.i2l, 1) := by decide +kernel
theorem dX11_said_36 : decode cX11_said 36 = .ok (.lconst 0, 1) := by decide +kernel
theorem dX11_said_37 : decode cX11_said 37 = .ok (.lconst 1, 1) := by decide +kernel
theorem dX11_said_38 : decode cX11_said 38 = .ok (.invokestatic 63, 3) := by decide +kernel
theorem dX11_said_41 : decode cX11_said 41 = .ok (.ifCond .ne 6, 3) := by decide +kernel
theorem dX11_said_44 : decode cX11_said 44 = .ok (.ldc 73, 2) := by decide +kernel
theorem dX11_said_46 : decode cX11_said 46 = .ok (.ireturn, 1) := by decide +kernel
theorem dX11_said_47 : decode cX11_said 47 = .ok (.aload_n 0, 1) := by decide +kernel
theorem dX11_said_48 : decode cX11_said 48 = .ok (.getfield 7, 3) := by decide +kernel
theorem dX11_said_51 : decode cX11_said 51 = .ok (.iload_n 2, 1) := by decide +kernel
theorem dX11_said_52 : decode cX11_said 52 = .ok (.iaload, 1) := by decide +kernel
theorem dX11_said_53 : decode cX11_said 53 = .ok (.ifCond .ge 9, 3) := by decide +kernel
theorem dX11_said_56 : decode cX11_said 56 = .ok (.aload_n 0, 1) := by decide +kernel
theorem dX11_said_57 : decode cX11_said 57 = .ok (.iconst 1, 1) := by decide +kernel
theorem dX11_said_58 : decode cX11_said 58 = .ok (.invokevirtual 74, 3) := by decide +kernel
theorem dX11_said_61 : decode cX11_said 61 = .ok (.ireturn, 1) := by decide +kernel
theorem dX11_said_62 : decode cX11_said 62 = .ok (.iload_n 3, 1) := by decide +kernel
theorem dX11_said_63 : decode cX11_said 63 = .ok (.ifCond .lt 20, 3) := by decide +kernel
theorem dX11_said_66 : decode cX11_said 66 = .ok (.iload_n 3, 1) := by decide +kernel
theorem dX11_said_67 : decode cX11_said 67 = .ok (.i2l, 1) := by decide +kernel
theorem dX11_said_68 : decode cX11_said 68 = .ok (.iload 4, 2) := by decide +kernel
theorem dX11_said_70 : decode cX11_said 70 = .ok (.i2l, 1) := by decide +kernel
theorem dX11_said_71 : decode cX11_said 71 = .ok (.ladd, 1) := by decide +kernel
theorem dX11_said_72 : decode cX11_said 72 = .ok (.aload_n 0, 1) := by decide +kernel
theorem dX11_said_73 : decode cX11_said 73 = .ok (.getfield 13, 3) := by decide +kernel
theorem dX11_said_76 : decode cX11_said 76 = .ok (.iload_n 2, 1) := by decide +kernel
theorem dX11_said_77 : decode cX11_said 77 = .ok (.iaload, 1) := by decide +kernel
theorem dX11_said_78 : decode cX11_said 78 = .ok (.i2l, 1) := by decide +kernel
theorem dX11_said_79 : decode cX11_said 79 = .ok (.lcmp, 1) := by decide +kernel
theorem dX11_said_80 : decode cX11_said 80 = .ok (.ifCond .le 9, 3) := by decide +kernel
theorem dX11_said_83 : decode cX11_said 83 = .ok (.aload_n 0, 1) := by decide +kernel
theorem dX11_said_84 : decode cX11_said 84 = .ok (.iconst 2, 1) := by decide +kernel
theorem dX11_said_85 : decode cX11_said 85 = .ok (.invokevirtual 74, 3) := by decide +kernel
theorem dX11_said_88 : decode cX11_said 88 = .ok (.ireturn, 1) := by decide +kernel
theorem dX11_said_89 : decode cX11_said 89 = .ok (.aload_n 0, 1) := by decide +kernel
theorem dX11_said_90 : decode cX11_said 90 = .ok (.iconst 0, 1) := by decide +kernel
theorem dX11_said_91 : decode cX11_said 91 = .ok (.putfield 57, 3) := by decide +kernel
theorem dX11_said_94 : decode cX11_said 94 = .ok (.iconst 2, 1) := by decide +kernel
theorem dX11_said_95 : decode cX11_said 95 = .ok (.aload_n 0, 1) := by decide +kernel
theorem dX11_said_96 : decode cX11_said 96 = .ok (.getfield 19, 3) := by decide +kernel
theorem dX11_said_99 : decode cX11_said 99 = .ok (.iconst 0, 1) := by decide +kernel
theorem dX11_said_100 : decode cX11_said 100 = .ok (.iaload, 1) := by decide +kernel
theorem dX11_said_101 : decode cX11_said 101 = .ok (.imul, 1) := by decide +kernel
theorem dX11_said_102 : decode cX11_said 102 = .ok (.istore 6, 2) := by decide +kernel
theorem dX11_said_104 : decode cX11_said 104 = .ok (.iconst 1, 1) := by decide +kernel
theorem dX11_said_105 : decode cX11_said 105 = .ok (.istore 7, 2) := by decide +kernel
theorem dX11_said_107 : decode cX11_said 107 = .ok (.iconst 0, 1) := by decide +kernel
theorem dX11_said_108 : decode cX11_said 108 = .ok (.istore 8, 2) := by decide +kernel
theorem dX11_said_110 : decode cX11_said 110 = .ok (.iload 8, 2) := by decide +kernel
theorem dX11_said_112 : decode cX11_said 112 = .ok (.iload 4, 2) := by decide +kernel
theorem dX11_said_114 : decode cX11_said 114 = .ok (.if_icmp .ge 16, 3) := by decide +kernel
theorem dX11_said_117 : decode cX11_said 117 = .ok (.iload 7, 2) := by decide +kernel
theorem dX11_said_119 : decode cX11_said 119 = .ok (.iload 6, 2) := by decide +kernel
theorem dX11_said_121 : decode cX11_said 121 = .ok (.imul, 1) := by decide +kernel
theorem dX11_said_122 : decode cX11_said 122 = .ok (.istore 7, 2) := by decide +kernel
theorem dX11_said_124 : decode cX11_said 124 = .ok (.iinc 8 1, 3) := by decide +kernel
theorem dX11_said_127 : decode cX11_said 127 = .ok (.goto (-17), 3) := by decide +kernel
theorem dX11_said_130 : decode cX11_said 130 = .ok (.iconst 0, 1) := by decide +kernel
theorem dX11_said_131 : decode cX11_said 131 = .ok (.istore 8, 2) := by decide +kernel
theorem dX11_said_133 : decode cX11_said 133 = .ok (.ldc 96, 2) := by decide +kernel
theorem dX11_said_135 : decode cX11_said 135 = .ok (.istore 9, 2) := by decide +kernel
theorem dX11_said_137 : decode cX11_said 137 = .ok (.iload 7, 2) := by decide +kernel
theorem dX11_said_139 : decode cX11_said 139 = .ok (.iconst 1, 1) := by decide +kernel
theorem dX11_said_140 : decode cX11_said 140 = .ok (.isub, 1) := by decide +kernel
theorem dX11_said_141 : decode cX11_said 141 = .ok (.istore 10, 2) := by decide +kernel
theorem dX11_said_143 : decode cX11_said 143 = .ok (.iload 10, 2) := by decide +kernel
theorem dX11_said_145 : decode cX11_said 145 = .ok (.ifCond .lt 162, 3) := by decide +kernel
theorem dX11_said_148 : decode cX11_said 148 = .ok (.aload_n 0, 1) := by decide +kernel
theorem dX11_said_149 : decode cX11_said 149 = .ok (.getfield 19, 3) := by decide +kernel
theorem dX11_said_152 : decode cX11_said 152 = .ok (.iconst 1, 1) := by decide +kernel
theorem dX11_said_153 : decode cX11_said 153 = .ok (.iaload, 1) := by decide +kernel
theorem dX11_said_154 : decode cX11_said 154 = .ok (.istore 11, 2) := by decide +kernel
theorem dX11_said_156 : decode cX11_said 156 = .ok (.aload_n 0, 1) := by decide +kernel
theorem dX11_said_157 : decode cX11_said 157 = .ok (.getfield 19, 3) := by decide +kernel
theorem dX11_said_160 : decode cX11_said 160 = .ok (.iconst 5, 1) := by decide +kernel
theorem dX11_said_161 : decode cX11_said 161 = .ok (.iaload, 1) := by decide +kernel
theorem dX11_said_162 : decode cX11_said 162 = .ok (.istore 12, 2) := by decide +kernel
theorem dX11_said_164 : decode cX11_said 164 = .ok (.iload 7, 2) := by decide +kernel
theorem dX11_said_166 : decode cX11_said 166 = .ok (.istore 13, 2) := by decide +kernel
theorem dX11_said_168 : decode cX11_said 168 = .ok (.iconst 1, 1) := by decide +kernel
theorem dX11_said_169 : decode cX11_said 169 = .ok (.istore 14, 2) := by decide +kernel
theorem dX11_said_171 : decode cX11_said 171 = .ok (.iconst 0, 1) := by decide +kernel
theorem dX11_said_172 : decode cX11_said 172 = .ok (.istore 15, 2) := by decide +kernel
theorem dX11_said_174 : decode cX11_said 174 = .ok (.iload 15, 2) := by decide +kernel
theorem dX11_said_176 : decode cX11_said 176 = .ok (.iload 4, 2) := by decide +kernel
theorem dX11_said_178 : decode cX11_said 178 = .ok (.if_icmp .ge 88, 3) := by decide +kernel
theorem dX11_said_181 : decode cX11_said 181 = .ok (.iload 14, 2) := by decide +kernel
theorem dX11_said_183 : decode cX11_said 183 = .ok (.ifCond .eq 83, 3) := by decide +kernel
theorem dX11_said_186 : decode cX11_said 186 = .ok (.iload 13, 2) := by decide +kernel
theorem dX11_said_188 : decode cX11_said 188 = .ok (.iload 6, 2) := by decide +kernel
theorem dX11_said_190 : decode cX11_said 190 = .ok (.idiv, 1) := by decide +kernel
theorem dX11_said_191 : decode cX11_said 191 = .ok (.istore 13, 2) := by decide +kernel
theorem dX11_said_193 : decode cX11_said 193 = .ok (.iload 10, 2) := by decide +kernel
theorem dX11_said_195 : decode cX11_said 195 = .ok (.iload 13, 2) := by decide +kernel
theorem dX11_said_197 : decode cX11_said 197 = .ok (.idiv, 1) := by decide +kernel
theorem dX11_said_198 : decode cX11_said 198 = .ok (.iload 6, 2) := by decide +kernel
theorem dX11_said_200 : decode cX11_said 200 = .ok (.irem, 1) := by decide +kernel
theorem dX11_said_201 : decode cX11_said 201 = .ok (.istore 16, 2) := by decide +kernel
theorem dX11_said_203 : decode cX11_said 203 = .ok (.aload_n 0, 1) := by decide +kernel
theorem dX11_said_204 : decode cX11_said 204 = .ok (.iload_n 1, 1) := by decide +kernel
theorem dX11_said_205 : decode cX11_said 205 = .ok (.iload 11, 2) := by decide +kernel
theorem dX11_said_207 : decode cX11_said 207 = .ok (.iload 12, 2) := by decide +kernel
theorem dX11_said_209 : decode cX11_said 209 = .ok (.iload 16, 2) := by decide +kernel
theorem dX11_said_211 : decode cX11_said 211 = .ok (.invokevirtual 186, 3) := by decide +kernel
theorem dX11_said_214 : decode cX11_said 214 = .ok (.istore 11, 2) := by decide +kernel
theorem dX11_said_216 : decode cX11_said 216 = .ok (.iload 12, 2) := by decide +kernel
theorem dX11_said_218 : decode cX11_said 218 = .ok (.iconst 1, 1) := by decide +kernel
theorem dX11_said_219 : decode cX11_said 219 = .ok (.iload 16, 2) := by decide +kernel
theorem dX11_said_221 : decode cX11_said 221 = .ok (.iconst 2, 1) := by decide +kernel
theorem dX11_said_222 : decode cX11_said 222 = .ok (.idiv, 1) := by decide +kernel
theorem dX11_said_223 : decode cX11_said 223 = .ok (.ishl, 1) := by decide +kernel
theorem dX11_said_224 : decode cX11_said 224 = .ok (.ior, 1) := by decide +kernel
theorem dX11_said_225 : decode cX11_said 225 = .ok (.istore 12, 2) := by decide +kernel
theorem dX11_said_227 : decode cX11_said 227 = .ok (.iload 11, 2) := by decide +kernel
theorem dX11_said_229 : decode cX11_said 229 = .ok (.ldc 96, 2) := by decide +kernel
theorem dX11_said_231 : decode cX11_said 231 = .ok (.if_icmp .eq 26, 3) := by decide +kernel
theorem dX11_said_234 : decode cX11_said 234 = .ok (.iload 11, 2) := by decide +kernel
theorem dX11_said_236 : decode cX11_said 236 = .ok (.aload_n 0, 1) := by decide +kernel
theorem dX11_said_237 : decode cX11_said 237 = .ok (.getfield 16, 3) := by decide +kernel
theorem dX11_said_240 : decode cX11_said 240 = .ok (.bipush 40, 2) := by decide +kernel
theorem dX11_said_242 : decode cX11_said 242 = .ok (.iload_n 2, 1) := by decide +kernel
theorem dX11_said_243 : decode cX11_said 243 = .ok (.imul, 1) := by decide +kernel
theorem dX11_said_244 : decode cX11_said 244 = .ok (.iload_n 3, 1) := by decide +kernel
theorem dX11_said_245 : decode cX11_said 245 = .ok (.iadd, 1) := by decide +kernel
theorem dX11_said_246 : decode cX11_said 246 = .ok (.iload 15, 2) := by decide +kernel
theorem dX11_said_248 : decode cX11_said 248 = .ok (.iadd, 1) := by decide +kernel
theorem dX11_said_249 : decode cX11_said 249 = .ok (.iaload, 1) := by decide +kernel
theorem dX11_said_250 : decode cX11_said 250 = .ok (.if_icmp .ne 7, 3) := by decide +kernel
theorem dX11_said_253 : decode cX11_said 253 = .ok (.iconst 1, 1) := by decide +kernel
theorem dX11_said_254 : decode cX11_said 254 = .ok (.goto 4, 3) := by decide +kernel
theorem dX11_said_257 : decode cX11_said 257 = .ok (.iconst 0, 1) := by decide +kernel
theorem dX11_said_258 : decode cX11_said 258 = .ok (.istore 14, 2) := by decide +kernel
theorem dX11_said_260 : decode cX11_said 260 = .ok (.iinc 15 1, 3) := by decide +kernel
theorem dX11_said_263 : decode cX11_said 263 = .ok (.goto (-89), 3) := by decide +kernel
theorem dX11_said_266 : decode cX11_said 266 = .ok (.iload 8, 2) := by decide +kernel
theorem dX11_said_268 : decode cX11_said 268 = .ok (.iload 14, 2) := by decide +kernel
theorem dX11_said_270 : decode cX11_said 270 = .ok (.ifCond .eq 7, 3) := by decide +kernel
theorem dX11_said_273 : decode cX11_said 273 = .ok (.iconst 1, 1) := by decide +kernel
theorem dX11_said_274 : decode cX11_said 274 = .ok (.goto 4, 3) := by decide +kernel
theorem dX11_said_277 : decode cX11_said 277 = .ok (.iconst 0, 1) := by decide +kernel
theorem dX11_said_278 : decode cX11_said 278 = .ok (.iadd, 1) := by decide +kernel
theorem dX11_said_279 : decode cX11_said 279 = .ok (.istore 8, 2) := by decide +kernel
theorem dX11_said_281 : decode cX11_said 281 = .ok (.iload 14, 2) := by decide +kernel
theorem dX11_said_283 : decode cX11_said 283 = .ok (.ifCond .eq 14, 3) := by decide +kernel
theorem dX11_said_286 : decode cX11_said 286 = .ok (.iload 10, 2) := by decide +kernel
theorem dX11_said_288 : decode cX11_said 288 = .ok (.iload 7, 2) := by decide +kernel
theorem dX11_said_290 : decode cX11_said 290 = .ok (.iload 6, 2) := by decide +kernel
theorem dX11_said_292 : decode cX11_said 292 = .ok (.idiv, 1) := by decide +kernel
theorem dX11_said_293 : decode cX11_said 293 = .ok (.idiv, 1) := by decide +kernel
theorem dX11_said_294 : decode cX11_said 294 = .ok (.goto 5, 3) := by decide +kernel
theorem dX11_said_297 : decode cX11_said 297 = .ok (.iload 9, 2) := by decide +kernel
theorem dX11_said_299 : decode cX11_said 299 = .ok (.istore 9, 2) := by decide +kernel
theorem dX11_said_301 : decode cX11_said 301 = .ok (.iinc 10 (-1), 3) := by decide +kernel
theorem dX11_said_304 : decode cX11_said 304 = .ok (.goto (-161), 3) := by decide +kernel
theorem dX11_said_307 : decode cX11_said 307 = .ok (.iload 5, 2) := by decide +kernel
theorem dX11_said_309 : decode cX11_said 309 = .ok (.ifCond .ne 8, 3) := by decide +kernel
theorem dX11_said_312 : decode cX11_said 312 = .ok (.iload 8, 2) := by decide +kernel
theorem dX11_said_314 : decode cX11_said 314 = .ok (.goto 5, 3) := by decide +kernel
theorem dX11_said_317 : decode cX11_said 317 = .ok (.iload 9, 2) := by decide +kernel
theorem dX11_said_319 : decode cX11_said 319 = .ok (.ireturn, 1) := by decide +kernel
def Sp_X11_said (av : List AV) (m : AM) (Φ : Option AV → AM → Prop) : Prop := ∃ p r i n w, av = [vr 11 110, vi p, vi r, vi i, vi n, vi w] ∧ ∃ C La Ma It, MCo m C ∧ MRow m La Ma It ∧ (saiC C p r n w = false → ∀ m2, Fm [] [0] m m2 → Φ (some (vi (-1000001))) m2) ∧ (saiC C p r n w = true → ∀ k, k = lackN La Ma r.toNatClampNeg i n → ¬ k = 0 → ∀ m2, Fm [] [0, 1] m m2 → m2.1 110 1 = nI k → Φ (some (vi (-1000010 - nI k))) m2) ∧ (saiC C p r n w = true → lackN La Ma r.toNatClampNeg i n = 0 → ∀ D, D = (fun j => It r.toNatClampNeg (i.toNatClampNeg + j)) → ∀ q, q = C (40 + 2 * p.toNatClampNeg) → ∀ m2, Fm [] [0, 1] m m2 → m2.1 110 1 = nI 0 → Φ (some (vi (if w = nI 0 then nI (saidN C q D n.toNatClampNeg) else saidF C q D n.toNatClampNeg))) m2)
set_option maxRecDepth 20000 in
set_option maxHeartbeats 4000000 in
theorem S_X11_said : Snd yX11_said e_X11_said Sp_X11_said := by
  refine Snd.of (by decide +kernel) rfl ?_ ?_
  · rintro av m Φ ⟨p, r, i, n, w, rfl, _⟩; exact Nat.le_of_ble_eq_true rfl
  rintro av m Φ ⟨p, r, i, n, w, rfl, C, La, Ma, It, hC0, hR0, h1, h2, h3⟩ hav hty
  show B e_X11_said Φ 0 [some (vr 11 110), some (vi p), some (vi r), some (vi i), some (vi n), some (vi w), none, none, none, none, none, none, none, none, none, none, none] [] m (0, 0)
  have hC : MCo (mset m 110 0 (nI 0)) C := hC0.ms (by decide)
  have hR : MRow (mset m 110 0 (nI 0)) La Ma It := hR0.ms
  have f0 : Fm [] [0] m (mset m 110 0 (nI 0)) := (Fm.rf _ _ m).m0 (by simp)
  have f1 : Fm [] [0, 1] m (mset m 110 0 (nI 0)) := (Fm.rf _ _ m).m0 (by simp)
  have fd : ∀ v, Fm [] [0, 1] m (mset (mset m 110 0 (nI 0)) 110 1 v) ∧ (mset (mset m 110 0 (nI 0)) 110 1 v).1 110 1 = v := fun v => ⟨f1.m0 (by simp), by rw [mset_at, if_pos rfl]⟩
  have hle := hC.le
  by_cases hc : saiC C p r n w = true
  · have hc2 := hc
    unfold saiC at hc2
    rw [Bool.and_eq_true, Bool.and_eq_true, Bool.and_eq_true] at hc2
    have hn3 := hc2.2.2.1
    have hc3 := hc2.2.2.1
    rw [Bool.and_eq_true] at hc3
    obtain ⟨P, hP, rfl⟩ := (inB_iff (by omega)).mp hc2.1
    obtain ⟨r, hr, rfl⟩ := (inB_iff (by omega)).mp hc2.2.1
    obtain ⟨N, hN, rfl⟩ := (inB_iff (by omega)).mp hc3.1
    have hN0 : N ≠ 0 := fun z => of_decide_eq_true hc3.2 (by rw [z])
    rw [n_cl (show r < 2147483648 by omega)] at h2 h3
    rw [n_cl (show P < 2147483648 by omega), n_cl (show N < 2147483648 by omega)] at h3
    have hv := hC.op (Or.inr (Or.inr (by omega)))
    have h06 := hv.1
    have h45 := hv.2.2.2.2.1
    have hlk := lackN_lt La Ma r i (nI N)
    have qr := hR.lane hr
    have no10 : ∀ (z : nI (if inB (nI P) (C 4) = true then 1 else 0) = 0), False := fun z => by rw [hc2.1] at z; exact absurd z (by decide)
    have no17 : ∀ (z : nI (if inB (nI r) 8 = true then 1 else 0) = 0), False := fun z => by rw [hc2.2.1] at z; exact absurd z (by decide)
    have no30 : nI (if (1 : Int64).toInt ≤ (nI N).toInt64.toInt ∧ (nI N).toInt64.toInt ≤ (4 : Int64).toInt then 1 else 0) = 0 → False := fun z => by rw [inNK 4 rfl (by omega), if_pos hn3] at z; exact absurd z (by decide)
    have no41 : nI (if (0 : Int64).toInt ≤ w.toInt64.toInt ∧ w.toInt64.toInt ≤ (1 : Int64).toInt then 1 else 0) = 0 → False := fun z => by rw [inLc 2 rfl (by omega), hc2.2.2.2] at z; exact absurd z (by decide)
    by_cases hz : lackN La Ma r i (nI N) = 0
    · obtain ⟨hl, hfit⟩ := lackN_0.mp hz
      have ww := (hR r hr).2 hl
      obtain ⟨I, b, hi, hb, hle2⟩ := fit_to ww.2.2.2.1 hfit
      have w40 := ww.2.2.2.1
      rw [n_eq (by omega) (by omega)] at hb
      subst hi
      rw [n_cl (show I < 2147483648 by omega)] at h3
      have fin := h3 hc hz (fun j => It r (I + j)) rfl _ rfl _ (fd (nI 0)).1 (fd (nI 0)).2
      have hM : MC (mset (mset m 110 0 (nI 0)) 110 1 (nI 0)) C := MC.ms hC.1 (by decide)
      have it : ∀ j, j < N → (mset (mset m 110 0 (nI 0)) 110 1 (nI 0)).1 113 (40 * r + I + j) = It r (I + j) := fun j hj => by
        rw [mset_ne _ _ _ (by decide), show 40 * r + I + j = 40 * r + (I + j) by omega]
        exact ww.2.2.2.2 _ (by omega)
      have key : ∀ m1 : AM, MC m1 C → (∀ j, j < N → m1.1 113 (40 * r + I + j) = It r (I + j)) → Φ (some (vi (if w = nI 0 then nI (saidN C (C (40 + 2 * P)) (fun j => It r (I + j)) N) else saidF C (C (40 + 2 * P)) (fun j => It r (I + j)) N))) m1 → B e_X11_said Φ 94 [some (vr 11 110), some (vi (nI P)), some (vi (nI r)), some (vi (nI I)), some (vi (nI N)), some (vi w), none, none, none, none, none, none, none, none, none, none, none] [] m1 (0, 0) := by
        intro m1 hM it fin
        generalize hD : (fun j => It r (I + j)) = D at fin
        have it : ∀ j, j < N → m1.1 113 (40 * r + I + j) = D j := fun j hj => by rw [it j hj, ← hD]
        generalize hQ : C (40 + 2 * P) = Q at fin
        have hE0 : 0 < 2 * C 0 := by omega
        have hEN := E_pow hv (Nat.le_refl N) (by omega)
        have hpos : 0 < (2 * C 0) ^ N := Nat.pow_pos hE0
        have hdv : (2 * C 0) ^ N / (2 * C 0) = (2 * C 0) ^ (N - 1) := by
          have e : (2 * C 0) ^ N = (2 * C 0) ^ (N - 1) * (2 * C 0) := by rw [← Nat.pow_succ, show (N - 1).succ = N by omega]
          rw [e, Nat.mul_div_cancel _ hE0]
        have hp1 : 0 < (2 * C 0) ^ (N - 1) := Nat.pow_pos hE0
        have hE1 := E_pow hv (show N - 1 ≤ N by omega) (by omega)
        have c0 : m1.1 114 (nI 0).toNatClampNeg = nI (C 0) := by rw [n_cl (by omega)]; exact hM 0 (by omega)
        have c1 : m1.1 114 (nI 1).toNatClampNeg = nI (C 1) := by rw [n_cl (by omega)]; exact hM 1 (by omega)
        have c5 : m1.1 114 (nI 5).toNatClampNeg = nI (C 5) := by rw [n_cl (by omega)]; exact hM 5 (by omega)
        have outer : ∀ R x v (z : Int32) o11 o12 o13 o14 o15 o16, (R = 0 ∧ z = -1 ∨ ∃ j, R = j + 1 ∧ z = nI j) → R ≤ (2 * C 0) ^ N → x + sumN R (fitN C Q D N) = saidN C Q D N → bgR (fitN C Q D N) ((2 * C 0) ^ N) ((2 * C 0) ^ (N - 1)) R v → B e_X11_said Φ 143 [some (vr 11 110), some (vi (nI P)), some (vi (nI r)), some (vi (nI I)), some (vi (nI N)), some (vi w), some (vi (nI (2 * C 0))), some (vi (nI ((2 * C 0) ^ N))), some (vi (nI x)), some (vi v), some (vi z), o11, o12, o13, o14, o15, o16] [] m1 (0, 0) := by
          intro R
          induction R with
          | zero =>
            intro x v z o11 o12 o13 o14 o15 o16 hzz hR1 hx hb
            have ez : z = -1 := by
              rcases hzz with q | ⟨j, q, -⟩
              · exact q.2
              · omega
            subst ez
            refine b_iloadG (pc := 143) 10 dX11_said_143 rfl ?_
            refine b_if_lt (pc := 145) 307 dX11_said_145 (by decide) (fun c145 => ?_) (fun c145 => ?_)
            refine b_iloadG (pc := 307) 5 dX11_said_307 rfl ?_
            refine b_if_ne (pc := 309) 317 dX11_said_309 (by decide) (fun c309 => ?_) (fun c309 => ?_)
            refine b_iloadG (pc := 317) 9 dX11_said_317 rfl ?_
            refine b_iret (pc := 319) rfl dX11_said_319 ⟨Nat.le_of_ble_eq_true rfl, Nat.le_of_ble_eq_true rfl⟩ ?_
            rotate_left -- leaf 0: return at 319
            refine b_iloadG (pc := 312) 8 dX11_said_312 rfl ?_
            refine b_goto (pc := 314) 319 dX11_said_314 (by decide) ?_
            refine b_iret (pc := 319) rfl dX11_said_319 ⟨Nat.le_of_ble_eq_true rfl, Nat.le_of_ble_eq_true rfl⟩ ?_
            rotate_left -- leaf 1: return at 319
            rotate_left -- leaf 2: at 148
            -- leaves: 0 return at 319; 1 return at 319; 2 at 148
            · have e2 : v = saidF C Q D N := by
                rw [bgR_0 hb]; rfl
              rw [if_neg (show ¬ w = nI 0 from c309), ← e2] at fin
              exact fin
            · have e2 : x = saidN C Q D N := by
                have hx2 : x + 0 = saidN C Q D N := hx
                omega
              rw [if_pos (show w = nI 0 from c309), ← e2] at fin
              exact fin
            · exact absurd (show (-1 : Int32) < 0 by decide) c145
          | succ row ih =>
            intro x v z o11 o12 o13 o14 o15 o16 hzz hR1 hx hb
            have ez : z = nI row := by
              rcases hzz with q | ⟨j, q, w⟩
              · omega
              · rw [w, show j = row by omega]
            subst ez
            have hxu : x + (sumN row (fitN C Q D N) + fitN C Q D N row) = saidN C Q D N := hx
            have ffit : fitN C Q D N row = 0 ∨ fitN C Q D N row = 1 := by
              unfold fitN
              split
              · exact Or.inr rfl
              · exact Or.inl rfl
            have endI : ∀ o11 o12 o13 o15 o16, B e_X11_said Φ 266 [some (vr 11 110), some (vi (nI P)), some (vi (nI r)), some (vi (nI I)), some (vi (nI N)), some (vi w), some (vi (nI (2 * C 0))), some (vi (nI ((2 * C 0) ^ N))), some (vi (nI x)), some (vi v), some (vi (nI row)), o11, o12, o13, some (vi (nI (fitN C Q D N row))), o15, o16] [] m1 (0, 0) := by
              intro o11 o12 o13 o15 o16
              have dn : (row = 0 ∧ nI row + Int32.ofInt (-1) = -1 ∨ ∃ j, row = j + 1 ∧ nI row + Int32.ofInt (-1) = nI j) := by
                cases row with
                | zero => exact Or.inl ⟨rfl, dec_0⟩
                | succ row => exact Or.inr ⟨row, rfl, dec_s row⟩
              have nx := fun x v o14 => ih x v (nI row + Int32.ofInt (-1)) o11 o12 o13 o14 o15 o16 dn (by omega)
              refine b_iloadG (pc := 266) 8 dX11_said_266 rfl ?_
              refine b_iloadG (pc := 268) 14 dX11_said_268 rfl ?_
              refine b_if_eq (pc := 270) 277 dX11_said_270 (by decide) (fun c270 => ?_) (fun c270 => ?_)
              refine b_iconst (pc := 277) (nI 0) dX11_said_277 (by decide) ?_
              refine b_iadd (pc := 278) dX11_said_278 ?_
              refine siG8 (pc := 279) notL_i (by decide) dX11_said_279 ?_
              refine b_iloadG (pc := 281) 14 dX11_said_281 rfl ?_
              refine b_if_eq (pc := 283) 297 dX11_said_283 (by decide) (fun c283 => ?_) (fun c283 => ?_)
              refine b_iloadG (pc := 297) 9 dX11_said_297 rfl ?_
              refine siG9 (pc := 299) notL_i (by decide) dX11_said_299 ?_
              refine inc10 (pc := 301) notL_i (by decide) dX11_said_301 ?_
              refine b_goto (pc := 304) 143 dX11_said_304 (by decide) ?_
              rotate_left -- leaf 0: at 143
              refine b_iloadG (pc := 286) 10 dX11_said_286 rfl ?_
              refine b_iloadG (pc := 288) 7 dX11_said_288 rfl ?_
              refine b_iloadG (pc := 290) 6 dX11_said_290 rfl ?_
              refine b_idiv (pc := 292) dX11_said_292 ?_ ?_
              rotate_left -- leaf 1: divisor at 292
              refine b_idiv (pc := 293) dX11_said_293 ?_ ?_
              rotate_left -- leaf 2: divisor at 293
              refine b_goto (pc := 294) 299 dX11_said_294 (by decide) ?_
              refine siG9 (pc := 299) notL_i (by decide) dX11_said_299 ?_
              refine inc10 (pc := 301) notL_i (by decide) dX11_said_301 ?_
              refine b_goto (pc := 304) 143 dX11_said_304 (by decide) ?_
              rotate_left -- leaf 3: at 143
              refine b_iconst (pc := 273) (nI 1) dX11_said_273 (by decide) ?_
              refine b_goto (pc := 274) 278 dX11_said_274 (by decide) ?_
              refine b_iadd (pc := 278) dX11_said_278 ?_
              refine siG8 (pc := 279) notL_i (by decide) dX11_said_279 ?_
              refine b_iloadG (pc := 281) 14 dX11_said_281 rfl ?_
              refine b_if_eq (pc := 283) 297 dX11_said_283 (by decide) (fun c283 => ?_) (fun c283 => ?_)
              refine b_iloadG (pc := 297) 9 dX11_said_297 rfl ?_
              refine siG9 (pc := 299) notL_i (by decide) dX11_said_299 ?_
              refine inc10 (pc := 301) notL_i (by decide) dX11_said_301 ?_
              refine b_goto (pc := 304) 143 dX11_said_304 (by decide) ?_
              rotate_left -- leaf 4: at 143
              refine b_iloadG (pc := 286) 10 dX11_said_286 rfl ?_
              refine b_iloadG (pc := 288) 7 dX11_said_288 rfl ?_
              refine b_iloadG (pc := 290) 6 dX11_said_290 rfl ?_
              refine b_idiv (pc := 292) dX11_said_292 ?_ ?_
              rotate_left -- leaf 5: divisor at 292
              refine b_idiv (pc := 293) dX11_said_293 ?_ ?_
              rotate_left -- leaf 6: divisor at 293
              refine b_goto (pc := 294) 299 dX11_said_294 (by decide) ?_
              refine siG9 (pc := 299) notL_i (by decide) dX11_said_299 ?_
              refine inc10 (pc := 301) notL_i (by decide) dX11_said_301 ?_
              refine b_goto (pc := 304) 143 dX11_said_304 (by decide) ?_
              rotate_left -- leaf 7: at 143
              -- leaves: 0 at 143; 1 divisor at 292; 2 divisor at 293; 3 at 143; 4 at 143; 5 divisor at 292; 6 divisor at 293; 7 at 143
              · rw [n_eq0 (by omega)] at c270
                rw [n_add, Nat.add_zero]
                refine nx x v _ (by omega) ?_
                rcases hb with ⟨a1, a2⟩ | ⟨r0, a1, a2, a3, a4, a5⟩
                · refine Or.inl ⟨a1, fun i b1 b2 => ?_⟩
                  rcases Nat.lt_or_ge row i with q | q
                  · exact a2 i (by omega) b2
                  · rw [show i = row by omega]; exact c270
                · refine Or.inr ⟨r0, by omega, a2, a3, a4, fun i b1 b2 => ?_⟩
                  rcases Nat.lt_or_ge row i with q | q
                  · exact a5 i (by omega) b2
                  · rw [show i = row by omega]; exact c270
              · exact absurd c270 c283
              · exact absurd c270 c283
              · exact absurd c270 c283
              · exact absurd c283 c270
              · rw [n_eq0 (by omega)]; omega
              · rw [pk_div (by omega) (by omega) (by omega), hdv, n_eq0 (by omega)]; omega
              · rw [n_eq0 (by omega)] at c270
                rw [n_add, pk_div (show (2 * C 0) ^ N < 2147483648 by omega) (by omega) (by omega), hdv, pk_div (by omega) hp1 (by omega)]
                exact nx (x + 1) _ _ (by omega) (Or.inr ⟨row, Nat.le_refl _, by omega, by omega, rfl, fun i b1 b2 => by omega⟩)
            have inner : ∀ e2 k so of o16, k + e2 = N → pS C Q D k (row / (2 * C 0) ^ e2) = some (so, of) → B e_X11_said Φ 174 [some (vr 11 110), some (vi (nI P)), some (vi (nI r)), some (vi (nI I)), some (vi (nI N)), some (vi w), some (vi (nI (2 * C 0))), some (vi (nI ((2 * C 0) ^ N))), some (vi (nI x)), some (vi v), some (vi (nI row)), some (vi (nI so)), some (vi (nI of)), some (vi (nI ((2 * C 0) ^ e2))), some (vi (nI 1)), some (vi (nI k)), o16] [] m1 (0, 0) := by
              intro e2
              induction e2 with
              | zero =>
                intro k so of o16 k1 k2
                rw [Nat.pow_zero, Nat.div_one, show k = N by omega] at k2
                have ef : fitN C Q D N row = 1 := by
                  unfold fitN
                  rw [k2]; rfl
                have t := endI (some (vi (nI so))) (some (vi (nI of))) (some (vi (nI ((2 * C 0) ^ 0)))) (some (vi (nI k))) o16
                rw [ef] at t
                refine b_iloadG (pc := 174) 15 dX11_said_174 rfl ?_
                refine b_iloadG (pc := 176) 4 dX11_said_176 rfl ?_
                refine b_icmp_ge (pc := 178) 266 dX11_said_178 (by decide) (fun c178 => ?_) (fun c178 => ?_)
                rotate_left -- leaf 0: at 266
                rotate_left -- leaf 1: at 181
                -- leaves: 0 at 266; 1 at 181
                · exact t
                · rw [n_le (by omega) (by omega)] at c178; omega
              | succ e2 ih2 =>
                intro k so of o16 k1 k2
                have ok := pS_ok hv k _ _ k2
                have h64 : so < 64 ∧ of < 64 := ⟨ok.1, ok.2.1⟩
                have hyl : row / (2 * C 0) ^ e2 % (2 * C 0) < 2 * C 0 := Nat.mod_lt _ hE0
                have hpe := E_pow hv (show e2 + 1 ≤ N by omega) (by omega)
                have hpe2 := E_pow hv (show e2 ≤ N by omega) (by omega)
                have hp2 : 0 < (2 * C 0) ^ e2 := Nat.pow_pos hE0
                have ew : nI ((2 * C 0) ^ (e2 + 1)) / nI (2 * C 0) = nI ((2 * C 0) ^ e2) := by
                  rw [pk_div (by omega) (by omega) (by omega), Nat.pow_succ, Nat.mul_div_cancel _ hE0]
                have hrd : row / (2 * C 0) ^ e2 ≤ row := Nat.div_le_self _ _
                have es : nI row / nI ((2 * C 0) ^ e2) - nI row / nI ((2 * C 0) ^ e2) / nI (2 * C 0) * nI (2 * C 0) = nI (row / (2 * C 0) ^ e2 % (2 * C 0)) := by
                  rw [pk_div (by omega) (by omega) (by omega), n_rem (by omega) (by omega) (by omega)]
                have ns := pS_next (C := C) (q := Q) (D := D) (e := e2) (k := k) (row := row)
                rw [k2] at ns
                have ei : nI 40 * nI r + nI I + nI k = nI (40 * r + I + k) := by rw [n_mul, n_add, n_add]
                have e2y : nI (row / (2 * C 0) ^ e2 % (2 * C 0)) / nI 2 = nI (row / (2 * C 0) ^ e2 % (2 * C 0) / 2) := pk_div (by omega) (by omega) (by omega)
                generalize hy : row / (2 * C 0) ^ e2 % (2 * C 0) = y at *
                have fail : pS C Q D (k + 1) (row / (2 * C 0) ^ e2) = none → ∀ o11 o12 o13 o15 o16, B e_X11_said Φ 266 [some (vr 11 110), some (vi (nI P)), some (vi (nI r)), some (vi (nI I)), some (vi (nI N)), some (vi w), some (vi (nI (2 * C 0))), some (vi (nI ((2 * C 0) ^ N))), some (vi (nI x)), some (vi v), some (vi (nI row)), o11, o12, o13, some (vi (nI 0)), o15, o16] [] m1 (0, 0) := by
                  intro hn o11 o12 o13 o15 o16
                  have ef : fitN C Q D N row = 0 := by
                    unfold fitN
                    rw [pS_up hv e2 (k + 1) (by omega) hn]
                    rfl
                  have t := endI o11 o12 o13 o15 o16
                  rw [ef] at t
                  exact t
                have over : pS C Q D (k + 1) (row / (2 * C 0) ^ e2) = none → ∀ o11 o12 o13 o15 o16, B e_X11_said Φ 174 [some (vr 11 110), some (vi (nI P)), some (vi (nI r)), some (vi (nI I)), some (vi (nI N)), some (vi w), some (vi (nI (2 * C 0))), some (vi (nI ((2 * C 0) ^ N))), some (vi (nI x)), some (vi v), some (vi (nI row)), o11, o12, o13, some (vi (nI 0)), some (vi o15), o16] [] m1 (0, 0) := by
                  intro hn o11 o12 o13 o15 o16
                  refine b_iloadG (pc := 174) 15 dX11_said_174 rfl ?_
                  refine b_iloadG (pc := 176) 4 dX11_said_176 rfl ?_
                  refine b_icmp_ge (pc := 178) 266 dX11_said_178 (by decide) (fun c178 => ?_) (fun c178 => ?_)
                  rotate_left -- leaf 0: at 266
                  refine b_iloadG (pc := 181) 14 dX11_said_181 rfl ?_
                  refine b_if_eq (pc := 183) 266 dX11_said_183 (by decide) (fun c183 => ?_) (fun c183 => ?_)
                  rotate_left -- leaf 1: at 266
                  rotate_left -- leaf 2: at 186
                  -- leaves: 0 at 266; 1 at 266; 2 at 186
                  · exact fail hn _ _ _ _ _
                  · exact fail hn _ _ _ _ _
                  · exact absurd rfl c183
                refine b_iloadG (pc := 174) 15 dX11_said_174 rfl ?_
                refine b_iloadG (pc := 176) 4 dX11_said_176 rfl ?_
                refine b_icmp_ge (pc := 178) 266 dX11_said_178 (by decide) (fun c178 => ?_) (fun c178 => ?_)
                rotate_left -- leaf 0: at 266
                refine b_iloadG (pc := 181) 14 dX11_said_181 rfl ?_
                refine b_if_eq (pc := 183) 266 dX11_said_183 (by decide) (fun c183 => ?_) (fun c183 => ?_)
                rotate_left -- leaf 1: at 266
                refine b_iloadG (pc := 186) 13 dX11_said_186 rfl ?_
                refine b_iloadG (pc := 188) 6 dX11_said_188 rfl ?_
                refine b_idiv (pc := 190) dX11_said_190 ?_ ?_
                rotate_left -- leaf 2: divisor at 190
                refine siG13 (pc := 191) notL_i (by decide) dX11_said_191 ?_
                refine b_iloadG (pc := 193) 10 dX11_said_193 rfl ?_
                refine b_iloadG (pc := 195) 13 dX11_said_195 rfl ?_
                refine b_idiv (pc := 197) dX11_said_197 ?_ ?_
                rotate_left -- leaf 3: divisor at 197
                refine b_iloadG (pc := 198) 6 dX11_said_198 rfl ?_
                refine b_irem (pc := 200) dX11_said_200 ?_ ?_
                rotate_left -- leaf 4: divisor at 200
                refine siG16 (pc := 201) notL_i (by decide) dX11_said_201 ?_
                refine b_aloadN (pc := 203) 0 dX11_said_203 rfl rfl ?_
                refine b_iloadN (pc := 204) 1 dX11_said_204 rfl rfl ?_
                refine b_iloadG (pc := 205) 11 dX11_said_205 rfl ?_
                refine b_iloadG (pc := 207) 12 dX11_said_207 rfl ?_
                refine b_iloadG (pc := 209) 16 dX11_said_209 rfl ?_
                refine call_X11_after (pc := 211) k1241 (by decide) ⟨Nat.le_of_ble_eq_true rfl, Nat.le_of_ble_eq_true rfl⟩ (Nat.le_of_ble_eq_true rfl) dX11_said_211 ?_
                refine ⟨_, _, _, _, rfl, C, P, so, of, y, hv, hM, rfl, rfl, rfl, ?_, hP, h64.1, h64.2, hyl, ?_⟩
                rotate_left -- leaf 5: sy of X11_after at 211
                refine siG11 (pc := 214) notL_i (by decide) dX11_said_214 ?_
                refine b_iloadG (pc := 216) 12 dX11_said_216 rfl ?_
                refine b_iconst (pc := 218) (nI 1) dX11_said_218 (by decide) ?_
                refine b_iloadG (pc := 219) 16 dX11_said_219 rfl ?_
                refine b_iconst (pc := 221) (nI 2) dX11_said_221 (by decide) ?_
                refine b_idiv (pc := 222) dX11_said_222 ?_ ?_
                rotate_left -- leaf 6: divisor at 222
                refine b_ishl (pc := 223) dX11_said_223 ?_
                refine b_ior (pc := 224) dX11_said_224 ?_
                refine siG12 (pc := 225) notL_i (by decide) dX11_said_225 ?_
                rotate_left -- leaf 7: at 227
                -- leaves: 0 at 266; 1 at 266; 2 divisor at 190; 3 divisor at 197; 4 divisor at 200; 5 sy of X11_after at 211; 6 divisor at 222; 7 at 227
                · rw [n_le (by omega) (by omega)] at c178; omega
                · exact absurd c183 (by decide)
                · rw [n_eq0 (by omega)]; omega
                · rw [ew, n_eq0 (by omega)]; omega
                · rw [n_eq0 (by omega)]; omega
                · rw [ew, es]
                · decide
                · rw [ew, es, e2y, n_pow (by omega), n_or, hQ]
                  cases eo : outN C Q so of y with
                  | none =>
                    have hn : pS C Q D (k + 1) (row / (2 * C 0) ^ e2) = none := by
                      rw [ns]
                      show (match outN C Q so of y with | none => none | some v => if nI v = D k then some (v, of ||| 2 ^ (y / 2)) else none) = none
                      rw [eo]
                    refine b_iloadG (pc := 227) 11 dX11_said_227 rfl ?_
                    refine b_ldc (pc := 229) k1180 dX11_said_229 ?_
                    refine b_icmp_eq (pc := 231) 257 dX11_said_231 (by decide) (fun c231 => ?_) (fun c231 => ?_)
                    refine b_iconst (pc := 257) (nI 0) dX11_said_257 (by decide) ?_
                    refine siG14 (pc := 258) notL_i (by decide) dX11_said_258 ?_
                    refine inc15 (pc := 260) notL_i (by decide) dX11_said_260 ?_
                    refine b_goto (pc := 263) 174 dX11_said_263 (by decide) ?_
                    rotate_left -- leaf 0: at 174
                    rotate_left -- leaf 1: at 234
                    -- leaves: 0 at 174; 1 at 234
                    · rw [n_inc]
                      exact over hn _ _ _ _ _
                    · exact absurd rfl c231
                  | some u =>
                    have hu64 := outN_lt hv h64.1 hyl eo
                    have ns2 : pS C Q D (k + 1) (row / (2 * C 0) ^ e2) = if nI u = D k then some (u, of ||| 2 ^ (y / 2)) else none := by
                      rw [ns]
                      show (match outN C Q so of y with | none => none | some v => if nI v = D k then some (v, of ||| 2 ^ (y / 2)) else none) = _
                      rw [eo]
                    refine b_iloadG (pc := 227) 11 dX11_said_227 rfl ?_
                    refine b_ldc (pc := 229) k1180 dX11_said_229 ?_
                    refine b_icmp_eq (pc := 231) 257 dX11_said_231 (by decide) (fun c231 => ?_) (fun c231 => ?_)
                    refine b_iconst (pc := 257) (nI 0) dX11_said_257 (by decide) ?_
                    refine siG14 (pc := 258) notL_i (by decide) dX11_said_258 ?_
                    refine inc15 (pc := 260) notL_i (by decide) dX11_said_260 ?_
                    refine b_goto (pc := 263) 174 dX11_said_263 (by decide) ?_
                    rotate_left -- leaf 0: at 174
                    refine b_iloadG (pc := 234) 11 dX11_said_234 rfl ?_
                    refine b_aloadN (pc := 236) 0 dX11_said_236 rfl rfl ?_
                    refine gf11_4 (pc := 237) 113 rfl k1046 dX11_said_237 ?_
                    refine b_bipush (pc := 240) (nI 40) dX11_said_240 (by decide) ?_
                    refine b_iloadN (pc := 242) 2 dX11_said_242 rfl rfl ?_
                    refine b_imul (pc := 243) dX11_said_243 ?_
                    refine b_iloadN (pc := 244) 3 dX11_said_244 rfl rfl ?_
                    refine b_iadd (pc := 245) dX11_said_245 ?_
                    refine b_iloadG (pc := 246) 15 dX11_said_246 rfl ?_
                    refine b_iadd (pc := 248) dX11_said_248 ?_
                    refine b_iald (pc := 249) (by decide) ?_ dX11_said_249 ?_
                    rotate_left -- leaf 1: index at 249
                    refine b_icmp_ne (pc := 250) 257 dX11_said_250 (by decide) (fun c250 => ?_) (fun c250 => ?_)
                    refine b_iconst (pc := 257) (nI 0) dX11_said_257 (by decide) ?_
                    refine siG14 (pc := 258) notL_i (by decide) dX11_said_258 ?_
                    refine inc15 (pc := 260) notL_i (by decide) dX11_said_260 ?_
                    refine b_goto (pc := 263) 174 dX11_said_263 (by decide) ?_
                    rotate_left -- leaf 2: at 174
                    refine b_iconst (pc := 253) (nI 1) dX11_said_253 (by decide) ?_
                    refine b_goto (pc := 254) 258 dX11_said_254 (by decide) ?_
                    refine siG14 (pc := 258) notL_i (by decide) dX11_said_258 ?_
                    refine inc15 (pc := 260) notL_i (by decide) dX11_said_260 ?_
                    refine b_goto (pc := 263) 174 dX11_said_263 (by decide) ?_
                    rotate_left -- leaf 3: at 174
                    -- leaves: 0 at 174; 1 index at 249; 2 at 174; 3 at 174
                    · exact absurd c231 (n_ne_none (show u < 2147483648 by omega))
                    · rw [ei]; exact n_in (by omega) (by omega)
                    · rw [ei, n_cl (by omega), it k (by omega)] at c250
                      rw [n_inc]
                      exact over (by rw [ns2]; exact if_neg c250) _ _ _ _ _
                    · rw [ei, n_cl (by omega), it k (by omega)] at c250
                      rw [n_inc]
                      exact ih2 (k + 1) u (of ||| 2 ^ (y / 2)) _ (by omega) (by rw [ns2]; exact if_pos c250)
            refine b_iloadG (pc := 143) 10 dX11_said_143 rfl ?_
            refine b_if_lt (pc := 145) 307 dX11_said_145 (by decide) (fun c145 => ?_) (fun c145 => ?_)
            rotate_left -- leaf 0: at 307
            refine b_aloadN (pc := 148) 0 dX11_said_148 rfl rfl ?_
            refine gf11_5 (pc := 149) 114 rfl k1047 dX11_said_149 ?_
            refine b_iconst (pc := 152) (nI 1) dX11_said_152 (by decide) ?_
            refine b_iald (pc := 153) (by decide) ?_ dX11_said_153 ?_
            rotate_left -- leaf 1: index at 153
            refine siG11 (pc := 154) notL_i (by decide) dX11_said_154 ?_
            refine b_aloadN (pc := 156) 0 dX11_said_156 rfl rfl ?_
            refine gf11_5 (pc := 157) 114 rfl k1047 dX11_said_157 ?_
            refine b_iconst (pc := 160) (nI 5) dX11_said_160 (by decide) ?_
            refine b_iald (pc := 161) (by decide) ?_ dX11_said_161 ?_
            rotate_left -- leaf 2: index at 161
            refine siG12 (pc := 162) notL_i (by decide) dX11_said_162 ?_
            refine b_iloadG (pc := 164) 7 dX11_said_164 rfl ?_
            refine siG13 (pc := 166) notL_i (by decide) dX11_said_166 ?_
            refine b_iconst (pc := 168) (nI 1) dX11_said_168 (by decide) ?_
            refine siG14 (pc := 169) notL_i (by decide) dX11_said_169 ?_
            refine b_iconst (pc := 171) (nI 0) dX11_said_171 (by decide) ?_
            refine siG15 (pc := 172) notL_i (by decide) dX11_said_172 ?_
            rotate_left -- leaf 3: at 174
            -- leaves: 0 at 307; 1 index at 153; 2 index at 161; 3 at 174
            · rw [n_lt0 (by omega)] at c145; exact c145.elim
            · exact n_in (by omega) (by omega)
            · exact n_in (by omega) (by omega)
            · rw [c1, c5]
              exact inner N 0 (C 1) (C 5) _ (Nat.zero_add N) rfl
        have pw : ∀ e k, N + 1 ≤ k + e → k ≤ N → B e_X11_said Φ 110 [some (vr 11 110), some (vi (nI P)), some (vi (nI r)), some (vi (nI I)), some (vi (nI N)), some (vi w), some (vi (nI (2 * C 0))), some (vi (nI ((2 * C 0) ^ k))), some (vi (nI k)), none, none, none, none, none, none, none, none] [] m1 (0, 0) := by
          intro e
          induction e with
          | zero => intro k z1 z2; omega
          | succ e ih =>
            intro k z1 z2
            refine b_iloadG (pc := 110) 8 dX11_said_110 rfl ?_
            refine b_iloadG (pc := 112) 4 dX11_said_112 rfl ?_
            refine b_icmp_ge (pc := 114) 130 dX11_said_114 (by decide) (fun c114 => ?_) (fun c114 => ?_)
            refine b_iconst (pc := 130) (nI 0) dX11_said_130 (by decide) ?_
            refine siG8 (pc := 131) notL_i (by decide) dX11_said_131 ?_
            refine b_ldc (pc := 133) k1180 dX11_said_133 ?_
            refine siG9 (pc := 135) notL_i (by decide) dX11_said_135 ?_
            refine b_iloadG (pc := 137) 7 dX11_said_137 rfl ?_
            refine b_iconst (pc := 139) (nI 1) dX11_said_139 (by decide) ?_
            refine b_isub (pc := 140) dX11_said_140 ?_
            refine siG10 (pc := 141) notL_i (by decide) dX11_said_141 ?_
            rotate_left -- leaf 0: at 143
            refine b_iloadG (pc := 117) 7 dX11_said_117 rfl ?_
            refine b_iloadG (pc := 119) 6 dX11_said_119 rfl ?_
            refine b_imul (pc := 121) dX11_said_121 ?_
            refine siG7 (pc := 122) notL_i (by decide) dX11_said_122 ?_
            refine inc8 (pc := 124) notL_i (by decide) dX11_said_124 ?_
            refine b_goto (pc := 127) 110 dX11_said_127 (by decide) ?_
            rotate_left -- leaf 1: at 110
            -- leaves: 0 at 143; 1 at 110
            · rw [n_le (by omega) (by omega)] at c114
              have ek : k = N := by omega
              rw [ek, n_sub (by omega)]
              exact outer ((2 * C 0) ^ N) 0 _ _ _ _ _ _ _ _ (Or.inr ⟨(2 * C 0) ^ N - 1, by omega, rfl⟩) (Nat.le_refl _) (Nat.zero_add _) (Or.inl ⟨rfl, fun i b1 b2 => by omega⟩)
            · rw [n_le (by omega) (by omega)] at c114
              rw [n_mul, ← Nat.pow_succ, n_inc]
              exact ih (k + 1) (by omega) (by omega)
        refine b_iconst (pc := 94) (nI 2) dX11_said_94 (by decide) ?_
        refine b_aloadN (pc := 95) 0 dX11_said_95 rfl rfl ?_
        refine gf11_5 (pc := 96) 114 rfl k1047 dX11_said_96 ?_
        refine b_iconst (pc := 99) (nI 0) dX11_said_99 (by decide) ?_
        refine b_iald (pc := 100) (by decide) ?_ dX11_said_100 ?_
        rotate_left -- leaf 0: index at 100
        refine b_imul (pc := 101) dX11_said_101 ?_
        refine siG6 (pc := 102) notL_i (by decide) dX11_said_102 ?_
        refine b_iconst (pc := 104) (nI 1) dX11_said_104 (by decide) ?_
        refine siG7 (pc := 105) notL_i (by decide) dX11_said_105 ?_
        refine b_iconst (pc := 107) (nI 0) dX11_said_107 (by decide) ?_
        refine siG8 (pc := 108) notL_i (by decide) dX11_said_108 ?_
        rotate_left -- leaf 1: at 110
        -- leaves: 0 index at 100; 1 at 110
        · exact n_in (by omega) (by omega)
        · rw [c0, n_mul]
          exact pw (N + 1) 0 (by omega) (by omega)
      refine b_aloadN (pc := 0) 0 dX11_said_0 rfl rfl ?_
      refine b_iconst (pc := 1) (nI 0) dX11_said_1 (by decide) ?_
      refine pf11_0 (pc := 2) k1042 dX11_said_2 ?_
      refine b_aloadN (pc := 5) 0 dX11_said_5 rfl rfl ?_
      refine b_iloadN (pc := 6) 1 dX11_said_6 rfl rfl ?_
      refine call_X11_isPerson (pc := 7) k1229 (by decide) ⟨Nat.le_of_ble_eq_true rfl, Nat.le_of_ble_eq_true rfl⟩ (Nat.le_of_ble_eq_true rfl) dX11_said_7 ?_
      refine ⟨_, rfl, _, hC.1 4 (by omega), ?_, ?_⟩
      rotate_left -- leaf 0: small of X11_isPerson at 7
      refine b_if_eq (pc := 10) 44 dX11_said_10 (by decide) (fun c10 => ?_) (fun c10 => ?_)
      rotate_left -- leaf 1: at 44
      refine b_iloadN (pc := 13) 2 dX11_said_13 rfl rfl ?_
      refine call_X11_isRow (pc := 14) k1132 (by decide) ⟨Nat.le_of_ble_eq_true rfl, Nat.le_of_ble_eq_true rfl⟩ (Nat.le_of_ble_eq_true rfl) dX11_said_14 ?_
      refine ⟨_, rfl, ?_⟩
      refine b_if_eq (pc := 17) 44 dX11_said_17 (by decide) (fun c17 => ?_) (fun c17 => ?_)
      rotate_left -- leaf 2: at 44
      refine b_iloadG (pc := 20) 4 dX11_said_20 rfl ?_
      refine b_i2l (pc := 22) dX11_said_22 ?_
      refine b_lconst (pc := 23) 1 dX11_said_23 (by decide) ?_
      refine b_ldc2 (pc := 24) k1369 dX11_said_24 ?_
      refine call_X11_in (pc := 27) k1136 (by decide) ⟨Nat.le_of_ble_eq_true rfl, Nat.le_of_ble_eq_true rfl⟩ (Nat.le_of_ble_eq_true rfl) dX11_said_27 ?_
      refine ⟨_, _, _, rfl, ?_⟩
      refine b_if_eq (pc := 30) 44 dX11_said_30 (by decide) (fun c30 => ?_) (fun c30 => ?_)
      rotate_left -- leaf 3: at 44
      refine b_iloadG (pc := 33) 5 dX11_said_33 rfl ?_
      refine b_i2l (pc := 35) dX11_said_35 ?_
      refine b_lconst (pc := 36) 0 dX11_said_36 (by decide) ?_
      refine b_lconst (pc := 37) 1 dX11_said_37 (by decide) ?_
      refine call_X11_in (pc := 38) k1136 (by decide) ⟨Nat.le_of_ble_eq_true rfl, Nat.le_of_ble_eq_true rfl⟩ (Nat.le_of_ble_eq_true rfl) dX11_said_38 ?_
      refine ⟨_, _, _, rfl, ?_⟩
      refine b_if_ne (pc := 41) 47 dX11_said_41 (by decide) (fun c41 => ?_) (fun c41 => ?_)
      refine b_aloadN (pc := 47) 0 dX11_said_47 rfl rfl ?_
      refine gf11_2 (pc := 48) 111 rfl k1044 dX11_said_48 ?_
      refine b_iloadN (pc := 51) 2 dX11_said_51 rfl rfl ?_
      refine b_iald (pc := 52) (by decide) ?_ dX11_said_52 ?_
      rotate_left -- leaf 4: index at 52
      refine b_if_ge (pc := 53) 62 dX11_said_53 (by decide) (fun c53 => ?_) (fun c53 => ?_)
      refine b_iloadN (pc := 62) 3 dX11_said_62 rfl rfl ?_
      refine b_if_lt (pc := 63) 83 dX11_said_63 (by decide) (fun c63 => ?_) (fun c63 => ?_)
      rotate_left -- leaf 5: at 83
      refine b_iloadN (pc := 66) 3 dX11_said_66 rfl rfl ?_
      refine b_i2l (pc := 67) dX11_said_67 ?_
      refine b_iloadG (pc := 68) 4 dX11_said_68 rfl ?_
      refine b_i2l (pc := 70) dX11_said_70 ?_
      refine b_ladd (pc := 71) dX11_said_71 ?_
      refine b_aloadN (pc := 72) 0 dX11_said_72 rfl rfl ?_
      refine gf11_3 (pc := 73) 112 rfl k1045 dX11_said_73 ?_
      refine b_iloadN (pc := 76) 2 dX11_said_76 rfl rfl ?_
      refine b_iald (pc := 77) (by decide) ?_ dX11_said_77 ?_
      rotate_left -- leaf 6: index at 77
      refine b_i2l (pc := 78) dX11_said_78 ?_
      refine b_lcmp (pc := 79) dX11_said_79 ?_
      refine b_if_le (pc := 80) 89 dX11_said_80 (by decide) (fun c80 => ?_) (fun c80 => ?_)
      refine b_aloadN (pc := 89) 0 dX11_said_89 rfl rfl ?_
      refine b_iconst (pc := 90) (nI 0) dX11_said_90 (by decide) ?_
      refine pf11_1 (pc := 91) k1043 dX11_said_91 ?_
      rotate_left -- leaf 7: at 94
      rotate_left -- leaf 8: at 83
      rotate_left -- leaf 9: at 56
      rotate_left -- leaf 10: at 44
      -- leaves: 0 small of X11_isPerson at 7; 1 at 44; 2 at 44; 3 at 44; 4 index at 52; 5 at 83; 6 index at 77; 7 at 94; 8 at 83; 9 at 56; 10 at 44
      · omega
      · exact (no10 c10).elim
      · exact (no17 c17).elim
      · exact (no30 c30).elim
      · exact n_in (by omega) (by omega)
      · rw [n_lt0 (by omega)] at c63; exact c63.elim
      · exact n_in (by omega) (by omega)
      · exact key _ hM it fin
      · have c80 := Int32.not_le.mp c80
        rw [cmp_gt, il_sum, Int32.toInt_toInt64, n_cl (by omega), ww.2.2.1, nI_toInt (by omega), nI_toInt (by omega), nI_toInt (by omega)] at c80
        omega
      · rw [n_cl (by omega)] at c53
        exact absurd (qr.mpr hl) c53
      · exact (no41 c41).elim
    · have bad := h2 hc _ rfl hz
      refine b_aloadN (pc := 0) 0 dX11_said_0 rfl rfl ?_
      refine b_iconst (pc := 1) (nI 0) dX11_said_1 (by decide) ?_
      refine pf11_0 (pc := 2) k1042 dX11_said_2 ?_
      refine b_aloadN (pc := 5) 0 dX11_said_5 rfl rfl ?_
      refine b_iloadN (pc := 6) 1 dX11_said_6 rfl rfl ?_
      refine call_X11_isPerson (pc := 7) k1229 (by decide) ⟨Nat.le_of_ble_eq_true rfl, Nat.le_of_ble_eq_true rfl⟩ (Nat.le_of_ble_eq_true rfl) dX11_said_7 ?_
      refine ⟨_, rfl, _, hC.1 4 (by omega), ?_, ?_⟩
      rotate_left -- leaf 0: small of X11_isPerson at 7
      refine b_if_eq (pc := 10) 44 dX11_said_10 (by decide) (fun c10 => ?_) (fun c10 => ?_)
      rotate_left -- leaf 1: at 44
      refine b_iloadN (pc := 13) 2 dX11_said_13 rfl rfl ?_
      refine call_X11_isRow (pc := 14) k1132 (by decide) ⟨Nat.le_of_ble_eq_true rfl, Nat.le_of_ble_eq_true rfl⟩ (Nat.le_of_ble_eq_true rfl) dX11_said_14 ?_
      refine ⟨_, rfl, ?_⟩
      refine b_if_eq (pc := 17) 44 dX11_said_17 (by decide) (fun c17 => ?_) (fun c17 => ?_)
      rotate_left -- leaf 2: at 44
      refine b_iloadG (pc := 20) 4 dX11_said_20 rfl ?_
      refine b_i2l (pc := 22) dX11_said_22 ?_
      refine b_lconst (pc := 23) 1 dX11_said_23 (by decide) ?_
      refine b_ldc2 (pc := 24) k1369 dX11_said_24 ?_
      refine call_X11_in (pc := 27) k1136 (by decide) ⟨Nat.le_of_ble_eq_true rfl, Nat.le_of_ble_eq_true rfl⟩ (Nat.le_of_ble_eq_true rfl) dX11_said_27 ?_
      refine ⟨_, _, _, rfl, ?_⟩
      refine b_if_eq (pc := 30) 44 dX11_said_30 (by decide) (fun c30 => ?_) (fun c30 => ?_)
      rotate_left -- leaf 3: at 44
      refine b_iloadG (pc := 33) 5 dX11_said_33 rfl ?_
      refine b_i2l (pc := 35) dX11_said_35 ?_
      refine b_lconst (pc := 36) 0 dX11_said_36 (by decide) ?_
      refine b_lconst (pc := 37) 1 dX11_said_37 (by decide) ?_
      refine call_X11_in (pc := 38) k1136 (by decide) ⟨Nat.le_of_ble_eq_true rfl, Nat.le_of_ble_eq_true rfl⟩ (Nat.le_of_ble_eq_true rfl) dX11_said_38 ?_
      refine ⟨_, _, _, rfl, ?_⟩
      refine b_if_ne (pc := 41) 47 dX11_said_41 (by decide) (fun c41 => ?_) (fun c41 => ?_)
      refine b_aloadN (pc := 47) 0 dX11_said_47 rfl rfl ?_
      refine gf11_2 (pc := 48) 111 rfl k1044 dX11_said_48 ?_
      refine b_iloadN (pc := 51) 2 dX11_said_51 rfl rfl ?_
      refine b_iald (pc := 52) (by decide) ?_ dX11_said_52 ?_
      rotate_left -- leaf 4: index at 52
      refine b_if_ge (pc := 53) 62 dX11_said_53 (by decide) (fun c53 => ?_) (fun c53 => ?_)
      refine b_iloadN (pc := 62) 3 dX11_said_62 rfl rfl ?_
      refine b_if_lt (pc := 63) 83 dX11_said_63 (by decide) (fun c63 => ?_) (fun c63 => ?_)
      refine b_aloadN (pc := 83) 0 dX11_said_83 rfl rfl ?_
      refine b_iconst (pc := 84) (nI 2) dX11_said_84 (by decide) ?_
      refine call_X11_finding (pc := 85) k1141 (by decide) ⟨Nat.le_of_ble_eq_true rfl, Nat.le_of_ble_eq_true rfl⟩ (Nat.le_of_ble_eq_true rfl) dX11_said_85 ?_
      refine ⟨_, rfl, ?_⟩
      refine b_iret (pc := 88) rfl dX11_said_88 ⟨Nat.le_of_ble_eq_true rfl, Nat.le_of_ble_eq_true rfl⟩ ?_
      rotate_left -- leaf 5: return at 88
      refine b_iloadN (pc := 66) 3 dX11_said_66 rfl rfl ?_
      refine b_i2l (pc := 67) dX11_said_67 ?_
      refine b_iloadG (pc := 68) 4 dX11_said_68 rfl ?_
      refine b_i2l (pc := 70) dX11_said_70 ?_
      refine b_ladd (pc := 71) dX11_said_71 ?_
      refine b_aloadN (pc := 72) 0 dX11_said_72 rfl rfl ?_
      refine gf11_3 (pc := 73) 112 rfl k1045 dX11_said_73 ?_
      refine b_iloadN (pc := 76) 2 dX11_said_76 rfl rfl ?_
      refine b_iald (pc := 77) (by decide) ?_ dX11_said_77 ?_
      rotate_left -- leaf 6: index at 77
      refine b_i2l (pc := 78) dX11_said_78 ?_
      refine b_lcmp (pc := 79) dX11_said_79 ?_
      refine b_if_le (pc := 80) 89 dX11_said_80 (by decide) (fun c80 => ?_) (fun c80 => ?_)
      rotate_left -- leaf 7: at 89
      refine b_aloadN (pc := 83) 0 dX11_said_83 rfl rfl ?_
      refine b_iconst (pc := 84) (nI 2) dX11_said_84 (by decide) ?_
      refine call_X11_finding (pc := 85) k1141 (by decide) ⟨Nat.le_of_ble_eq_true rfl, Nat.le_of_ble_eq_true rfl⟩ (Nat.le_of_ble_eq_true rfl) dX11_said_85 ?_
      refine ⟨_, rfl, ?_⟩
      refine b_iret (pc := 88) rfl dX11_said_88 ⟨Nat.le_of_ble_eq_true rfl, Nat.le_of_ble_eq_true rfl⟩ ?_
      rotate_left -- leaf 8: return at 88
      refine b_aloadN (pc := 56) 0 dX11_said_56 rfl rfl ?_
      refine b_iconst (pc := 57) (nI 1) dX11_said_57 (by decide) ?_
      refine call_X11_finding (pc := 58) k1141 (by decide) ⟨Nat.le_of_ble_eq_true rfl, Nat.le_of_ble_eq_true rfl⟩ (Nat.le_of_ble_eq_true rfl) dX11_said_58 ?_
      refine ⟨_, rfl, ?_⟩
      refine b_iret (pc := 61) rfl dX11_said_61 ⟨Nat.le_of_ble_eq_true rfl, Nat.le_of_ble_eq_true rfl⟩ ?_
      rotate_left -- leaf 9: return at 61
      rotate_left -- leaf 10: at 44
      -- leaves: 0 small of X11_isPerson at 7; 1 at 44; 2 at 44; 3 at 44; 4 index at 52; 5 return at 88; 6 index at 77; 7 at 89; 8 return at 88; 9 return at 61; 10 at 44
      · omega
      · exact (no10 c10).elim
      · exact (no17 c17).elim
      · exact (no30 c30).elim
      · exact n_in (by omega) (by omega)
      · rw [n_cl (by omega)] at c53
        have l1 := qr.mp c53
        rw [i_lt, i_0] at c63
        have e2 : lackN La Ma r i (nI N) = 2 := by
          unfold lackN fitB
          rw [if_neg (by omega), decide_eq_false (by omega)]; rfl
        rw [e2] at bad
        exact bad _ (fd _).1 (fd _).2
      · exact n_in (by omega) (by omega)
      · rw [n_cl (by omega)] at c53
        have l1 := qr.mp c53
        have w := (hR r hr).2 l1
        rw [i_lt, i_0] at c63
        have c80 := Int32.not_lt.mpr c80
        rw [cmp_gt, il_sum, Int32.toInt_toInt64, n_cl (by omega), w.2.2.1, nI_toInt (by omega), nI_toInt (by omega)] at c80
        have e2 : lackN La Ma r i (nI N) = 0 := by
          refine lackN_0.mpr ⟨l1, ?_⟩
          unfold fitB
          rw [nI_toInt (by omega), decide_eq_true (by omega), decide_eq_true (by omega), decide_eq_true (by omega)]; rfl
        exact absurd e2 hz
      · rw [n_cl (by omega)] at c53
        have l1 := qr.mp c53
        have w := (hR r hr).2 l1
        have c80 := Int32.not_le.mp c80
        rw [cmp_gt, il_sum, Int32.toInt_toInt64, n_cl (by omega), w.2.2.1, nI_toInt (by omega), nI_toInt (by omega)] at c80
        have e2 : lackN La Ma r i (nI N) = 2 := by
          unfold lackN fitB
          rw [if_neg (by omega), nI_toInt (by omega), decide_eq_false (show ¬ i.toInt + (N : Int) ≤ (Ma r : Int) by omega), Bool.and_false, Bool.and_false]; rfl
        rw [e2] at bad
        exact bad _ (fd _).1 (fd _).2
      · rw [n_cl (by omega), qr] at c53
        have e1 : lackN La Ma r i (nI N) = 1 := by
          unfold lackN
          rw [if_pos (by omega)]
        rw [e1] at bad
        exact bad _ (fd _).1 (fd _).2
      · exact (no41 c41).elim
  · have e : saiC C p r n w = false := by
      cases q : saiC C p r n w
      · rfl
      · exact absurd q hc
    have bad := h1 e _ f0
    refine b_aloadN (pc := 0) 0 dX11_said_0 rfl rfl ?_
    refine b_iconst (pc := 1) (nI 0) dX11_said_1 (by decide) ?_
    refine pf11_0 (pc := 2) k1042 dX11_said_2 ?_
    refine b_aloadN (pc := 5) 0 dX11_said_5 rfl rfl ?_
    refine b_iloadN (pc := 6) 1 dX11_said_6 rfl rfl ?_
    refine call_X11_isPerson (pc := 7) k1229 (by decide) ⟨Nat.le_of_ble_eq_true rfl, Nat.le_of_ble_eq_true rfl⟩ (Nat.le_of_ble_eq_true rfl) dX11_said_7 ?_
    refine ⟨_, rfl, _, hC.1 4 (by omega), ?_, ?_⟩
    rotate_left -- leaf 0: small of X11_isPerson at 7
    refine b_if_eq (pc := 10) 44 dX11_said_10 (by decide) (fun c10 => ?_) (fun c10 => ?_)
    refine b_ldc (pc := 44) k1140 dX11_said_44 ?_
    refine b_iret (pc := 46) rfl dX11_said_46 ⟨Nat.le_of_ble_eq_true rfl, Nat.le_of_ble_eq_true rfl⟩ ?_
    rotate_left -- leaf 1: return at 46
    refine b_iloadN (pc := 13) 2 dX11_said_13 rfl rfl ?_
    refine call_X11_isRow (pc := 14) k1132 (by decide) ⟨Nat.le_of_ble_eq_true rfl, Nat.le_of_ble_eq_true rfl⟩ (Nat.le_of_ble_eq_true rfl) dX11_said_14 ?_
    refine ⟨_, rfl, ?_⟩
    refine b_if_eq (pc := 17) 44 dX11_said_17 (by decide) (fun c17 => ?_) (fun c17 => ?_)
    refine b_ldc (pc := 44) k1140 dX11_said_44 ?_
    refine b_iret (pc := 46) rfl dX11_said_46 ⟨Nat.le_of_ble_eq_true rfl, Nat.le_of_ble_eq_true rfl⟩ ?_
    rotate_left -- leaf 2: return at 46
    refine b_iloadG (pc := 20) 4 dX11_said_20 rfl ?_
    refine b_i2l (pc := 22) dX11_said_22 ?_
    refine b_lconst (pc := 23) 1 dX11_said_23 (by decide) ?_
    refine b_ldc2 (pc := 24) k1369 dX11_said_24 ?_
    refine call_X11_in (pc := 27) k1136 (by decide) ⟨Nat.le_of_ble_eq_true rfl, Nat.le_of_ble_eq_true rfl⟩ (Nat.le_of_ble_eq_true rfl) dX11_said_27 ?_
    refine ⟨_, _, _, rfl, ?_⟩
    refine b_if_eq (pc := 30) 44 dX11_said_30 (by decide) (fun c30 => ?_) (fun c30 => ?_)
    refine b_ldc (pc := 44) k1140 dX11_said_44 ?_
    refine b_iret (pc := 46) rfl dX11_said_46 ⟨Nat.le_of_ble_eq_true rfl, Nat.le_of_ble_eq_true rfl⟩ ?_
    rotate_left -- leaf 3: return at 46
    refine b_iloadG (pc := 33) 5 dX11_said_33 rfl ?_
    refine b_i2l (pc := 35) dX11_said_35 ?_
    refine b_lconst (pc := 36) 0 dX11_said_36 (by decide) ?_
    refine b_lconst (pc := 37) 1 dX11_said_37 (by decide) ?_
    refine call_X11_in (pc := 38) k1136 (by decide) ⟨Nat.le_of_ble_eq_true rfl, Nat.le_of_ble_eq_true rfl⟩ (Nat.le_of_ble_eq_true rfl) dX11_said_38 ?_
    refine ⟨_, _, _, rfl, ?_⟩
    refine b_if_ne (pc := 41) 47 dX11_said_41 (by decide) (fun c41 => ?_) (fun c41 => ?_)
    rotate_left -- leaf 4: at 47
    refine b_ldc (pc := 44) k1140 dX11_said_44 ?_
    refine b_iret (pc := 46) rfl dX11_said_46 ⟨Nat.le_of_ble_eq_true rfl, Nat.le_of_ble_eq_true rfl⟩ ?_
    rotate_left -- leaf 5: return at 46
    -- leaves: 0 small of X11_isPerson at 7; 1 return at 46; 2 return at 46; 3 return at 46; 4 at 47; 5 return at 46
    · omega
    · exact bad
    · exact bad
    · exact bad
    · rw [inNK 4 rfl (by omega)] at c30
      rw [inLc 2 rfl (by omega)] at c41
      exact absurd (by unfold saiC; rw [bT c10, bT c17, bT c30, bT c41]; rfl) hc
    · exact bad
theorem call_X11_said {E : ME} {Φ : Option AV → AM → Prop} {pc : Nat} {L : List (Option AV)} {st : List AV} {m : AM} {a : Nat × Nat} {idx : Nat} {x0 x1 x2 x3 x4 : AV} {i : Nat} (hl : Cond.methodLink E.2.1 idx yX11_said ∈ TB) (hdep : 8 + 1 ≤ E.2.2.2.2.2.2) (hroom : a.1 + 0 ≤ E.2.2.2.2.1 ∧ a.2 + 0 ≤ E.2.2.2.2.2.1) (hsr : st.length ≤ 4) (hd : decode E.1 pc = .ok (.invokevirtual idx, 3)) (hsp : Sp_X11_said [vr 11 i, x0, x1, x2, x3, x4] m (fun r m2 => B E Φ (pc + 3) L (r.toList ++ st) m2 a)) : B E Φ pc L (x4 :: x3 :: x2 :: x1 :: x0 :: vr 11 i :: st) m a := b_callV S_X11_said [x0, x1, x2, x3, x4] (RX11, TX11, 28) rfl rfl (by decide) (Or.inl hl) k1366 k1367 k80 k1368 (show _ ∧ _ ∧ Option.map (fun d => d.parameters.length) (parseMethodDescriptor yX11_said.desc) = some 5 from by decide +kernel) ⟨hdep, by decide⟩ hroom hsr hd hsp
