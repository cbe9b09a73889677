/-! who, of the reference -/
def MRow0 (r i : Nat) : Nat := 40 * r + i
theorem inN12 {n : Int32} : (if (1 : Int64).toInt ≤ n.toInt64.toInt ∧ n.toInt64.toInt ≤ (12 : Int64).toInt then 1 else 0) = (if (inB n 13 && decide (¬ n = nI 0)) = true then 1 else 0) := by
  rw [Int32.toInt_toInt64, show (1 : Int64).toInt = 1 from rfl, show (12 : Int64).toInt = 12 from rfl]
  by_cases q : (inB n 13 && decide (¬ n = nI 0)) = true
  · have w := nN12.mpr q
    rw [i_lt, i_le, nI_toInt (by omega), nI_toInt (by omega)] at w
    rw [if_pos q, if_pos ⟨by omega, by omega⟩]
  · rw [if_neg q, if_neg]
    rintro ⟨h1, h2⟩
    exact q (nN12.mp ⟨by rw [i_lt, nI_toInt (by omega)]; omega, by rw [i_le, nI_toInt (by omega)]; omega⟩)
abbrev e_X11_who : ME := (cX11_who, (RX11, (13, ((some .int), (0, (0, 8))))))
theorem dX11_who_0 : decode cX11_who 0 = .ok (.aload_n 0, 1) := by decide +kernel
theorem dX11_who_1 : decode cX11_who 1 = .ok (.iconst 0, 1) := by decide +kernel
theorem dX11_who_2 : decode cX11_who 2 = .ok (.putfield 53, 3) := by decide +kernel
theorem dX11_who_5 : decode cX11_who 5 = .ok (.aload_n 0, 1) := by decide +kernel
theorem dX11_who_6 : decode cX11_who 6 = .ok (.iload_n 1, 1) := by decide +kernel
theorem dX11_who_7 : decode cX11_who 7 = .ok (.invokevirtual 176, 3) := by decide +kernel
theorem dX11_who_10 : decode cX11_who 10 = .ok (.ifCond .eq 23, 3) := by decide +kernel
theorem dX11_who_13 : decode cX11_who 13 = .ok (.iload_n 2, 1) := by decide +kernel
theorem dX11_who_14 : decode cX11_who 14 = .ok (.invokestatic 67, 3) := by decide +kernel
theorem dX11_who_17 : decode cX11_who 17 = .ok (.ifCond .eq 16, 3) := by decide +kernel
theorem dX11_who_20 : decode cX11_who 20 = .ok (.iload 4, 2) := by decide +kernel
theorem dX11_who_22 : decode cX11_who 22 = .ok (.i2l, 1) := by decide +kernel
theorem dX11_who_23 : decode cX11_who 23 = .ok (.lconst 1, 1) := by decide +kernel
theorem dX11_who_24 : decode cX11_who 24 = .ok (.ldc2_w 238, 3) := by decide +kernel
theorem dX11_who_27 : decode cX11_who 27 = .ok (.invokestatic 63, 3) := by decide +kernel
theorem dX11_who_30 : decode cX11_who 30 = .ok (.ifCond .ne 6, 3) := by decide +kernel
theorem dX11_who_33 : decode cX11_who 33 = .ok (.ldc 73, 2) := by decide +kernel
theorem dX11_who_35 : decode cX11_who 35 = .ok (.ireturn, 1) := by decide +kernel
theorem dX11_who_36 : decode cX11_who 36 = .ok (.aload_n 0, 1) := by decide +kernel
theorem dX11_who_37 : decode cX11_who 37 = .ok (.getfield 7, 3) := by decide +kernel
theorem dX11_who_40 : decode cX11_who 40 = .ok (.iload_n 2, 1) := by decide +kernel
theorem dX11_who_41 : decode cX11_who 41 = .ok (.iaload, 1) := by decide +kernel
theorem dX11_who_42 : decode cX11_who 42 = .ok (.ifCond .ge 9, 3) := by decide +kernel
theorem dX11_who_45 : decode cX11_who 45 = .ok (.aload_n 0, 1) := by decide +kernel
theorem dX11_who_46 : decode cX11_who 46 = .ok (.iconst 1, 1) := by decide +kernel
theorem dX11_who_47 : decode cX11_who 47 = .ok (.invokevirtual 74, 3) := by decide +kernel
theorem dX11_who_50 : decode cX11_who 50 = .ok (.ireturn, 1) := by decide +kernel
theorem dX11_who_51 : decode cX11_who 51 = .ok (.iload_n 3, 1) := by decide +kernel
theorem dX11_who_52 : decode cX11_who 52 = .ok (.ifCond .lt 22, 3) := by decide +kernel
theorem dX11_who_55 : decode cX11_who 55 = .ok (.iload_n 3, 1) := by decide +kernel
theorem dX11_who_56 : decode cX11_who 56 = .ok (.i2l, 1) := by decide +kernel
theorem dX11_who_57 : decode cX11_who 57 = .ok (.iconst 2, 1) := by decide +kernel
theorem dX11_who_58 : decode cX11_who 58 = .ok (.iload 4, 2) := by decide +kernel
theorem dX11_who_60 : decode cX11_who 60 = .ok (.imul, 1) := by decide +kernel
theorem dX11_who_61 : decode cX11_who 61 = .ok (.i2l, 1) := by decide +kernel
theorem dX11_who_62 : decode cX11_who 62 = .ok (.ladd, 1) := by decide +kernel
theorem dX11_who_63 : decode cX11_who 63 = .ok (.aload_n 0, 1) := by decide +kernel
theorem dX11_who_64 : decode cX11_who 64 = .ok (.getfield 13, 3) := by decide +kernel
theorem dX11_who_67 : decode cX11_who 67 = .ok (.iload_n 2, 1) := by decide +kernel
theorem dX11_who_68 : decode cX11_who 68 = .ok (.iaload, 1) := by decide +kernel
theorem dX11_who_69 : decode cX11_who 69 = .ok (.i2l, 1) := by decide +kernel
theorem dX11_who_70 : decode cX11_who 70 = .ok (.lcmp, 1) := by decide +kernel
theorem dX11_who_71 : decode cX11_who 71 = .ok (.ifCond .le 9, 3) := by decide +kernel
theorem dX11_who_74 : decode cX11_who 74 = .ok (.aload_n 0, 1) := by decide +kernel
theorem dX11_who_75 : decode cX11_who 75 = .ok (.iconst 2, 1) := by decide +kernel
theorem dX11_who_76 : decode cX11_who 76 = .ok (.invokevirtual 74, 3) := by decide +kernel
theorem dX11_who_79 : decode cX11_who 79 = .ok (.ireturn, 1) := by decide +kernel
theorem dX11_who_80 : decode cX11_who 80 = .ok (.iconst 0, 1) := by decide +kernel
theorem dX11_who_81 : decode cX11_who 81 = .ok (.istore 5, 2) := by decide +kernel
theorem dX11_who_83 : decode cX11_who 83 = .ok (.iload 5, 2) := by decide +kernel
theorem dX11_who_85 : decode cX11_who 85 = .ok (.iload 4, 2) := by decide +kernel
theorem dX11_who_87 : decode cX11_who 87 = .ok (.if_icmp .ge 36, 3) := by decide +kernel
theorem dX11_who_90 : decode cX11_who 90 = .ok (.aload_n 0, 1) := by decide +kernel
theorem dX11_who_91 : decode cX11_who 91 = .ok (.aload_n 0, 1) := by decide +kernel
theorem dX11_who_92 : decode cX11_who 92 = .ok (.getfield 16, 3) := by decide +kernel
theorem dX11_who_95 : decode cX11_who 95 = .ok (.bipush 40, 2) := by decide +kernel
theorem dX11_who_97 : decode cX11_who 97 = .ok (.iload_n 2, 1) := by decide +kernel
theorem dX11_who_98 : decode cX11_who 98 = .ok (.imul, 1) := by decide +kernel
theorem dX11_who_99 : decode cX11_who 99 = .ok (.iload_n 3, 1) := by decide +kernel
theorem dX11_who_100 : decode cX11_who 100 = .ok (.iadd, 1) := by decide +kernel
theorem dX11_who_101 : decode cX11_who 101 = .ok (.iconst 2, 1) := by decide +kernel
theorem dX11_who_102 : decode cX11_who 102 = .ok (.iload 5, 2) := by decide +kernel
theorem dX11_who_104 : decode cX11_who 104 = .ok (.imul, 1) := by decide +kernel
theorem dX11_who_105 : decode cX11_who 105 = .ok (.iadd, 1) := by decide +kernel
theorem dX11_who_106 : decode cX11_who 106 = .ok (.iaload, 1) := by decide +kernel
theorem dX11_who_107 : decode cX11_who 107 = .ok (.i2l, 1) := by decide +kernel
theorem dX11_who_108 : decode cX11_who 108 = .ok (.invokevirtual 179, 3) := by decide +kernel
theorem dX11_who_111 : decode cX11_who 111 = .ok (.ifCond .ne 6, 3) := by decide +kernel
theorem dX11_who_114 : decode cX11_who 114 = .ok (.ldc 73, 2) := by decide +kernel
theorem dX11_who_116 : decode cX11_who 116 = .ok (.ireturn, 1) := by decide +kernel
theorem dX11_who_117 : decode cX11_who 117 = .ok (.iinc 5 1, 3) := by decide +kernel
theorem dX11_who_120 : decode cX11_who 120 = .ok (.goto (-37), 3) := by decide +kernel
theorem dX11_who_123 : decode cX11_who 123 = .ok (.aload_n 0, 1) := by decide +kernel
theorem dX11_who_124 : decode cX11_who 124 = .ok (.iconst 0, 1) := by decide +kernel
theorem dX11_who_125 : decode cX11_who 125 = .ok (.putfield 57, 3) := by decide +kernel
theorem dX11_who_128 : decode cX11_who 128 = .ok (.iconst 0, 1) := by decide +kernel
theorem dX11_who_129 : decode cX11_who 129 = .ok (.istore 5, 2) := by decide +kernel
theorem dX11_who_131 : decode cX11_who 131 = .ok (.iconst 1, 1) := by decide +kernel
theorem dX11_who_132 : decode cX11_who 132 = .ok (.istore 6, 2) := by decide +kernel
theorem dX11_who_134 : decode cX11_who 134 = .ok (.iload 6, 2) := by decide +kernel
theorem dX11_who_136 : decode cX11_who 136 = .ok (.iconst 5, 1) := by decide +kernel
theorem dX11_who_137 : decode cX11_who 137 = .ok (.if_icmp .gt 156, 3) := by decide +kernel
theorem dX11_who_140 : decode cX11_who 140 = .ok (.aload_n 0, 1) := by decide +kernel
theorem dX11_who_141 : decode cX11_who 141 = .ok (.getfield 19, 3) := by decide +kernel
theorem dX11_who_144 : decode cX11_who 144 = .ok (.iconst 1, 1) := by decide +kernel
theorem dX11_who_145 : decode cX11_who 145 = .ok (.iaload, 1) := by decide +kernel
theorem dX11_who_146 : decode cX11_who 146 = .ok (.istore 7, 2) := by decide +kernel
theorem dX11_who_148 : decode cX11_who 148 = .ok (.aload_n 0, 1) := by decide +kernel
theorem dX11_who_149 : decode cX11_who 149 = .ok (.getfield 19, 3) := by decide +kernel
theorem dX11_who_152 : decode cX11_who 152 = .ok (.iconst 5, 1) := by decide +kernel
theorem dX11_who_153 : decode cX11_who 153 = .ok (.iaload, 1) := by decide +kernel
theorem dX11_who_154 : decode cX11_who 154 = .ok (.istore 8, 2) := by decide +kernel
theorem dX11_who_156 : decode cX11_who 156 = .ok (.iconst 1, 1) := by decide +kernel
theorem dX11_who_157 : decode cX11_who 157 = .ok (.istore 9, 2) := by decide +kernel
theorem dX11_who_159 : decode cX11_who 159 = .ok (.iconst 0, 1) := by decide +kernel
theorem dX11_who_160 : decode cX11_who 160 = .ok (.istore 10, 2) := by decide +kernel
theorem dX11_who_162 : decode cX11_who 162 = .ok (.iload 10, 2) := by decide +kernel
theorem dX11_who_164 : decode cX11_who 164 = .ok (.iload 4, 2) := by decide +kernel
theorem dX11_who_166 : decode cX11_who 166 = .ok (.if_icmp .ge 103, 3) := by decide +kernel
theorem dX11_who_169 : decode cX11_who 169 = .ok (.aload_n 0, 1) := by decide +kernel
theorem dX11_who_170 : decode cX11_who 170 = .ok (.getfield 16, 3) := by decide +kernel
theorem dX11_who_173 : decode cX11_who 173 = .ok (.bipush 40, 2) := by decide +kernel
theorem dX11_who_175 : decode cX11_who 175 = .ok (.iload_n 2, 1) := by decide +kernel
theorem dX11_who_176 : decode cX11_who 176 = .ok (.imul, 1) := by decide +kernel
theorem dX11_who_177 : decode cX11_who 177 = .ok (.iload_n 3, 1) := by decide +kernel
theorem dX11_who_178 : decode cX11_who 178 = .ok (.iadd, 1) := by decide +kernel
theorem dX11_who_179 : decode cX11_who 179 = .ok (.iconst 2, 1) := by decide +kernel
theorem dX11_who_180 : decode cX11_who 180 = .ok (.iload 10, 2) := by decide +kernel
theorem dX11_who_182 : decode cX11_who 182 = .ok (.imul, 1) := by decide +kernel
theorem dX11_who_183 : decode cX11_who 183 = .ok (.iadd, 1) := by decide +kernel
theorem dX11_who_184 : decode cX11_who 184 = .ok (.iaload, 1) := by decide +kernel
theorem dX11_who_185 : decode cX11_who 185 = .ok (.istore 11, 2) := by decide +kernel
theorem dX11_who_187 : decode cX11_who 187 = .ok (.aload_n 0, 1) := by decide +kernel
theorem dX11_who_188 : decode cX11_who 188 = .ok (.iload 6, 2) := by decide +kernel
theorem dX11_who_190 : decode cX11_who 190 = .ok (.iload 7, 2) := by decide +kernel
theorem dX11_who_192 : decode cX11_who 192 = .ok (.iload 8, 2) := by decide +kernel
theorem dX11_who_194 : decode cX11_who 194 = .ok (.iload 11, 2) := by decide +kernel
theorem dX11_who_196 : decode cX11_who 196 = .ok (.invokevirtual 172, 3) := by decide +kernel
theorem dX11_who_199 : decode cX11_who 199 = .ok (.istore 12, 2) := by decide +kernel
theorem dX11_who_201 : decode cX11_who 201 = .ok (.iload 12, 2) := by decide +kernel
theorem dX11_who_203 : decode cX11_who 203 = .ok (.ldc 96, 2) := by decide +kernel
theorem dX11_who_205 : decode cX11_who 205 = .ok (.if_icmp .ne 8, 3) := by decide +kernel
theorem dX11_who_208 : decode cX11_who 208 = .ok (.iload 7, 2) := by decide +kernel
theorem dX11_who_210 : decode cX11_who 210 = .ok (.goto 5, 3) := by decide +kernel
theorem dX11_who_213 : decode cX11_who 213 = .ok (.iload 12, 2) := by decide +kernel
theorem dX11_who_215 : decode cX11_who 215 = .ok (.istore 7, 2) := by decide +kernel
theorem dX11_who_217 : decode cX11_who 217 = .ok (.iload 8, 2) := by decide +kernel
theorem dX11_who_219 : decode cX11_who 219 = .ok (.iconst 1, 1) := by decide +kernel
theorem dX11_who_220 : decode cX11_who 220 = .ok (.iload 11, 2) := by decide +kernel
theorem dX11_who_222 : decode cX11_who 222 = .ok (.iconst 2, 1) := by decide +kernel
theorem dX11_who_223 : decode cX11_who 223 = .ok (.idiv, 1) := by decide +kernel
theorem dX11_who_224 : decode cX11_who 224 = .ok (.ishl, 1) := by decide +kernel
theorem dX11_who_225 : decode cX11_who 225 = .ok (.ior, 1) := by decide +kernel
theorem dX11_who_226 : decode cX11_who 226 = .ok (.istore 8, 2) := by decide +kernel
theorem dX11_who_228 : decode cX11_who 228 = .ok (.iload 9, 2) := by decide +kernel
theorem dX11_who_230 : decode cX11_who 230 = .ok (.ifCond .eq 30, 3) := by decide +kernel
theorem dX11_who_233 : decode cX11_who 233 = .ok (.iload 7, 2) := by decide +kernel
theorem dX11_who_235 : decode cX11_who 235 = .ok (.aload_n 0, 1) := by decide +kernel
theorem dX11_who_236 : decode cX11_who 236 = .ok (.getfield 16, 3) := by decide +kernel
theorem dX11_who_239 : decode cX11_who 239 = .ok (.bipush 40, 2) := by decide +kernel
theorem dX11_who_241 : decode cX11_who 241 = .ok (.iload_n 2, 1) := by decide +kernel
theorem dX11_who_242 : decode cX11_who 242 = .ok (.imul, 1) := by decide +kernel
theorem dX11_who_243 : decode cX11_who 243 = .ok (.iload_n 3, 1) := by decide +kernel
theorem dX11_who_244 : decode cX11_who 244 = .ok (.iadd, 1) := by decide +kernel
theorem dX11_who_245 : decode cX11_who 245 = .ok (.iconst 2, 1) := by decide +kernel
theorem dX11_who_246 : decode cX11_who 246 = .ok (.iload 10, 2) := by decide +kernel
theorem dX11_who_248 : decode cX11_who 248 = .ok (.imul, 1) := by decide +kernel
theorem dX11_who_249 : decode cX11_who 249 = .ok (.iadd, 1) := by decide +kernel
theorem dX11_who_250 : decode cX11_who 250 = .ok (.iconst 1, 1) := by decide +kernel
theorem dX11_who_251 : decode cX11_who 251 = .ok (.iadd, 1) := by decide +kernel
theorem dX11_who_252 : decode cX11_who 252 = .ok (.iaload, 1) := by decide +kernel
theorem dX11_who_253 : decode cX11_who 253 = .ok (.if_icmp .ne 7, 3) := by decide +kernel
theorem dX11_who_256 : decode cX11_who 256 = .ok (.iconst 1, 1) := by decide +kernel
theorem dX11_who_257 : decode cX11_who 257 = .ok (.goto 4, 3) := by decide +kernel
theorem dX11_who_260 : decode cX11_who 260 = .ok (.iconst 0, 1) := by decide +kernel
theorem dX11_who_261 : decode cX11_who 261 = .ok (.istore 9, 2) := by decide +kernel
theorem dX11_who_263 : decode cX11_who 263 = .ok (.iinc 10 1, 3) := by decide +kernel
theorem dX11_who_266 : decode cX11_who 266 = .ok (.goto (-104), 3) := by decide +kernel
theorem dX11_who_269 : decode cX11_who 269 = .ok (.iload 5, 2) := by decide +kernel
theorem dX11_who_271 : decode cX11_who 271 = .ok (.iload 9, 2) := by decide +kernel
theorem dX11_who_273 : decode cX11_who 273 = .ok (.ifCond .eq 10, 3) := by decide +kernel
theorem dX11_who_276 : decode cX11_who 276 = .ok (.iconst 1, 1) := by decide +kernel
theorem dX11_who_277 : decode cX11_who 277 = .ok (.iload 6, 2) := by decide +kernel
theorem dX11_who_279 : decode cX11_who 279 = .ok (.ishl, 1) := by decide +kernel
theorem dX11_who_280 : decode cX11_who 280 = .ok (.goto 4, 3) := by decide +kernel
theorem dX11_who_283 : decode cX11_who 283 = .ok (.iconst 0, 1) := by decide +kernel
theorem dX11_who_284 : decode cX11_who 284 = .ok (.ior, 1) := by decide +kernel
theorem dX11_who_285 : decode cX11_who 285 = .ok (.istore 5, 2) := by decide +kernel
theorem dX11_who_287 : decode cX11_who 287 = .ok (.iinc 6 1, 3) := by decide +kernel
theorem dX11_who_290 : decode cX11_who 290 = .ok (.goto (-156), 3) := by decide +kernel
theorem dX11_who_293 : decode cX11_who 293 = .ok (.iload 5, 2) := by decide +kernel
theorem dX11_who_295 : decode cX11_who 295 = .ok (.ireturn, 1) := by decide +kernel
def Sp_X11_who (av : List AV) (m : AM) (Φ : Option AV → AM → Prop) : Prop := ∃ p r i n, av = [vr 11 110, vi p, vi r, vi i, vi n] ∧ ∃ C La Ma It, MCo m C ∧ MRow m La Ma It ∧ (whoC C p r n = false → ∀ m2, Fm [] [0] m m2 → Φ (some (vi (-1000001))) m2) ∧ (whoC C p r n = true → ∀ k, k = lackN La Ma r.toNatClampNeg i (nI (2 * n.toNatClampNeg)) → ¬ k = 0 → ∀ m2, Fm [] [0, 1] m m2 → m2.1 110 1 = nI k → Φ (some (vi (-1000010 - nI k))) m2) ∧ (whoC C p r n = true → lackN La Ma r.toNatClampNeg i (nI (2 * n.toNatClampNeg)) = 0 → ∀ D, D = (fun j => It r.toNatClampNeg (i.toNatClampNeg + j)) → (¬ sayOk C D n.toNatClampNeg → ∀ m2, Fm [] [0] m m2 → Φ (some (vi (-1000001))) m2) ∧ (sayOk C D n.toNatClampNeg → ∀ m2, Fm [] [0, 1] m m2 → m2.1 110 1 = nI 0 → Φ (some (vi (nI (whoK C D n.toNatClampNeg 5)))) m2))
set_option maxRecDepth 20000 in
set_option maxHeartbeats 4000000 in
theorem S_X11_who : Snd yX11_who e_X11_who Sp_X11_who := by
  refine Snd.of (by decide +kernel) rfl ?_ ?_
  · rintro av m Φ ⟨p, r, i, n, rfl, _⟩; exact Nat.le_of_ble_eq_true rfl
  rintro av m Φ ⟨p, r, i, n, rfl, C, La, Ma, It, hC0, hR0, h1, h2, h3⟩ hav hty
  show B e_X11_who Φ 0 [some (vr 11 110), some (vi p), some (vi r), some (vi i), some (vi n), none, none, none, none, none, none, none, none] [] m (0, 0)
  have hC : MCo (mset m 110 0 (nI 0)) C := hC0.ms (by decide)
  have hR : MRow (mset m 110 0 (nI 0)) La Ma It := hR0.ms
  have f0 : Fm [] [0] m (mset m 110 0 (nI 0)) := (Fm.rf _ _ m).m0 (by simp)
  have f1 : Fm [] [0, 1] m (mset m 110 0 (nI 0)) := (Fm.rf _ _ m).m0 (by simp)
  have fd : ∀ v, Fm [] [0, 1] m (mset (mset m 110 0 (nI 0)) 110 1 v) ∧ (mset (mset m 110 0 (nI 0)) 110 1 v).1 110 1 = v := fun v => ⟨f1.m0 (by simp), by rw [mset_at, if_pos rfl]⟩
  have hle := hC.le
  by_cases hc : whoC C p r n = true
  · have hc2 := hc
    unfold whoC at hc2
    rw [Bool.and_eq_true, Bool.and_eq_true] at hc2
    have hn3 := hc2.2.2
    rw [Bool.and_eq_true] at hc2
    obtain ⟨P, hP, rfl⟩ := (inB_iff (by omega)).mp hc2.1
    obtain ⟨r, hr, rfl⟩ := (inB_iff (by omega)).mp hc2.2.1
    obtain ⟨N, hN, rfl⟩ := (inB_iff (by omega)).mp hc2.2.2.1
    rw [n_cl (show r < 2147483648 by omega), n_cl (show N < 2147483648 by omega)] at h2 h3
    have hv := hC.op (Or.inr (Or.inr (by omega)))
    have h06 := hv.1
    have hlk := lackN_lt La Ma r i (nI (2 * N))
    have e2n : nI 2 * nI N = nI (2 * N) := n_mul 2 N
    have qr := hR.lane hr
    have no9 : ∀ (z : nI (if inB (nI P) (C 4) = true then 1 else 0) = 0), False := fun z => by rw [hc2.1] at z; exact absurd z (by decide)
    have no18 : ∀ (z : nI (if inB (nI r) 8 = true then 1 else 0) = 0), False := fun z => by rw [hc2.2.1] at z; exact absurd z (by decide)
    have no30 : nI (if (1 : Int64).toInt ≤ (nI N).toInt64.toInt ∧ (nI N).toInt64.toInt ≤ (12 : Int64).toInt then 1 else 0) = 0 → False := fun z => by rw [inN12, if_pos hn3] at z; exact absurd z (by decide)
    by_cases hz : lackN La Ma r i (nI (2 * N)) = 0
    · obtain ⟨hl, hfit⟩ := lackN_0.mp hz
      have w := (hR r hr).2 hl
      obtain ⟨I, b, hi, hb, hle2⟩ := fit_to w.2.2.2.1 hfit
      have w40 := w.2.2.2.1
      rw [n_eq (by omega) (by omega)] at hb
      subst hi
      have h4 := h3 hc hz (fun j => It r (I + j)) (by rw [n_cl (by omega)])
      have it : ∀ m1 : AM, m1.1 113 = (mset m 110 0 (nI 0)).1 113 → ∀ j, j < 2 * N → m1.1 113 (40 * r + I + j) = It r (I + j) := fun m1 e j hj => by
        rw [e, show 40 * r + I + j = 40 * r + (I + j) by omega]
        exact w.2.2.2.2 _ (by omega)
      have main : sayOk C (fun j => It r (I + j)) N → ∀ o5 o6 o7 o8 o9 o10 o11 o12, B e_X11_who Φ 123 [some (vr 11 110), some (vi (nI P)), some (vi (nI r)), some (vi (nI I)), some (vi (nI N)), o5, o6, o7, o8, o9, o10, o11, o12] [] (mset m 110 0 (nI 0)) (0, 0) := by
        intro hok o5 o6 o7 o8 o9 o10 o11 o12
        have hM : MC (mset (mset m 110 0 (nI 0)) 110 1 (nI 0)) C := MC.ms hC.1 (by decide)
        have it1 := it (mset (mset m 110 0 (nI 0)) 110 1 (nI 0)) (mset_ne _ _ _ (by decide))
        have fin := h4.2 hok _ (fd (nI 0)).1 (fd (nI 0)).2
        have kl : ∀ e q o7 o8 o9 o10 o11 o12, q + e = 5 → B e_X11_who Φ 134 [some (vr 11 110), some (vi (nI P)), some (vi (nI r)), some (vi (nI I)), some (vi (nI N)), some (vi (nI (whoK C (fun j => It r (I + j)) N q))), some (vi (nI (q + 1))), o7, o8, o9, o10, o11, o12] [] (mset (mset m 110 0 (nI 0)) 110 1 (nI 0)) (0, 0) := by
          intro e
          induction e with
          | zero =>
            intro q o7 o8 o9 o10 o11 o12 z1
            refine b_iloadG (pc := 134) 6 dX11_who_134 rfl ?_
            refine b_iconst (pc := 136) (nI 5) dX11_who_136 (by decide) ?_
            refine b_icmp_gt (pc := 137) 293 dX11_who_137 (by decide) (fun c137 => ?_) (fun c137 => ?_)
            refine b_iloadG (pc := 293) 5 dX11_who_293 rfl ?_
            refine b_iret (pc := 295) rfl dX11_who_295 ⟨Nat.le_of_ble_eq_true rfl, Nat.le_of_ble_eq_true rfl⟩ ?_
            rotate_left -- leaf 0: return at 295
            rotate_left -- leaf 1: at 140
            -- leaves: 0 return at 295; 1 at 140
            · rw [show q = 5 by omega]; exact fin
            · rw [n_lt (by omega) (by omega)] at c137; omega
          | succ e ih =>
            intro q o7 o8 o9 o10 o11 o12 z1
            have un : whoK C (fun j => It r (I + j)) N (q + 1) = if wkB C (q + 1) (fun j => It r (I + j)) N = true then whoK C (fun j => It r (I + j)) N q ||| 2 ^ (q + 1) else whoK C (fun j => It r (I + j)) N q := rfl
            have il : ∀ e k o11 o12, N + 1 ≤ k + e → k ≤ N → B e_X11_who Φ 162 [some (vr 11 110), some (vi (nI P)), some (vi (nI r)), some (vi (nI I)), some (vi (nI N)), some (vi (nI (whoK C (fun j => It r (I + j)) N q))), some (vi (nI (q + 1))), some (vi (nI (wkS C (q + 1) (fun j => It r (I + j)) k).1)), some (vi (nI (wkS C (q + 1) (fun j => It r (I + j)) k).2)), some (vi (nI (if wkB C (q + 1) (fun j => It r (I + j)) k = true then 1 else 0))), some (vi (nI k)), o11, o12] [] (mset (mset m 110 0 (nI 0)) 110 1 (nI 0)) (0, 0) := by
              intro e
              induction e with
              | zero => intro k o11 o12 z1 z2; omega
              | succ e ih2 =>
                intro k o11 o12 z1 z2
                have hw := wkS_lt hv (q := q + 1) hok k z2
                by_cases hk : k < N
                · obtain ⟨y, hy, ey⟩ := (inB_iff (by omega)).mp (hok k hk)
                  have ey : It r (I + 2 * k) = nI y := ey
                  have u1 : (wkS C (q + 1) (fun j => It r (I + j)) (k + 1)).1 = behN C (q + 1) (wkS C (q + 1) (fun j => It r (I + j)) k).1 (wkS C (q + 1) (fun j => It r (I + j)) k).2 y := by
                    show behN C (q + 1) (wkS C (q + 1) (fun j => It r (I + j)) k).1 (wkS C (q + 1) (fun j => It r (I + j)) k).2 (It r (I + 2 * k)).toNatClampNeg = _
                    rw [ey, n_cl (by omega)]
                  have u2 : (wkS C (q + 1) (fun j => It r (I + j)) (k + 1)).2 = (wkS C (q + 1) (fun j => It r (I + j)) k).2 ||| 2 ^ (y / 2) := by
                    show (wkS C (q + 1) (fun j => It r (I + j)) k).2 ||| 2 ^ ((It r (I + 2 * k)).toNatClampNeg / 2) = _
                    rw [ey, n_cl (by omega)]
                  have ub : wkB C (q + 1) (fun j => It r (I + j)) (k + 1) = (wkB C (q + 1) (fun j => It r (I + j)) k && decide (nI (wkS C (q + 1) (fun j => It r (I + j)) (k + 1)).1 = It r (I + (2 * k + 1)))) := rfl
                  have ei : (nI 40 * nI r + nI I + nI 2 * nI k) = nI (40 * r + I + 2 * k) := by rw [n_mul, n_add, n_mul, n_add]
                  have mid : ∀ o12, B e_X11_who Φ 215 [some (vr 11 110), some (vi (nI P)), some (vi (nI r)), some (vi (nI I)), some (vi (nI N)), some (vi (nI (whoK C (fun j => It r (I + j)) N q))), some (vi (nI (q + 1))), some (vi (nI (wkS C (q + 1) (fun j => It r (I + j)) k).1)), some (vi (nI (wkS C (q + 1) (fun j => It r (I + j)) k).2)), some (vi (nI (if wkB C (q + 1) (fun j => It r (I + j)) k = true then 1 else 0))), some (vi (nI k)), some (vi (nI y)), o12] [vi (nI (behN C (q + 1) (wkS C (q + 1) (fun j => It r (I + j)) k).1 (wkS C (q + 1) (fun j => It r (I + j)) k).2 y))] (mset (mset m 110 0 (nI 0)) 110 1 (nI 0)) (0, 0) := by
                    intro o12
                    have e2y : nI y / nI 2 = nI (y / 2) := pk_div (by omega) (by omega) (by omega)
                    have nx := fun o11 o12 => ih2 (k + 1) o11 o12 (by omega) (by omega)
                    rw [u1, u2] at nx
                    refine siG7 (pc := 215) notL_i (by decide) dX11_who_215 ?_
                    refine b_iloadG (pc := 217) 8 dX11_who_217 rfl ?_
                    refine b_iconst (pc := 219) (nI 1) dX11_who_219 (by decide) ?_
                    refine b_iloadG (pc := 220) 11 dX11_who_220 rfl ?_
                    refine b_iconst (pc := 222) (nI 2) dX11_who_222 (by decide) ?_
                    refine b_idiv (pc := 223) dX11_who_223 ?_ ?_
                    rotate_left -- leaf 0: divisor at 223
                    refine b_ishl (pc := 224) dX11_who_224 ?_
                    refine b_ior (pc := 225) dX11_who_225 ?_
                    refine siG8 (pc := 226) notL_i (by decide) dX11_who_226 ?_
                    refine b_iloadG (pc := 228) 9 dX11_who_228 rfl ?_
                    refine b_if_eq (pc := 230) 260 dX11_who_230 (by decide) (fun c230 => ?_) (fun c230 => ?_)
                    refine b_iconst (pc := 260) (nI 0) dX11_who_260 (by decide) ?_
                    refine siG9 (pc := 261) notL_i (by decide) dX11_who_261 ?_
                    refine inc10 (pc := 263) notL_i (by decide) dX11_who_263 ?_
                    refine b_goto (pc := 266) 162 dX11_who_266 (by decide) ?_
                    rotate_left -- leaf 1: at 162
                    refine b_iloadG (pc := 233) 7 dX11_who_233 rfl ?_
                    refine b_aloadN (pc := 235) 0 dX11_who_235 rfl rfl ?_
                    refine gf11_4 (pc := 236) 113 rfl k1046 dX11_who_236 ?_
                    refine b_bipush (pc := 239) (nI 40) dX11_who_239 (by decide) ?_
                    refine b_iloadN (pc := 241) 2 dX11_who_241 rfl rfl ?_
                    refine b_imul (pc := 242) dX11_who_242 ?_
                    refine b_iloadN (pc := 243) 3 dX11_who_243 rfl rfl ?_
                    refine b_iadd (pc := 244) dX11_who_244 ?_
                    refine b_iconst (pc := 245) (nI 2) dX11_who_245 (by decide) ?_
                    refine b_iloadG (pc := 246) 10 dX11_who_246 rfl ?_
                    refine b_imul (pc := 248) dX11_who_248 ?_
                    refine b_iadd (pc := 249) dX11_who_249 ?_
                    refine b_iconst (pc := 250) (nI 1) dX11_who_250 (by decide) ?_
                    refine b_iadd (pc := 251) dX11_who_251 ?_
                    refine b_iald (pc := 252) (by decide) ?_ dX11_who_252 ?_
                    rotate_left -- leaf 2: index at 252
                    refine b_icmp_ne (pc := 253) 260 dX11_who_253 (by decide) (fun c253 => ?_) (fun c253 => ?_)
                    refine b_iconst (pc := 260) (nI 0) dX11_who_260 (by decide) ?_
                    refine siG9 (pc := 261) notL_i (by decide) dX11_who_261 ?_
                    refine inc10 (pc := 263) notL_i (by decide) dX11_who_263 ?_
                    refine b_goto (pc := 266) 162 dX11_who_266 (by decide) ?_
                    rotate_left -- leaf 3: at 162
                    refine b_iconst (pc := 256) (nI 1) dX11_who_256 (by decide) ?_
                    refine b_goto (pc := 257) 261 dX11_who_257 (by decide) ?_
                    refine siG9 (pc := 261) notL_i (by decide) dX11_who_261 ?_
                    refine inc10 (pc := 263) notL_i (by decide) dX11_who_263 ?_
                    refine b_goto (pc := 266) 162 dX11_who_266 (by decide) ?_
                    rotate_left -- leaf 4: at 162
                    -- leaves: 0 divisor at 223; 1 at 162; 2 index at 252; 3 at 162; 4 at 162
                    · decide
                    · have eb : wkB C (q + 1) (fun j => It r (I + j)) (k + 1) = false := by rw [ub, bF c230, Bool.false_and]
                      rw [eb] at nx
                      rw [e2y, n_pow (by omega), n_or, n_inc]
                      exact nx _ _
                    · rw [ei, n_add]; exact n_in (by omega) (by omega)
                    · rw [ei, n_add, n_cl (by omega), show 40 * r + I + 2 * k + 1 = 40 * r + I + (2 * k + 1) by omega, it1 (2 * k + 1) (by omega)] at c253
                      have eb : wkB C (q + 1) (fun j => It r (I + j)) (k + 1) = false := by rw [ub, u1, decide_eq_false c253, Bool.and_false]
                      rw [eb] at nx
                      rw [e2y, n_pow (by omega), n_or, n_inc]
                      exact nx _ _
                    · rw [ei, n_add, n_cl (by omega), show 40 * r + I + 2 * k + 1 = 40 * r + I + (2 * k + 1) by omega, it1 (2 * k + 1) (by omega)] at c253
                      have eb : wkB C (q + 1) (fun j => It r (I + j)) (k + 1) = true := by rw [ub, u1, bT c230, decide_eq_true c253]; rfl
                      rw [eb] at nx
                      rw [e2y, n_pow (by omega), n_or, n_inc]
                      exact nx _ _
                  refine b_iloadG (pc := 162) 10 dX11_who_162 rfl ?_
                  refine b_iloadG (pc := 164) 4 dX11_who_164 rfl ?_
                  refine b_icmp_ge (pc := 166) 269 dX11_who_166 (by decide) (fun c166 => ?_) (fun c166 => ?_)
                  rotate_left -- leaf 0: at 269
                  refine b_aloadN (pc := 169) 0 dX11_who_169 rfl rfl ?_
                  refine gf11_4 (pc := 170) 113 rfl k1046 dX11_who_170 ?_
                  refine b_bipush (pc := 173) (nI 40) dX11_who_173 (by decide) ?_
                  refine b_iloadN (pc := 175) 2 dX11_who_175 rfl rfl ?_
                  refine b_imul (pc := 176) dX11_who_176 ?_
                  refine b_iloadN (pc := 177) 3 dX11_who_177 rfl rfl ?_
                  refine b_iadd (pc := 178) dX11_who_178 ?_
                  refine b_iconst (pc := 179) (nI 2) dX11_who_179 (by decide) ?_
                  refine b_iloadG (pc := 180) 10 dX11_who_180 rfl ?_
                  refine b_imul (pc := 182) dX11_who_182 ?_
                  refine b_iadd (pc := 183) dX11_who_183 ?_
                  refine b_iald (pc := 184) (by decide) ?_ dX11_who_184 ?_
                  rotate_left -- leaf 1: index at 184
                  refine siG11 (pc := 185) notL_i (by decide) dX11_who_185 ?_
                  refine b_aloadN (pc := 187) 0 dX11_who_187 rfl rfl ?_
                  refine b_iloadG (pc := 188) 6 dX11_who_188 rfl ?_
                  refine b_iloadG (pc := 190) 7 dX11_who_190 rfl ?_
                  refine b_iloadG (pc := 192) 8 dX11_who_192 rfl ?_
                  refine b_iloadG (pc := 194) 11 dX11_who_194 rfl ?_
                  refine call_X11_afterBy (pc := 196) k1249 (by decide) ⟨Nat.le_of_ble_eq_true rfl, Nat.le_of_ble_eq_true rfl⟩ (Nat.le_of_ble_eq_true rfl) dX11_who_196 ?_
                  refine ⟨_, _, _, _, rfl, C, q + 1, _, _, y, hv, hM, rfl, rfl, rfl, ?_, ?_, ?_, ?_, ?_, ?_⟩
                  rotate_left -- leaf 2: sy of X11_afterBy at 196
                  rotate_left -- leaf 3: kind of X11_afterBy at 196
                  rotate_left -- leaf 4: so of X11_afterBy at 196
                  rotate_left -- leaf 5: said of X11_afterBy at 196
                  rotate_left -- leaf 6: saying of X11_afterBy at 196
                  refine siG12 (pc := 199) notL_i (by decide) dX11_who_199 ?_
                  rotate_left -- leaf 7: at 201
                  -- leaves: 0 at 269; 1 index at 184; 2 sy of X11_afterBy at 196; 3 kind of X11_afterBy at 196; 4 so of X11_afterBy at 196; 5 said of X11_afterBy at 196; 6 saying of X11_afterBy at 196; 7 at 201
                  · rw [n_le (by omega) (by omega)] at c166; omega
                  · rw [ei]; exact n_in (by omega) (by omega)
                  · rw [ei, n_cl (by omega), it1 (2 * k) (by omega), ey]
                  · omega
                  · exact hw.1
                  · exact hw.2
                  · exact hy
                  · rw [ei, n_cl (by omega), it1 (2 * k) (by omega), ey]
                    unfold behN at mid
                    cases eo : outN C (q + 1) (wkS C (q + 1) (fun j => It r (I + j)) k).1 (wkS C (q + 1) (fun j => It r (I + j)) k).2 y with
                    | none =>
                      rw [eo] at mid
                      refine b_iloadG (pc := 201) 12 dX11_who_201 rfl ?_
                      refine b_ldc (pc := 203) k1180 dX11_who_203 ?_
                      refine b_icmp_ne (pc := 205) 213 dX11_who_205 (by decide) (fun c205 => ?_) (fun c205 => ?_)
                      rotate_left -- leaf 0: at 213
                      refine b_iloadG (pc := 208) 7 dX11_who_208 rfl ?_
                      refine b_goto (pc := 210) 215 dX11_who_210 (by decide) ?_
                      rotate_left -- leaf 1: at 215
                      -- leaves: 0 at 213; 1 at 215
                      · exact absurd rfl c205
                      · exact mid _
                    | some v =>
                      rw [eo] at mid
                      have hv64 := outN_lt hv hw.1 hy eo
                      refine b_iloadG (pc := 201) 12 dX11_who_201 rfl ?_
                      refine b_ldc (pc := 203) k1180 dX11_who_203 ?_
                      refine b_icmp_ne (pc := 205) 213 dX11_who_205 (by decide) (fun c205 => ?_) (fun c205 => ?_)
                      refine b_iloadG (pc := 213) 12 dX11_who_213 rfl ?_
                      rotate_left -- leaf 0: at 215
                      rotate_left -- leaf 1: at 208
                      -- leaves: 0 at 215; 1 at 208
                      · exact mid _
                      · exact absurd c205 (n_ne_none (show v < 2147483648 by omega))
                · have e : k = N := by omega
                  subst e
                  have nx := ih (q + 1)
                  rw [un] at nx
                  refine b_iloadG (pc := 162) 10 dX11_who_162 rfl ?_
                  refine b_iloadG (pc := 164) 4 dX11_who_164 rfl ?_
                  refine b_icmp_ge (pc := 166) 269 dX11_who_166 (by decide) (fun c166 => ?_) (fun c166 => ?_)
                  refine b_iloadG (pc := 269) 5 dX11_who_269 rfl ?_
                  refine b_iloadG (pc := 271) 9 dX11_who_271 rfl ?_
                  refine b_if_eq (pc := 273) 283 dX11_who_273 (by decide) (fun c273 => ?_) (fun c273 => ?_)
                  refine b_iconst (pc := 283) (nI 0) dX11_who_283 (by decide) ?_
                  refine b_ior (pc := 284) dX11_who_284 ?_
                  refine siG5 (pc := 285) notL_i (by decide) dX11_who_285 ?_
                  refine inc6 (pc := 287) notL_i (by decide) dX11_who_287 ?_
                  refine b_goto (pc := 290) 134 dX11_who_290 (by decide) ?_
                  rotate_left -- leaf 0: at 134
                  refine b_iconst (pc := 276) (nI 1) dX11_who_276 (by decide) ?_
                  refine b_iloadG (pc := 277) 6 dX11_who_277 rfl ?_
                  refine b_ishl (pc := 279) dX11_who_279 ?_
                  refine b_goto (pc := 280) 284 dX11_who_280 (by decide) ?_
                  refine b_ior (pc := 284) dX11_who_284 ?_
                  refine siG5 (pc := 285) notL_i (by decide) dX11_who_285 ?_
                  refine inc6 (pc := 287) notL_i (by decide) dX11_who_287 ?_
                  refine b_goto (pc := 290) 134 dX11_who_290 (by decide) ?_
                  rotate_left -- leaf 1: at 134
                  rotate_left -- leaf 2: at 169
                  -- leaves: 0 at 134; 1 at 134; 2 at 169
                  · rw [bF c273] at nx
                    rw [n_or, Nat.or_zero, n_inc]
                    exact nx _ _ _ _ _ _ (by omega)
                  · rw [if_pos (bT c273)] at nx
                    rw [n_pow (by omega), n_or, n_inc]
                    exact nx _ _ _ _ _ _ (by omega)
                  · rw [n_le (by omega) (by omega)] at c166; omega
            refine b_iloadG (pc := 134) 6 dX11_who_134 rfl ?_
            refine b_iconst (pc := 136) (nI 5) dX11_who_136 (by decide) ?_
            refine b_icmp_gt (pc := 137) 293 dX11_who_137 (by decide) (fun c137 => ?_) (fun c137 => ?_)
            rotate_left -- leaf 0: at 293
            refine b_aloadN (pc := 140) 0 dX11_who_140 rfl rfl ?_
            refine gf11_5 (pc := 141) 114 rfl k1047 dX11_who_141 ?_
            refine b_iconst (pc := 144) (nI 1) dX11_who_144 (by decide) ?_
            refine b_iald (pc := 145) (by decide) ?_ dX11_who_145 ?_
            rotate_left -- leaf 1: index at 145
            refine siG7 (pc := 146) notL_i (by decide) dX11_who_146 ?_
            refine b_aloadN (pc := 148) 0 dX11_who_148 rfl rfl ?_
            refine gf11_5 (pc := 149) 114 rfl k1047 dX11_who_149 ?_
            refine b_iconst (pc := 152) (nI 5) dX11_who_152 (by decide) ?_
            refine b_iald (pc := 153) (by decide) ?_ dX11_who_153 ?_
            rotate_left -- leaf 2: index at 153
            refine siG8 (pc := 154) notL_i (by decide) dX11_who_154 ?_
            refine b_iconst (pc := 156) (nI 1) dX11_who_156 (by decide) ?_
            refine siG9 (pc := 157) notL_i (by decide) dX11_who_157 ?_
            refine b_iconst (pc := 159) (nI 0) dX11_who_159 (by decide) ?_
            refine siG10 (pc := 160) notL_i (by decide) dX11_who_160 ?_
            rotate_left -- leaf 3: at 162
            -- leaves: 0 at 293; 1 index at 145; 2 index at 153; 3 at 162
            · rw [n_lt (by omega) (by omega)] at c137; omega
            · exact n_in (by omega) (by omega)
            · exact n_in (by omega) (by omega)
            · rw [n_cl (by omega), n_cl (by omega), hM 1 (by omega), hM 5 (by omega)]
              exact il (N + 1) 0 _ _ (by omega) (by omega)
        refine b_aloadN (pc := 123) 0 dX11_who_123 rfl rfl ?_
        refine b_iconst (pc := 124) (nI 0) dX11_who_124 (by decide) ?_
        refine pf11_1 (pc := 125) k1043 dX11_who_125 ?_
        refine b_iconst (pc := 128) (nI 0) dX11_who_128 (by decide) ?_
        refine siG5 (pc := 129) notL_i (by decide) dX11_who_129 ?_
        refine b_iconst (pc := 131) (nI 1) dX11_who_131 (by decide) ?_
        refine siG6 (pc := 132) notL_i (by decide) dX11_who_132 ?_
        rotate_left -- leaf 0: at 134
        -- leaves: 0 at 134
        exact kl 5 0 _ _ _ _ _ _ (by omega)
      have loop : ∀ e k, N + 1 ≤ k + e → k ≤ N → (∀ j, j < k → inB (It r (I + 2 * j)) (2 * C 0) = true) → B e_X11_who Φ 83 [some (vr 11 110), some (vi (nI P)), some (vi (nI r)), some (vi (nI I)), some (vi (nI N)), some (vi (nI k)), none, none, none, none, none, none, none] [] (mset m 110 0 (nI 0)) (0, 0) := by
        intro e
        induction e with
        | zero => intro k z1 z2; omega
        | succ e ih =>
          intro k z1 z2 z3
          refine b_iloadG (pc := 83) 5 dX11_who_83 rfl ?_
          refine b_iloadG (pc := 85) 4 dX11_who_85 rfl ?_
          refine b_icmp_ge (pc := 87) 123 dX11_who_87 (by decide) (fun c87 => ?_) (fun c87 => ?_)
          rotate_left -- leaf 0: at 123
          refine b_aloadN (pc := 90) 0 dX11_who_90 rfl rfl ?_
          refine b_aloadN (pc := 91) 0 dX11_who_91 rfl rfl ?_
          refine gf11_4 (pc := 92) 113 rfl k1046 dX11_who_92 ?_
          refine b_bipush (pc := 95) (nI 40) dX11_who_95 (by decide) ?_
          refine b_iloadN (pc := 97) 2 dX11_who_97 rfl rfl ?_
          refine b_imul (pc := 98) dX11_who_98 ?_
          refine b_iloadN (pc := 99) 3 dX11_who_99 rfl rfl ?_
          refine b_iadd (pc := 100) dX11_who_100 ?_
          refine b_iconst (pc := 101) (nI 2) dX11_who_101 (by decide) ?_
          refine b_iloadG (pc := 102) 5 dX11_who_102 rfl ?_
          refine b_imul (pc := 104) dX11_who_104 ?_
          refine b_iadd (pc := 105) dX11_who_105 ?_
          refine b_iald (pc := 106) (by decide) ?_ dX11_who_106 ?_
          rotate_left -- leaf 1: index at 106
          refine b_i2l (pc := 107) dX11_who_107 ?_
          refine call_X11_isSaying (pc := 108) k1233 (by decide) ⟨Nat.le_of_ble_eq_true rfl, Nat.le_of_ble_eq_true rfl⟩ (Nat.le_of_ble_eq_true rfl) dX11_who_108 ?_
          refine ⟨_, rfl, _, hC.1 0 (by omega), ?_, ?_⟩
          rotate_left -- leaf 2: six of X11_isSaying at 108
          refine b_if_ne (pc := 111) 117 dX11_who_111 (by decide) (fun c111 => ?_) (fun c111 => ?_)
          refine inc5 (pc := 117) notL_i (by decide) dX11_who_117 ?_
          refine b_goto (pc := 120) 83 dX11_who_120 (by decide) ?_
          rotate_left -- leaf 3: at 83
          refine b_ldc (pc := 114) k1140 dX11_who_114 ?_
          refine b_iret (pc := 116) rfl dX11_who_116 ⟨Nat.le_of_ble_eq_true rfl, Nat.le_of_ble_eq_true rfl⟩ ?_
          rotate_left -- leaf 4: return at 116
          -- leaves: 0 at 123; 1 index at 106; 2 six of X11_isSaying at 108; 3 at 83; 4 return at 116
          · rw [n_le (by omega) (by omega)] at c87
            exact main (fun j hj => z3 j (by omega)) _ _ _ _ _ _ _ _
          · rw [n_le (by omega) (by omega)] at c87
            rw [n_mul, n_add, n_mul, n_add]; exact n_in (by omega) (by omega)
          · omega
          · rw [n_le (by omega) (by omega)] at c87
            rw [n_mul, n_add, n_mul, n_add, n_cl (by omega), it _ rfl (2 * k) (by omega)] at c111
            rw [n_inc]
            exact ih (k + 1) (by omega) (by omega) (fun j hj => by
              rcases Nat.lt_or_ge j k with z | z
              · exact z3 j z
              · rw [show j = k by omega]; exact bT c111)
          · rw [n_le (by omega) (by omega)] at c87
            rw [n_mul, n_add, n_mul, n_add, n_cl (by omega), it _ rfl (2 * k) (by omega)] at c111
            exact h4.1 (fun ok => by
              have z := ok k (by omega)
              rw [show inB ((fun j => It r (I + j)) (2 * k)) (2 * C 0) = false from bF c111] at z
              cases z) _ f0
      refine b_aloadN (pc := 0) 0 dX11_who_0 rfl rfl ?_
      refine b_iconst (pc := 1) (nI 0) dX11_who_1 (by decide) ?_
      refine pf11_0 (pc := 2) k1042 dX11_who_2 ?_
      refine b_aloadN (pc := 5) 0 dX11_who_5 rfl rfl ?_
      refine b_iloadN (pc := 6) 1 dX11_who_6 rfl rfl ?_
      refine call_X11_isPerson (pc := 7) k1229 (by decide) ⟨Nat.le_of_ble_eq_true rfl, Nat.le_of_ble_eq_true rfl⟩ (Nat.le_of_ble_eq_true rfl) dX11_who_7 ?_
      refine ⟨_, rfl, _, hC.1 4 (by omega), ?_, ?_⟩
      rotate_left -- leaf 0: small of X11_isPerson at 7
      refine b_if_eq (pc := 10) 33 dX11_who_10 (by decide) (fun c10 => ?_) (fun c10 => ?_)
      rotate_left -- leaf 1: at 33
      refine b_iloadN (pc := 13) 2 dX11_who_13 rfl rfl ?_
      refine call_X11_isRow (pc := 14) k1132 (by decide) ⟨Nat.le_of_ble_eq_true rfl, Nat.le_of_ble_eq_true rfl⟩ (Nat.le_of_ble_eq_true rfl) dX11_who_14 ?_
      refine ⟨_, rfl, ?_⟩
      refine b_if_eq (pc := 17) 33 dX11_who_17 (by decide) (fun c17 => ?_) (fun c17 => ?_)
      rotate_left -- leaf 2: at 33
      refine b_iloadG (pc := 20) 4 dX11_who_20 rfl ?_
      refine b_i2l (pc := 22) dX11_who_22 ?_
      refine b_lconst (pc := 23) 1 dX11_who_23 (by decide) ?_
      refine b_ldc2 (pc := 24) k1374 dX11_who_24 ?_
      refine call_X11_in (pc := 27) k1136 (by decide) ⟨Nat.le_of_ble_eq_true rfl, Nat.le_of_ble_eq_true rfl⟩ (Nat.le_of_ble_eq_true rfl) dX11_who_27 ?_
      refine ⟨_, _, _, rfl, ?_⟩
      refine b_if_ne (pc := 30) 36 dX11_who_30 (by decide) (fun c30 => ?_) (fun c30 => ?_)
      refine b_aloadN (pc := 36) 0 dX11_who_36 rfl rfl ?_
      refine gf11_2 (pc := 37) 111 rfl k1044 dX11_who_37 ?_
      refine b_iloadN (pc := 40) 2 dX11_who_40 rfl rfl ?_
      refine b_iald (pc := 41) (by decide) ?_ dX11_who_41 ?_
      rotate_left -- leaf 3: index at 41
      refine b_if_ge (pc := 42) 51 dX11_who_42 (by decide) (fun c42 => ?_) (fun c42 => ?_)
      refine b_iloadN (pc := 51) 3 dX11_who_51 rfl rfl ?_
      refine b_if_lt (pc := 52) 74 dX11_who_52 (by decide) (fun c52 => ?_) (fun c52 => ?_)
      rotate_left -- leaf 4: at 74
      refine b_iloadN (pc := 55) 3 dX11_who_55 rfl rfl ?_
      refine b_i2l (pc := 56) dX11_who_56 ?_
      refine b_iconst (pc := 57) (nI 2) dX11_who_57 (by decide) ?_
      refine b_iloadG (pc := 58) 4 dX11_who_58 rfl ?_
      refine b_imul (pc := 60) dX11_who_60 ?_
      refine b_i2l (pc := 61) dX11_who_61 ?_
      refine b_ladd (pc := 62) dX11_who_62 ?_
      refine b_aloadN (pc := 63) 0 dX11_who_63 rfl rfl ?_
      refine gf11_3 (pc := 64) 112 rfl k1045 dX11_who_64 ?_
      refine b_iloadN (pc := 67) 2 dX11_who_67 rfl rfl ?_
      refine b_iald (pc := 68) (by decide) ?_ dX11_who_68 ?_
      rotate_left -- leaf 5: index at 68
      refine b_i2l (pc := 69) dX11_who_69 ?_
      refine b_lcmp (pc := 70) dX11_who_70 ?_
      refine b_if_le (pc := 71) 80 dX11_who_71 (by decide) (fun c71 => ?_) (fun c71 => ?_)
      refine b_iconst (pc := 80) (nI 0) dX11_who_80 (by decide) ?_
      refine siG5 (pc := 81) notL_i (by decide) dX11_who_81 ?_
      rotate_left -- leaf 6: at 83
      rotate_left -- leaf 7: at 74
      rotate_left -- leaf 8: at 45
      rotate_left -- leaf 9: at 33
      -- leaves: 0 small of X11_isPerson at 7; 1 at 33; 2 at 33; 3 index at 41; 4 at 74; 5 index at 68; 6 at 83; 7 at 74; 8 at 45; 9 at 33
      · omega
      · exact (no9 c10).elim
      · exact (no18 c17).elim
      · exact n_in (by omega) (by omega)
      · rw [n_lt0 (by omega)] at c52; exact c52.elim
      · exact n_in (by omega) (by omega)
      · exact loop (N + 1) 0 (by omega) (by omega) (fun j hj => absurd hj (Nat.not_lt_zero j))
      · have c71 := Int32.not_le.mp c71
        rw [cmp_gt, e2n, il_sum, Int32.toInt_toInt64, n_cl (by omega), w.2.2.1, nI_toInt (by omega), nI_toInt (by omega), nI_toInt (by omega)] at c71
        omega
      · rw [n_cl (by omega)] at c42
        exact absurd (qr.mpr hl) c42
      · exact (no30 c30).elim
    · have bad := h2 hc _ rfl hz
      refine b_aloadN (pc := 0) 0 dX11_who_0 rfl rfl ?_
      refine b_iconst (pc := 1) (nI 0) dX11_who_1 (by decide) ?_
      refine pf11_0 (pc := 2) k1042 dX11_who_2 ?_
      refine b_aloadN (pc := 5) 0 dX11_who_5 rfl rfl ?_
      refine b_iloadN (pc := 6) 1 dX11_who_6 rfl rfl ?_
      refine call_X11_isPerson (pc := 7) k1229 (by decide) ⟨Nat.le_of_ble_eq_true rfl, Nat.le_of_ble_eq_true rfl⟩ (Nat.le_of_ble_eq_true rfl) dX11_who_7 ?_
      refine ⟨_, rfl, _, hC.1 4 (by omega), ?_, ?_⟩
      rotate_left -- leaf 0: small of X11_isPerson at 7
      refine b_if_eq (pc := 10) 33 dX11_who_10 (by decide) (fun c10 => ?_) (fun c10 => ?_)
      rotate_left -- leaf 1: at 33
      refine b_iloadN (pc := 13) 2 dX11_who_13 rfl rfl ?_
      refine call_X11_isRow (pc := 14) k1132 (by decide) ⟨Nat.le_of_ble_eq_true rfl, Nat.le_of_ble_eq_true rfl⟩ (Nat.le_of_ble_eq_true rfl) dX11_who_14 ?_
      refine ⟨_, rfl, ?_⟩
      refine b_if_eq (pc := 17) 33 dX11_who_17 (by decide) (fun c17 => ?_) (fun c17 => ?_)
      rotate_left -- leaf 2: at 33
      refine b_iloadG (pc := 20) 4 dX11_who_20 rfl ?_
      refine b_i2l (pc := 22) dX11_who_22 ?_
      refine b_lconst (pc := 23) 1 dX11_who_23 (by decide) ?_
      refine b_ldc2 (pc := 24) k1374 dX11_who_24 ?_
      refine call_X11_in (pc := 27) k1136 (by decide) ⟨Nat.le_of_ble_eq_true rfl, Nat.le_of_ble_eq_true rfl⟩ (Nat.le_of_ble_eq_true rfl) dX11_who_27 ?_
      refine ⟨_, _, _, rfl, ?_⟩
      refine b_if_ne (pc := 30) 36 dX11_who_30 (by decide) (fun c30 => ?_) (fun c30 => ?_)
      refine b_aloadN (pc := 36) 0 dX11_who_36 rfl rfl ?_
      refine gf11_2 (pc := 37) 111 rfl k1044 dX11_who_37 ?_
      refine b_iloadN (pc := 40) 2 dX11_who_40 rfl rfl ?_
      refine b_iald (pc := 41) (by decide) ?_ dX11_who_41 ?_
      rotate_left -- leaf 3: index at 41
      refine b_if_ge (pc := 42) 51 dX11_who_42 (by decide) (fun c42 => ?_) (fun c42 => ?_)
      refine b_iloadN (pc := 51) 3 dX11_who_51 rfl rfl ?_
      refine b_if_lt (pc := 52) 74 dX11_who_52 (by decide) (fun c52 => ?_) (fun c52 => ?_)
      refine b_aloadN (pc := 74) 0 dX11_who_74 rfl rfl ?_
      refine b_iconst (pc := 75) (nI 2) dX11_who_75 (by decide) ?_
      refine call_X11_finding (pc := 76) k1141 (by decide) ⟨Nat.le_of_ble_eq_true rfl, Nat.le_of_ble_eq_true rfl⟩ (Nat.le_of_ble_eq_true rfl) dX11_who_76 ?_
      refine ⟨_, rfl, ?_⟩
      refine b_iret (pc := 79) rfl dX11_who_79 ⟨Nat.le_of_ble_eq_true rfl, Nat.le_of_ble_eq_true rfl⟩ ?_
      rotate_left -- leaf 4: return at 79
      refine b_iloadN (pc := 55) 3 dX11_who_55 rfl rfl ?_
      refine b_i2l (pc := 56) dX11_who_56 ?_
      refine b_iconst (pc := 57) (nI 2) dX11_who_57 (by decide) ?_
      refine b_iloadG (pc := 58) 4 dX11_who_58 rfl ?_
      refine b_imul (pc := 60) dX11_who_60 ?_
      refine b_i2l (pc := 61) dX11_who_61 ?_
      refine b_ladd (pc := 62) dX11_who_62 ?_
      refine b_aloadN (pc := 63) 0 dX11_who_63 rfl rfl ?_
      refine gf11_3 (pc := 64) 112 rfl k1045 dX11_who_64 ?_
      refine b_iloadN (pc := 67) 2 dX11_who_67 rfl rfl ?_
      refine b_iald (pc := 68) (by decide) ?_ dX11_who_68 ?_
      rotate_left -- leaf 5: index at 68
      refine b_i2l (pc := 69) dX11_who_69 ?_
      refine b_lcmp (pc := 70) dX11_who_70 ?_
      refine b_if_le (pc := 71) 80 dX11_who_71 (by decide) (fun c71 => ?_) (fun c71 => ?_)
      rotate_left -- leaf 6: at 80
      refine b_aloadN (pc := 74) 0 dX11_who_74 rfl rfl ?_
      refine b_iconst (pc := 75) (nI 2) dX11_who_75 (by decide) ?_
      refine call_X11_finding (pc := 76) k1141 (by decide) ⟨Nat.le_of_ble_eq_true rfl, Nat.le_of_ble_eq_true rfl⟩ (Nat.le_of_ble_eq_true rfl) dX11_who_76 ?_
      refine ⟨_, rfl, ?_⟩
      refine b_iret (pc := 79) rfl dX11_who_79 ⟨Nat.le_of_ble_eq_true rfl, Nat.le_of_ble_eq_true rfl⟩ ?_
      rotate_left -- leaf 7: return at 79
      refine b_aloadN (pc := 45) 0 dX11_who_45 rfl rfl ?_
      refine b_iconst (pc := 46) (nI 1) dX11_who_46 (by decide) ?_
      refine call_X11_finding (pc := 47) k1141 (by decide) ⟨Nat.le_of_ble_eq_true rfl, Nat.le_of_ble_eq_true rfl⟩ (Nat.le_of_ble_eq_true rfl) dX11_who_47 ?_
      refine ⟨_, rfl, ?_⟩
      refine b_iret (pc := 50) rfl dX11_who_50 ⟨Nat.le_of_ble_eq_true rfl, Nat.le_of_ble_eq_true rfl⟩ ?_
      rotate_left -- leaf 8: return at 50
      rotate_left -- leaf 9: at 33
      -- leaves: 0 small of X11_isPerson at 7; 1 at 33; 2 at 33; 3 index at 41; 4 return at 79; 5 index at 68; 6 at 80; 7 return at 79; 8 return at 50; 9 at 33
      · omega
      · exact (no9 c10).elim
      · exact (no18 c17).elim
      · exact n_in (by omega) (by omega)
      · rw [n_cl (by omega)] at c42
        have l1 := qr.mp c42
        rw [i_lt, i_0] at c52
        have e2 : lackN La Ma r i (nI (2 * N)) = 2 := by
          unfold lackN fitB
          rw [if_neg (by omega), decide_eq_false (by omega)]; rfl
        rw [e2] at bad
        exact bad _ (fd _).1 (fd _).2
      · exact n_in (by omega) (by omega)
      · rw [n_cl (by omega)] at c42
        have l1 := qr.mp c42
        have w := (hR r hr).2 l1
        rw [i_lt, i_0] at c52
        have c71 := Int32.not_lt.mpr c71
        rw [cmp_gt, e2n, il_sum, Int32.toInt_toInt64, n_cl (by omega), w.2.2.1, nI_toInt (by omega), nI_toInt (by omega)] at c71
        have e2 : lackN La Ma r i (nI (2 * N)) = 0 := by
          refine lackN_0.mpr ⟨l1, ?_⟩
          unfold fitB
          rw [nI_toInt (by omega), decide_eq_true (by omega), decide_eq_true (by omega), decide_eq_true (by omega)]; rfl
        exact absurd e2 hz
      · rw [n_cl (by omega)] at c42
        have l1 := qr.mp c42
        have w := (hR r hr).2 l1
        have c71 := Int32.not_le.mp c71
        rw [cmp_gt, e2n, il_sum, Int32.toInt_toInt64, n_cl (by omega), w.2.2.1, nI_toInt (by omega), nI_toInt (by omega)] at c71
        have e2 : lackN La Ma r i (nI (2 * N)) = 2 := by
          unfold lackN fitB
          rw [if_neg (by omega), nI_toInt (by omega), decide_eq_false (show ¬ i.toInt + ((2 * N : Nat) : Int) ≤ (Ma r : Int) by omega), Bool.and_false, Bool.and_false]; rfl
        rw [e2] at bad
        exact bad _ (fd _).1 (fd _).2
      · rw [n_cl (by omega), qr] at c42
        have e1 : lackN La Ma r i (nI (2 * N)) = 1 := by
          unfold lackN
          rw [if_pos (by omega)]
        rw [e1] at bad
        exact bad _ (fd _).1 (fd _).2
      · exact (no30 c30).elim
  · have e : whoC C p r n = false := by
      cases q : whoC C p r n
      · rfl
      · exact absurd q hc
    have bad := h1 e _ f0
    refine b_aloadN (pc := 0) 0 dX11_who_0 rfl rfl ?_
    refine b_iconst (pc := 1) (nI 0) dX11_who_1 (by decide) ?_
    refine pf11_0 (pc := 2) k1042 dX11_who_2 ?_
    refine b_aloadN (pc := 5) 0 dX11_who_5 rfl rfl ?_
    refine b_iloadN (pc := 6) 1 dX11_who_6 rfl rfl ?_
    refine call_X11_isPerson (pc := 7) k1229 (by decide) ⟨Nat.le_of_ble_eq_true rfl, Nat.le_of_ble_eq_true rfl⟩ (Nat.le_of_ble_eq_true rfl) dX11_who_7 ?_
    refine ⟨_, rfl, _, hC.1 4 (by omega), ?_, ?_⟩
    rotate_left -- leaf 0: small of X11_isPerson at 7
    refine b_if_eq (pc := 10) 33 dX11_who_10 (by decide) (fun c10 => ?_) (fun c10 => ?_)
    refine b_ldc (pc := 33) k1140 dX11_who_33 ?_
    refine b_iret (pc := 35) rfl dX11_who_35 ⟨Nat.le_of_ble_eq_true rfl, Nat.le_of_ble_eq_true rfl⟩ ?_
    rotate_left -- leaf 1: return at 35
    refine b_iloadN (pc := 13) 2 dX11_who_13 rfl rfl ?_
    refine call_X11_isRow (pc := 14) k1132 (by decide) ⟨Nat.le_of_ble_eq_true rfl, Nat.le_of_ble_eq_true rfl⟩ (Nat.le_of_ble_eq_true rfl) dX11_who_14 ?_
    refine ⟨_, rfl, ?_⟩
    refine b_if_eq (pc := 17) 33 dX11_who_17 (by decide) (fun c17 => ?_) (fun c17 => ?_)
    refine b_ldc (pc := 33) k1140 dX11_who_33 ?_
    refine b_iret (pc := 35) rfl dX11_who_35 ⟨Nat.le_of_ble_eq_true rfl, Nat.le_of_ble_eq_true rfl⟩ ?_
    rotate_left -- leaf 2: return at 35
    refine b_iloadG (pc := 20) 4 dX11_who_20 rfl ?_
    refine b_i2l (pc := 22) dX11_who_22 ?_
    refine b_lconst (pc := 23) 1 dX11_who_23 (by decide) ?_
    refine b_ldc2 (pc := 24) k1374 dX11_who_24 ?_
    refine call_X11_in (pc := 27) k1136 (by decide) ⟨Nat.le_of_ble_eq_true rfl, Nat.le_of_ble_eq_true rfl⟩ (Nat.le_of_ble_eq_true rfl) dX11_who_27 ?_
    refine ⟨_, _, _, rfl, ?_⟩
    refine b_if_ne (pc := 30) 36 dX11_who_30 (by decide) (fun c30 => ?_) (fun c30 => ?_)
    rotate_left -- leaf 3: at 36
    refine b_ldc (pc := 33) k1140 dX11_who_33 ?_
    refine b_iret (pc := 35) rfl dX11_who_35 ⟨Nat.le_of_ble_eq_true rfl, Nat.le_of_ble_eq_true rfl⟩ ?_
    rotate_left -- leaf 4: return at 35
    -- leaves: 0 small of X11_isPerson at 7; 1 return at 35; 2 return at 35; 3 at 36; 4 return at 35
    · omega
    · exact bad
    · exact bad
    · rw [inN12] at c30
      exact absurd (by unfold whoC; rw [bT c10, bT c17, bT c30]; rfl) hc
    · exact bad
theorem call_X11_who {E : ME} {Φ : Option AV → AM → Prop} {pc : Nat} {L : List (Option AV)} {st : List AV} {m : AM} {a : Nat × Nat} {idx : Nat} {x0 x1 x2 x3 : AV} {i : Nat} (hl : Cond.methodLink E.2.1 idx yX11_who ∈ TB) (hdep : 8 + 1 ≤ E.2.2.2.2.2.2) (hroom : a.1 + 0 ≤ E.2.2.2.2.1 ∧ a.2 + 0 ≤ E.2.2.2.2.2.1) (hsr : st.length ≤ 4) (hd : decode E.1 pc = .ok (.invokevirtual idx, 3)) (hsp : Sp_X11_who [vr 11 i, x0, x1, x2, x3] m (fun r m2 => B E Φ (pc + 3) L (r.toList ++ st) m2 a)) : B E Φ pc L (x3 :: x2 :: x1 :: x0 :: vr 11 i :: st) m a := b_callV S_X11_who [x0, x1, x2, x3] (RX11, TX11, 28) rfl rfl (by decide) (Or.inl hl) k1371 k1372 k80 k1373 (show _ ∧ _ ∧ Option.map (fun d => d.parameters.length) (parseMethodDescriptor yX11_who.desc) = some 4 from by decide +kernel) ⟨hdep, by decide⟩ hroom hsr hd hsp
