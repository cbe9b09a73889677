/-! the reference's search: goOn -/
theorem LbR.put {M M2 : AM} {P v : Nat} {lab : Nat → Option (Nat × Nat)} {w w2 : Nat → Bool} {z : Nat × Nat} (h : LbR M P lab w) (hv : v < 4096) (hb : betL lab v z) (hz : z.1 ≤ 6 * cntL lab 4096 + 6 ∧ z.2 < 100) (e8 : M2.1 118 = upd (M.1 118) v (nI (P * z.1))) (e9 : M2.1 119 = upd (M.1 119) v (nI z.2)) (ew : ∀ n, n < 4096 → M2.1 120 n = nI (if w2 n = true then 1 else 0)) (hw3 : ∀ n, w2 n = true → w n = true ∨ n = v) : LbR M2 P (entL lab v z) w2 := by
  have hc := cntL_ent (lab := lab) (v := v) (z := z) 4096
  refine ⟨fun n hn => ?_, fun n x hx => ?_, fun n hn => ?_⟩
  rotate_left 2
  · by_cases q : n = v
    · rw [q, entL_bet hb]
      intro t
      cases t
    · rw [entL_ne lab z q]
      rcases hw3 n hn with t | t
      · exact h.2.2 n t
      · exact absurd t q
  · rw [e8, e9]
    by_cases q : n = v
    · subst q
      rw [pk_us, pk_us, entL_bet hb]
      exact ⟨(fun t => by cases t), (fun x t => by cases t; exact ⟨rfl, rfl⟩), ew n hn⟩
    · rw [pk_un q, pk_un q, entL_ne lab z q]
      have k := h.1 n hn
      exact ⟨k.1, k.2.1, ew n hn⟩
  · rw [hc]
    rcases entL_from hx with t | ⟨t, t2⟩
    · have k := h.2.1 n x t
      exact ⟨k.1, by omega, k.2.2⟩
    · rw [t, t2]
      refine ⟨hv, ?_, hz.2⟩
      cases e : lab v with
      | none =>
        rw [if_pos ⟨hv, rfl⟩]
        omega
      | some y =>
        have k := h.2.1 v y e
        have b := hb y e
        omega
def SdW (C : Nat → Nat) (bc : Nat) (lab : Nat → Option (Nat × Nat)) : Prop := ∀ n x, lab n = some x → ∃ k, Wk C bc k (n % 64) (n / 64) x.1 x.2
def GoI (C : Nat → Nat) (P bc a mu0 : Nat) (lab0 : Nat → Option (Nat × Nat)) (w0 : Nat → Bool) (m M : AM) (lab : Nat → Option (Nat × Nat)) (w : Nat → Bool) (len : Nat) (Q : Nat → Nat) : Prop := Fm [118, 119, 120, 121] [23] m M ∧ LbR M P lab w ∧ QuR M w a len Q ∧ SdW C bc lab ∧ (∀ n x, hasL lab0 n x → hasL lab n x) ∧ (∀ n, w n = false → w0 n = false ∧ lab n = lab0 n) ∧ MuL lab len ≤ mu0 ∧ cntL lab0 4096 ≤ cntL lab 4096
theorem GoI.put {C : Nat → Nat} {P bc a mu0 : Nat} {lab0 : Nat → Option (Nat × Nat)} {w0 : Nat → Bool} {m M : AM} {lab : Nat → Option (Nat × Nat)} {w : Nat → Bool} {len : Nat} {Q : Nat → Nat} (h : GoI C P bc a mu0 lab0 w0 m M lab w len Q) {v : Nat} {z : Nat × Nat} (hv : v < 4096) (hb : betL lab v z) (hz : z.1 ≤ 6 * cntL lab 4096 + 6 ∧ z.1 ≤ 24576 ∧ z.2 < 100) (hw : ∃ k, Wk C bc k (v % 64) (v / 64) z.1 z.2) {M2 : AM} {len2 : Nat} {Q2 : Nat → Nat} {w2 : Nat → Bool} (hF : Fm [118, 119, 120, 121] [23] M M2) (e8 : M2.1 118 = upd (M.1 118) v (nI (P * z.1))) (e9 : M2.1 119 = upd (M.1 119) v (nI z.2)) (ew : ∀ n, n < 4096 → M2.1 120 n = nI (if w2 n = true then 1 else 0)) (hw3 : ∀ n, w2 n = true → w n = true ∨ n = v) (hQ : QuR M2 w2 a len2 Q2) (hl : len2 ≤ len + 1) (hw2 : ∀ n, w2 n = false → w n = false ∧ n ≠ v) : GoI C P bc a mu0 lab0 w0 m M2 (entL lab v z) w2 len2 Q2 := by
  obtain ⟨h1, h2, h3, h4, h5, h6, h7, h8⟩ := h
  have hmu := MuL_ent hv hb hz.2 (fun x hx => (h2.2.1 v x hx).2.2) len
  have hc := cntL_ent (lab := lab) (v := v) (z := z) 4096
  refine ⟨h1.tr hF, h2.put hv hb ⟨hz.1, hz.2.2⟩ e8 e9 ew hw3, hQ, fun n x hx => ?_, fun n x hx => entL_mono v z (h5 n x hx), fun n hn => ?_, ?_, by omega⟩
  · rcases entL_from hx with t | ⟨t, t2⟩
    · exact h4 n x t
    · rw [t, t2]; exact hw
  · have k := hw2 n hn
    have k2 := h6 n k.1
    exact ⟨k2.1, (entL_ne lab z k.2).trans k2.2⟩
  · unfold MuL at hmu h7 ⊢
    omega
/-- what stands of a saying so far: the first of the way -/
def fvN (fo : Option Nat) (p s : Nat) : Nat := match fo with
  | none => 20 * p + s
  | some f => f
def fvI (fo : Option Nat) : Int32 := match fo with
  | none => -1000000
  | some f => nI f
abbrev e_X11_goOn : ME := (cX11_goOn, (RX11, (11, (none, (0, (0, 4))))))
theorem dX11_goOn_0 : decode cX11_goOn 0 = .ok (.iconst 0, 1) := by decide +kernel
theorem dX11_goOn_1 : decode cX11_goOn 1 = .ok (.istore 5, 2) := by decide +kernel
theorem dX11_goOn_3 : decode cX11_goOn 3 = .ok (.iload 5, 2) := by decide +kernel
theorem dX11_goOn_5 : decode cX11_goOn 5 = .ok (.aload_n 0, 1) := by decide +kernel
theorem dX11_goOn_6 : decode cX11_goOn 6 = .ok (.getfield 19, 3) := by decide +kernel
theorem dX11_goOn_9 : decode cX11_goOn 9 = .ok (.iconst 4, 1) := by decide +kernel
theorem dX11_goOn_10 : decode cX11_goOn 10 = .ok (.iaload, 1) := by decide +kernel
theorem dX11_goOn_11 : decode cX11_goOn 11 = .ok (.if_icmp .ge 244, 3) := by decide +kernel
theorem dX11_goOn_14 : decode cX11_goOn 14 = .ok (.iconst 0, 1) := by decide +kernel
theorem dX11_goOn_15 : decode cX11_goOn 15 = .ok (.istore 6, 2) := by decide +kernel
theorem dX11_goOn_17 : decode cX11_goOn 17 = .ok (.iload 6, 2) := by decide +kernel
theorem dX11_goOn_19 : decode cX11_goOn 19 = .ok (.iconst 2, 1) := by decide +kernel
theorem dX11_goOn_20 : decode cX11_goOn 20 = .ok (.aload_n 0, 1) := by decide +kernel
theorem dX11_goOn_21 : decode cX11_goOn 21 = .ok (.getfield 19, 3) := by decide +kernel
theorem dX11_goOn_24 : decode cX11_goOn 24 = .ok (.iconst 0, 1) := by decide +kernel
theorem dX11_goOn_25 : decode cX11_goOn 25 = .ok (.iaload, 1) := by decide +kernel
theorem dX11_goOn_26 : decode cX11_goOn 26 = .ok (.imul, 1) := by decide +kernel
theorem dX11_goOn_27 : decode cX11_goOn 27 = .ok (.if_icmp .ge 222, 3) := by decide +kernel
theorem dX11_goOn_30 : decode cX11_goOn 30 = .ok (.aload_n 0, 1) := by decide +kernel
theorem dX11_goOn_31 : decode cX11_goOn 31 = .ok (.iload 5, 2) := by decide +kernel
theorem dX11_goOn_33 : decode cX11_goOn 33 = .ok (.iload_n 1, 1) := by decide +kernel
theorem dX11_goOn_34 : decode cX11_goOn 34 = .ok (.bipush 64, 2) := by decide +kernel
theorem dX11_goOn_36 : decode cX11_goOn 36 = .ok (.irem, 1) := by decide +kernel
theorem dX11_goOn_37 : decode cX11_goOn 37 = .ok (.iload_n 1, 1) := by decide +kernel
theorem dX11_goOn_38 : decode cX11_goOn 38 = .ok (.bipush 64, 2) := by decide +kernel
theorem dX11_goOn_40 : decode cX11_goOn 40 = .ok (.idiv, 1) := by decide +kernel
theorem dX11_goOn_41 : decode cX11_goOn 41 = .ok (.iload 6, 2) := by decide +kernel
theorem dX11_goOn_43 : decode cX11_goOn 43 = .ok (.invokevirtual 186, 3) := by decide +kernel
theorem dX11_goOn_46 : decode cX11_goOn 46 = .ok (.istore 7, 2) := by decide +kernel
theorem dX11_goOn_48 : decode cX11_goOn 48 = .ok (.iload 7, 2) := by decide +kernel
theorem dX11_goOn_50 : decode cX11_goOn 50 = .ok (.ldc 96, 2) := by decide +kernel
theorem dX11_goOn_52 : decode cX11_goOn 52 = .ok (.if_icmp .eq 191, 3) := by decide +kernel
theorem dX11_goOn_55 : decode cX11_goOn 55 = .ok (.bipush 64, 2) := by decide +kernel
theorem dX11_goOn_57 : decode cX11_goOn 57 = .ok (.iload_n 1, 1) := by decide +kernel
theorem dX11_goOn_58 : decode cX11_goOn 58 = .ok (.bipush 64, 2) := by decide +kernel
theorem dX11_goOn_60 : decode cX11_goOn 60 = .ok (.idiv, 1) := by decide +kernel
theorem dX11_goOn_61 : decode cX11_goOn 61 = .ok (.iconst 1, 1) := by decide +kernel
theorem dX11_goOn_62 : decode cX11_goOn 62 = .ok (.iload 6, 2) := by decide +kernel
theorem dX11_goOn_64 : decode cX11_goOn 64 = .ok (.iconst 2, 1) := by decide +kernel
theorem dX11_goOn_65 : decode cX11_goOn 65 = .ok (.idiv, 1) := by decide +kernel
theorem dX11_goOn_66 : decode cX11_goOn 66 = .ok (.ishl, 1) := by decide +kernel
theorem dX11_goOn_67 : decode cX11_goOn 67 = .ok (.ior, 1) := by decide +kernel
theorem dX11_goOn_68 : decode cX11_goOn 68 = .ok (.imul, 1) := by decide +kernel
theorem dX11_goOn_69 : decode cX11_goOn 69 = .ok (.iload 7, 2) := by decide +kernel
theorem dX11_goOn_71 : decode cX11_goOn 71 = .ok (.iadd, 1) := by decide +kernel
theorem dX11_goOn_72 : decode cX11_goOn 72 = .ok (.istore 8, 2) := by decide +kernel
theorem dX11_goOn_74 : decode cX11_goOn 74 = .ok (.iload_n 2, 1) := by decide +kernel
theorem dX11_goOn_75 : decode cX11_goOn 75 = .ok (.iload 4, 2) := by decide +kernel
theorem dX11_goOn_77 : decode cX11_goOn 77 = .ok (.ifCond .eq 23, 3) := by decide +kernel
theorem dX11_goOn_80 : decode cX11_goOn 80 = .ok (.aload_n 0, 1) := by decide +kernel
theorem dX11_goOn_81 : decode cX11_goOn 81 = .ok (.getfield 19, 3) := by decide +kernel
theorem dX11_goOn_84 : decode cX11_goOn 84 = .ok (.iconst 2, 1) := by decide +kernel
theorem dX11_goOn_85 : decode cX11_goOn 85 = .ok (.iaload, 1) := by decide +kernel
theorem dX11_goOn_86 : decode cX11_goOn 86 = .ok (.iload 7, 2) := by decide +kernel
theorem dX11_goOn_88 : decode cX11_goOn 88 = .ok (.iload_n 1, 1) := by decide +kernel
theorem dX11_goOn_89 : decode cX11_goOn 89 = .ok (.bipush 64, 2) := by decide +kernel
theorem dX11_goOn_91 : decode cX11_goOn 91 = .ok (.irem, 1) := by decide +kernel
theorem dX11_goOn_92 : decode cX11_goOn 92 = .ok (.ixor, 1) := by decide +kernel
theorem dX11_goOn_93 : decode cX11_goOn 93 = .ok (.invokestatic 189, 3) := by decide +kernel
theorem dX11_goOn_96 : decode cX11_goOn 96 = .ok (.imul, 1) := by decide +kernel
theorem dX11_goOn_97 : decode cX11_goOn 97 = .ok (.goto 4, 3) := by decide +kernel
theorem dX11_goOn_100 : decode cX11_goOn 100 = .ok (.iconst 1, 1) := by decide +kernel
theorem dX11_goOn_101 : decode cX11_goOn 101 = .ok (.iadd, 1) := by decide +kernel
theorem dX11_goOn_102 : decode cX11_goOn 102 = .ok (.istore 9, 2) := by decide +kernel
theorem dX11_goOn_104 : decode cX11_goOn 104 = .ok (.iload_n 3, 1) := by decide +kernel
theorem dX11_goOn_105 : decode cX11_goOn 105 = .ok (.ldc 96, 2) := by decide +kernel
theorem dX11_goOn_107 : decode cX11_goOn 107 = .ok (.if_icmp .ne 14, 3) := by decide +kernel
theorem dX11_goOn_110 : decode cX11_goOn 110 = .ok (.bipush 20, 2) := by decide +kernel
theorem dX11_goOn_112 : decode cX11_goOn 112 = .ok (.iload 5, 2) := by decide +kernel
theorem dX11_goOn_114 : decode cX11_goOn 114 = .ok (.imul, 1) := by decide +kernel
theorem dX11_goOn_115 : decode cX11_goOn 115 = .ok (.iload 6, 2) := by decide +kernel
theorem dX11_goOn_117 : decode cX11_goOn 117 = .ok (.iadd, 1) := by decide +kernel
theorem dX11_goOn_118 : decode cX11_goOn 118 = .ok (.goto 4, 3) := by decide +kernel
theorem dX11_goOn_121 : decode cX11_goOn 121 = .ok (.iload_n 3, 1) := by decide +kernel
theorem dX11_goOn_122 : decode cX11_goOn 122 = .ok (.istore 10, 2) := by decide +kernel
theorem dX11_goOn_124 : decode cX11_goOn 124 = .ok (.aload_n 0, 1) := by decide +kernel
theorem dX11_goOn_125 : decode cX11_goOn 125 = .ok (.getfield 31, 3) := by decide +kernel
theorem dX11_goOn_128 : decode cX11_goOn 128 = .ok (.iload 8, 2) := by decide +kernel
theorem dX11_goOn_130 : decode cX11_goOn 130 = .ok (.iaload, 1) := by decide +kernel
theorem dX11_goOn_131 : decode cX11_goOn 131 = .ok (.ldc 96, 2) := by decide +kernel
theorem dX11_goOn_133 : decode cX11_goOn 133 = .ok (.if_icmp .eq 39, 3) := by decide +kernel
theorem dX11_goOn_136 : decode cX11_goOn 136 = .ok (.iload 9, 2) := by decide +kernel
theorem dX11_goOn_138 : decode cX11_goOn 138 = .ok (.aload_n 0, 1) := by decide +kernel
theorem dX11_goOn_139 : decode cX11_goOn 139 = .ok (.getfield 31, 3) := by decide +kernel
theorem dX11_goOn_142 : decode cX11_goOn 142 = .ok (.iload 8, 2) := by decide +kernel
theorem dX11_goOn_144 : decode cX11_goOn 144 = .ok (.iaload, 1) := by decide +kernel
theorem dX11_goOn_145 : decode cX11_goOn 145 = .ok (.if_icmp .lt 27, 3) := by decide +kernel
theorem dX11_goOn_148 : decode cX11_goOn 148 = .ok (.iload 9, 2) := by decide +kernel
theorem dX11_goOn_150 : decode cX11_goOn 150 = .ok (.aload_n 0, 1) := by decide +kernel
theorem dX11_goOn_151 : decode cX11_goOn 151 = .ok (.getfield 31, 3) := by decide +kernel
theorem dX11_goOn_154 : decode cX11_goOn 154 = .ok (.iload 8, 2) := by decide +kernel
theorem dX11_goOn_156 : decode cX11_goOn 156 = .ok (.iaload, 1) := by decide +kernel
theorem dX11_goOn_157 : decode cX11_goOn 157 = .ok (.if_icmp .ne 86, 3) := by decide +kernel
theorem dX11_goOn_160 : decode cX11_goOn 160 = .ok (.iload 10, 2) := by decide +kernel
theorem dX11_goOn_162 : decode cX11_goOn 162 = .ok (.aload_n 0, 1) := by decide +kernel
theorem dX11_goOn_163 : decode cX11_goOn 163 = .ok (.getfield 34, 3) := by decide +kernel
theorem dX11_goOn_166 : decode cX11_goOn 166 = .ok (.iload 8, 2) := by decide +kernel
theorem dX11_goOn_168 : decode cX11_goOn 168 = .ok (.iaload, 1) := by decide +kernel
theorem dX11_goOn_169 : decode cX11_goOn 169 = .ok (.if_icmp .ge 74, 3) := by decide +kernel
theorem dX11_goOn_172 : decode cX11_goOn 172 = .ok (.aload_n 0, 1) := by decide +kernel
theorem dX11_goOn_173 : decode cX11_goOn 173 = .ok (.getfield 31, 3) := by decide +kernel
theorem dX11_goOn_176 : decode cX11_goOn 176 = .ok (.iload 8, 2) := by decide +kernel
theorem dX11_goOn_178 : decode cX11_goOn 178 = .ok (.iload 9, 2) := by decide +kernel
theorem dX11_goOn_180 : decode cX11_goOn 180 = .ok (.iastore, 1) := by decide +kernel
theorem dX11_goOn_181 : decode cX11_goOn 181 = .ok (.aload_n 0, 1) := by decide +kernel
theorem dX11_goOn_182 : decode cX11_goOn 182 = .ok (.getfield 34, 3) := by decide +kernel
theorem dX11_goOn_185 : decode cX11_goOn 185 = .ok (.iload 8, 2) := by decide +kernel
theorem dX11_goOn_187 : decode cX11_goOn 187 = .ok (.iload 10, 2) := by decide +kernel
theorem dX11_goOn_189 : decode cX11_goOn 189 = .ok (.iastore, 1) := by decide +kernel
theorem dX11_goOn_190 : decode cX11_goOn 190 = .ok (.aload_n 0, 1) := by decide +kernel
theorem dX11_goOn_191 : decode cX11_goOn 191 = .ok (.getfield 37, 3) := by decide +kernel
theorem dX11_goOn_194 : decode cX11_goOn 194 = .ok (.iload 8, 2) := by decide +kernel
theorem dX11_goOn_196 : decode cX11_goOn 196 = .ok (.baload, 1) := by decide +kernel
theorem dX11_goOn_197 : decode cX11_goOn 197 = .ok (.ifCond .ne 46, 3) := by decide +kernel
theorem dX11_goOn_200 : decode cX11_goOn 200 = .ok (.aload_n 0, 1) := by decide +kernel
theorem dX11_goOn_201 : decode cX11_goOn 201 = .ok (.getfield 37, 3) := by decide +kernel
theorem dX11_goOn_204 : decode cX11_goOn 204 = .ok (.iload 8, 2) := by decide +kernel
theorem dX11_goOn_206 : decode cX11_goOn 206 = .ok (.iconst 1, 1) := by decide +kernel
theorem dX11_goOn_207 : decode cX11_goOn 207 = .ok (.bastore, 1) := by decide +kernel
theorem dX11_goOn_208 : decode cX11_goOn 208 = .ok (.aload_n 0, 1) := by decide +kernel
theorem dX11_goOn_209 : decode cX11_goOn 209 = .ok (.getfield 41, 3) := by decide +kernel
theorem dX11_goOn_212 : decode cX11_goOn 212 = .ok (.aload_n 0, 1) := by decide +kernel
theorem dX11_goOn_213 : decode cX11_goOn 213 = .ok (.getfield 204, 3) := by decide +kernel
theorem dX11_goOn_216 : decode cX11_goOn 216 = .ok (.iload 8, 2) := by decide +kernel
theorem dX11_goOn_218 : decode cX11_goOn 218 = .ok (.iastore, 1) := by decide +kernel
theorem dX11_goOn_219 : decode cX11_goOn 219 = .ok (.aload_n 0, 1) := by decide +kernel
theorem dX11_goOn_220 : decode cX11_goOn 220 = .ok (.aload_n 0, 1) := by decide +kernel
theorem dX11_goOn_221 : decode cX11_goOn 221 = .ok (.getfield 204, 3) := by decide +kernel
theorem dX11_goOn_224 : decode cX11_goOn 224 = .ok (.sipush 4096, 3) := by decide +kernel
theorem dX11_goOn_227 : decode cX11_goOn 227 = .ok (.if_icmp .ne 7, 3) := by decide +kernel
theorem dX11_goOn_230 : decode cX11_goOn 230 = .ok (.iconst 0, 1) := by decide +kernel
theorem dX11_goOn_231 : decode cX11_goOn 231 = .ok (.goto 9, 3) := by decide +kernel
theorem dX11_goOn_234 : decode cX11_goOn 234 = .ok (.aload_n 0, 1) := by decide +kernel
theorem dX11_goOn_235 : decode cX11_goOn 235 = .ok (.getfield 204, 3) := by decide +kernel
theorem dX11_goOn_238 : decode cX11_goOn 238 = .ok (.iconst 1, 1) := by decide +kernel
theorem dX11_goOn_239 : decode cX11_goOn 239 = .ok (.iadd, 1) := by decide +kernel
theorem dX11_goOn_240 : decode cX11_goOn 240 = .ok (.putfield 204, 3) := by decide +kernel
theorem dX11_goOn_243 : decode cX11_goOn 243 = .ok (.iinc 6 1, 3) := by decide +kernel
theorem dX11_goOn_246 : decode cX11_goOn 246 = .ok (.goto (-229), 3) := by decide +kernel
theorem dX11_goOn_249 : decode cX11_goOn 249 = .ok (.iinc 5 1, 3) := by decide +kernel
theorem dX11_goOn_252 : decode cX11_goOn 252 = .ok (.goto (-249), 3) := by decide +kernel
theorem dX11_goOn_255 : decode cX11_goOn 255 = .ok (.return_, 1) := by decide +kernel
def Sp_X11_goOn (av : List AV) (m : AM) (Φ : Option AV → AM → Prop) : Prop := ∃ x y z u, av = [vr 11 110, vi x, vi y, vi z, vi u] ∧ ∃ (C : Nat → Nat) (P bc n c a len : Nat) (fo : Option Nat) (lab : Nat → Option (Nat × Nat)) (w : Nat → Bool) (Q : Nat → Nat), VC C ∧ MC m C ∧ P = wtP C bc ∧ bc ≤ 1 ∧ x = nI n ∧ n < 4096 ∧ y = nI (P * c) ∧ z = fvI fo ∧ (∀ f, fo = some f → f < 100) ∧ u = nI bc ∧ c ≤ 6 * cntL lab 4096 ∧ LbR m P lab w ∧ QuR m w a len Q ∧ SdW C bc lab ∧ (∀ p s v, p < C 4 → s < 2 * C 0 → outN C (C (40 + 2 * p)) (n % 64) (n / 64) s = some v → ∃ k, Wk C bc k v (n / 64 ||| 2 ^ (s / 2)) (c + wtN bc (n % 64) v) (fvN fo p s)) ∧ ∀ m2 lab2 w2 len2 Q2, GoI C P bc a (MuL lab len) lab w m m2 lab2 w2 len2 Q2 → (∀ p s v, p < C 4 → s < 2 * C 0 → outN C (C (40 + 2 * p)) (n % 64) (n / 64) s = some v → hasL lab2 (64 * (n / 64 ||| 2 ^ (s / 2)) + v) (c + wtN bc (n % 64) v, fvN fo p s)) → Φ none m2
set_option maxRecDepth 20000 in
set_option maxHeartbeats 4000000 in
theorem S_X11_goOn : Snd yX11_goOn e_X11_goOn Sp_X11_goOn := by
  refine Snd.of (by decide +kernel) rfl ?_ ?_
  · rintro av m Φ ⟨x, y, z, u, rfl, _⟩; exact Nat.le_of_ble_eq_true rfl
  rintro av m Φ ⟨x, y, z, u, rfl, C, P, bc, n, c, a, len, fo, lab, w, Q, hv, hM, hP, hbc, rfl, hn, hy, hz, hfo, hu, hc, hL, hQ, hS, hK, h⟩ hav hty
  show B e_X11_goOn Φ 0 [some (vr 11 110), some (vi (nI n)), some (vi y), some (vi z), some (vi u), none, none, none, none, none, none] [] m (0, 0)
  have h06 := hv.1
  have h45 := hv.2.2.2.2.1
  have hn64 : n % 64 < 64 := Nat.mod_lt _ (by omega)
  have hd64 : n / 64 < 64 := by omega
  have hPk := wtP_ok hv bc
  rw [← hP] at hPk
  have outer : ∀ e p M lab1 w1 len1 Q1 o6 o7 o8 o9 o10, C 4 + 1 ≤ p + e → p ≤ C 4 → GoI C P bc a (MuL lab len) lab w m M lab1 w1 len1 Q1 → (∀ p' s' v, p' < p → s' < 2 * C 0 → outN C (C (40 + 2 * p')) (n % 64) (n / 64) s' = some v → hasL lab1 (64 * (n / 64 ||| 2 ^ (s' / 2)) + v) (c + wtN bc (n % 64) v, fvN fo p' s')) → B e_X11_goOn Φ 3 [some (vr 11 110), some (vi (nI n)), some (vi y), some (vi z), some (vi u), some (vi (nI p)), o6, o7, o8, o9, o10] [] M (0, 0) := by
    intro e
    induction e with
    | zero => intro p M lab1 w1 len1 Q1 o6 o7 o8 o9 o10 z1 z2; omega
    | succ e ih =>
      intro p M lab1 w1 len1 Q1 o6 o7 o8 o9 o10 z1 z2 hI hH
      have k4 := MC.fm hI.1 hM (by simp) 4 (by omega)
      by_cases hp : p < C 4
      · have inner : ∀ e s M lab1 w1 len1 Q1 o7 o8 o9 o10, 2 * C 0 + 1 ≤ s + e → s ≤ 2 * C 0 → GoI C P bc a (MuL lab len) lab w m M lab1 w1 len1 Q1 → (∀ p' s' v, (p' < p ∧ s' < 2 * C 0) ∨ (p' = p ∧ s' < s) → outN C (C (40 + 2 * p')) (n % 64) (n / 64) s' = some v → hasL lab1 (64 * (n / 64 ||| 2 ^ (s' / 2)) + v) (c + wtN bc (n % 64) v, fvN fo p' s')) → B e_X11_goOn Φ 17 [some (vr 11 110), some (vi (nI n)), some (vi y), some (vi z), some (vi u), some (vi (nI p)), some (vi (nI s)), o7, o8, o9, o10] [] M (0, 0) := by
          intro e
          induction e with
          | zero => intro s M lab1 w1 len1 Q1 o7 o8 o9 o10 z1 z2; omega
          | succ e ih2 =>
            intro s M lab1 w1 len1 Q1 o7 o8 o9 o10 z3 z4 hI hH
            have hMC : MC M C := MC.fm hI.1 hM (by simp)
            have k0 := hMC 0 (by omega)
            have k2 := hMC 2 (by omega)
            have hL1 := hI.2.1
            have hcl := cntL_le lab1 4096
            have hc8 := hI.2.2.2.2.2.2.2
            by_cases hs : s < 2 * C 0
            · have nx : ∀ M2 lab2 w2 len2 Q2 o7 o8 o9 o10, GoI C P bc a (MuL lab len) lab w m M2 lab2 w2 len2 Q2 → (∀ n x, hasL lab1 n x → hasL lab2 n x) → (∀ v, outN C (C (40 + 2 * p)) (n % 64) (n / 64) s = some v → hasL lab2 (64 * (n / 64 ||| 2 ^ (s / 2)) + v) (c + wtN bc (n % 64) v, fvN fo p s)) → B e_X11_goOn Φ 17 [some (vr 11 110), some (vi (nI n)), some (vi y), some (vi z), some (vi u), some (vi (nI p)), some (vi (nI (s + 1))), o7, o8, o9, o10] [] M2 (0, 0) := by
                intro M2 lab2 w2 len2 Q2 o7 o8 o9 o10 b1 b2 b3
                refine ih2 (s + 1) M2 lab2 w2 len2 Q2 _ _ _ _ (by omega) (by omega) b1 (fun p' s' v hc ho => ?_)
                by_cases t : p' = p ∧ s' = s
                · rw [t.1, t.2] at ho ⊢
                  exact b3 v ho
                · exact b2 _ _ (hH p' s' v (by omega) ho)
              refine b_iloadG (pc := 17) 6 dX11_goOn_17 rfl ?_
              refine b_iconst (pc := 19) (nI 2) dX11_goOn_19 (by decide) ?_
              refine b_aloadN (pc := 20) 0 dX11_goOn_20 rfl rfl ?_
              refine gf11_5 (pc := 21) 114 rfl k1047 dX11_goOn_21 ?_
              refine b_iconst (pc := 24) (nI 0) dX11_goOn_24 (by decide) ?_
              refine b_iald (pc := 25) (by decide) ?_ dX11_goOn_25 ?_
              rotate_left -- leaf 0: index at 25
              refine b_imul (pc := 26) dX11_goOn_26 ?_
              refine b_icmp_ge (pc := 27) 249 dX11_goOn_27 (by decide) (fun c27 => ?_) (fun c27 => ?_)
              rotate_left -- leaf 1: at 249
              refine b_aloadN (pc := 30) 0 dX11_goOn_30 rfl rfl ?_
              refine b_iloadG (pc := 31) 5 dX11_goOn_31 rfl ?_
              refine b_iloadN (pc := 33) 1 dX11_goOn_33 rfl rfl ?_
              refine b_bipush (pc := 34) (nI 64) dX11_goOn_34 (by decide) ?_
              refine b_irem (pc := 36) dX11_goOn_36 ?_ ?_
              rotate_left -- leaf 2: divisor at 36
              refine b_iloadN (pc := 37) 1 dX11_goOn_37 rfl rfl ?_
              refine b_bipush (pc := 38) (nI 64) dX11_goOn_38 (by decide) ?_
              refine b_idiv (pc := 40) dX11_goOn_40 ?_ ?_
              rotate_left -- leaf 3: divisor at 40
              refine b_iloadG (pc := 41) 6 dX11_goOn_41 rfl ?_
              refine call_X11_after (pc := 43) k1241 (by decide) ⟨Nat.le_of_ble_eq_true rfl, Nat.le_of_ble_eq_true rfl⟩ (Nat.le_of_ble_eq_true rfl) dX11_goOn_43 ?_
              refine ⟨_, _, _, _, rfl, C, p, n % 64, n / 64, s, hv, hMC, rfl, ?_, ?_, rfl, hp, hn64, hd64, hs, ?_⟩
              rotate_left -- leaf 4: so of X11_after at 43
              rotate_left -- leaf 5: said of X11_after at 43
              refine siG7 (pc := 46) notL_i (by decide) dX11_goOn_46 ?_
              rotate_left -- leaf 6: at 48
              -- leaves: 0 index at 25; 1 at 249; 2 divisor at 36; 3 divisor at 40; 4 so of X11_after at 43; 5 said of X11_after at 43; 6 at 48
              · exact n_in (by omega) (by omega)
              · rw [n_cl (by omega), k0, n_mul, n_le (by omega) (by omega)] at c27; omega
              · decide
              · decide
              · exact n_rem (by omega) (by omega) (by omega)
              · exact pk_div (by omega) (by omega) (by omega)
              · cases e : outN C (C (40 + 2 * p)) (n % 64) (n / 64) s with
                | none =>
                  refine b_iloadG (pc := 48) 7 dX11_goOn_48 rfl ?_
                  refine b_ldc (pc := 50) k1180 dX11_goOn_50 ?_
                  refine b_icmp_eq (pc := 52) 243 dX11_goOn_52 (by decide) (fun c52 => ?_) (fun c52 => ?_)
                  refine inc6 (pc := 243) notL_i (by decide) dX11_goOn_243 ?_
                  refine b_goto (pc := 246) 17 dX11_goOn_246 (by decide) ?_
                  rotate_left -- leaf 0: at 17
                  rotate_left -- leaf 1: at 55
                  -- leaves: 0 at 17; 1 at 55
                  · rw [n_inc]
                    exact nx M lab1 w1 len1 Q1 _ _ _ _ hI (fun n x hx => hx) (fun v hv' => by rw [e] at hv'; cases hv')
                  · exact absurd rfl c52
                | some v =>
                  have hv64 : v < 64 := outN_lt hv hn64 hs e
                  have hd2 : n / 64 ||| 2 ^ (s / 2) < 64 := or_lt64 hd64 (pow_lt64 (by omega))
                  have hwv := wt_le (bc := bc) hn64 hv64
                  have hkk := hK p s v hp hs e
                  have hf1 : fvN fo p s < 100 := by
                    unfold fvN
                    cases q : fo with
                    | none => show 20 * p + s < 100; omega
                    | some f => exact hfo f q
                  have hx6 := Nat.xor_lt_two_pow (n := 6) hv64 hn64
                  have ewt : wtN bc (n % 64) v = if bc = 0 then 1 else pc6 (v ^^^ (n % 64)) := by
                    unfold wtN
                    rw [Nat.xor_comm]
                  generalize hd2e : n / 64 ||| 2 ^ (s / 2) = d2 at hd2 hkk nx
                  generalize hz1 : c + wtN bc (n % 64) v = z1 at hkk nx
                  generalize hf1e : fvN fo p s = f1 at hf1 hkk nx
                  have hV : 64 * d2 + v < 4096 := by omega
                  have hz6 : z1 ≤ 6 * cntL lab1 4096 + 6 := by omega
                  have hPz : P * z1 ≤ 9 * 24582 := Nat.mul_le_mul hPk.2 (by omega)
                  have hV1 : (64 * d2 + v) % 64 = v := by omega
                  have hV2 : (64 * d2 + v) / 64 = d2 := by omega
                  have hkk : ∃ k, Wk C bc k ((64 * d2 + v) % 64) ((64 * d2 + v) / 64) z1 f1 := by
                    rw [hV1, hV2]
                    exact hkk
                  have nx2 : ∀ M2 lab2 w2 len2 Q2 o8 o9 o10, GoI C P bc a (MuL lab len) lab w m M2 lab2 w2 len2 Q2 → (∀ n x, hasL lab1 n x → hasL lab2 n x) → hasL lab2 (64 * d2 + v) (z1, f1) → B e_X11_goOn Φ 243 [some (vr 11 110), some (vi (nI n)), some (vi y), some (vi z), some (vi u), some (vi (nI p)), some (vi (nI s)), some (vi (nI v)), o8, o9, o10] [] M2 (0, 0) := by
                    intro M2 lab2 w2 len2 Q2 o8 o9 o10 b1 b2 b3
                    refine inc6 (pc := 243) notL_i (by decide) dX11_goOn_243 ?_
                    refine b_goto (pc := 246) 17 dX11_goOn_246 (by decide) ?_
                    rotate_left -- leaf 0: at 17
                    -- leaves: 0 at 17
                    rw [n_inc]
                    exact nx M2 lab2 w2 len2 Q2 _ _ _ _ b1 b2 (fun v' hv' => by rw [e] at hv'; cases hv'; rw [hz1]; exact b3)
                  clear nx ih2 ih hH
                  generalize hVe : 64 * d2 + v = V at hV hkk nx2 hV1 hV2
                  have sV := hL1.1 V hV
                  have m172 : betL lab1 V (z1, f1) → z1 ≤ 24576 → B e_X11_goOn Φ 172 [some (vr 11 110), some (vi (nI n)), some (vi y), some (vi z), some (vi u), some (vi (nI p)), some (vi (nI s)), some (vi (nI v)), some (vi (nI V)), some (vi (nI (P * z1))), some (vi (nI f1))] [] M (0, 0) := by
                    intro hb hz24
                    have hQ1 := hI.2.2.1
                    have q23 := hQ1.2.2.1
                    generalize hbe : (a + len1) % 4097 = b at q23
                    have hb4 : b < 4097 := by rw [← hbe]; exact Nat.mod_lt _ (by omega)
                    have fin : w1 V = false → ∀ bv M2, M2 = mset (mset (mset (mset (mset M 118 V (nI (P * z1))) 119 V (nI f1)) 120 V (nI 1)) 121 b (nI V)) 110 23 (nI bv) → bv = (a + (len1 + 1)) % 4097 → B e_X11_goOn Φ 243 [some (vr 11 110), some (vi (nI n)), some (vi y), some (vi z), some (vi u), some (vi (nI p)), some (vi (nI s)), some (vi (nI v)), some (vi (nI V)), some (vi (nI (P * z1))), some (vi (nI f1))] [] M2 (0, 0) := by
                      intro hw bv M2 hM2 hbv
                      refine nx2 M2 (entL lab1 V (z1, f1)) (setW w1 V true) (len1 + 1) (fun i => if i = len1 then V else Q1 i) _ _ _ (hI.put hV hb ⟨hz6, hz24, hf1⟩ hkk ?_ ?_ ?_ ?_ (fun n hn => ?_) (hQ1.push hV hw ?_ ?_ ?_) (Nat.le_refl _) (fun n hn => ?_)) (fun n x hx => entL_mono _ _ hx) (entL_has _ _ _)
                      · rw [hM2]
                        exact (((((Fm.rf _ _ M).ms (by decide) (by simp)).ms (by decide) (by simp)).ms (by decide) (by simp)).ms (by decide) (by simp)).m0 (by simp)
                      · rw [hM2, mset_ne _ _ _ (show 118 ≠ 110 by decide), mset_ne _ _ _ (show 118 ≠ 121 by decide), mset_ne _ _ _ (show 118 ≠ 120 by decide), mset_ne _ _ _ (show 118 ≠ 119 by decide), mset_upd]
                      · rw [hM2, mset_ne _ _ _ (show 119 ≠ 110 by decide), mset_ne _ _ _ (show 119 ≠ 121 by decide), mset_ne _ _ _ (show 119 ≠ 120 by decide), mset_upd, mset_ne _ _ _ (show 119 ≠ 118 by decide)]
                      · intro n hn
                        rw [hM2, mset_ne _ _ _ (show 120 ≠ 110 by decide), mset_ne _ _ _ (show 120 ≠ 121 by decide), mset_at, mset_ne _ _ _ (show 120 ≠ 119 by decide), mset_ne _ _ _ (show 120 ≠ 118 by decide)]
                        by_cases t : n = V
                        · rw [if_pos t, t, setW_at]; rfl
                        · rw [if_neg t, setW_ne w1 true t]; exact (hL1.1 n hn).2.2
                      · by_cases t : n = V
                        · exact Or.inr t
                        · rw [setW_ne w1 true t] at hn
                          exact Or.inl hn
                      · rw [hM2, mset_ne _ _ _ (show 121 ≠ 110 by decide), mset_upd, mset_ne _ _ _ (show 121 ≠ 120 by decide), mset_ne _ _ _ (show 121 ≠ 119 by decide), mset_ne _ _ _ (show 121 ≠ 118 by decide), hbe]
                      · rw [hM2, mset_at, if_neg (by decide), mset_ne _ _ _ (show 110 ≠ 121 by decide), mset_ne _ _ _ (show 110 ≠ 120 by decide), mset_ne _ _ _ (show 110 ≠ 119 by decide), mset_ne _ _ _ (show 110 ≠ 118 by decide)]
                      · rw [hM2, mset_at, if_pos rfl, hbv]
                      · by_cases t : n = V
                        · rw [t, setW_at] at hn
                          cases hn
                        · rw [setW_ne w1 true t] at hn
                          exact ⟨hn, t⟩
                    have g120 : (mset (mset M 118 V (nI (P * z1))) 119 V (nI f1)).1 120 V = nI (if w1 V = true then 1 else 0) := by
                      rw [mset_ne _ _ _ (show 120 ≠ 119 by decide), mset_ne _ _ _ (show 120 ≠ 118 by decide)]
                      exact sV.2.2
                    have g23 : (mset (mset (mset M 118 V (nI (P * z1))) 119 V (nI f1)) 120 V (nI 1)).1 110 23 = nI b := by
                      rw [mset_ne _ _ _ (show 110 ≠ 120 by decide), mset_ne _ _ _ (show 110 ≠ 119 by decide), mset_ne _ _ _ (show 110 ≠ 118 by decide)]
                      exact q23
                    have g23b : (mset (mset (mset (mset M 118 V (nI (P * z1))) 119 V (nI f1)) 120 V (nI 1)) 121 b (nI V)).1 110 23 = nI b := by
                      rw [mset_ne _ _ _ (show 110 ≠ 121 by decide)]
                      exact g23
                    refine b_aloadN (pc := 172) 0 dX11_goOn_172 rfl rfl ?_
                    refine gf11_18 (pc := 173) 118 rfl k1060 dX11_goOn_173 ?_
                    refine b_iloadG (pc := 176) 8 dX11_goOn_176 rfl ?_
                    refine b_iloadG (pc := 178) 9 dX11_goOn_178 rfl ?_
                    refine b_iast (pc := 180) (by decide) ?_ dX11_goOn_180 ?_
                    rotate_left -- leaf 0: index at 180
                    refine b_aloadN (pc := 181) 0 dX11_goOn_181 rfl rfl ?_
                    refine gf11_19 (pc := 182) 119 rfl k1061 dX11_goOn_182 ?_
                    refine b_iloadG (pc := 185) 8 dX11_goOn_185 rfl ?_
                    refine b_iloadG (pc := 187) 10 dX11_goOn_187 rfl ?_
                    refine b_iast (pc := 189) (by decide) ?_ dX11_goOn_189 ?_
                    rotate_left -- leaf 1: index at 189
                    refine b_aloadN (pc := 190) 0 dX11_goOn_190 rfl rfl ?_
                    refine gf11_20 (pc := 191) 120 rfl k1062 dX11_goOn_191 ?_
                    refine b_iloadG (pc := 194) 8 dX11_goOn_194 rfl ?_
                    refine b_zald (pc := 196) (by decide) ?_ dX11_goOn_196 ?_
                    rotate_left -- leaf 2: index at 196
                    refine b_if_ne (pc := 197) 243 dX11_goOn_197 (by decide) (fun c197 => ?_) (fun c197 => ?_)
                    rotate_left -- leaf 3: at 243
                    refine b_aloadN (pc := 200) 0 dX11_goOn_200 rfl rfl ?_
                    refine gf11_20 (pc := 201) 120 rfl k1062 dX11_goOn_201 ?_
                    refine b_iloadG (pc := 204) 8 dX11_goOn_204 rfl ?_
                    refine b_iconst (pc := 206) (nI 1) dX11_goOn_206 (by decide) ?_
                    refine b_zast (pc := 207) (by decide) ?_ ?_ dX11_goOn_207 ?_
                    rotate_left -- leaf 4: index at 207
                    rotate_left -- leaf 5: bool at 207
                    refine b_aloadN (pc := 208) 0 dX11_goOn_208 rfl rfl ?_
                    refine gf11_21 (pc := 209) 121 rfl k1063 dX11_goOn_209 ?_
                    refine b_aloadN (pc := 212) 0 dX11_goOn_212 rfl rfl ?_
                    refine gf11_23 (pc := 213) k1065 dX11_goOn_213 ?_
                    refine b_iloadG (pc := 216) 8 dX11_goOn_216 rfl ?_
                    refine b_iast (pc := 218) (by decide) ?_ dX11_goOn_218 ?_
                    rotate_left -- leaf 6: index at 218
                    refine b_aloadN (pc := 219) 0 dX11_goOn_219 rfl rfl ?_
                    refine b_aloadN (pc := 220) 0 dX11_goOn_220 rfl rfl ?_
                    refine gf11_23 (pc := 221) k1065 dX11_goOn_221 ?_
                    refine b_sipush (pc := 224) (nI 4096) dX11_goOn_224 (by decide) ?_
                    refine b_icmp_ne (pc := 227) 234 dX11_goOn_227 (by decide) (fun c227 => ?_) (fun c227 => ?_)
                    refine b_aloadN (pc := 234) 0 dX11_goOn_234 rfl rfl ?_
                    refine gf11_23 (pc := 235) k1065 dX11_goOn_235 ?_
                    refine b_iconst (pc := 238) (nI 1) dX11_goOn_238 (by decide) ?_
                    refine b_iadd (pc := 239) dX11_goOn_239 ?_
                    refine pf11_23 (pc := 240) k1065 dX11_goOn_240 ?_
                    rotate_left -- leaf 7: at 243
                    refine b_iconst (pc := 230) (nI 0) dX11_goOn_230 (by decide) ?_
                    refine b_goto (pc := 231) 240 dX11_goOn_231 (by decide) ?_
                    refine pf11_23 (pc := 240) k1065 dX11_goOn_240 ?_
                    rotate_left -- leaf 8: at 243
                    -- leaves: 0 index at 180; 1 index at 189; 2 index at 196; 3 at 243; 4 index at 207; 5 bool at 207; 6 index at 218; 7 at 243; 8 at 243
                    · exact n_in (by omega) (by omega)
                    · exact n_in (by omega) (by omega)
                    · exact n_in (by omega) (by omega)
                    · rw [n_cl (show V < 2147483648 by omega)] at c197 ⊢
                      rw [g120] at c197
                      have hw : w1 V = true := bT c197
                      refine nx2 _ (entL lab1 V (z1, f1)) w1 len1 Q1 _ _ _ (hI.put hV hb ⟨hz6, hz24, hf1⟩ hkk (((Fm.rf _ _ M).ms (by decide) (by simp)).ms (by decide) (by simp)) ?_ ?_ (fun n hn => ?_) (fun n hn => Or.inl hn) ?_ (by omega) (fun n hn => ⟨hn, fun t => by rw [t, hw] at hn; cases hn⟩)) (fun n x hx => entL_mono _ _ hx) (entL_has _ _ _)
                      · rw [mset_ne _ _ _ (show 118 ≠ 119 by decide), mset_upd]
                      · rw [mset_upd, mset_ne _ _ _ (show 119 ≠ 118 by decide)]
                      · rw [mset_ne _ _ _ (show 120 ≠ 119 by decide), mset_ne _ _ _ (show 120 ≠ 118 by decide)]
                        exact (hL1.1 n hn).2.2
                      · unfold QuR
                        rw [mset_ne _ _ _ (show 110 ≠ 119 by decide), mset_ne _ _ _ (show 110 ≠ 118 by decide), mset_ne _ _ _ (show 121 ≠ 119 by decide), mset_ne _ _ _ (show 121 ≠ 118 by decide)]
                        exact hQ1
                    · exact n_in (by omega) (by omega)
                    · exact Or.inr rfl
                    · rw [n_cl (show V < 2147483648 by omega), g23]
                      exact n_in (by omega) (by omega)
                    · rw [n_cl (show V < 2147483648 by omega)] at c197
                      rw [g120] at c197
                      rw [n_cl (show V < 2147483648 by omega), g23, n_cl (show b < 2147483648 by omega), g23b] at c227
                      rw [n_cl (show V < 2147483648 by omega), g23, n_cl (show b < 2147483648 by omega), g23b, n_add]
                      rw [n_eq (by omega) (by omega)] at c227
                      exact fin (bF c197) (b + 1) _ rfl (by omega)
                    · rw [n_cl (show V < 2147483648 by omega)] at c197
                      rw [g120] at c197
                      rw [n_cl (show V < 2147483648 by omega), g23, n_cl (show b < 2147483648 by omega), g23b] at c227
                      rw [n_cl (show V < 2147483648 by omega), g23, n_cl (show b < 2147483648 by omega)]
                      rw [n_eq (by omega) (by omega)] at c227
                      exact fin (bF c197) 0 _ rfl (by omega)
                  have m124 : B e_X11_goOn Φ 124 [some (vr 11 110), some (vi (nI n)), some (vi y), some (vi z), some (vi u), some (vi (nI p)), some (vi (nI s)), some (vi (nI v)), some (vi (nI V)), some (vi (nI (P * z1))), some (vi (nI f1))] [] M (0, 0) := by
                    cases el : lab1 V with
                    | none =>
                      have hb : betL lab1 V (z1, f1) := fun x hx => by rw [el] at hx; cases hx
                      have hc1 := cntL_ent (lab := lab1) (v := V) (z := (z1, f1)) 4096
                      rw [if_pos ⟨hV, el⟩] at hc1
                      have hc2 := cntL_le (entL lab1 V (z1, f1)) 4096
                      have h172 := m172 hb (by omega)
                      refine b_aloadN (pc := 124) 0 dX11_goOn_124 rfl rfl ?_
                      refine gf11_18 (pc := 125) 118 rfl k1060 dX11_goOn_125 ?_
                      refine b_iloadG (pc := 128) 8 dX11_goOn_128 rfl ?_
                      refine b_iald (pc := 130) (by decide) ?_ dX11_goOn_130 ?_
                      rotate_left -- leaf 0: index at 130
                      refine b_ldc (pc := 131) k1180 dX11_goOn_131 ?_
                      refine b_icmp_eq (pc := 133) 172 dX11_goOn_133 (by decide) (fun c133 => ?_) (fun c133 => ?_)
                      rotate_left -- leaf 1: at 172
                      rotate_left -- leaf 2: at 136
                      -- leaves: 0 index at 130; 1 at 172; 2 at 136
                      · exact n_in (by omega) (by omega)
                      · exact h172
                      · rw [n_cl (by omega), sV.1 el] at c133
                        exact absurd rfl c133
                    | some x =>
                      have sx := sV.2.1 x el
                      have bx := hL1.2.1 V x el
                      have hPx : P * x.1 ≤ 9 * 24576 := Nat.mul_le_mul hPk.2 (by omega)
                      have key : (z1 < x.1 ∨ (z1 = x.1 ∧ f1 < x.2)) → B e_X11_goOn Φ 172 [some (vr 11 110), some (vi (nI n)), some (vi y), some (vi z), some (vi u), some (vi (nI p)), some (vi (nI s)), some (vi (nI v)), some (vi (nI V)), some (vi (nI (P * z1))), some (vi (nI f1))] [] M (0, 0) := by
                        intro hlt
                        refine m172 (fun y hy => ?_) (by omega)
                        rw [el] at hy
                        cases hy
                        show ¬ (x.1 < z1 ∨ (x.1 = z1 ∧ x.2 ≤ f1))
                        omega
                      have stay : (x.1 < z1 ∨ (x.1 = z1 ∧ x.2 ≤ f1)) → B e_X11_goOn Φ 243 [some (vr 11 110), some (vi (nI n)), some (vi y), some (vi z), some (vi u), some (vi (nI p)), some (vi (nI s)), some (vi (nI v)), some (vi (nI V)), some (vi (nI (P * z1))), some (vi (nI f1))] [] M (0, 0) := fun t => nx2 M lab1 w1 len1 Q1 _ _ _ hI (fun n x hx => hx) ⟨x, el, t⟩
                      have p1 : P * z1 < P * x.1 ↔ z1 < x.1 := Nat.mul_lt_mul_left hPk.1
                      have p2 : P * z1 = P * x.1 ↔ z1 = x.1 := Nat.mul_right_inj (by omega)
                      refine b_aloadN (pc := 124) 0 dX11_goOn_124 rfl rfl ?_
                      refine gf11_18 (pc := 125) 118 rfl k1060 dX11_goOn_125 ?_
                      refine b_iloadG (pc := 128) 8 dX11_goOn_128 rfl ?_
                      refine b_iald (pc := 130) (by decide) ?_ dX11_goOn_130 ?_
                      rotate_left -- leaf 0: index at 130
                      refine b_ldc (pc := 131) k1180 dX11_goOn_131 ?_
                      refine b_icmp_eq (pc := 133) 172 dX11_goOn_133 (by decide) (fun c133 => ?_) (fun c133 => ?_)
                      rotate_left -- leaf 1: at 172
                      refine b_iloadG (pc := 136) 9 dX11_goOn_136 rfl ?_
                      refine b_aloadN (pc := 138) 0 dX11_goOn_138 rfl rfl ?_
                      refine gf11_18 (pc := 139) 118 rfl k1060 dX11_goOn_139 ?_
                      refine b_iloadG (pc := 142) 8 dX11_goOn_142 rfl ?_
                      refine b_iald (pc := 144) (by decide) ?_ dX11_goOn_144 ?_
                      rotate_left -- leaf 2: index at 144
                      refine b_icmp_lt (pc := 145) 172 dX11_goOn_145 (by decide) (fun c145 => ?_) (fun c145 => ?_)
                      rotate_left -- leaf 3: at 172
                      refine b_iloadG (pc := 148) 9 dX11_goOn_148 rfl ?_
                      refine b_aloadN (pc := 150) 0 dX11_goOn_150 rfl rfl ?_
                      refine gf11_18 (pc := 151) 118 rfl k1060 dX11_goOn_151 ?_
                      refine b_iloadG (pc := 154) 8 dX11_goOn_154 rfl ?_
                      refine b_iald (pc := 156) (by decide) ?_ dX11_goOn_156 ?_
                      rotate_left -- leaf 4: index at 156
                      refine b_icmp_ne (pc := 157) 243 dX11_goOn_157 (by decide) (fun c157 => ?_) (fun c157 => ?_)
                      rotate_left -- leaf 5: at 243
                      refine b_iloadG (pc := 160) 10 dX11_goOn_160 rfl ?_
                      refine b_aloadN (pc := 162) 0 dX11_goOn_162 rfl rfl ?_
                      refine gf11_19 (pc := 163) 119 rfl k1061 dX11_goOn_163 ?_
                      refine b_iloadG (pc := 166) 8 dX11_goOn_166 rfl ?_
                      refine b_iald (pc := 168) (by decide) ?_ dX11_goOn_168 ?_
                      rotate_left -- leaf 6: index at 168
                      refine b_icmp_ge (pc := 169) 243 dX11_goOn_169 (by decide) (fun c169 => ?_) (fun c169 => ?_)
                      rotate_left -- leaf 7: at 243
                      rotate_left -- leaf 8: at 172
                      -- leaves: 0 index at 130; 1 at 172; 2 index at 144; 3 at 172; 4 index at 156; 5 at 243; 6 index at 168; 7 at 243; 8 at 172
                      · exact n_in (by omega) (by omega)
                      · rw [n_cl (by omega), sx.1] at c133
                        exact absurd c133 (n_ne_none (by omega))
                      · exact n_in (by omega) (by omega)
                      · rw [n_cl (by omega), sx.1, n_lt (by omega) (by omega), p1] at c145
                        exact key (Or.inl c145)
                      · exact n_in (by omega) (by omega)
                      · rw [n_cl (by omega), sx.1, n_lt (by omega) (by omega), p1] at c145
                        rw [n_cl (by omega), sx.1, n_eq (by omega) (by omega), p2] at c157
                        exact stay (Or.inl (by omega))
                      · exact n_in (by omega) (by omega)
                      · rw [n_cl (by omega), sx.1, n_eq (by omega) (by omega), p2] at c157
                        rw [n_cl (by omega), sx.2, n_le (by omega) (by omega)] at c169
                        exact stay (Or.inr ⟨c157.symm, c169⟩)
                      · rw [n_cl (by omega), sx.1, n_eq (by omega) (by omega), p2] at c157
                        rw [n_cl (by omega), sx.2, n_le (by omega) (by omega)] at c169
                        exact key (Or.inr ⟨c157, by omega⟩)
                  have m102 : B e_X11_goOn Φ 102 [some (vr 11 110), some (vi (nI n)), some (vi y), some (vi z), some (vi u), some (vi (nI p)), some (vi (nI s)), some (vi (nI v)), some (vi (nI V)), o9, o10] [vi (nI (P * z1))] M (0, 0) := by
                    rw [hz] at m124 ⊢
                    cases fo with
                    | none =>
                      have ef : 20 * p + s = f1 := hf1e
                      refine siG9 (pc := 102) notL_i (by decide) dX11_goOn_102 ?_
                      refine b_iloadN (pc := 104) 3 dX11_goOn_104 rfl rfl ?_
                      refine b_ldc (pc := 105) k1180 dX11_goOn_105 ?_
                      refine b_icmp_ne (pc := 107) 121 dX11_goOn_107 (by decide) (fun c107 => ?_) (fun c107 => ?_)
                      refine b_iloadN (pc := 121) 3 dX11_goOn_121 rfl rfl ?_
                      refine siG10 (pc := 122) notL_i (by decide) dX11_goOn_122 ?_
                      rotate_left -- leaf 0: at 124
                      refine b_bipush (pc := 110) (nI 20) dX11_goOn_110 (by decide) ?_
                      refine b_iloadG (pc := 112) 5 dX11_goOn_112 rfl ?_
                      refine b_imul (pc := 114) dX11_goOn_114 ?_
                      refine b_iloadG (pc := 115) 6 dX11_goOn_115 rfl ?_
                      refine b_iadd (pc := 117) dX11_goOn_117 ?_
                      refine b_goto (pc := 118) 122 dX11_goOn_118 (by decide) ?_
                      refine siG10 (pc := 122) notL_i (by decide) dX11_goOn_122 ?_
                      rotate_left -- leaf 1: at 124
                      -- leaves: 0 at 124; 1 at 124
                      · exact absurd rfl c107
                      · rw [n_mul, n_add, ef]
                        exact m124
                    | some f =>
                      have ef : f = f1 := hf1e
                      have hff := hfo f rfl
                      refine siG9 (pc := 102) notL_i (by decide) dX11_goOn_102 ?_
                      refine b_iloadN (pc := 104) 3 dX11_goOn_104 rfl rfl ?_
                      refine b_ldc (pc := 105) k1180 dX11_goOn_105 ?_
                      refine b_icmp_ne (pc := 107) 121 dX11_goOn_107 (by decide) (fun c107 => ?_) (fun c107 => ?_)
                      refine b_iloadN (pc := 121) 3 dX11_goOn_121 rfl rfl ?_
                      refine siG10 (pc := 122) notL_i (by decide) dX11_goOn_122 ?_
                      rotate_left -- leaf 0: at 124
                      refine b_bipush (pc := 110) (nI 20) dX11_goOn_110 (by decide) ?_
                      refine b_iloadG (pc := 112) 5 dX11_goOn_112 rfl ?_
                      refine b_imul (pc := 114) dX11_goOn_114 ?_
                      refine b_iloadG (pc := 115) 6 dX11_goOn_115 rfl ?_
                      refine b_iadd (pc := 117) dX11_goOn_117 ?_
                      refine b_goto (pc := 118) 122 dX11_goOn_118 (by decide) ?_
                      refine siG10 (pc := 122) notL_i (by decide) dX11_goOn_122 ?_
                      rotate_left -- leaf 1: at 124
                      -- leaves: 0 at 124; 1 at 124
                      · rw [← ef] at m124
                        exact m124
                      · exact absurd c107 (n_ne_none (by omega))
                  refine b_iloadG (pc := 48) 7 dX11_goOn_48 rfl ?_
                  refine b_ldc (pc := 50) k1180 dX11_goOn_50 ?_
                  refine b_icmp_eq (pc := 52) 243 dX11_goOn_52 (by decide) (fun c52 => ?_) (fun c52 => ?_)
                  rotate_left -- leaf 0: at 243
                  refine b_bipush (pc := 55) (nI 64) dX11_goOn_55 (by decide) ?_
                  refine b_iloadN (pc := 57) 1 dX11_goOn_57 rfl rfl ?_
                  refine b_bipush (pc := 58) (nI 64) dX11_goOn_58 (by decide) ?_
                  refine b_idiv (pc := 60) dX11_goOn_60 ?_ ?_
                  rotate_left -- leaf 1: divisor at 60
                  refine b_iconst (pc := 61) (nI 1) dX11_goOn_61 (by decide) ?_
                  refine b_iloadG (pc := 62) 6 dX11_goOn_62 rfl ?_
                  refine b_iconst (pc := 64) (nI 2) dX11_goOn_64 (by decide) ?_
                  refine b_idiv (pc := 65) dX11_goOn_65 ?_ ?_
                  rotate_left -- leaf 2: divisor at 65
                  refine b_ishl (pc := 66) dX11_goOn_66 ?_
                  refine b_ior (pc := 67) dX11_goOn_67 ?_
                  refine b_imul (pc := 68) dX11_goOn_68 ?_
                  refine b_iloadG (pc := 69) 7 dX11_goOn_69 rfl ?_
                  refine b_iadd (pc := 71) dX11_goOn_71 ?_
                  refine siG8 (pc := 72) notL_i (by decide) dX11_goOn_72 ?_
                  refine b_iloadN (pc := 74) 2 dX11_goOn_74 rfl rfl ?_
                  refine b_iloadG (pc := 75) 4 dX11_goOn_75 rfl ?_
                  refine b_if_eq (pc := 77) 100 dX11_goOn_77 (by decide) (fun c77 => ?_) (fun c77 => ?_)
                  refine b_iconst (pc := 100) (nI 1) dX11_goOn_100 (by decide) ?_
                  refine b_iadd (pc := 101) dX11_goOn_101 ?_
                  rotate_left -- leaf 3: at 102
                  refine b_aloadN (pc := 80) 0 dX11_goOn_80 rfl rfl ?_
                  refine gf11_5 (pc := 81) 114 rfl k1047 dX11_goOn_81 ?_
                  refine b_iconst (pc := 84) (nI 2) dX11_goOn_84 (by decide) ?_
                  refine b_iald (pc := 85) (by decide) ?_ dX11_goOn_85 ?_
                  rotate_left -- leaf 4: index at 85
                  refine b_iloadG (pc := 86) 7 dX11_goOn_86 rfl ?_
                  refine b_iloadN (pc := 88) 1 dX11_goOn_88 rfl rfl ?_
                  refine b_bipush (pc := 89) (nI 64) dX11_goOn_89 (by decide) ?_
                  refine b_irem (pc := 91) dX11_goOn_91 ?_ ?_
                  rotate_left -- leaf 5: divisor at 91
                  refine b_ixor (pc := 92) dX11_goOn_92 ?_
                  refine call_X11_bits (pc := 93) k1264 (by decide) ⟨Nat.le_of_ble_eq_true rfl, Nat.le_of_ble_eq_true rfl⟩ (Nat.le_of_ble_eq_true rfl) dX11_goOn_93 ?_
                  refine ⟨_, rfl, v ^^^ (n % 64), ?_, ?_, ?_⟩
                  rotate_left -- leaf 6: num of X11_bits at 93
                  rotate_left -- leaf 7: bound of X11_bits at 93
                  refine b_imul (pc := 96) dX11_goOn_96 ?_
                  refine b_goto (pc := 97) 101 dX11_goOn_97 (by decide) ?_
                  refine b_iadd (pc := 101) dX11_goOn_101 ?_
                  rotate_left -- leaf 8: at 102
                  -- leaves: 0 at 243; 1 divisor at 60; 2 divisor at 65; 3 at 102; 4 index at 85; 5 divisor at 91; 6 num of X11_bits at 93; 7 bound of X11_bits at 93; 8 at 102
                  · exact absurd c52 (n_ne_none (by omega))
                  · decide
                  · decide
                  · have hb0 : bc = 0 := by
                      rw [hu, n_eq0 (by omega)] at c77
                      exact c77
                    have hP1 : P = 1 := by rw [hP]; exact if_pos hb0
                    have e1 : P * c + 1 = P * z1 := by
                      rw [← hz1, ewt, if_pos hb0, hP1]
                      omega
                    rw [show (oI (some v) : Int32) = nI v from rfl, pk_div (a := n) (by omega) (by omega) (by omega), pk_div (a := s) (by omega) (by omega) (by omega), n_shl (by omega) (by have := pow_lt64 (show s / 2 < 6 by omega); omega), Nat.shiftLeft_eq, Nat.one_mul, n_or, hd2e, n_mul, n_add, hVe]
                    rw [hy] at m102 ⊢
                    rw [n_add, e1]
                    exact m102
                  · exact n_in (by omega) (by omega)
                  · decide
                  · rw [n_rem (by omega) (by omega) (by omega), show (oI (some v) : Int32) = nI v from rfl, n_xor]
                  · exact hx6
                  · have hb0 : ¬ bc = 0 := fun t => by
                      rw [hu, t] at c77
                      exact absurd rfl c77
                    have hP1 : P = C 2 := by rw [hP]; exact if_neg hb0
                    have e1 : P * c + C 2 * pc6 (v ^^^ (n % 64)) = P * z1 := by
                      rw [← hz1, ewt, if_neg hb0, hP1, Nat.mul_add]
                    rw [show (oI (some v) : Int32) = nI v from rfl, pk_div (a := n) (by omega) (by omega) (by omega), pk_div (a := s) (by omega) (by omega) (by omega), n_shl (by omega) (by have := pow_lt64 (show s / 2 < 6 by omega); omega), Nat.shiftLeft_eq, Nat.one_mul, n_or, hd2e, n_mul, n_add, hVe]
                    rw [hy] at m102 ⊢
                    rw [n_cl (by omega), k2, n_mul, n_add, e1]
                    exact m102
            · skip
              refine b_iloadG (pc := 17) 6 dX11_goOn_17 rfl ?_
              refine b_iconst (pc := 19) (nI 2) dX11_goOn_19 (by decide) ?_
              refine b_aloadN (pc := 20) 0 dX11_goOn_20 rfl rfl ?_
              refine gf11_5 (pc := 21) 114 rfl k1047 dX11_goOn_21 ?_
              refine b_iconst (pc := 24) (nI 0) dX11_goOn_24 (by decide) ?_
              refine b_iald (pc := 25) (by decide) ?_ dX11_goOn_25 ?_
              rotate_left -- leaf 0: index at 25
              refine b_imul (pc := 26) dX11_goOn_26 ?_
              refine b_icmp_ge (pc := 27) 249 dX11_goOn_27 (by decide) (fun c27 => ?_) (fun c27 => ?_)
              refine inc5 (pc := 249) notL_i (by decide) dX11_goOn_249 ?_
              refine b_goto (pc := 252) 3 dX11_goOn_252 (by decide) ?_
              rotate_left -- leaf 1: at 3
              rotate_left -- leaf 2: at 30
              -- leaves: 0 index at 25; 1 at 3; 2 at 30
              · exact n_in (by omega) (by omega)
              · rw [n_inc]
                exact ih (p + 1) M lab1 w1 len1 Q1 _ _ _ _ _ (by omega) (by omega) hI (fun p' s' v hp' hs' ho => hH p' s' v (by omega) ho)
              · rw [n_cl (by omega), k0, n_mul, n_le (by omega) (by omega)] at c27; omega
        refine b_iloadG (pc := 3) 5 dX11_goOn_3 rfl ?_
        refine b_aloadN (pc := 5) 0 dX11_goOn_5 rfl rfl ?_
        refine gf11_5 (pc := 6) 114 rfl k1047 dX11_goOn_6 ?_
        refine b_iconst (pc := 9) (nI 4) dX11_goOn_9 (by decide) ?_
        refine b_iald (pc := 10) (by decide) ?_ dX11_goOn_10 ?_
        rotate_left -- leaf 0: index at 10
        refine b_icmp_ge (pc := 11) 255 dX11_goOn_11 (by decide) (fun c11 => ?_) (fun c11 => ?_)
        rotate_left -- leaf 1: at 255
        refine b_iconst (pc := 14) (nI 0) dX11_goOn_14 (by decide) ?_
        refine siG6 (pc := 15) notL_i (by decide) dX11_goOn_15 ?_
        rotate_left -- leaf 2: at 17
        -- leaves: 0 index at 10; 1 at 255; 2 at 17
        · exact n_in (by omega) (by omega)
        · rw [n_cl (by omega), k4, n_le (by omega) (by omega)] at c11; omega
        · exact inner (2 * C 0 + 1) 0 M lab1 w1 len1 Q1 _ _ _ _ (by omega) (by omega) hI (fun p' s' v hc ho => hH p' s' v (by omega) (by omega) ho)
      · have ep : p = C 4 := by omega
        subst ep
        refine b_iloadG (pc := 3) 5 dX11_goOn_3 rfl ?_
        refine b_aloadN (pc := 5) 0 dX11_goOn_5 rfl rfl ?_
        refine gf11_5 (pc := 6) 114 rfl k1047 dX11_goOn_6 ?_
        refine b_iconst (pc := 9) (nI 4) dX11_goOn_9 (by decide) ?_
        refine b_iald (pc := 10) (by decide) ?_ dX11_goOn_10 ?_
        rotate_left -- leaf 0: index at 10
        refine b_icmp_ge (pc := 11) 255 dX11_goOn_11 (by decide) (fun c11 => ?_) (fun c11 => ?_)
        refine b_vret (pc := 255) rfl dX11_goOn_255 ⟨Nat.le_of_ble_eq_true rfl, Nat.le_of_ble_eq_true rfl⟩ ?_
        rotate_left -- leaf 1: return at 255
        rotate_left -- leaf 2: at 14
        -- leaves: 0 index at 10; 1 return at 255; 2 at 14
        · exact n_in (by omega) (by omega)
        · exact h M lab1 w1 len1 Q1 hI hH
        · rw [n_cl (by omega), k4, n_le (by omega) (by omega)] at c11; omega
  refine b_iconst (pc := 0) (nI 0) dX11_goOn_0 (by decide) ?_
  refine siG5 (pc := 1) notL_i (by decide) dX11_goOn_1 ?_
  rotate_left -- leaf 0: at 3
  -- leaves: 0 at 3
  exact outer (C 4 + 1) 0 m lab w len Q none none none none none (by omega) (by omega) ⟨Fm.rf _ _ m, hL, hQ, hS, fun n x hx => hx, fun n hw => ⟨hw, rfl⟩, Nat.le_refl _, Nat.le_refl _⟩ (fun p' s' v hp' => absurd hp' (Nat.not_lt_zero _))
theorem call_X11_goOn {E : ME} {Φ : Option AV → AM → Prop} {pc : Nat} {L : List (Option AV)} {st : List AV} {m : AM} {a : Nat × Nat} {idx : Nat} {x0 x1 x2 x3 : AV} {i : Nat} (hl : Cond.methodLink E.2.1 idx yX11_goOn ∈ TB) (hdep : 4 + 1 ≤ E.2.2.2.2.2.2) (hroom : a.1 + 0 ≤ E.2.2.2.2.1 ∧ a.2 + 0 ≤ E.2.2.2.2.2.1) (hsr : st.length ≤ 4) (hd : decode E.1 pc = .ok (.invokevirtual idx, 3)) (hsp : Sp_X11_goOn [vr 11 i, x0, x1, x2, x3] m (fun r m2 => B E Φ (pc + 3) L (r.toList ++ st) m2 a)) : B E Φ pc L (x3 :: x2 :: x1 :: x0 :: vr 11 i :: st) m a := b_callV S_X11_goOn [x0, x1, x2, x3] (RX11, TX11, 28) rfl rfl (by decide) (Or.inl hl) k1335 k58 k80 k1336 (show _ ∧ _ ∧ Option.map (fun d => d.parameters.length) (parseMethodDescriptor yX11_goOn.desc) = some 4 from by decide +kernel) ⟨hdep, by decide⟩ hroom hsr hd hsp
