/-! court() of the reference -/
theorem advL {T : Nat → Nat} {n p c : Nat} : advP T n (.ok p) (isL T n c (.ok p)) = tknS T n c p := by
  by_cases z : symO T n p = some c
  · rw [show isL T n c (.ok p) = true from decide_eq_true z]
    exact advS_t z
  · rw [show isL T n c (.ok p) = false from decide_eq_false z]
    exact advS_f z
abbrev crL : List Nat := [0, 8, 10, 11, 12, 13, 14, 15, 16, 17]
def kP (T : Nat → Nat) (n : Nat) (x : (Nat × Nat × Nat) × Nat) : Except (Nat × Nat) (Nat → Nat) := bnd (rulesP T n 9 (g0 x.1.1 x.1.2.1 x.1.2.2) x.2) fun y => peopP T n 5 y.1 y.2
theorem parP_eq {T : Nat → Nat} {n : Nat} : parP T n = bnd (lawP T n) (kP T n) := rfl
theorem g0_up {f a pr : Nat} : upC (upC (upC (fun _ => 0) 0 f) 1 a) 2 pr = g0 f a pr := by
  funext k
  unfold upC g0
  by_cases h0 : k = 0
  · subst h0; rfl
  · by_cases h1 : k = 1
    · subst h1; rfl
    · by_cases h2 : k = 2
      · subst h2; rfl
      · rw [if_neg h2, if_neg h1, if_neg h0, if_neg h0, if_neg h1, if_neg h2]
abbrev e_X11_court : ME := (cX11_court, (RX11, (2, ((some .int), (0, (0, 10))))))
theorem dX11_court_0 : decode cX11_court 0 = .ok (.aload_n 0, 1) := by decide +kernel
theorem dX11_court_1 : decode cX11_court 1 = .ok (.iconst 0, 1) := by decide +kernel
theorem dX11_court_2 : decode cX11_court 2 = .ok (.putfield 53, 3) := by decide +kernel
theorem dX11_court_5 : decode cX11_court 5 = .ok (.aload_n 0, 1) := by decide +kernel
theorem dX11_court_6 : decode cX11_court 6 = .ok (.invokevirtual 139, 3) := by decide +kernel
theorem dX11_court_9 : decode cX11_court 9 = .ok (.iconst 0, 1) := by decide +kernel
theorem dX11_court_10 : decode cX11_court 10 = .ok (.istore_n 1, 1) := by decide +kernel
theorem dX11_court_11 : decode cX11_court 11 = .ok (.iload_n 1, 1) := by decide +kernel
theorem dX11_court_12 : decode cX11_court 12 = .ok (.bipush 50, 2) := by decide +kernel
theorem dX11_court_14 : decode cX11_court 14 = .ok (.if_icmp .ge 16, 3) := by decide +kernel
theorem dX11_court_17 : decode cX11_court 17 = .ok (.aload_n 0, 1) := by decide +kernel
theorem dX11_court_18 : decode cX11_court 18 = .ok (.getfield 22, 3) := by decide +kernel
theorem dX11_court_21 : decode cX11_court 21 = .ok (.iload_n 1, 1) := by decide +kernel
theorem dX11_court_22 : decode cX11_court 22 = .ok (.iconst 0, 1) := by decide +kernel
theorem dX11_court_23 : decode cX11_court 23 = .ok (.iastore, 1) := by decide +kernel
theorem dX11_court_24 : decode cX11_court 24 = .ok (.iinc 1 1, 3) := by decide +kernel
theorem dX11_court_27 : decode cX11_court 27 = .ok (.goto (-16), 3) := by decide +kernel
theorem dX11_court_30 : decode cX11_court 30 = .ok (.aload_n 0, 1) := by decide +kernel
theorem dX11_court_31 : decode cX11_court 31 = .ok (.aload_n 0, 1) := by decide +kernel
theorem dX11_court_32 : decode cX11_court 32 = .ok (.bipush 99, 2) := by decide +kernel
theorem dX11_court_34 : decode cX11_court 34 = .ok (.invokevirtual 142, 3) := by decide +kernel
theorem dX11_court_37 : decode cX11_court 37 = .ok (.invokevirtual 118, 3) := by decide +kernel
theorem dX11_court_40 : decode cX11_court 40 = .ok (.aload_n 0, 1) := by decide +kernel
theorem dX11_court_41 : decode cX11_court 41 = .ok (.getfield 22, 3) := by decide +kernel
theorem dX11_court_44 : decode cX11_court 44 = .ok (.iconst 0, 1) := by decide +kernel
theorem dX11_court_45 : decode cX11_court 45 = .ok (.aload_n 0, 1) := by decide +kernel
theorem dX11_court_46 : decode cX11_court 46 = .ok (.iconst 1, 1) := by decide +kernel
theorem dX11_court_47 : decode cX11_court 47 = .ok (.bipush 6, 2) := by decide +kernel
theorem dX11_court_49 : decode cX11_court 49 = .ok (.invokevirtual 128, 3) := by decide +kernel
theorem dX11_court_52 : decode cX11_court 52 = .ok (.iastore, 1) := by decide +kernel
theorem dX11_court_53 : decode cX11_court 53 = .ok (.aload_n 0, 1) := by decide +kernel
theorem dX11_court_54 : decode cX11_court 54 = .ok (.bipush 44, 2) := by decide +kernel
theorem dX11_court_56 : decode cX11_court 56 = .ok (.invokevirtual 132, 3) := by decide +kernel
theorem dX11_court_59 : decode cX11_court 59 = .ok (.aload_n 0, 1) := by decide +kernel
theorem dX11_court_60 : decode cX11_court 60 = .ok (.getfield 22, 3) := by decide +kernel
theorem dX11_court_63 : decode cX11_court 63 = .ok (.iconst 1, 1) := by decide +kernel
theorem dX11_court_64 : decode cX11_court 64 = .ok (.aload_n 0, 1) := by decide +kernel
theorem dX11_court_65 : decode cX11_court 65 = .ok (.iconst 0, 1) := by decide +kernel
theorem dX11_court_66 : decode cX11_court 66 = .ok (.iconst 1, 1) := by decide +kernel
theorem dX11_court_67 : decode cX11_court 67 = .ok (.aload_n 0, 1) := by decide +kernel
theorem dX11_court_68 : decode cX11_court 68 = .ok (.getfield 22, 3) := by decide +kernel
theorem dX11_court_71 : decode cX11_court 71 = .ok (.iconst 0, 1) := by decide +kernel
theorem dX11_court_72 : decode cX11_court 72 = .ok (.iaload, 1) := by decide +kernel
theorem dX11_court_73 : decode cX11_court 73 = .ok (.ishl, 1) := by decide +kernel
theorem dX11_court_74 : decode cX11_court 74 = .ok (.iconst 1, 1) := by decide +kernel
theorem dX11_court_75 : decode cX11_court 75 = .ok (.isub, 1) := by decide +kernel
theorem dX11_court_76 : decode cX11_court 76 = .ok (.invokevirtual 128, 3) := by decide +kernel
theorem dX11_court_79 : decode cX11_court 79 = .ok (.iastore, 1) := by decide +kernel
theorem dX11_court_80 : decode cX11_court 80 = .ok (.aload_n 0, 1) := by decide +kernel
theorem dX11_court_81 : decode cX11_court 81 = .ok (.bipush 44, 2) := by decide +kernel
theorem dX11_court_83 : decode cX11_court 83 = .ok (.invokevirtual 132, 3) := by decide +kernel
theorem dX11_court_86 : decode cX11_court 86 = .ok (.aload_n 0, 1) := by decide +kernel
theorem dX11_court_87 : decode cX11_court 87 = .ok (.getfield 22, 3) := by decide +kernel
theorem dX11_court_90 : decode cX11_court 90 = .ok (.iconst 2, 1) := by decide +kernel
theorem dX11_court_91 : decode cX11_court 91 = .ok (.aload_n 0, 1) := by decide +kernel
theorem dX11_court_92 : decode cX11_court 92 = .ok (.iconst 1, 1) := by decide +kernel
theorem dX11_court_93 : decode cX11_court 93 = .ok (.bipush 9, 2) := by decide +kernel
theorem dX11_court_95 : decode cX11_court 95 = .ok (.invokevirtual 128, 3) := by decide +kernel
theorem dX11_court_98 : decode cX11_court 98 = .ok (.iastore, 1) := by decide +kernel
theorem dX11_court_99 : decode cX11_court 99 = .ok (.aload_n 0, 1) := by decide +kernel
theorem dX11_court_100 : decode cX11_court 100 = .ok (.bipush 59, 2) := by decide +kernel
theorem dX11_court_102 : decode cX11_court 102 = .ok (.invokevirtual 132, 3) := by decide +kernel
theorem dX11_court_105 : decode cX11_court 105 = .ok (.aload_n 0, 1) := by decide +kernel
theorem dX11_court_106 : decode cX11_court 106 = .ok (.bipush 109, 2) := by decide +kernel
theorem dX11_court_108 : decode cX11_court 108 = .ok (.invokevirtual 142, 3) := by decide +kernel
theorem dX11_court_111 : decode cX11_court 111 = .ok (.ifCond .ne 12, 3) := by decide +kernel
theorem dX11_court_114 : decode cX11_court 114 = .ok (.aload_n 0, 1) := by decide +kernel
theorem dX11_court_115 : decode cX11_court 115 = .ok (.bipush 120, 2) := by decide +kernel
theorem dX11_court_117 : decode cX11_court 117 = .ok (.invokevirtual 142, 3) := by decide +kernel
theorem dX11_court_120 : decode cX11_court 120 = .ok (.ifCond .eq 10, 3) := by decide +kernel
theorem dX11_court_123 : decode cX11_court 123 = .ok (.aload_n 0, 1) := by decide +kernel
theorem dX11_court_124 : decode cX11_court 124 = .ok (.invokevirtual 145, 3) := by decide +kernel
theorem dX11_court_127 : decode cX11_court 127 = .ok (.goto (-22), 3) := by decide +kernel
theorem dX11_court_130 : decode cX11_court 130 = .ok (.aload_n 0, 1) := by decide +kernel
theorem dX11_court_131 : decode cX11_court 131 = .ok (.invokevirtual 148, 3) := by decide +kernel
theorem dX11_court_134 : decode cX11_court 134 = .ok (.ifCond .ne 8, 3) := by decide +kernel
theorem dX11_court_137 : decode cX11_court 137 = .ok (.aload_n 0, 1) := by decide +kernel
theorem dX11_court_138 : decode cX11_court 138 = .ok (.iconst 1, 1) := by decide +kernel
theorem dX11_court_139 : decode cX11_court 139 = .ok (.invokevirtual 111, 3) := by decide +kernel
theorem dX11_court_142 : decode cX11_court 142 = .ok (.aload_n 0, 1) := by decide +kernel
theorem dX11_court_143 : decode cX11_court 143 = .ok (.invokevirtual 148, 3) := by decide +kernel
theorem dX11_court_146 : decode cX11_court 146 = .ok (.ifCond .eq 74, 3) := by decide +kernel
theorem dX11_court_149 : decode cX11_court 149 = .ok (.aload_n 0, 1) := by decide +kernel
theorem dX11_court_150 : decode cX11_court 150 = .ok (.getfield 97, 3) := by decide +kernel
theorem dX11_court_153 : decode cX11_court 153 = .ok (.invokestatic 125, 3) := by decide +kernel
theorem dX11_court_156 : decode cX11_court 156 = .ok (.istore_n 1, 1) := by decide +kernel
theorem dX11_court_157 : decode cX11_court 157 = .ok (.aload_n 0, 1) := by decide +kernel
theorem dX11_court_158 : decode cX11_court 158 = .ok (.getfield 22, 3) := by decide +kernel
theorem dX11_court_161 : decode cX11_court 161 = .ok (.iconst 4, 1) := by decide +kernel
theorem dX11_court_162 : decode cX11_court 162 = .ok (.iaload, 1) := by decide +kernel
theorem dX11_court_163 : decode cX11_court 163 = .ok (.iconst 5, 1) := by decide +kernel
theorem dX11_court_164 : decode cX11_court 164 = .ok (.if_icmp .ne 8, 3) := by decide +kernel
theorem dX11_court_167 : decode cX11_court 167 = .ok (.aload_n 0, 1) := by decide +kernel
theorem dX11_court_168 : decode cX11_court 168 = .ok (.iconst 3, 1) := by decide +kernel
theorem dX11_court_169 : decode cX11_court 169 = .ok (.invokevirtual 111, 3) := by decide +kernel
theorem dX11_court_172 : decode cX11_court 172 = .ok (.aload_n 0, 1) := by decide +kernel
theorem dX11_court_173 : decode cX11_court 173 = .ok (.iconst 1, 1) := by decide +kernel
theorem dX11_court_174 : decode cX11_court 174 = .ok (.invokevirtual 118, 3) := by decide +kernel
theorem dX11_court_177 : decode cX11_court 177 = .ok (.aload_n 0, 1) := by decide +kernel
theorem dX11_court_178 : decode cX11_court 178 = .ok (.bipush 59, 2) := by decide +kernel
theorem dX11_court_180 : decode cX11_court 180 = .ok (.invokevirtual 132, 3) := by decide +kernel
theorem dX11_court_183 : decode cX11_court 183 = .ok (.aload_n 0, 1) := by decide +kernel
theorem dX11_court_184 : decode cX11_court 184 = .ok (.getfield 84, 3) := by decide +kernel
theorem dX11_court_187 : decode cX11_court 187 = .ok (.ifCond .ne 30, 3) := by decide +kernel
theorem dX11_court_190 : decode cX11_court 190 = .ok (.aload_n 0, 1) := by decide +kernel
theorem dX11_court_191 : decode cX11_court 191 = .ok (.getfield 22, 3) := by decide +kernel
theorem dX11_court_194 : decode cX11_court 194 = .ok (.bipush 40, 2) := by decide +kernel
theorem dX11_court_196 : decode cX11_court 196 = .ok (.iconst 2, 1) := by decide +kernel
theorem dX11_court_197 : decode cX11_court 197 = .ok (.aload_n 0, 1) := by decide +kernel
theorem dX11_court_198 : decode cX11_court 198 = .ok (.getfield 22, 3) := by decide +kernel
theorem dX11_court_201 : decode cX11_court 201 = .ok (.iconst 4, 1) := by decide +kernel
theorem dX11_court_202 : decode cX11_court 202 = .ok (.iaload, 1) := by decide +kernel
theorem dX11_court_203 : decode cX11_court 203 = .ok (.imul, 1) := by decide +kernel
theorem dX11_court_204 : decode cX11_court 204 = .ok (.iadd, 1) := by decide +kernel
theorem dX11_court_205 : decode cX11_court 205 = .ok (.iload_n 1, 1) := by decide +kernel
theorem dX11_court_206 : decode cX11_court 206 = .ok (.iastore, 1) := by decide +kernel
theorem dX11_court_207 : decode cX11_court 207 = .ok (.aload_n 0, 1) := by decide +kernel
theorem dX11_court_208 : decode cX11_court 208 = .ok (.getfield 22, 3) := by decide +kernel
theorem dX11_court_211 : decode cX11_court 211 = .ok (.iconst 4, 1) := by decide +kernel
theorem dX11_court_212 : decode cX11_court 212 = .ok (.dup2, 1) := by decide +kernel
theorem dX11_court_213 : decode cX11_court 213 = .ok (.iaload, 1) := by decide +kernel
theorem dX11_court_214 : decode cX11_court 214 = .ok (.iconst 1, 1) := by decide +kernel
theorem dX11_court_215 : decode cX11_court 215 = .ok (.iadd, 1) := by decide +kernel
theorem dX11_court_216 : decode cX11_court 216 = .ok (.iastore, 1) := by decide +kernel
theorem dX11_court_217 : decode cX11_court 217 = .ok (.goto (-75), 3) := by decide +kernel
theorem dX11_court_220 : decode cX11_court 220 = .ok (.aload_n 0, 1) := by decide +kernel
theorem dX11_court_221 : decode cX11_court 221 = .ok (.invokevirtual 152, 3) := by decide +kernel
theorem dX11_court_224 : decode cX11_court 224 = .ok (.ifCond .eq 11, 3) := by decide +kernel
theorem dX11_court_227 : decode cX11_court 227 = .ok (.ldc 155, 2) := by decide +kernel
theorem dX11_court_229 : decode cX11_court 229 = .ok (.aload_n 0, 1) := by decide +kernel
theorem dX11_court_230 : decode cX11_court 230 = .ok (.getfield 90, 3) := by decide +kernel
theorem dX11_court_233 : decode cX11_court 233 = .ok (.isub, 1) := by decide +kernel
theorem dX11_court_234 : decode cX11_court 234 = .ok (.ireturn, 1) := by decide +kernel
theorem dX11_court_235 : decode cX11_court 235 = .ok (.aload_n 0, 1) := by decide +kernel
theorem dX11_court_236 : decode cX11_court 236 = .ok (.iconst 0, 1) := by decide +kernel
theorem dX11_court_237 : decode cX11_court 237 = .ok (.putfield 156, 3) := by decide +kernel
theorem dX11_court_240 : decode cX11_court 240 = .ok (.iconst 0, 1) := by decide +kernel
theorem dX11_court_241 : decode cX11_court 241 = .ok (.istore_n 1, 1) := by decide +kernel
theorem dX11_court_242 : decode cX11_court 242 = .ok (.iload_n 1, 1) := by decide +kernel
theorem dX11_court_243 : decode cX11_court 243 = .ok (.bipush 50, 2) := by decide +kernel
theorem dX11_court_245 : decode cX11_court 245 = .ok (.if_icmp .ge 21, 3) := by decide +kernel
theorem dX11_court_248 : decode cX11_court 248 = .ok (.aload_n 0, 1) := by decide +kernel
theorem dX11_court_249 : decode cX11_court 249 = .ok (.getfield 19, 3) := by decide +kernel
theorem dX11_court_252 : decode cX11_court 252 = .ok (.iload_n 1, 1) := by decide +kernel
theorem dX11_court_253 : decode cX11_court 253 = .ok (.aload_n 0, 1) := by decide +kernel
theorem dX11_court_254 : decode cX11_court 254 = .ok (.getfield 22, 3) := by decide +kernel
theorem dX11_court_257 : decode cX11_court 257 = .ok (.iload_n 1, 1) := by decide +kernel
theorem dX11_court_258 : decode cX11_court 258 = .ok (.iaload, 1) := by decide +kernel
theorem dX11_court_259 : decode cX11_court 259 = .ok (.iastore, 1) := by decide +kernel
theorem dX11_court_260 : decode cX11_court 260 = .ok (.iinc 1 1, 3) := by decide +kernel
theorem dX11_court_263 : decode cX11_court 263 = .ok (.goto (-21), 3) := by decide +kernel
theorem dX11_court_266 : decode cX11_court 266 = .ok (.aload_n 0, 1) := by decide +kernel
theorem dX11_court_267 : decode cX11_court 267 = .ok (.getfield 19, 3) := by decide +kernel
theorem dX11_court_270 : decode cX11_court 270 = .ok (.iconst 4, 1) := by decide +kernel
theorem dX11_court_271 : decode cX11_court 271 = .ok (.iaload, 1) := by decide +kernel
theorem dX11_court_272 : decode cX11_court 272 = .ok (.ireturn, 1) := by decide +kernel
def Sp_X11_court (av : List AV) (m : AM) (Φ : Option AV → AM → Prop) : Prop := av = [vr 11 110] ∧ ∃ T n, TapM m T n ∧ (∀ f pl m2, parP T n = .error (f, pl) → Fm [114, 115] crL m m2 → m2.1 114 = m.1 114 → m2.1 110 8 = m.1 110 8 → m2.1 110 10 = nI 0 → m2.1 110 17 = nI f → Φ (some (vi (-1000100 - nI pl))) m2) ∧ ∀ G m2, parP T n = .ok G → Fm [114, 115] crL m m2 → MC m2 G → m2.1 110 8 = nI 0 → m2.1 110 10 = nI 0 → m2.1 110 17 = m.1 110 17 → Φ (some (vi (nI (G 4)))) m2
set_option maxRecDepth 20000 in
set_option maxHeartbeats 4000000 in
theorem S_X11_court : Snd yX11_court e_X11_court Sp_X11_court := by
  refine Snd.of (by decide +kernel) rfl ?_ ?_
  · rintro av m Φ ⟨rfl, _⟩; exact Nat.le_of_ble_eq_true rfl
  rintro av m Φ ⟨rfl, T, n, hT0, hbad, hgood⟩ hav hty
  show B e_X11_court Φ 0 [some (vr 11 110), none] [] m (0, 0)
  have hn := hT0.2.1
  have hF0 : Fm [115] (0 :: rdL) m (mset m 110 0 (nI 0)) := (Fm.rf _ _ m).m0 (by simp)
  have up : ∀ {M M2 : AM}, Fm [115] (0 :: rdL) m M → Fm [] rdL M M2 → Fm [115] (0 :: rdL) m M2 := fun a b => a.tr (b.mono (fun a z => by cases z) (fun a z => List.mem_cons_of_mem _ z))
  have wd : ∀ {M : AM}, Fm [115] (0 :: rdL) m M → Fm [114, 115] crL m M := fun a => a.mono (fun a z => by simp at z; simp; omega) (fun a z => by simp at z; simp; omega)
  have bk : ∀ {M M2 : AM}, Fm [115] (0 :: rdL) m M → Fm [] [10, 15, 16, 17] M M2 → Fm [114, 115] crL m M2 := fun a b => (wd a).tr (b.mono (fun a z => by cases z) (fun a z => by simp at z; simp; omega))
  have e220 : ∀ M x e y1, RdS M T n x → (∀ p, x = .ok p → p < n ∧ e = (1, p)) → (∀ e2, x = .error e2 → e = e2) → Fm [115] (0 :: rdL) m M → parP T n = .error e → B e_X11_court Φ 220 [some (vr 11 110), some (vi y1)] [] M (0, 0) := by
    intro M x e y1 hRM a1 a2 hF hE
    refine b_aloadN (pc := 220) 0 dX11_court_220 rfl rfl ?_
    refine call_X11_failed (pc := 221) k1220 (by decide) ⟨Nat.le_of_ble_eq_true rfl, Nat.le_of_ble_eq_true rfl⟩ (Nat.le_of_ble_eq_true rfl) dX11_court_221 ?_
    refine ⟨rfl, T, n, x, hRM, fun b221 m221 fm221 t221 r221 => ?_⟩
    refine b_if_eq (pc := 224) 235 dX11_court_224 (by decide) (fun c224 => ?_) (fun c224 => ?_)
    rotate_left -- leaf 0: at 235
    refine b_ldc (pc := 227) k1224 dX11_court_227 ?_
    refine b_aloadN (pc := 229) 0 dX11_court_229 rfl rfl ?_
    refine gf11_16 (pc := 230) k1058 dX11_court_230 ?_
    refine b_isub (pc := 233) dX11_court_233 ?_
    refine b_iret (pc := 234) rfl dX11_court_234 ⟨Nat.le_of_ble_eq_true rfl, Nat.le_of_ble_eq_true rfl⟩ ?_
    rotate_left -- leaf 1: return at 234
    -- leaves: 0 at 235; 1 return at 234
    · rcases r221 with ⟨z, ⟨p, px, pn⟩, l⟩ | ⟨z, e2, q1, q2, pl, l⟩
      · have := (a1 p px).1
        omega
      · rw [z] at c224
        exact absurd c224 (by decide)
    · rcases r221 with ⟨z, ⟨p, px, pn⟩, l⟩ | ⟨z, e2, q1, q2, pl, l⟩
      · exact absurd (by rw [z]; rfl) c224
      · have ee : e2 = e := by
          cases x with
          | ok p => rw [(q1 p rfl).2, (a1 p rfl).2]
          | error e3 => rw [q2 e3 rfl, a2 e3 rfl]
        rw [ee] at pl l
        rw [pl]
        exact hbad e.1 e.2 m221 hE (bk hF fm221) ((fm221.2.1 114 (by decide) (by decide)).trans (hF.2.1 114 (by decide) (by decide))) ((fm221.2.2 8 (by decide)).trans (hF.2.2 8 (by decide))) t221 l
  have s242 : ∀ e M k G, 50 + 1 ≤ k + e → k ≤ 50 → GM M G → (∀ j, j < k → M.1 114 j = nI (G j)) → parP T n = .ok G → Fm [114, 115] crL m M → M.1 110 8 = nI 0 → M.1 110 10 = nI 0 → M.1 110 17 = m.1 110 17 → B e_X11_court Φ 242 [some (vr 11 110), some (vi (nI k))] [] M (0, 0) := by
    intro e
    induction e with
    | zero => intro M k G z1 z2; omega
    | succ e ih =>
      intro M k G z1 z2 hG hC hE hF h8 h10 h17
      by_cases q : k < 50
      · have gk := hG k q
        refine b_iloadN (pc := 242) 1 dX11_court_242 rfl rfl ?_
        refine b_bipush (pc := 243) (nI 50) dX11_court_243 (by decide) ?_
        refine b_icmp_ge (pc := 245) 266 dX11_court_245 (by decide) (fun c245 => ?_) (fun c245 => ?_)
        rotate_left -- leaf 0: at 266
        refine b_aloadN (pc := 248) 0 dX11_court_248 rfl rfl ?_
        refine gf11_5 (pc := 249) 114 rfl k1047 dX11_court_249 ?_
        refine b_iloadN (pc := 252) 1 dX11_court_252 rfl rfl ?_
        refine b_aloadN (pc := 253) 0 dX11_court_253 rfl rfl ?_
        refine gf11_6 (pc := 254) 115 rfl k1048 dX11_court_254 ?_
        refine b_iloadN (pc := 257) 1 dX11_court_257 rfl rfl ?_
        refine b_iald (pc := 258) (by decide) ?_ dX11_court_258 ?_
        rotate_left -- leaf 1: index at 258
        refine b_iast (pc := 259) (by decide) ?_ dX11_court_259 ?_
        rotate_left -- leaf 2: index at 259
        refine inc1 (pc := 260) notL_r (by decide) dX11_court_260 ?_
        refine b_goto (pc := 263) 242 dX11_court_263 (by decide) ?_
        rotate_left -- leaf 3: at 242
        -- leaves: 0 at 266; 1 index at 258; 2 index at 259; 3 at 242
        · rw [n_le (by omega) (by omega)] at c245
          omega
        · exact n_in (by omega) (by omega)
        · exact n_in (by omega) (by omega)
        · rw [n_cl (by omega), gk, n_inc]
          refine ih _ (k + 1) G (by omega) (by omega) (fun j hj => ?_) (fun j hj => ?_) hE (hF.ms (by decide) (by simp)) ?_ ?_ ?_
          · rw [mset_ne _ _ _ (show 115 ≠ 114 by decide)]; exact hG j hj
          · rw [mset_at]
            by_cases z : j = k
            · rw [if_pos z, z]
            · rw [if_neg z]; exact hC j (by omega)
          · rw [mset_ne _ _ _ (show 110 ≠ 114 by decide)]; exact h8
          · rw [mset_ne _ _ _ (show 110 ≠ 114 by decide)]; exact h10
          · rw [mset_ne _ _ _ (show 110 ≠ 114 by decide)]; exact h17
      · have ek : k = 50 := by omega
        refine b_iloadN (pc := 242) 1 dX11_court_242 rfl rfl ?_
        refine b_bipush (pc := 243) (nI 50) dX11_court_243 (by decide) ?_
        refine b_icmp_ge (pc := 245) 266 dX11_court_245 (by decide) (fun c245 => ?_) (fun c245 => ?_)
        refine b_aloadN (pc := 266) 0 dX11_court_266 rfl rfl ?_
        refine gf11_5 (pc := 267) 114 rfl k1047 dX11_court_267 ?_
        refine b_iconst (pc := 270) (nI 4) dX11_court_270 (by decide) ?_
        refine b_iald (pc := 271) (by decide) ?_ dX11_court_271 ?_
        rotate_left -- leaf 0: index at 271
        refine b_iret (pc := 272) rfl dX11_court_272 ⟨Nat.le_of_ble_eq_true rfl, Nat.le_of_ble_eq_true rfl⟩ ?_
        rotate_left -- leaf 1: return at 272
        rotate_left -- leaf 2: at 248
        -- leaves: 0 index at 271; 1 return at 272; 2 at 248
        · exact n_in (by omega) (by omega)
        · rw [n_cl (by omega), hC 4 (by omega)]
          exact hgood G M hE hF (fun j hj => hC j (by omega)) h8 h10 h17
        · rw [n_le (by omega) (by omega)] at c245
          omega
  have o220 : ∀ M p G y1, RdS M T n (.ok p) → n ≤ p → Fm [115] (0 :: rdL) m M → GM M G → parP T n = .ok G → B e_X11_court Φ 220 [some (vr 11 110), some (vi y1)] [] M (0, 0) := by
    intro M p G y1 hRM hpn hF hG hE
    refine b_aloadN (pc := 220) 0 dX11_court_220 rfl rfl ?_
    refine call_X11_failed (pc := 221) k1220 (by decide) ⟨Nat.le_of_ble_eq_true rfl, Nat.le_of_ble_eq_true rfl⟩ (Nat.le_of_ble_eq_true rfl) dX11_court_221 ?_
    refine ⟨rfl, T, n, .ok p, hRM, fun b221 m221 fm221 t221 r221 => ?_⟩
    refine b_if_eq (pc := 224) 235 dX11_court_224 (by decide) (fun c224 => ?_) (fun c224 => ?_)
    refine b_aloadN (pc := 235) 0 dX11_court_235 rfl rfl ?_
    refine b_iconst (pc := 236) (nI 0) dX11_court_236 (by decide) ?_
    refine pf11_8 (pc := 237) k1050 dX11_court_237 ?_
    refine b_iconst (pc := 240) (nI 0) dX11_court_240 (by decide) ?_
    refine siN1 (pc := 241) rfl notL_r (by decide) dX11_court_241 ?_
    rotate_left -- leaf 0: at 242
    rotate_left -- leaf 1: at 227
    -- leaves: 0 at 242; 1 at 227
    · rcases r221 with ⟨z, ⟨p2, px, pn⟩, l⟩ | ⟨z, e2, q1, q2, pl, l⟩
      · refine s242 51 _ 0 G (by omega) (by omega) (fun j hj => ?_) (fun j hj => absurd hj (Nat.not_lt_zero j)) hE ((bk hF fm221).m0 (by simp)) ?_ ?_ ?_
        · rw [mset_ne _ _ _ (show 115 ≠ 110 by decide)]
          exact (hG.fm fm221 (by decide)) j hj
        · rw [ms_e]
        · rw [ms_o (by decide)]; exact t221
        · rw [ms_o (by decide)]; exact l.trans (hF.2.2 17 (by decide))
      · rw [z] at c224
        exact absurd c224 (by decide)
    · rcases r221 with ⟨z, ⟨p2, px, pn⟩, l⟩ | ⟨z, e2, q1, q2, pl, l⟩
      · exact absurd (by rw [z]; rfl) c224
      · have := (q1 p rfl).1
        omega
  have e142 : ∀ M e y1, RdS M T n (.error e) → Fm [115] (0 :: rdL) m M → parP T n = .error e → B e_X11_court Φ 142 [some (vr 11 110), some (vi y1)] [] M (0, 0) := by
    intro M e y1 hRM hF hE
    refine b_aloadN (pc := 142) 0 dX11_court_142 rfl rfl ?_
    refine call_X11_isSort (pc := 143) k1213 (by decide) ⟨Nat.le_of_ble_eq_true rfl, Nat.le_of_ble_eq_true rfl⟩ (Nat.le_of_ble_eq_true rfl) dX11_court_143 ?_
    refine ⟨rfl, T, n, .error e, hT0.fm hF (by decide) (by decide), hRM, ?_⟩
    refine b_if_eq (pc := 146) 220 dX11_court_146 (by decide) (fun c146 => ?_) (fun c146 => ?_)
    rotate_left -- leaf 0: at 220
    rotate_left -- leaf 1: at 149
    -- leaves: 0 at 220; 1 at 149
    · exact e220 M (.error e) e y1 hRM (fun p z => by cases z) (fun e2 z => by cases z; rfl) hF hE
    · exact absurd rfl c146
  have e172 : ∀ M e y1, RdS M T n (.error e) → Fm [115] (0 :: rdL) m M → parP T n = .error e → B e_X11_court Φ 172 [some (vr 11 110), some (vi y1)] [] M (0, 0) := by
    intro M e y1 hRM hF hE
    have h1 := hRM.1
    refine b_aloadN (pc := 172) 0 dX11_court_172 rfl rfl ?_
    refine b_iconst (pc := 173) (nI 1) dX11_court_173 (by decide) ?_
    refine call_X11_must (pc := 174) k1189 (by decide) ⟨Nat.le_of_ble_eq_true rfl, Nat.le_of_ble_eq_true rfl⟩ (Nat.le_of_ble_eq_true rfl) dX11_court_174 ?_
    refine ⟨_, rfl, T, n, .error e, true, hT0.fm hF (by decide) (by decide), hRM, rfl, fun m174 fm174 rd174 => ?_⟩
    refine b_aloadN (pc := 177) 0 dX11_court_177 rfl rfl ?_
    refine b_bipush (pc := 178) (nI 59) dX11_court_178 (by decide) ?_
    refine call_X11_mustSign (pc := 180) k1201 (by decide) ⟨Nat.le_of_ble_eq_true rfl, Nat.le_of_ble_eq_true rfl⟩ (Nat.le_of_ble_eq_true rfl) dX11_court_180 ?_
    refine ⟨_, rfl, T, n, .error e, 59, hT0.fm (up hF fm174) (by decide) (by decide), rd174, rfl, by decide, fun m180 fm180 rd180 => ?_⟩
    refine b_aloadN (pc := 183) 0 dX11_court_183 rfl rfl ?_
    refine gf11_15 (pc := 184) k1057 dX11_court_184 ?_
    refine b_if_ne (pc := 187) 217 dX11_court_187 (by decide) (fun c187 => ?_) (fun c187 => ?_)
    refine b_goto (pc := 217) 142 dX11_court_217 (by decide) ?_
    rotate_left -- leaf 0: at 142
    rotate_left -- leaf 1: at 190
    -- leaves: 0 at 142; 1 at 190
    · exact e142 m180 e _ rd180 (up (up hF fm174) fm180) hE
    · have r2 : m180.1 110 15 = nI e.1 := rd180.2.1
      rw [r2, n_eq0 (by omega)] at c187
      omega
  have e183 : ∀ M e y1, RdS M T n (.error e) → Fm [115] (0 :: rdL) m M → parP T n = .error e → B e_X11_court Φ 183 [some (vr 11 110), some (vi y1)] [] M (0, 0) := by
    intro M e y1 hRM hF hE
    have h1 := hRM.1
    refine b_aloadN (pc := 183) 0 dX11_court_183 rfl rfl ?_
    refine gf11_15 (pc := 184) k1057 dX11_court_184 ?_
    refine b_if_ne (pc := 187) 217 dX11_court_187 (by decide) (fun c187 => ?_) (fun c187 => ?_)
    refine b_goto (pc := 217) 142 dX11_court_217 (by decide) ?_
    rotate_left -- leaf 0: at 142
    rotate_left -- leaf 1: at 190
    -- leaves: 0 at 142; 1 at 190
    · exact e142 M e _ hRM hF hE
    · rw [hRM.2.1, n_eq0 (by omega)] at c187
      omega
  have o142 : ∀ e M p G y1, e + G 4 = 5 → RdS M T n (.ok p) → Fm [115] (0 :: rdL) m M → GM M G → PV G → parP T n = (if n ≤ p then .ok G else peopP T n e G p) → B e_X11_court Φ 142 [some (vr 11 110), some (vi y1)] [] M (0, 0) := by
    intro e
    induction e with
    | zero =>
      intro M p G y1 z1 hRM hF hG hp hE
      have u : peopP T n 0 G p = .error (if kindL (symO T n p) = 0 then 1 else 3, p) := rfl
      rw [u] at hE
      have g4 := hG 4 (by omega)
      by_cases hk : kindL (symO T n p) = 0
      · have is0 : isS T n (.ok p) = false := decide_eq_false (fun z => z hk)
        rw [if_pos hk] at hE
        refine b_aloadN (pc := 142) 0 dX11_court_142 rfl rfl ?_
        refine call_X11_isSort (pc := 143) k1213 (by decide) ⟨Nat.le_of_ble_eq_true rfl, Nat.le_of_ble_eq_true rfl⟩ (Nat.le_of_ble_eq_true rfl) dX11_court_143 ?_
        refine ⟨rfl, T, n, .ok p, hT0.fm hF (by decide) (by decide), hRM, ?_⟩
        refine b_if_eq (pc := 146) 220 dX11_court_146 (by decide) (fun c146 => ?_) (fun c146 => ?_)
        rotate_left -- leaf 0: at 220
        rotate_left -- leaf 1: at 149
        -- leaves: 0 at 220; 1 at 149
        · by_cases hpn : n ≤ p
          · exact o220 M p G y1 hRM hpn hF hG (by rw [hE, if_pos hpn])
          · exact e220 M (.ok p) (1, p) y1 hRM (fun p2 z => by cases z; exact ⟨by omega, rfl⟩) (fun e2 z => by cases z) hF (by rw [hE, if_neg hpn])
        · rw [is0] at c146
          exact absurd rfl c146
      · have is1 : isS T n (.ok p) = true := decide_eq_true hk
        obtain ⟨w, hw⟩ : ∃ w, symO T n p = some w := by
          cases z : symO T n p with
          | none => rw [z] at hk; exact absurd rfl hk
          | some w => exact ⟨w, rfl⟩
        have hwl := sym_lt hw
        have hpn : ¬ n ≤ p := fun z => by
          unfold symO at hw
          rw [if_neg (fun y => by have := y.1; omega)] at hw
          cases hw
        rw [if_neg hpn, if_neg hk] at hE
        refine b_aloadN (pc := 142) 0 dX11_court_142 rfl rfl ?_
        refine call_X11_isSort (pc := 143) k1213 (by decide) ⟨Nat.le_of_ble_eq_true rfl, Nat.le_of_ble_eq_true rfl⟩ (Nat.le_of_ble_eq_true rfl) dX11_court_143 ?_
        refine ⟨rfl, T, n, .ok p, hT0.fm hF (by decide) (by decide), hRM, ?_⟩
        refine b_if_eq (pc := 146) 220 dX11_court_146 (by decide) (fun c146 => ?_) (fun c146 => ?_)
        rotate_left -- leaf 0: at 220
        refine b_aloadN (pc := 149) 0 dX11_court_149 rfl rfl ?_
        refine gf11_14 (pc := 150) k1056 dX11_court_150 ?_
        refine call_X11_kindBy (pc := 153) k1217 (by decide) ⟨Nat.le_of_ble_eq_true rfl, Nat.le_of_ble_eq_true rfl⟩ (Nat.le_of_ble_eq_true rfl) dX11_court_153 ?_
        refine ⟨_, rfl, w, hRM.2.2.2.2.2.1 _ hw, by omega, ?_⟩
        refine siN1 (pc := 156) rfl notL_r (by decide) dX11_court_156 ?_
        refine b_aloadN (pc := 157) 0 dX11_court_157 rfl rfl ?_
        refine gf11_6 (pc := 158) 115 rfl k1048 dX11_court_158 ?_
        refine b_iconst (pc := 161) (nI 4) dX11_court_161 (by decide) ?_
        refine b_iald (pc := 162) (by decide) ?_ dX11_court_162 ?_
        rotate_left -- leaf 1: index at 162
        refine b_iconst (pc := 163) (nI 5) dX11_court_163 (by decide) ?_
        refine b_icmp_ne (pc := 164) 172 dX11_court_164 (by decide) (fun c164 => ?_) (fun c164 => ?_)
        rotate_left -- leaf 2: at 172
        refine b_aloadN (pc := 167) 0 dX11_court_167 rfl rfl ?_
        refine b_iconst (pc := 168) (nI 3) dX11_court_168 (by decide) ?_
        refine call_X11_bad (pc := 169) k1193 (by decide) ⟨Nat.le_of_ble_eq_true rfl, Nat.le_of_ble_eq_true rfl⟩ (Nat.le_of_ble_eq_true rfl) dX11_court_169 ?_
        refine ⟨_, rfl, T, n, .ok p, 3, hRM, rfl, by decide, fun m169 fm169 rd169 => ?_⟩
        rotate_left -- leaf 3: at 172
        -- leaves: 0 at 220; 1 index at 162; 2 at 172; 3 at 172
        · rw [is1] at c146
          exact absurd c146 (by decide)
        · exact n_in (by omega) (by omega)
        · rw [n_cl (by omega), g4, n_eq (by omega) (by omega)] at c164
          omega
        · exact e172 m169 (3, p) _ rd169 (up hF (fm169.mono (fun a z => z) (fun a z => by simp at z; simp; omega))) hE
    | succ e ih =>
      intro M p G y1 z1 hRM hF hG hp hE
      have u : peopP T n (e + 1) G p = if kindL (symO T n p) = 0 then .error (1, p) else bnd (tknS T n 59 (bhdN T n p)) fun r => if n ≤ r then .ok (addQ G (kindL (symO T n p))) else peopP T n e (addQ G (kindL (symO T n p))) r := rfl
      rw [u] at hE
      have g4 := hG 4 (by omega)
      have kl := kindL_le (symO T n p)
      by_cases hk : kindL (symO T n p) = 0
      · have is0 : isS T n (.ok p) = false := decide_eq_false (fun z => z hk)
        rw [if_pos hk] at hE
        refine b_aloadN (pc := 142) 0 dX11_court_142 rfl rfl ?_
        refine call_X11_isSort (pc := 143) k1213 (by decide) ⟨Nat.le_of_ble_eq_true rfl, Nat.le_of_ble_eq_true rfl⟩ (Nat.le_of_ble_eq_true rfl) dX11_court_143 ?_
        refine ⟨rfl, T, n, .ok p, hT0.fm hF (by decide) (by decide), hRM, ?_⟩
        refine b_if_eq (pc := 146) 220 dX11_court_146 (by decide) (fun c146 => ?_) (fun c146 => ?_)
        rotate_left -- leaf 0: at 220
        rotate_left -- leaf 1: at 149
        -- leaves: 0 at 220; 1 at 149
        · by_cases hpn : n ≤ p
          · exact o220 M p G y1 hRM hpn hF hG (by rw [hE, if_pos hpn])
          · exact e220 M (.ok p) (1, p) y1 hRM (fun p2 z => by cases z; exact ⟨by omega, rfl⟩) (fun e2 z => by cases z) hF (by rw [hE, if_neg hpn])
        · rw [is0] at c146
          exact absurd rfl c146
      · have is1 : isS T n (.ok p) = true := decide_eq_true hk
        obtain ⟨w, hw⟩ : ∃ w, symO T n p = some w := by
          cases z : symO T n p with
          | none => rw [z] at hk; exact absurd rfl hk
          | some w => exact ⟨w, rfl⟩
        have hwl := sym_lt hw
        have hpn : ¬ n ≤ p := fun z => by
          unfold symO at hw
          rw [if_neg (fun y => by have := y.1; omega)] at hw
          cases hw
        rw [if_neg hpn, if_neg hk] at hE
        have hpQ := hp.per (show G 4 < 5 by omega) (show 1 ≤ kindL (symO T n p) ∧ kindL (symO T n p) ≤ 5 from ⟨by omega, kl⟩)
        have s183 : ∀ M r, RdS M T n (.ok r) → Fm [115] (0 :: rdL) m M → GM M G → tknS T n 59 (bhdN T n p) = .ok r → B e_X11_court Φ 183 [some (vr 11 110), some (vi (nI (kindL (symO T n p))))] [] M (0, 0) := by
          intro M r hRM hF hG e1
          have g4 := hG 4 (by omega)
          have e40 : (nI 40 + nI 2 * M.1 115 (nI 4).toNatClampNeg).toNatClampNeg = 40 + 2 * G 4 := by rw [n_cl (by omega), g4, n_mul, n_add, n_cl (by omega)]
          have e4 : (mset M 115 (40 + 2 * G 4) (nI (kindL (symO T n p)))).1 115 4 + nI 1 = nI (G 4 + 1) := by
            rw [ms_o (by omega), g4, n_add]
          have gm := (hG.up (k := 40 + 2 * G 4) (v := kindL (symO T n p))).up (k := 4) (v := G 4 + 1)
          refine b_aloadN (pc := 183) 0 dX11_court_183 rfl rfl ?_
          refine gf11_15 (pc := 184) k1057 dX11_court_184 ?_
          refine b_if_ne (pc := 187) 217 dX11_court_187 (by decide) (fun c187 => ?_) (fun c187 => ?_)
          refine b_goto (pc := 217) 142 dX11_court_217 (by decide) ?_
          rotate_left -- leaf 0: at 142
          refine b_aloadN (pc := 190) 0 dX11_court_190 rfl rfl ?_
          refine gf11_6 (pc := 191) 115 rfl k1048 dX11_court_191 ?_
          refine b_bipush (pc := 194) (nI 40) dX11_court_194 (by decide) ?_
          refine b_iconst (pc := 196) (nI 2) dX11_court_196 (by decide) ?_
          refine b_aloadN (pc := 197) 0 dX11_court_197 rfl rfl ?_
          refine gf11_6 (pc := 198) 115 rfl k1048 dX11_court_198 ?_
          refine b_iconst (pc := 201) (nI 4) dX11_court_201 (by decide) ?_
          refine b_iald (pc := 202) (by decide) ?_ dX11_court_202 ?_
          rotate_left -- leaf 1: index at 202
          refine b_imul (pc := 203) dX11_court_203 ?_
          refine b_iadd (pc := 204) dX11_court_204 ?_
          refine b_iloadN (pc := 205) 1 dX11_court_205 rfl rfl ?_
          refine b_iast (pc := 206) (by decide) ?_ dX11_court_206 ?_
          rotate_left -- leaf 2: index at 206
          refine b_aloadN (pc := 207) 0 dX11_court_207 rfl rfl ?_
          refine gf11_6 (pc := 208) 115 rfl k1048 dX11_court_208 ?_
          refine b_iconst (pc := 211) (nI 4) dX11_court_211 (by decide) ?_
          refine b_dup2 (pc := 212) dX11_court_212 ?_
          refine b_iald (pc := 213) (by decide) ?_ dX11_court_213 ?_
          rotate_left -- leaf 3: index at 213
          refine b_iconst (pc := 214) (nI 1) dX11_court_214 (by decide) ?_
          refine b_iadd (pc := 215) dX11_court_215 ?_
          refine b_iast (pc := 216) (by decide) ?_ dX11_court_216 ?_
          rotate_left -- leaf 4: index at 216
          refine b_goto (pc := 217) 142 dX11_court_217 (by decide) ?_
          rotate_left -- leaf 5: at 142
          -- leaves: 0 at 142; 1 index at 202; 2 index at 206; 3 index at 213; 4 index at 216; 5 at 142
          · exact absurd hRM.2.1 c187
          · exact n_in (by omega) (by omega)
          · rw [n_cl (by omega), g4, n_mul, n_add]; exact n_in (by omega) (by omega)
          · exact n_in (by omega) (by omega)
          · exact n_in (by omega) (by omega)
          · rw [e40, n_cl (by omega), e4]
            refine ih _ r (addQ G (kindL (symO T n p))) _ (by rw [addQ_at, if_pos rfl]; omega) ?_ ((hF.ms (by decide) (by simp)).ms (by decide) (by simp)) gm hpQ (by rw [hE, e1]; rfl)
            exact hRM.fm (li := [115]) (ls := []) (((Fm.rf [115] [] M).ms (by decide) (by simp)).ms (by decide) (by simp)) (fun k z => by cases z)
        have s157 : B e_X11_court Φ 157 [some (vr 11 110), some (vi (nI (kindL (symO T n p))))] [] M (0, 0) := by
          refine b_aloadN (pc := 157) 0 dX11_court_157 rfl rfl ?_
          refine gf11_6 (pc := 158) 115 rfl k1048 dX11_court_158 ?_
          refine b_iconst (pc := 161) (nI 4) dX11_court_161 (by decide) ?_
          refine b_iald (pc := 162) (by decide) ?_ dX11_court_162 ?_
          rotate_left -- leaf 0: index at 162
          refine b_iconst (pc := 163) (nI 5) dX11_court_163 (by decide) ?_
          refine b_icmp_ne (pc := 164) 172 dX11_court_164 (by decide) (fun c164 => ?_) (fun c164 => ?_)
          refine b_aloadN (pc := 172) 0 dX11_court_172 rfl rfl ?_
          refine b_iconst (pc := 173) (nI 1) dX11_court_173 (by decide) ?_
          refine call_X11_must (pc := 174) k1189 (by decide) ⟨Nat.le_of_ble_eq_true rfl, Nat.le_of_ble_eq_true rfl⟩ (Nat.le_of_ble_eq_true rfl) dX11_court_174 ?_
          refine ⟨_, rfl, T, n, .ok p, true, hT0.fm hF (by decide) (by decide), hRM, rfl, fun m174 fm174 rd174 => ?_⟩
          refine b_aloadN (pc := 177) 0 dX11_court_177 rfl rfl ?_
          refine b_bipush (pc := 178) (nI 59) dX11_court_178 (by decide) ?_
          refine call_X11_mustSign (pc := 180) k1201 (by decide) ⟨Nat.le_of_ble_eq_true rfl, Nat.le_of_ble_eq_true rfl⟩ (Nat.le_of_ble_eq_true rfl) dX11_court_180 ?_
          refine ⟨_, rfl, T, n, .ok (bhdN T n p), 59, hT0.fm (up hF fm174) (by decide) (by decide), rd174, rfl, by decide, fun m180 fm180 rd180 => ?_⟩
          rotate_left -- leaf 1: at 183
          rotate_left -- leaf 2: at 167
          -- leaves: 0 index at 162; 1 at 183; 2 at 167
          · exact n_in (by omega) (by omega)
          · have rd : RdS m180 T n (tknS T n 59 (bhdN T n p)) := rd180
            cases e1 : tknS T n 59 (bhdN T n p) with
            | ok r =>
              rw [e1] at rd
              exact s183 m180 r rd (up (up hF fm174) fm180) ((hG.fm fm174 (by decide)).fm fm180 (by decide)) e1
            | error e2 =>
              rw [e1] at rd hE
              exact e183 m180 e2 _ rd (up (up hF fm174) fm180) hE
          · rw [n_cl (by omega), g4, n_eq (by omega) (by omega)] at c164
            omega
        refine b_aloadN (pc := 142) 0 dX11_court_142 rfl rfl ?_
        refine call_X11_isSort (pc := 143) k1213 (by decide) ⟨Nat.le_of_ble_eq_true rfl, Nat.le_of_ble_eq_true rfl⟩ (Nat.le_of_ble_eq_true rfl) dX11_court_143 ?_
        refine ⟨rfl, T, n, .ok p, hT0.fm hF (by decide) (by decide), hRM, ?_⟩
        refine b_if_eq (pc := 146) 220 dX11_court_146 (by decide) (fun c146 => ?_) (fun c146 => ?_)
        rotate_left -- leaf 0: at 220
        refine b_aloadN (pc := 149) 0 dX11_court_149 rfl rfl ?_
        refine gf11_14 (pc := 150) k1056 dX11_court_150 ?_
        refine call_X11_kindBy (pc := 153) k1217 (by decide) ⟨Nat.le_of_ble_eq_true rfl, Nat.le_of_ble_eq_true rfl⟩ (Nat.le_of_ble_eq_true rfl) dX11_court_153 ?_
        refine ⟨_, rfl, w, hRM.2.2.2.2.2.1 _ hw, by omega, ?_⟩
        refine siN1 (pc := 156) rfl notL_r (by decide) dX11_court_156 ?_
        rotate_left -- leaf 1: at 157
        -- leaves: 0 at 220; 1 at 157
        · rw [is1] at c146
          exact absurd c146 (by decide)
        · rw [← hw, if_neg hk]
          exact s157
  have e105 : ∀ M e y1, RdS M T n (.error e) → Fm [115] (0 :: rdL) m M → parP T n = .error e → B e_X11_court Φ 105 [some (vr 11 110), some (vi y1)] [] M (0, 0) := by
    intro M e y1 hRM hF hE
    refine b_aloadN (pc := 105) 0 dX11_court_105 rfl rfl ?_
    refine b_bipush (pc := 106) (nI 109) dX11_court_106 (by decide) ?_
    refine call_X11_isLetter (pc := 108) k1185 (by decide) ⟨Nat.le_of_ble_eq_true rfl, Nat.le_of_ble_eq_true rfl⟩ (Nat.le_of_ble_eq_true rfl) dX11_court_108 ?_
    refine ⟨_, rfl, T, n, .error e, _, hRM, rfl, by decide, ?_⟩
    refine b_if_ne (pc := 111) 123 dX11_court_111 (by decide) (fun c111 => ?_) (fun c111 => ?_)
    rotate_left -- leaf 0: at 123
    refine b_aloadN (pc := 114) 0 dX11_court_114 rfl rfl ?_
    refine b_bipush (pc := 115) (nI 120) dX11_court_115 (by decide) ?_
    refine call_X11_isLetter (pc := 117) k1185 (by decide) ⟨Nat.le_of_ble_eq_true rfl, Nat.le_of_ble_eq_true rfl⟩ (Nat.le_of_ble_eq_true rfl) dX11_court_117 ?_
    refine ⟨_, rfl, T, n, .error e, _, hRM, rfl, by decide, ?_⟩
    refine b_if_eq (pc := 120) 130 dX11_court_120 (by decide) (fun c120 => ?_) (fun c120 => ?_)
    refine b_aloadN (pc := 130) 0 dX11_court_130 rfl rfl ?_
    refine call_X11_isSort (pc := 131) k1213 (by decide) ⟨Nat.le_of_ble_eq_true rfl, Nat.le_of_ble_eq_true rfl⟩ (Nat.le_of_ble_eq_true rfl) dX11_court_131 ?_
    refine ⟨rfl, T, n, .error e, hT0.fm hF (by decide) (by decide), hRM, ?_⟩
    refine b_if_ne (pc := 134) 142 dX11_court_134 (by decide) (fun c134 => ?_) (fun c134 => ?_)
    rotate_left -- leaf 1: at 142
    refine b_aloadN (pc := 137) 0 dX11_court_137 rfl rfl ?_
    refine b_iconst (pc := 138) (nI 1) dX11_court_138 (by decide) ?_
    refine call_X11_bad (pc := 139) k1193 (by decide) ⟨Nat.le_of_ble_eq_true rfl, Nat.le_of_ble_eq_true rfl⟩ (Nat.le_of_ble_eq_true rfl) dX11_court_139 ?_
    refine ⟨_, rfl, T, n, .error e, 1, hRM, rfl, by decide, fun m139 fm139 rd139 => ?_⟩
    rotate_left -- leaf 2: at 142
    rotate_left -- leaf 3: at 123
    -- leaves: 0 at 123; 1 at 142; 2 at 142; 3 at 123
    · exact absurd rfl c111
    · exact absurd rfl c134
    · exact e142 m139 e _ rd139 (up hF (fm139.mono (fun a z => z) (fun a z => by simp at z; simp; omega))) hE
    · exact absurd rfl c120
  have o130 : ∀ M p G y1, RdS M T n (.ok p) → Fm [115] (0 :: rdL) m M → GM M G → PV G → G 4 = 0 → parP T n = peopP T n 5 G p → B e_X11_court Φ 130 [some (vr 11 110), some (vi y1)] [] M (0, 0) := by
    intro M p G y1 hRM hF hG hp h4 hE
    refine b_aloadN (pc := 130) 0 dX11_court_130 rfl rfl ?_
    refine call_X11_isSort (pc := 131) k1213 (by decide) ⟨Nat.le_of_ble_eq_true rfl, Nat.le_of_ble_eq_true rfl⟩ (Nat.le_of_ble_eq_true rfl) dX11_court_131 ?_
    refine ⟨rfl, T, n, .ok p, hT0.fm hF (by decide) (by decide), hRM, ?_⟩
    refine b_if_ne (pc := 134) 142 dX11_court_134 (by decide) (fun c134 => ?_) (fun c134 => ?_)
    rotate_left -- leaf 0: at 142
    refine b_aloadN (pc := 137) 0 dX11_court_137 rfl rfl ?_
    refine b_iconst (pc := 138) (nI 1) dX11_court_138 (by decide) ?_
    refine call_X11_bad (pc := 139) k1193 (by decide) ⟨Nat.le_of_ble_eq_true rfl, Nat.le_of_ble_eq_true rfl⟩ (Nat.le_of_ble_eq_true rfl) dX11_court_139 ?_
    refine ⟨_, rfl, T, n, .ok p, 1, hRM, rfl, by decide, fun m139 fm139 rd139 => ?_⟩
    rotate_left -- leaf 1: at 142
    -- leaves: 0 at 142; 1 at 142
    · have hk : ¬ kindL (symO T n p) = 0 := of_decide_eq_true (bT c134)
      have hpn : ¬ n ≤ p := fun z => by
        have hs : symO T n p = none := if_neg (fun y => by have := y.1; omega)
        rw [hs] at hk
        exact hk rfl
      exact o142 5 M p G y1 (by omega) hRM hF hG hp (by rw [hE, if_neg hpn])
    · have hk : kindL (symO T n p) = 0 := Decidable.not_not.mp (of_decide_eq_false (bF c134))
      refine e142 m139 (1, p) _ rd139 (up hF (fm139.mono (fun a z => z) (fun a z => by simp at z; simp; omega))) ?_
      rw [hE]
      show (if kindL (symO T n p) = 0 then Except.error (1, p) else _) = _
      rw [if_pos hk]
  have o105 : ∀ e M p G y1, e + G 3 = 9 → RdS M T n (.ok p) → Fm [115] (0 :: rdL) m M → GM M G → PV G → G 4 = 0 → parP T n = bnd (rulesP T n e G p) (fun y => peopP T n 5 y.1 y.2) → B e_X11_court Φ 105 [some (vr 11 110), some (vi y1)] [] M (0, 0) := by
    intro e
    induction e with
    | zero =>
      intro M p G y1 z1 hRM hF hG hp h4 hE
      have := hp.2.2.2.1
      omega
    | succ e ih =>
      intro M p G y1 z1 hRM hF hG hp h4 hE
      have back : ∀ M2 s, s ≤ 1 → symO T n p = some (if s = 0 then 109 else 120) → Fm [115] rdL M M2 → ((∃ a b q, rrP T n G s p = .ok (addR G s a b, q) ∧ RdS M2 T n (.ok q) ∧ G 3 < 8 ∧ a < G 0 ∧ b < G 0 ∧ GM M2 (addR G s a b)) ∨ ∃ e, rrP T n G s p = .error e ∧ RdS M2 T n (.error e)) → B e_X11_court Φ 105 [some (vr 11 110), some (vi y1)] [] M2 (0, 0) := by
        intro M2 s hs1 hsy hF2 hr
        have hF3 : Fm [115] (0 :: rdL) m M2 := hF.tr (hF2.mono (fun a z => z) (fun a z => List.mem_cons_of_mem _ z))
        have u : rulesP T n (e + 1) G p = bnd (rrP T n G s p) (fun x => rulesP T n e x.1 x.2) := by
          show (if symO T n p = some 109 ∨ symO T n p = some 120 then (if G 3 = 8 then Except.error (3, p) else bnd (ruleP T n G (if symO T n p = some 109 then 0 else 1) (bhdN T n p)) fun x => rulesP T n e x.1 x.2) else _) = _
          unfold rrP
          by_cases s0 : s = 0
          · rw [if_pos s0] at hsy
            rw [if_pos (Or.inl hsy), if_pos hsy, s0]
            by_cases g8 : G 3 = 8
            · rw [if_pos g8, if_pos g8]
              rfl
            · rw [if_neg g8, if_neg g8]
          · rw [if_neg s0] at hsy
            have s1 : s = 1 := by omega
            rw [if_pos (Or.inr hsy), if_neg (show ¬ symO T n p = some 109 from fun z => by rw [hsy] at z; cases z), s1]
            by_cases g8 : G 3 = 8
            · rw [if_pos g8, if_pos g8]
              rfl
            · rw [if_neg g8, if_neg g8]
        rw [u] at hE
        rcases hr with ⟨a, b, q, e1, hq, h3, ha, hb, hG2⟩ | ⟨e2, e1, hq⟩
        · rw [e1] at hE
          exact ih M2 q (addR G s a b) y1 (by rw [addR_at, if_pos rfl]; omega) hq hF3 hG2 (hp.rul h3 hs1 ha hb) (by rw [addR_at, if_neg (by omega), if_neg (by omega), if_neg (by omega), if_neg (by omega)]; exact h4) hE
        · rw [e1] at hE
          exact e105 M2 e2 y1 hq hF3 hE
      by_cases q9 : symO T n p = some 109
      · have l9 : isL T n 109 (.ok p) = true := decide_eq_true q9
        refine b_aloadN (pc := 105) 0 dX11_court_105 rfl rfl ?_
        refine b_bipush (pc := 106) (nI 109) dX11_court_106 (by decide) ?_
        refine call_X11_isLetter (pc := 108) k1185 (by decide) ⟨Nat.le_of_ble_eq_true rfl, Nat.le_of_ble_eq_true rfl⟩ (Nat.le_of_ble_eq_true rfl) dX11_court_108 ?_
        refine ⟨_, rfl, T, n, .ok p, _, hRM, rfl, by decide, ?_⟩
        refine b_if_ne (pc := 111) 123 dX11_court_111 (by decide) (fun c111 => ?_) (fun c111 => ?_)
        refine b_aloadN (pc := 123) 0 dX11_court_123 rfl rfl ?_
        refine call_X11_readRule (pc := 124) k1205 (by decide) ⟨Nat.le_of_ble_eq_true rfl, Nat.le_of_ble_eq_true rfl⟩ (Nat.le_of_ble_eq_true rfl) dX11_court_124 ?_
        refine ⟨rfl, T, n, p, G, 0, hT0.fm hF (by decide) (by decide), hRM, q9, by decide, hp, hG, fun m124 fm124 r124 => ?_⟩
        refine b_goto (pc := 127) 105 dX11_court_127 (by decide) ?_
        rotate_left -- leaf 0: at 105
        rotate_left -- leaf 1: at 114
        -- leaves: 0 at 105; 1 at 114
        · exact back m124 0 (by decide) q9 fm124 r124
        · rw [l9] at c111
          exact absurd c111 (by decide)
      · have l9 : isL T n 109 (.ok p) = false := decide_eq_false q9
        by_cases q20 : symO T n p = some 120
        · have l20 : isL T n 120 (.ok p) = true := decide_eq_true q20
          refine b_aloadN (pc := 105) 0 dX11_court_105 rfl rfl ?_
          refine b_bipush (pc := 106) (nI 109) dX11_court_106 (by decide) ?_
          refine call_X11_isLetter (pc := 108) k1185 (by decide) ⟨Nat.le_of_ble_eq_true rfl, Nat.le_of_ble_eq_true rfl⟩ (Nat.le_of_ble_eq_true rfl) dX11_court_108 ?_
          refine ⟨_, rfl, T, n, .ok p, _, hRM, rfl, by decide, ?_⟩
          refine b_if_ne (pc := 111) 123 dX11_court_111 (by decide) (fun c111 => ?_) (fun c111 => ?_)
          refine b_aloadN (pc := 123) 0 dX11_court_123 rfl rfl ?_
          refine call_X11_readRule (pc := 124) k1205 (by decide) ⟨Nat.le_of_ble_eq_true rfl, Nat.le_of_ble_eq_true rfl⟩ (Nat.le_of_ble_eq_true rfl) dX11_court_124 ?_
          refine ⟨rfl, T, n, p, G, 1, hT0.fm hF (by decide) (by decide), hRM, q20, by decide, hp, hG, fun m124 fm124 r124 => ?_⟩
          refine b_goto (pc := 127) 105 dX11_court_127 (by decide) ?_
          rotate_left -- leaf 0: at 105
          refine b_aloadN (pc := 114) 0 dX11_court_114 rfl rfl ?_
          refine b_bipush (pc := 115) (nI 120) dX11_court_115 (by decide) ?_
          refine call_X11_isLetter (pc := 117) k1185 (by decide) ⟨Nat.le_of_ble_eq_true rfl, Nat.le_of_ble_eq_true rfl⟩ (Nat.le_of_ble_eq_true rfl) dX11_court_117 ?_
          refine ⟨_, rfl, T, n, .ok p, _, hRM, rfl, by decide, ?_⟩
          refine b_if_eq (pc := 120) 130 dX11_court_120 (by decide) (fun c120 => ?_) (fun c120 => ?_)
          rotate_left -- leaf 1: at 130
          refine b_aloadN (pc := 123) 0 dX11_court_123 rfl rfl ?_
          refine call_X11_readRule (pc := 124) k1205 (by decide) ⟨Nat.le_of_ble_eq_true rfl, Nat.le_of_ble_eq_true rfl⟩ (Nat.le_of_ble_eq_true rfl) dX11_court_124 ?_
          refine ⟨rfl, T, n, p, G, 1, hT0.fm hF (by decide) (by decide), hRM, q20, by decide, hp, hG, fun m124 fm124 r124 => ?_⟩
          refine b_goto (pc := 127) 105 dX11_court_127 (by decide) ?_
          rotate_left -- leaf 2: at 105
          -- leaves: 0 at 105; 1 at 130; 2 at 105
          · rw [l9] at c111
            exact absurd rfl c111
          · rw [l20] at c120
            exact absurd c120 (by decide)
          · exact back m124 1 (by decide) q20 fm124 r124
        · have l20 : isL T n 120 (.ok p) = false := decide_eq_false q20
          refine b_aloadN (pc := 105) 0 dX11_court_105 rfl rfl ?_
          refine b_bipush (pc := 106) (nI 109) dX11_court_106 (by decide) ?_
          refine call_X11_isLetter (pc := 108) k1185 (by decide) ⟨Nat.le_of_ble_eq_true rfl, Nat.le_of_ble_eq_true rfl⟩ (Nat.le_of_ble_eq_true rfl) dX11_court_108 ?_
          refine ⟨_, rfl, T, n, .ok p, _, hRM, rfl, by decide, ?_⟩
          refine b_if_ne (pc := 111) 123 dX11_court_111 (by decide) (fun c111 => ?_) (fun c111 => ?_)
          rotate_left -- leaf 0: at 123
          refine b_aloadN (pc := 114) 0 dX11_court_114 rfl rfl ?_
          refine b_bipush (pc := 115) (nI 120) dX11_court_115 (by decide) ?_
          refine call_X11_isLetter (pc := 117) k1185 (by decide) ⟨Nat.le_of_ble_eq_true rfl, Nat.le_of_ble_eq_true rfl⟩ (Nat.le_of_ble_eq_true rfl) dX11_court_117 ?_
          refine ⟨_, rfl, T, n, .ok p, _, hRM, rfl, by decide, ?_⟩
          refine b_if_eq (pc := 120) 130 dX11_court_120 (by decide) (fun c120 => ?_) (fun c120 => ?_)
          rotate_left -- leaf 1: at 130
          rotate_left -- leaf 2: at 123
          -- leaves: 0 at 123; 1 at 130; 2 at 123
          · rw [l9] at c111
            exact absurd rfl c111
          · refine o130 M p G y1 hRM hF hG hp h4 ?_
            rw [hE]
            show bnd (if symO T n p = some 109 ∨ symO T n p = some 120 then _ else Except.ok (G, p)) _ = _
            rw [if_neg (fun z => by rcases z with z | z; exact q9 z; exact q20 z)]
            rfl
          · rw [l20] at c120
            exact absurd rfl c120
  have ms0 : ∀ {M : AM} {x j v}, RdS M T n x → RdS (mset M 115 j v) T n x := fun {M x j v} hRM => hRM.fm (li := [115]) (ls := []) ((Fm.rf [115] [] M).ms (by decide) (by simp)) (fun k z => by cases z)
  have e99 : ∀ M e y1, RdS M T n (.error e) → Fm [115] (0 :: rdL) m M → parP T n = .error e → B e_X11_court Φ 99 [some (vr 11 110), some (vi y1)] [] M (0, 0) := by
    intro M e y1 hRM hF hE
    refine b_aloadN (pc := 99) 0 dX11_court_99 rfl rfl ?_
    refine b_bipush (pc := 100) (nI 59) dX11_court_100 (by decide) ?_
    refine call_X11_mustSign (pc := 102) k1201 (by decide) ⟨Nat.le_of_ble_eq_true rfl, Nat.le_of_ble_eq_true rfl⟩ (Nat.le_of_ble_eq_true rfl) dX11_court_102 ?_
    refine ⟨_, rfl, T, n, .error e, 59, hT0.fm hF (by decide) (by decide), hRM, rfl, by decide, fun m102 fm102 rd102 => ?_⟩
    rotate_left -- leaf 0: at 105
    -- leaves: 0 at 105
    exact e105 m102 e _ rd102 (up hF fm102) hE
  have e80 : ∀ M e y1, RdS M T n (.error e) → Fm [115] (0 :: rdL) m M → parP T n = .error e → B e_X11_court Φ 80 [some (vr 11 110), some (vi y1)] [] M (0, 0) := by
    intro M e y1 hRM hF hE
    refine b_aloadN (pc := 80) 0 dX11_court_80 rfl rfl ?_
    refine b_bipush (pc := 81) (nI 44) dX11_court_81 (by decide) ?_
    refine call_X11_mustSign (pc := 83) k1201 (by decide) ⟨Nat.le_of_ble_eq_true rfl, Nat.le_of_ble_eq_true rfl⟩ (Nat.le_of_ble_eq_true rfl) dX11_court_83 ?_
    refine ⟨_, rfl, T, n, .error e, 44, hT0.fm hF (by decide) (by decide), hRM, rfl, by decide, fun m83 fm83 rd83 => ?_⟩
    refine b_aloadN (pc := 86) 0 dX11_court_86 rfl rfl ?_
    refine gf11_6 (pc := 87) 115 rfl k1048 dX11_court_87 ?_
    refine b_iconst (pc := 90) (nI 2) dX11_court_90 (by decide) ?_
    refine b_aloadN (pc := 91) 0 dX11_court_91 rfl rfl ?_
    refine b_iconst (pc := 92) (nI 1) dX11_court_92 (by decide) ?_
    refine b_bipush (pc := 93) (nI 9) dX11_court_93 (by decide) ?_
    refine call_X11_number (pc := 95) k1197 (by decide) ⟨Nat.le_of_ble_eq_true rfl, Nat.le_of_ble_eq_true rfl⟩ (Nat.le_of_ble_eq_true rfl) dX11_court_95 ?_
    refine ⟨_, _, rfl, T, n, .error e, 0, 0, hT0.fm (up hF fm83) (by decide) (by decide), rd83, (fun p z => by cases z), fun v95 m95 fm95 rd95 hv95 => ?_⟩
    refine b_iast (pc := 98) (by decide) ?_ dX11_court_98 ?_
    rotate_left -- leaf 0: index at 98
    rotate_left -- leaf 1: at 99
    -- leaves: 0 index at 98; 1 at 99
    · exact n_in (by omega) (by omega)
    · exact e99 _ e _ (ms0 rd95) ((up (up hF fm83) fm95).ms (by decide) (by simp)) hE
  have e53 : ∀ M e y1, RdS M T n (.error e) → Fm [115] (0 :: rdL) m M → parP T n = .error e → B e_X11_court Φ 53 [some (vr 11 110), some (vi y1)] [] M (0, 0) := by
    intro M e y1 hRM hF hE
    refine b_aloadN (pc := 53) 0 dX11_court_53 rfl rfl ?_
    refine b_bipush (pc := 54) (nI 44) dX11_court_54 (by decide) ?_
    refine call_X11_mustSign (pc := 56) k1201 (by decide) ⟨Nat.le_of_ble_eq_true rfl, Nat.le_of_ble_eq_true rfl⟩ (Nat.le_of_ble_eq_true rfl) dX11_court_56 ?_
    refine ⟨_, rfl, T, n, .error e, 44, hT0.fm hF (by decide) (by decide), hRM, rfl, by decide, fun m56 fm56 rd56 => ?_⟩
    refine b_aloadN (pc := 59) 0 dX11_court_59 rfl rfl ?_
    refine gf11_6 (pc := 60) 115 rfl k1048 dX11_court_60 ?_
    refine b_iconst (pc := 63) (nI 1) dX11_court_63 (by decide) ?_
    refine b_aloadN (pc := 64) 0 dX11_court_64 rfl rfl ?_
    refine b_iconst (pc := 65) (nI 0) dX11_court_65 (by decide) ?_
    refine b_iconst (pc := 66) (nI 1) dX11_court_66 (by decide) ?_
    refine b_aloadN (pc := 67) 0 dX11_court_67 rfl rfl ?_
    refine gf11_6 (pc := 68) 115 rfl k1048 dX11_court_68 ?_
    refine b_iconst (pc := 71) (nI 0) dX11_court_71 (by decide) ?_
    refine b_iald (pc := 72) (by decide) ?_ dX11_court_72 ?_
    rotate_left -- leaf 0: index at 72
    refine b_ishl (pc := 73) dX11_court_73 ?_
    refine b_iconst (pc := 74) (nI 1) dX11_court_74 (by decide) ?_
    refine b_isub (pc := 75) dX11_court_75 ?_
    refine call_X11_number (pc := 76) k1197 (by decide) ⟨Nat.le_of_ble_eq_true rfl, Nat.le_of_ble_eq_true rfl⟩ (Nat.le_of_ble_eq_true rfl) dX11_court_76 ?_
    refine ⟨_, _, rfl, T, n, .error e, 0, 0, hT0.fm (up hF fm56) (by decide) (by decide), rd56, (fun p z => by cases z), fun v76 m76 fm76 rd76 hv76 => ?_⟩
    refine b_iast (pc := 79) (by decide) ?_ dX11_court_79 ?_
    rotate_left -- leaf 1: index at 79
    rotate_left -- leaf 2: at 80
    -- leaves: 0 index at 72; 1 index at 79; 2 at 80
    · exact n_in (by omega) (by omega)
    · exact n_in (by omega) (by omega)
    · exact e80 _ e _ (ms0 rd76) ((up (up hF fm56) fm76).ms (by decide) (by simp)) hE
  have e40 : ∀ M e y1, RdS M T n (.error e) → Fm [115] (0 :: rdL) m M → parP T n = .error e → B e_X11_court Φ 40 [some (vr 11 110), some (vi y1)] [] M (0, 0) := by
    intro M e y1 hRM hF hE
    refine b_aloadN (pc := 40) 0 dX11_court_40 rfl rfl ?_
    refine gf11_6 (pc := 41) 115 rfl k1048 dX11_court_41 ?_
    refine b_iconst (pc := 44) (nI 0) dX11_court_44 (by decide) ?_
    refine b_aloadN (pc := 45) 0 dX11_court_45 rfl rfl ?_
    refine b_iconst (pc := 46) (nI 1) dX11_court_46 (by decide) ?_
    refine b_bipush (pc := 47) (nI 6) dX11_court_47 (by decide) ?_
    refine call_X11_number (pc := 49) k1197 (by decide) ⟨Nat.le_of_ble_eq_true rfl, Nat.le_of_ble_eq_true rfl⟩ (Nat.le_of_ble_eq_true rfl) dX11_court_49 ?_
    refine ⟨_, _, rfl, T, n, .error e, 0, 0, hT0.fm hF (by decide) (by decide), hRM, (fun p z => by cases z), fun v49 m49 fm49 rd49 hv49 => ?_⟩
    refine b_iast (pc := 52) (by decide) ?_ dX11_court_52 ?_
    rotate_left -- leaf 0: index at 52
    rotate_left -- leaf 1: at 53
    -- leaves: 0 index at 52; 1 at 53
    · exact n_in (by omega) (by omega)
    · exact e53 _ e _ (ms0 rd49) ((up hF fm49).ms (by decide) (by simp)) hE
  have o99 : ∀ M p f a pr y1, RdS M T n (.ok p) → Fm [115] (0 :: rdL) m M → GM M (g0 f a pr) → (1 ≤ f ∧ f ≤ 6) → a < 2 ^ f → (1 ≤ pr ∧ pr ≤ 9) → parP T n = bnd (lw6 T n f a pr p) (kP T n) → B e_X11_court Φ 99 [some (vr 11 110), some (vi y1)] [] M (0, 0) := by
    intro M p f a pr y1 hRM hF hG hf ha hpr hE
    refine b_aloadN (pc := 99) 0 dX11_court_99 rfl rfl ?_
    refine b_bipush (pc := 100) (nI 59) dX11_court_100 (by decide) ?_
    refine call_X11_mustSign (pc := 102) k1201 (by decide) ⟨Nat.le_of_ble_eq_true rfl, Nat.le_of_ble_eq_true rfl⟩ (Nat.le_of_ble_eq_true rfl) dX11_court_102 ?_
    refine ⟨_, rfl, T, n, .ok p, 59, hT0.fm hF (by decide) (by decide), hRM, rfl, by decide, fun m102 fm102 rd102 => ?_⟩
    rotate_left -- leaf 0: at 105
    -- leaves: 0 at 105
    have rd : RdS m102 T n (tknS T n 59 p) := rd102
    unfold lw6 at hE
    cases e : tknS T n 59 p with
    | ok q =>
      rw [e] at rd hE
      exact o105 9 m102 q (g0 f a pr) _ (by rw [g0_big (by omega)]) rd (up hF fm102) (hG.fm fm102 (by decide)) (PV.fresh hf ha hpr) (g0_big (by omega)) hE
    | error e2 =>
      rw [e] at rd hE
      exact e105 m102 e2 _ rd (up hF fm102) hE
  have o80 : ∀ M p f a y1, RdS M T n (.ok p) → Fm [115] (0 :: rdL) m M → GM M (upC (upC (fun _ => 0) 0 f) 1 a) → (1 ≤ f ∧ f ≤ 6) → a < 2 ^ f → parP T n = bnd (lw4 T n f a p) (kP T n) → B e_X11_court Φ 80 [some (vr 11 110), some (vi y1)] [] M (0, 0) := by
    intro M p f a y1 hRM hF hG hf ha hE
    have s86 : ∀ M p, RdS M T n (.ok p) → Fm [115] (0 :: rdL) m M → GM M (upC (upC (fun _ => 0) 0 f) 1 a) → parP T n = bnd (lw5 T n f a p) (kP T n) → B e_X11_court Φ 86 [some (vr 11 110), some (vi y1)] [] M (0, 0) := by
      intro M p hRM hF hG hE
      refine b_aloadN (pc := 86) 0 dX11_court_86 rfl rfl ?_
      refine gf11_6 (pc := 87) 115 rfl k1048 dX11_court_87 ?_
      refine b_iconst (pc := 90) (nI 2) dX11_court_90 (by decide) ?_
      refine b_aloadN (pc := 91) 0 dX11_court_91 rfl rfl ?_
      refine b_iconst (pc := 92) (nI 1) dX11_court_92 (by decide) ?_
      refine b_bipush (pc := 93) (nI 9) dX11_court_93 (by decide) ?_
      refine call_X11_number (pc := 95) k1197 (by decide) ⟨Nat.le_of_ble_eq_true rfl, Nat.le_of_ble_eq_true rfl⟩ (Nat.le_of_ble_eq_true rfl) dX11_court_95 ?_
      refine ⟨_, _, rfl, T, n, .ok p, 1, 9, hT0.fm hF (by decide) (by decide), hRM, (fun p z => ⟨rfl, rfl, by omega, by omega⟩), fun v95 m95 fm95 rd95 hv95 => ?_⟩
      refine b_iast (pc := 98) (by decide) ?_ dX11_court_98 ?_
      rotate_left -- leaf 0: index at 98
      rotate_left -- leaf 1: at 99
      -- leaves: 0 index at 98; 1 at 99
      · exact n_in (by omega) (by omega)
      · unfold lw5 at hE
        cases e : tknN T n 1 9 p with
        | ok y =>
          obtain ⟨w, q⟩ := y
          have wo := n_ok e
          rw [numP_ok e] at rd95
          rw [e] at hE
          rw [n_cl (by omega), hv95 p w q rfl e]
          have gm := (hG.fm fm95 (by decide)).up (k := 2) (v := w)
          rw [g0_up] at gm
          exact o99 _ q f a w _ (ms0 rd95) ((up hF fm95).ms (by decide) (by simp)) gm hf ha wo.1 hE
        | error e2 =>
          rw [numP_er e] at rd95
          rw [e] at hE
          exact e99 _ e2 _ (ms0 rd95) ((up hF fm95).ms (by decide) (by simp)) hE
    have t86 : ∀ M e, RdS M T n (.error e) → Fm [115] (0 :: rdL) m M → parP T n = .error e → B e_X11_court Φ 86 [some (vr 11 110), some (vi y1)] [] M (0, 0) := by
      intro M e hRM hF hE
      refine b_aloadN (pc := 86) 0 dX11_court_86 rfl rfl ?_
      refine gf11_6 (pc := 87) 115 rfl k1048 dX11_court_87 ?_
      refine b_iconst (pc := 90) (nI 2) dX11_court_90 (by decide) ?_
      refine b_aloadN (pc := 91) 0 dX11_court_91 rfl rfl ?_
      refine b_iconst (pc := 92) (nI 1) dX11_court_92 (by decide) ?_
      refine b_bipush (pc := 93) (nI 9) dX11_court_93 (by decide) ?_
      refine call_X11_number (pc := 95) k1197 (by decide) ⟨Nat.le_of_ble_eq_true rfl, Nat.le_of_ble_eq_true rfl⟩ (Nat.le_of_ble_eq_true rfl) dX11_court_95 ?_
      refine ⟨_, _, rfl, T, n, .error e, 0, 0, hT0.fm hF (by decide) (by decide), hRM, (fun p z => by cases z), fun v95 m95 fm95 rd95 hv95 => ?_⟩
      refine b_iast (pc := 98) (by decide) ?_ dX11_court_98 ?_
      rotate_left -- leaf 0: index at 98
      rotate_left -- leaf 1: at 99
      -- leaves: 0 index at 98; 1 at 99
      · exact n_in (by omega) (by omega)
      · exact e99 _ e _ (ms0 rd95) ((up hF fm95).ms (by decide) (by simp)) hE
    refine b_aloadN (pc := 80) 0 dX11_court_80 rfl rfl ?_
    refine b_bipush (pc := 81) (nI 44) dX11_court_81 (by decide) ?_
    refine call_X11_mustSign (pc := 83) k1201 (by decide) ⟨Nat.le_of_ble_eq_true rfl, Nat.le_of_ble_eq_true rfl⟩ (Nat.le_of_ble_eq_true rfl) dX11_court_83 ?_
    refine ⟨_, rfl, T, n, .ok p, 44, hT0.fm hF (by decide) (by decide), hRM, rfl, by decide, fun m83 fm83 rd83 => ?_⟩
    rotate_left -- leaf 0: at 86
    -- leaves: 0 at 86
    have rd : RdS m83 T n (tknS T n 44 p) := rd83
    unfold lw4 at hE
    cases e : tknS T n 44 p with
    | ok q =>
      rw [e] at rd hE
      exact s86 m83 q rd (up hF fm83) (hG.fm fm83 (by decide)) hE
    | error e2 =>
      rw [e] at rd hE
      exact t86 m83 e2 rd (up hF fm83) hE
  have o53 : ∀ M p f y1, RdS M T n (.ok p) → Fm [115] (0 :: rdL) m M → GM M (upC (fun _ => 0) 0 f) → (1 ≤ f ∧ f ≤ 6) → parP T n = bnd (lw2 T n f p) (kP T n) → B e_X11_court Φ 53 [some (vr 11 110), some (vi y1)] [] M (0, 0) := by
    intro M p f y1 hRM hF hG hf hE
    have hp6 := pow_6 hf.2
    have s59 : ∀ M p, RdS M T n (.ok p) → Fm [115] (0 :: rdL) m M → GM M (upC (fun _ => 0) 0 f) → parP T n = bnd (lw3 T n f p) (kP T n) → B e_X11_court Φ 59 [some (vr 11 110), some (vi y1)] [] M (0, 0) := by
      intro M p hRM hF hG hE
      have g00 : M.1 115 0 = nI f := hG 0 (by omega)
      have hhi : nI 1 <<< (M.1 115 (nI 0).toNatClampNeg &&& 31) - nI 1 = nI (2 ^ f - 1) := by
        rw [n_cl (by omega), g00, n_shl (by omega) (by omega), Nat.shiftLeft_eq, Nat.one_mul, n_sub (by omega)]
      refine b_aloadN (pc := 59) 0 dX11_court_59 rfl rfl ?_
      refine gf11_6 (pc := 60) 115 rfl k1048 dX11_court_60 ?_
      refine b_iconst (pc := 63) (nI 1) dX11_court_63 (by decide) ?_
      refine b_aloadN (pc := 64) 0 dX11_court_64 rfl rfl ?_
      refine b_iconst (pc := 65) (nI 0) dX11_court_65 (by decide) ?_
      refine b_iconst (pc := 66) (nI 1) dX11_court_66 (by decide) ?_
      refine b_aloadN (pc := 67) 0 dX11_court_67 rfl rfl ?_
      refine gf11_6 (pc := 68) 115 rfl k1048 dX11_court_68 ?_
      refine b_iconst (pc := 71) (nI 0) dX11_court_71 (by decide) ?_
      refine b_iald (pc := 72) (by decide) ?_ dX11_court_72 ?_
      rotate_left -- leaf 0: index at 72
      refine b_ishl (pc := 73) dX11_court_73 ?_
      refine b_iconst (pc := 74) (nI 1) dX11_court_74 (by decide) ?_
      refine b_isub (pc := 75) dX11_court_75 ?_
      refine call_X11_number (pc := 76) k1197 (by decide) ⟨Nat.le_of_ble_eq_true rfl, Nat.le_of_ble_eq_true rfl⟩ (Nat.le_of_ble_eq_true rfl) dX11_court_76 ?_
      refine ⟨_, _, rfl, T, n, .ok p, 0, 2 ^ f - 1, hT0.fm hF (by decide) (by decide), hRM, (fun p z => ⟨rfl, hhi, by omega, by omega⟩), fun v76 m76 fm76 rd76 hv76 => ?_⟩
      refine b_iast (pc := 79) (by decide) ?_ dX11_court_79 ?_
      rotate_left -- leaf 1: index at 79
      rotate_left -- leaf 2: at 80
      -- leaves: 0 index at 72; 1 index at 79; 2 at 80
      · exact n_in (by omega) (by omega)
      · exact n_in (by omega) (by omega)
      · unfold lw3 at hE
        cases e : tknN T n 0 (2 ^ f - 1) p with
        | ok y =>
          obtain ⟨w, q⟩ := y
          have wo := n_ok e
          rw [numP_ok e] at rd76
          rw [e] at hE
          rw [n_cl (by omega), hv76 p w q rfl e]
          have gm := (hG.fm fm76 (by decide)).up (k := 1) (v := w)
          exact o80 _ q f w _ (ms0 rd76) ((up hF fm76).ms (by decide) (by simp)) gm hf (by omega) hE
        | error e2 =>
          rw [numP_er e] at rd76
          rw [e] at hE
          exact e80 _ e2 _ (ms0 rd76) ((up hF fm76).ms (by decide) (by simp)) hE
    have t59 : ∀ M e, RdS M T n (.error e) → Fm [115] (0 :: rdL) m M → parP T n = .error e → B e_X11_court Φ 59 [some (vr 11 110), some (vi y1)] [] M (0, 0) := by
      intro M e hRM hF hE
      refine b_aloadN (pc := 59) 0 dX11_court_59 rfl rfl ?_
      refine gf11_6 (pc := 60) 115 rfl k1048 dX11_court_60 ?_
      refine b_iconst (pc := 63) (nI 1) dX11_court_63 (by decide) ?_
      refine b_aloadN (pc := 64) 0 dX11_court_64 rfl rfl ?_
      refine b_iconst (pc := 65) (nI 0) dX11_court_65 (by decide) ?_
      refine b_iconst (pc := 66) (nI 1) dX11_court_66 (by decide) ?_
      refine b_aloadN (pc := 67) 0 dX11_court_67 rfl rfl ?_
      refine gf11_6 (pc := 68) 115 rfl k1048 dX11_court_68 ?_
      refine b_iconst (pc := 71) (nI 0) dX11_court_71 (by decide) ?_
      refine b_iald (pc := 72) (by decide) ?_ dX11_court_72 ?_
      rotate_left -- leaf 0: index at 72
      refine b_ishl (pc := 73) dX11_court_73 ?_
      refine b_iconst (pc := 74) (nI 1) dX11_court_74 (by decide) ?_
      refine b_isub (pc := 75) dX11_court_75 ?_
      refine call_X11_number (pc := 76) k1197 (by decide) ⟨Nat.le_of_ble_eq_true rfl, Nat.le_of_ble_eq_true rfl⟩ (Nat.le_of_ble_eq_true rfl) dX11_court_76 ?_
      refine ⟨_, _, rfl, T, n, .error e, 0, 0, hT0.fm hF (by decide) (by decide), hRM, (fun p z => by cases z), fun v76 m76 fm76 rd76 hv76 => ?_⟩
      refine b_iast (pc := 79) (by decide) ?_ dX11_court_79 ?_
      rotate_left -- leaf 1: index at 79
      rotate_left -- leaf 2: at 80
      -- leaves: 0 index at 72; 1 index at 79; 2 at 80
      · exact n_in (by omega) (by omega)
      · exact n_in (by omega) (by omega)
      · exact e80 _ e _ (ms0 rd76) ((up hF fm76).ms (by decide) (by simp)) hE
    refine b_aloadN (pc := 53) 0 dX11_court_53 rfl rfl ?_
    refine b_bipush (pc := 54) (nI 44) dX11_court_54 (by decide) ?_
    refine call_X11_mustSign (pc := 56) k1201 (by decide) ⟨Nat.le_of_ble_eq_true rfl, Nat.le_of_ble_eq_true rfl⟩ (Nat.le_of_ble_eq_true rfl) dX11_court_56 ?_
    refine ⟨_, rfl, T, n, .ok p, 44, hT0.fm hF (by decide) (by decide), hRM, rfl, by decide, fun m56 fm56 rd56 => ?_⟩
    rotate_left -- leaf 0: at 59
    -- leaves: 0 at 59
    have rd : RdS m56 T n (tknS T n 44 p) := rd56
    unfold lw2 at hE
    cases e : tknS T n 44 p with
    | ok q =>
      rw [e] at rd hE
      exact s59 m56 q rd (up hF fm56) (hG.fm fm56 (by decide)) hE
    | error e2 =>
      rw [e] at rd hE
      exact t59 m56 e2 rd (up hF fm56) hE
  have o40 : ∀ M p y1, RdS M T n (.ok p) → Fm [115] (0 :: rdL) m M → GM M (fun _ => 0) → parP T n = bnd (lw1 T n p) (kP T n) → B e_X11_court Φ 40 [some (vr 11 110), some (vi y1)] [] M (0, 0) := by
    intro M p y1 hRM hF hG hE
    refine b_aloadN (pc := 40) 0 dX11_court_40 rfl rfl ?_
    refine gf11_6 (pc := 41) 115 rfl k1048 dX11_court_41 ?_
    refine b_iconst (pc := 44) (nI 0) dX11_court_44 (by decide) ?_
    refine b_aloadN (pc := 45) 0 dX11_court_45 rfl rfl ?_
    refine b_iconst (pc := 46) (nI 1) dX11_court_46 (by decide) ?_
    refine b_bipush (pc := 47) (nI 6) dX11_court_47 (by decide) ?_
    refine call_X11_number (pc := 49) k1197 (by decide) ⟨Nat.le_of_ble_eq_true rfl, Nat.le_of_ble_eq_true rfl⟩ (Nat.le_of_ble_eq_true rfl) dX11_court_49 ?_
    refine ⟨_, _, rfl, T, n, .ok p, 1, 6, hT0.fm hF (by decide) (by decide), hRM, (fun p z => ⟨rfl, rfl, by omega, by omega⟩), fun v49 m49 fm49 rd49 hv49 => ?_⟩
    refine b_iast (pc := 52) (by decide) ?_ dX11_court_52 ?_
    rotate_left -- leaf 0: index at 52
    rotate_left -- leaf 1: at 53
    -- leaves: 0 index at 52; 1 at 53
    · exact n_in (by omega) (by omega)
    · unfold lw1 at hE
      cases e : tknN T n 1 6 p with
      | ok y =>
        obtain ⟨w, q⟩ := y
        have wo := n_ok e
        rw [numP_ok e] at rd49
        rw [e] at hE
        rw [n_cl (by omega), hv49 p w q rfl e]
        have gm := (hG.fm fm49 (by decide)).up (k := 0) (v := w)
        exact o53 _ q w _ (ms0 rd49) ((up hF fm49).ms (by decide) (by simp)) gm wo.1 hE
      | error e2 =>
        rw [numP_er e] at rd49
        rw [e] at hE
        exact e53 _ e2 _ (ms0 rd49) ((up hF fm49).ms (by decide) (by simp)) hE
  have o30 : ∀ M y1, RdS M T n (.ok 0) → Fm [115] (0 :: rdL) m M → GM M (fun _ => 0) → B e_X11_court Φ 30 [some (vr 11 110), some (vi y1)] [] M (0, 0) := by
    intro M y1 hRM hF hG
    have hE : parP T n = bnd (bnd (tknS T n 99 0) fun q => lw1 T n q) (kP T n) := rfl
    refine b_aloadN (pc := 30) 0 dX11_court_30 rfl rfl ?_
    refine b_aloadN (pc := 31) 0 dX11_court_31 rfl rfl ?_
    refine b_bipush (pc := 32) (nI 99) dX11_court_32 (by decide) ?_
    refine call_X11_isLetter (pc := 34) k1185 (by decide) ⟨Nat.le_of_ble_eq_true rfl, Nat.le_of_ble_eq_true rfl⟩ (Nat.le_of_ble_eq_true rfl) dX11_court_34 ?_
    refine ⟨_, rfl, T, n, .ok 0, 99, hRM, rfl, by decide, ?_⟩
    refine call_X11_must (pc := 37) k1189 (by decide) ⟨Nat.le_of_ble_eq_true rfl, Nat.le_of_ble_eq_true rfl⟩ (Nat.le_of_ble_eq_true rfl) dX11_court_37 ?_
    refine ⟨_, rfl, T, n, .ok 0, isL T n 99 (.ok 0), hT0.fm hF (by decide) (by decide), hRM, rfl, fun m37 fm37 rd37 => ?_⟩
    rotate_left -- leaf 0: at 40
    -- leaves: 0 at 40
    rw [advL] at rd37
    cases e : tknS T n 99 0 with
    | ok q =>
      rw [e] at rd37 hE
      exact o40 m37 q _ rd37 (up hF fm37) (hG.fm fm37 (by decide)) hE
    | error e2 =>
      rw [e] at rd37 hE
      exact e40 m37 e2 _ rd37 (up hF fm37) hE
  have s11 : ∀ e M k, 50 + 1 ≤ k + e → k ≤ 50 → RdS M T n (.ok 0) → Fm [115] (0 :: rdL) m M → (∀ j, j < k → M.1 115 j = nI 0) → B e_X11_court Φ 11 [some (vr 11 110), some (vi (nI k))] [] M (0, 0) := by
    intro e
    induction e with
    | zero => intro M k z1 z2; omega
    | succ e ih =>
      intro M k z1 z2 hRM hF hC
      by_cases q : k < 50
      · have q2 := q
        refine b_iloadN (pc := 11) 1 dX11_court_11 rfl rfl ?_
        refine b_bipush (pc := 12) (nI 50) dX11_court_12 (by decide) ?_
        refine b_icmp_ge (pc := 14) 30 dX11_court_14 (by decide) (fun c14 => ?_) (fun c14 => ?_)
        rotate_left -- leaf 0: at 30
        refine b_aloadN (pc := 17) 0 dX11_court_17 rfl rfl ?_
        refine gf11_6 (pc := 18) 115 rfl k1048 dX11_court_18 ?_
        refine b_iloadN (pc := 21) 1 dX11_court_21 rfl rfl ?_
        refine b_iconst (pc := 22) (nI 0) dX11_court_22 (by decide) ?_
        refine b_iast (pc := 23) (by decide) ?_ dX11_court_23 ?_
        rotate_left -- leaf 1: index at 23
        refine inc1 (pc := 24) notL_r (by decide) dX11_court_24 ?_
        refine b_goto (pc := 27) 11 dX11_court_27 (by decide) ?_
        rotate_left -- leaf 2: at 11
        -- leaves: 0 at 30; 1 index at 23; 2 at 11
        · rw [n_le (by omega) (by omega)] at c14
          omega
        · exact n_in (by omega) (by omega)
        · rw [n_cl (by omega), n_inc]
          refine ih _ (k + 1) (by omega) (by omega) (ms0 hRM) (hF.ms (by decide) (by simp)) (fun j hj => ?_)
          rw [mset_at]
          by_cases z : j = k
          · rw [if_pos z]
          · rw [if_neg z]; exact hC j (by omega)
      · have q2 := q
        refine b_iloadN (pc := 11) 1 dX11_court_11 rfl rfl ?_
        refine b_bipush (pc := 12) (nI 50) dX11_court_12 (by decide) ?_
        refine b_icmp_ge (pc := 14) 30 dX11_court_14 (by decide) (fun c14 => ?_) (fun c14 => ?_)
        rotate_left -- leaf 0: at 30
        rotate_left -- leaf 1: at 17
        -- leaves: 0 at 30; 1 at 17
        · exact o30 M _ hRM hF (fun j hj => hC j (by omega))
        · rw [n_le (by omega) (by omega)] at c14
          omega
  refine b_aloadN (pc := 0) 0 dX11_court_0 rfl rfl ?_
  refine b_iconst (pc := 1) (nI 0) dX11_court_1 (by decide) ?_
  refine pf11_0 (pc := 2) k1042 dX11_court_2 ?_
  refine b_aloadN (pc := 5) 0 dX11_court_5 rfl rfl ?_
  refine call_X11_begin (pc := 6) k1172 (by decide) ⟨Nat.le_of_ble_eq_true rfl, Nat.le_of_ble_eq_true rfl⟩ (Nat.le_of_ble_eq_true rfl) dX11_court_6 ?_
  refine ⟨rfl, T, n, hT0.fm hF0 (by decide) (by decide), fun m6 fm6 rd6 => ?_⟩
  refine b_iconst (pc := 9) (nI 0) dX11_court_9 (by decide) ?_
  refine siN1 (pc := 10) rfl notL_r (by decide) dX11_court_10 ?_
  rotate_left -- leaf 0: at 11
  -- leaves: 0 at 11
  exact s11 51 m6 0 (by omega) (by omega) rd6 (up hF0 fm6) (fun j hj => absurd hj (Nat.not_lt_zero j))
theorem call_X11_court {E : ME} {Φ : Option AV → AM → Prop} {pc : Nat} {L : List (Option AV)} {st : List AV} {m : AM} {a : Nat × Nat} {idx : Nat} {i : Nat} (hl : Cond.methodLink E.2.1 idx yX11_court ∈ TB) (hdep : 10 + 1 ≤ E.2.2.2.2.2.2) (hroom : a.1 + 0 ≤ E.2.2.2.2.1 ∧ a.2 + 0 ≤ E.2.2.2.2.2.1) (hsr : st.length ≤ 4) (hd : decode E.1 pc = .ok (.invokevirtual idx, 3)) (hsp : Sp_X11_court [vr 11 i] m (fun r m2 => B E Φ (pc + 3) L (r.toList ++ st) m2 a)) : B E Φ pc L (vr 11 i :: st) m a := b_callV S_X11_court [] (RX11, TX11, 28) rfl rfl (by decide) (Or.inl hl) k1169 k1170 k80 k1171 (show _ ∧ _ ∧ Option.map (fun d => d.parameters.length) (parseMethodDescriptor yX11_court.desc) = some 0 from by decide +kernel) ⟨hdep, by decide⟩ hroom hsr hd hsp
