/-! the reference: copy -/
theorem il_sum (a b : Int32) : (a.toInt64 + b.toInt64).toInt = a.toInt + b.toInt := by
  have h1 := i_rng a
  have h2 := i_rng b
  rw [Int64.toInt_add, Int32.toInt_toInt64, Int32.toInt_toInt64, Int.bmod_eq_of_le (by omega) (by omega)]
theorem cpy_up {f : Nat → Int32} {s d k : Nat} (h : ¬ (d ≤ s + k ∧ s + k < d + k)) : upd (va_cpy f f s d k) (d + k) (va_cpy f f s d k (s + k)) = va_cpy f f s d (k + 1) := by
  have e : va_cpy f f s d k (s + k) = f (s + k) := by
    unfold va_cpy
    rw [if_neg h]
  rw [e]
  exact cpy_s f f s d k
theorem cpy_dn {f : Nat → Int32} {s d n k : Nat} (hk : k < n) (h : ¬ (d + (n - k) ≤ s + (n - 1 - k) ∧ s + (n - 1 - k) < d + (n - k) + k)) : upd (va_cpy f f (s + (n - k)) (d + (n - k)) k) (d + (n - 1 - k)) (va_cpy f f (s + (n - k)) (d + (n - k)) k (s + (n - 1 - k))) = va_cpy f f (s + (n - (k + 1))) (d + (n - (k + 1))) (k + 1) := by
  have e : va_cpy f f (s + (n - k)) (d + (n - k)) k (s + (n - 1 - k)) = f (s + (n - 1 - k)) := by
    unfold va_cpy
    rw [if_neg h]
  rw [e]
  funext q
  by_cases z : q = d + (n - 1 - k)
  · subst z
    rw [pk_us]
    unfold va_cpy
    rw [if_pos (by omega), show s + (n - (k + 1)) + (d + (n - 1 - k) - (d + (n - (k + 1)))) = s + (n - 1 - k) by omega]
  · rw [pk_un z]
    unfold va_cpy
    by_cases w : d + (n - k) ≤ q ∧ q < d + (n - k) + k
    · rw [if_pos w, if_pos (by omega), show s + (n - k) + (q - (d + (n - k))) = s + (n - (k + 1)) + (q - (d + (n - (k + 1)))) by omega]
    · rw [if_neg w, if_neg (by omega)]
abbrev e_X11_copy : ME := (cX11_copy, (RX11, (9, ((some .int), (0, (0, 8))))))
theorem dX11_copy_0 : decode cX11_copy 0 = .ok (.aload_n 0, 1) := by decide +kernel
theorem dX11_copy_1 : decode cX11_copy 1 = .ok (.iconst 0, 1) := by decide +kernel
theorem dX11_copy_2 : decode cX11_copy 2 = .ok (.putfield 53, 3) := by decide +kernel
theorem dX11_copy_5 : decode cX11_copy 5 = .ok (.iload_n 1, 1) := by decide +kernel
theorem dX11_copy_6 : decode cX11_copy 6 = .ok (.invokestatic 67, 3) := by decide +kernel
theorem dX11_copy_9 : decode cX11_copy 9 = .ok (.ifCond .eq 10, 3) := by decide +kernel
theorem dX11_copy_12 : decode cX11_copy 12 = .ok (.iload_n 3, 1) := by decide +kernel
theorem dX11_copy_13 : decode cX11_copy 13 = .ok (.invokestatic 67, 3) := by decide +kernel
theorem dX11_copy_16 : decode cX11_copy 16 = .ok (.ifCond .ne 6, 3) := by decide +kernel
theorem dX11_copy_19 : decode cX11_copy 19 = .ok (.ldc 73, 2) := by decide +kernel
theorem dX11_copy_21 : decode cX11_copy 21 = .ok (.ireturn, 1) := by decide +kernel
theorem dX11_copy_22 : decode cX11_copy 22 = .ok (.aload_n 0, 1) := by decide +kernel
theorem dX11_copy_23 : decode cX11_copy 23 = .ok (.iconst 0, 1) := by decide +kernel
theorem dX11_copy_24 : decode cX11_copy 24 = .ok (.putfield 57, 3) := by decide +kernel
theorem dX11_copy_27 : decode cX11_copy 27 = .ok (.aload_n 0, 1) := by decide +kernel
theorem dX11_copy_28 : decode cX11_copy 28 = .ok (.getfield 7, 3) := by decide +kernel
theorem dX11_copy_31 : decode cX11_copy 31 = .ok (.iload_n 1, 1) := by decide +kernel
theorem dX11_copy_32 : decode cX11_copy 32 = .ok (.iaload, 1) := by decide +kernel
theorem dX11_copy_33 : decode cX11_copy 33 = .ok (.ifCond .lt 12, 3) := by decide +kernel
theorem dX11_copy_36 : decode cX11_copy 36 = .ok (.aload_n 0, 1) := by decide +kernel
theorem dX11_copy_37 : decode cX11_copy 37 = .ok (.getfield 7, 3) := by decide +kernel
theorem dX11_copy_40 : decode cX11_copy 40 = .ok (.iload_n 3, 1) := by decide +kernel
theorem dX11_copy_41 : decode cX11_copy 41 = .ok (.iaload, 1) := by decide +kernel
theorem dX11_copy_42 : decode cX11_copy 42 = .ok (.ifCond .ge 9, 3) := by decide +kernel
theorem dX11_copy_45 : decode cX11_copy 45 = .ok (.aload_n 0, 1) := by decide +kernel
theorem dX11_copy_46 : decode cX11_copy 46 = .ok (.iconst 1, 1) := by decide +kernel
theorem dX11_copy_47 : decode cX11_copy 47 = .ok (.invokevirtual 74, 3) := by decide +kernel
theorem dX11_copy_50 : decode cX11_copy 50 = .ok (.ireturn, 1) := by decide +kernel
theorem dX11_copy_51 : decode cX11_copy 51 = .ok (.aload_n 0, 1) := by decide +kernel
theorem dX11_copy_52 : decode cX11_copy 52 = .ok (.getfield 7, 3) := by decide +kernel
theorem dX11_copy_55 : decode cX11_copy 55 = .ok (.iload_n 1, 1) := by decide +kernel
theorem dX11_copy_56 : decode cX11_copy 56 = .ok (.iaload, 1) := by decide +kernel
theorem dX11_copy_57 : decode cX11_copy 57 = .ok (.aload_n 0, 1) := by decide +kernel
theorem dX11_copy_58 : decode cX11_copy 58 = .ok (.getfield 7, 3) := by decide +kernel
theorem dX11_copy_61 : decode cX11_copy 61 = .ok (.iload_n 3, 1) := by decide +kernel
theorem dX11_copy_62 : decode cX11_copy 62 = .ok (.iaload, 1) := by decide +kernel
theorem dX11_copy_63 : decode cX11_copy 63 = .ok (.if_icmp .eq 9, 3) := by decide +kernel
theorem dX11_copy_66 : decode cX11_copy 66 = .ok (.aload_n 0, 1) := by decide +kernel
theorem dX11_copy_67 : decode cX11_copy 67 = .ok (.iconst 5, 1) := by decide +kernel
theorem dX11_copy_68 : decode cX11_copy 68 = .ok (.invokevirtual 74, 3) := by decide +kernel
theorem dX11_copy_71 : decode cX11_copy 71 = .ok (.ireturn, 1) := by decide +kernel
theorem dX11_copy_72 : decode cX11_copy 72 = .ok (.iload_n 2, 1) := by decide +kernel
theorem dX11_copy_73 : decode cX11_copy 73 = .ok (.ifCond .lt 48, 3) := by decide +kernel
theorem dX11_copy_76 : decode cX11_copy 76 = .ok (.iload 4, 2) := by decide +kernel
theorem dX11_copy_78 : decode cX11_copy 78 = .ok (.ifCond .lt 43, 3) := by decide +kernel
theorem dX11_copy_81 : decode cX11_copy 81 = .ok (.iload 5, 2) := by decide +kernel
theorem dX11_copy_83 : decode cX11_copy 83 = .ok (.ifCond .lt 38, 3) := by decide +kernel
theorem dX11_copy_86 : decode cX11_copy 86 = .ok (.iload_n 2, 1) := by decide +kernel
theorem dX11_copy_87 : decode cX11_copy 87 = .ok (.i2l, 1) := by decide +kernel
theorem dX11_copy_88 : decode cX11_copy 88 = .ok (.iload 5, 2) := by decide +kernel
theorem dX11_copy_90 : decode cX11_copy 90 = .ok (.i2l, 1) := by decide +kernel
theorem dX11_copy_91 : decode cX11_copy 91 = .ok (.ladd, 1) := by decide +kernel
theorem dX11_copy_92 : decode cX11_copy 92 = .ok (.aload_n 0, 1) := by decide +kernel
theorem dX11_copy_93 : decode cX11_copy 93 = .ok (.getfield 13, 3) := by decide +kernel
theorem dX11_copy_96 : decode cX11_copy 96 = .ok (.iload_n 1, 1) := by decide +kernel
theorem dX11_copy_97 : decode cX11_copy 97 = .ok (.iaload, 1) := by decide +kernel
theorem dX11_copy_98 : decode cX11_copy 98 = .ok (.i2l, 1) := by decide +kernel
theorem dX11_copy_99 : decode cX11_copy 99 = .ok (.lcmp, 1) := by decide +kernel
theorem dX11_copy_100 : decode cX11_copy 100 = .ok (.ifCond .gt 21, 3) := by decide +kernel
theorem dX11_copy_103 : decode cX11_copy 103 = .ok (.iload 4, 2) := by decide +kernel
theorem dX11_copy_105 : decode cX11_copy 105 = .ok (.i2l, 1) := by decide +kernel
theorem dX11_copy_106 : decode cX11_copy 106 = .ok (.iload 5, 2) := by decide +kernel
theorem dX11_copy_108 : decode cX11_copy 108 = .ok (.i2l, 1) := by decide +kernel
theorem dX11_copy_109 : decode cX11_copy 109 = .ok (.ladd, 1) := by decide +kernel
theorem dX11_copy_110 : decode cX11_copy 110 = .ok (.aload_n 0, 1) := by decide +kernel
theorem dX11_copy_111 : decode cX11_copy 111 = .ok (.getfield 13, 3) := by decide +kernel
theorem dX11_copy_114 : decode cX11_copy 114 = .ok (.iload_n 3, 1) := by decide +kernel
theorem dX11_copy_115 : decode cX11_copy 115 = .ok (.iaload, 1) := by decide +kernel
theorem dX11_copy_116 : decode cX11_copy 116 = .ok (.i2l, 1) := by decide +kernel
theorem dX11_copy_117 : decode cX11_copy 117 = .ok (.lcmp, 1) := by decide +kernel
theorem dX11_copy_118 : decode cX11_copy 118 = .ok (.ifCond .le 9, 3) := by decide +kernel
theorem dX11_copy_121 : decode cX11_copy 121 = .ok (.aload_n 0, 1) := by decide +kernel
theorem dX11_copy_122 : decode cX11_copy 122 = .ok (.iconst 2, 1) := by decide +kernel
theorem dX11_copy_123 : decode cX11_copy 123 = .ok (.invokevirtual 74, 3) := by decide +kernel
theorem dX11_copy_126 : decode cX11_copy 126 = .ok (.ireturn, 1) := by decide +kernel
theorem dX11_copy_127 : decode cX11_copy 127 = .ok (.iload_n 2, 1) := by decide +kernel
theorem dX11_copy_128 : decode cX11_copy 128 = .ok (.iload 4, 2) := by decide +kernel
theorem dX11_copy_130 : decode cX11_copy 130 = .ok (.if_icmp .lt 7, 3) := by decide +kernel
theorem dX11_copy_133 : decode cX11_copy 133 = .ok (.iconst 1, 1) := by decide +kernel
theorem dX11_copy_134 : decode cX11_copy 134 = .ok (.goto 4, 3) := by decide +kernel
theorem dX11_copy_137 : decode cX11_copy 137 = .ok (.iconst 0, 1) := by decide +kernel
theorem dX11_copy_138 : decode cX11_copy 138 = .ok (.istore 6, 2) := by decide +kernel
theorem dX11_copy_140 : decode cX11_copy 140 = .ok (.iconst 0, 1) := by decide +kernel
theorem dX11_copy_141 : decode cX11_copy 141 = .ok (.istore 7, 2) := by decide +kernel
theorem dX11_copy_143 : decode cX11_copy 143 = .ok (.iload 7, 2) := by decide +kernel
theorem dX11_copy_145 : decode cX11_copy 145 = .ok (.iload 5, 2) := by decide +kernel
theorem dX11_copy_147 : decode cX11_copy 147 = .ok (.if_icmp .ge 57, 3) := by decide +kernel
theorem dX11_copy_150 : decode cX11_copy 150 = .ok (.iload 6, 2) := by decide +kernel
theorem dX11_copy_152 : decode cX11_copy 152 = .ok (.ifCond .eq 8, 3) := by decide +kernel
theorem dX11_copy_155 : decode cX11_copy 155 = .ok (.iload 7, 2) := by decide +kernel
theorem dX11_copy_157 : decode cX11_copy 157 = .ok (.goto 10, 3) := by decide +kernel
theorem dX11_copy_160 : decode cX11_copy 160 = .ok (.iload 5, 2) := by decide +kernel
theorem dX11_copy_162 : decode cX11_copy 162 = .ok (.iconst 1, 1) := by decide +kernel
theorem dX11_copy_163 : decode cX11_copy 163 = .ok (.isub, 1) := by decide +kernel
theorem dX11_copy_164 : decode cX11_copy 164 = .ok (.iload 7, 2) := by decide +kernel
theorem dX11_copy_166 : decode cX11_copy 166 = .ok (.isub, 1) := by decide +kernel
theorem dX11_copy_167 : decode cX11_copy 167 = .ok (.istore 8, 2) := by decide +kernel
theorem dX11_copy_169 : decode cX11_copy 169 = .ok (.aload_n 0, 1) := by decide +kernel
theorem dX11_copy_170 : decode cX11_copy 170 = .ok (.getfield 16, 3) := by decide +kernel
theorem dX11_copy_173 : decode cX11_copy 173 = .ok (.bipush 40, 2) := by decide +kernel
theorem dX11_copy_175 : decode cX11_copy 175 = .ok (.iload_n 3, 1) := by decide +kernel
theorem dX11_copy_176 : decode cX11_copy 176 = .ok (.imul, 1) := by decide +kernel
theorem dX11_copy_177 : decode cX11_copy 177 = .ok (.iload 4, 2) := by decide +kernel
theorem dX11_copy_179 : decode cX11_copy 179 = .ok (.iadd, 1) := by decide +kernel
theorem dX11_copy_180 : decode cX11_copy 180 = .ok (.iload 8, 2) := by decide +kernel
theorem dX11_copy_182 : decode cX11_copy 182 = .ok (.iadd, 1) := by decide +kernel
theorem dX11_copy_183 : decode cX11_copy 183 = .ok (.aload_n 0, 1) := by decide +kernel
theorem dX11_copy_184 : decode cX11_copy 184 = .ok (.getfield 16, 3) := by decide +kernel
theorem dX11_copy_187 : decode cX11_copy 187 = .ok (.bipush 40, 2) := by decide +kernel
theorem dX11_copy_189 : decode cX11_copy 189 = .ok (.iload_n 1, 1) := by decide +kernel
theorem dX11_copy_190 : decode cX11_copy 190 = .ok (.imul, 1) := by decide +kernel
theorem dX11_copy_191 : decode cX11_copy 191 = .ok (.iload_n 2, 1) := by decide +kernel
theorem dX11_copy_192 : decode cX11_copy 192 = .ok (.iadd, 1) := by decide +kernel
theorem dX11_copy_193 : decode cX11_copy 193 = .ok (.iload 8, 2) := by decide +kernel
theorem dX11_copy_195 : decode cX11_copy 195 = .ok (.iadd, 1) := by decide +kernel
theorem dX11_copy_196 : decode cX11_copy 196 = .ok (.iaload, 1) := by decide +kernel
theorem dX11_copy_197 : decode cX11_copy 197 = .ok (.iastore, 1) := by decide +kernel
theorem dX11_copy_198 : decode cX11_copy 198 = .ok (.iinc 7 1, 3) := by decide +kernel
theorem dX11_copy_201 : decode cX11_copy 201 = .ok (.goto (-58), 3) := by decide +kernel
theorem dX11_copy_204 : decode cX11_copy 204 = .ok (.iload 5, 2) := by decide +kernel
theorem dX11_copy_206 : decode cX11_copy 206 = .ok (.ireturn, 1) := by decide +kernel
def Sp_X11_copy (av : List AV) (m : AM) (Φ : Option AV → AM → Prop) : Prop := ∃ x i y j n, av = [vr 11 110, vi x, vi i, vi y, vi j, vi n] ∧ ∃ La Ma It, MRow m La Ma It ∧ ((inB x 8 && inB y 8) = false → ∀ m2, Fm [] [0] m m2 → Φ (some (vi (-1000001))) m2) ∧ ((inB x 8 && inB y 8) = true → (La x.toNatClampNeg = 0 ∨ La y.toNatClampNeg = 0) → ∀ m2, Fm [] [0, 1] m m2 → m2.1 110 1 = nI 1 → Φ (some (vi (-1000010 - nI 1))) m2) ∧ ((inB x 8 && inB y 8) = true → 0 < La x.toNatClampNeg → 0 < La y.toNatClampNeg → La x.toNatClampNeg ≠ La y.toNatClampNeg → ∀ m2, Fm [] [0, 1] m m2 → m2.1 110 1 = nI 5 → Φ (some (vi (-1000010 - nI 5))) m2) ∧ ((inB x 8 && inB y 8) = true → 0 < La x.toNatClampNeg → La x.toNatClampNeg = La y.toNatClampNeg → (fitB i n (Ma x.toNatClampNeg) && fitB j n (Ma y.toNatClampNeg)) = false → ∀ m2, Fm [] [0, 1] m m2 → m2.1 110 1 = nI 2 → Φ (some (vi (-1000010 - nI 2))) m2) ∧ ((inB x 8 && inB y 8) = true → 0 < La x.toNatClampNeg → La x.toNatClampNeg = La y.toNatClampNeg → (fitB i n (Ma x.toNatClampNeg) && fitB j n (Ma y.toNatClampNeg)) = true → ∀ m2, Fm [113] [0, 1] m m2 → MRow m2 La Ma (cpI It x.toNatClampNeg i.toNatClampNeg y.toNatClampNeg j.toNatClampNeg n.toNatClampNeg) → m2.1 110 1 = nI 0 → Φ (some (vi n)) m2)
set_option maxRecDepth 20000 in
set_option maxHeartbeats 4000000 in
theorem S_X11_copy : Snd yX11_copy e_X11_copy Sp_X11_copy := by
  refine Snd.of (by decide +kernel) rfl ?_ ?_
  · rintro av m Φ ⟨x, i, y, j, n, rfl, _⟩; exact Nat.le_of_ble_eq_true rfl
  rintro av m Φ ⟨x, i, y, j, n, rfl, La, Ma, It, hR, h1, h2, h3, h4, h5⟩ hav hty
  show B e_X11_copy Φ 0 [some (vr 11 110), some (vi x), some (vi i), some (vi y), some (vi j), some (vi n), none, none, none] [] m (0, 0)
  have f0 : Fm [] [0] m (mset m 110 0 (nI 0)) := (Fm.rf _ _ m).m0 (by simp)
  by_cases hxy : (inB x 8 && inB y 8) = true
  · have hxy2 := hxy
    rw [Bool.and_eq_true] at hxy2
    obtain ⟨a, ha, rfl⟩ := (inB_iff (by omega)).mp hxy2.1
    obtain ⟨b, hb, rfl⟩ := (inB_iff (by omega)).mp hxy2.2
    rw [n_cl (show a < 2147483648 by omega), n_cl (show b < 2147483648 by omega)] at h2 h3 h4 h5
    have hR2 : MRow (mset (mset m 110 0 (nI 0)) 110 1 (nI 0)) La Ma It := hR.ms.ms
    have f1 : Fm [] [0, 1] m (mset (mset m 110 0 (nI 0)) 110 1 (nI 0)) := ((Fm.rf _ _ m).m0 (by simp)).m0 (by simp)
    have s1 : (mset (mset m 110 0 (nI 0)) 110 1 (nI 0)).1 110 1 = nI 0 := by rw [mset_at, if_pos rfl]
    have qa := hR2.lane ha
    have qb := hR2.lane hb
    have fd : ∀ v, Fm [] [0, 1] m (mset (mset (mset m 110 0 (nI 0)) 110 1 (nI 0)) 110 1 v) ∧ (mset (mset (mset m 110 0 (nI 0)) 110 1 (nI 0)) 110 1 v).1 110 1 = v := fun v => ⟨f1.m0 (by simp), by rw [mset_at, if_pos rfl]⟩
    have fin : ∀ m1, MRow m1 La Ma It → Fm [] [0, 1] m m1 → m1.1 110 1 = nI 0 → ∀ i1 j1 n1, i = nI i1 → j = nI j1 → n = nI n1 → i1 + n1 ≤ Ma a → j1 + n1 ≤ Ma b → 0 < La a → La a = La b → B e_X11_copy Φ 127 [some (vr 11 110), some (vi (nI a)), some (vi i), some (vi (nI b)), some (vi j), some (vi n), none, none, none] [] m1 (0, 0) := by
      intro m1 hR2 f1 s1 i1 j1 n1 hi hj hn g1 g2 l1 l2
      have wa := (hR2 a ha).2 l1
      have wb := (hR2 b hb).2 (by omega)
      have M1 := wa.2.2.2.1
      have M2 := wb.2.2.2.1
      have hfit : (fitB i n (Ma a) && fitB j n (Ma b)) = true := by
        unfold fitB
        rw [hi, hj, hn, nI_toInt (by omega), nI_toInt (by omega), nI_toInt (by omega), decide_eq_true (by omega), decide_eq_true (by omega), decide_eq_true (by omega), decide_eq_true (by omega), decide_eq_true (by omega)]; rfl
      have h6 := h5 hxy l1 l2 hfit
      subst hi
      subst hj
      subst hn
      rw [n_cl (show i1 < 2147483648 by omega), n_cl (show j1 < 2147483648 by omega), n_cl (show n1 < 2147483648 by omega)] at h6
      have done : ∀ m2, m2 = aset m1 113 (va_cpy (m1.1 113) (m1.1 113) (40 * a + i1) (40 * b + j1) n1) → Φ (some (vi (nI n1))) m2 := by
        intro m2 e2
        subst e2
        refine h6 _ ((f1.mono (by simp) (fun _ h => h)).as (by decide) (by simp)) (fun r hr => ?_) ?_
        · have w := hR2 r hr
          rw [aset_at, aset_ne _ _ (show 111 ≠ 113 by decide), aset_ne _ _ (show 112 ≠ 113 by decide)]
          refine ⟨w.1, fun z => ⟨(w.2 z).1, (w.2 z).2.1, (w.2 z).2.2.1, (w.2 z).2.2.2.1, fun k hk => ?_⟩⟩
          unfold va_cpy cpI
          by_cases e : r = b
          · subst e
            rw [if_pos rfl]
            by_cases q : j1 ≤ k ∧ k < j1 + n1
            · rw [if_pos (by omega), if_pos q, show 40 * a + i1 + (40 * r + k - (40 * r + j1)) = 40 * a + (i1 + (k - j1)) by omega]
              exact wa.2.2.2.2 _ (by omega)
            · rw [if_neg (by omega), if_neg q]
              exact (w.2 z).2.2.2.2 k hk
          · rw [if_neg e, if_neg (by omega)]
            exact (w.2 z).2.2.2.2 k hk
        · rw [aset_ne _ _ (by decide)]; exact s1
      by_cases up : j1 ≤ i1
      · have loop : ∀ q k o8, n1 + 1 ≤ k + q → k ≤ n1 → B e_X11_copy Φ 143 [some (vr 11 110), some (vi (nI a)), some (vi (nI i1)), some (vi (nI b)), some (vi (nI j1)), some (vi (nI n1)), some (vi (nI 1)), some (vi (nI k)), o8] [] (aset m1 113 (va_cpy (m1.1 113) (m1.1 113) (40 * a + i1) (40 * b + j1) k)) (0, 0) := by
          intro q
          induction q with
          | zero => intro k o8 z1 z2; omega
          | succ q ih =>
            intro k o8 z1 z2
            refine b_iloadG (pc := 143) 7 dX11_copy_143 rfl ?_
            refine b_iloadG (pc := 145) 5 dX11_copy_145 rfl ?_
            refine b_icmp_ge (pc := 147) 204 dX11_copy_147 (by decide) (fun c147 => ?_) (fun c147 => ?_)
            refine b_iloadG (pc := 204) 5 dX11_copy_204 rfl ?_
            refine b_iret (pc := 206) rfl dX11_copy_206 ⟨Nat.le_of_ble_eq_true rfl, Nat.le_of_ble_eq_true rfl⟩ ?_
            rotate_left -- leaf 0: return at 206
            refine b_iloadG (pc := 150) 6 dX11_copy_150 rfl ?_
            refine b_if_eq (pc := 152) 160 dX11_copy_152 (by decide) (fun c152 => ?_) (fun c152 => ?_)
            rotate_left -- leaf 1: at 160
            refine b_iloadG (pc := 155) 7 dX11_copy_155 rfl ?_
            refine b_goto (pc := 157) 167 dX11_copy_157 (by decide) ?_
            refine siG8 (pc := 167) notL_i (by decide) dX11_copy_167 ?_
            refine b_aloadN (pc := 169) 0 dX11_copy_169 rfl rfl ?_
            refine gf11_4 (pc := 170) 113 rfl k1046 dX11_copy_170 ?_
            refine b_bipush (pc := 173) (nI 40) dX11_copy_173 (by decide) ?_
            refine b_iloadN (pc := 175) 3 dX11_copy_175 rfl rfl ?_
            refine b_imul (pc := 176) dX11_copy_176 ?_
            refine b_iloadG (pc := 177) 4 dX11_copy_177 rfl ?_
            refine b_iadd (pc := 179) dX11_copy_179 ?_
            refine b_iloadG (pc := 180) 8 dX11_copy_180 rfl ?_
            refine b_iadd (pc := 182) dX11_copy_182 ?_
            refine b_aloadN (pc := 183) 0 dX11_copy_183 rfl rfl ?_
            refine gf11_4 (pc := 184) 113 rfl k1046 dX11_copy_184 ?_
            refine b_bipush (pc := 187) (nI 40) dX11_copy_187 (by decide) ?_
            refine b_iloadN (pc := 189) 1 dX11_copy_189 rfl rfl ?_
            refine b_imul (pc := 190) dX11_copy_190 ?_
            refine b_iloadN (pc := 191) 2 dX11_copy_191 rfl rfl ?_
            refine b_iadd (pc := 192) dX11_copy_192 ?_
            refine b_iloadG (pc := 193) 8 dX11_copy_193 rfl ?_
            refine b_iadd (pc := 195) dX11_copy_195 ?_
            refine b_iald (pc := 196) (by decide) ?_ dX11_copy_196 ?_
            rotate_left -- leaf 2: index at 196
            refine b_iast (pc := 197) (by decide) ?_ dX11_copy_197 ?_
            rotate_left -- leaf 3: index at 197
            refine inc7 (pc := 198) notL_i (by decide) dX11_copy_198 ?_
            refine b_goto (pc := 201) 143 dX11_copy_201 (by decide) ?_
            rotate_left -- leaf 4: at 143
            -- leaves: 0 return at 206; 1 at 160; 2 index at 196; 3 index at 197; 4 at 143
            · rw [n_le (by omega) (by omega)] at c147
              rw [show k = n1 by omega]
              exact done _ rfl
            · exact absurd c152 (by decide)
            · rw [n_le (by omega) (by omega)] at c147
              rw [n_mul, n_add, n_add]; exact n_in (by omega) (by omega)
            · rw [n_le (by omega) (by omega)] at c147
              rw [n_mul, n_add, n_add]; exact n_in (by omega) (by omega)
            · rw [n_le (by omega) (by omega)] at c147
              rw [n_mul, n_add, n_add, n_mul, n_add, n_add, n_cl (show 40 * b + j1 + k < 2147483648 by omega), n_cl (show 40 * a + i1 + k < 2147483648 by omega), n_inc, mset_of_aset, aset_at, cpy_up (by omega)]
              exact ih (k + 1) _ (by omega) (by omega)
        have l := loop (n1 + 1) 0
        rw [cpy_0, aset_self _ _ _ rfl] at l
        refine b_iloadN (pc := 127) 2 dX11_copy_127 rfl rfl ?_
        refine b_iloadG (pc := 128) 4 dX11_copy_128 rfl ?_
        refine b_icmp_lt (pc := 130) 137 dX11_copy_130 (by decide) (fun c130 => ?_) (fun c130 => ?_)
        rotate_left -- leaf 0: at 137
        refine b_iconst (pc := 133) (nI 1) dX11_copy_133 (by decide) ?_
        refine b_goto (pc := 134) 138 dX11_copy_134 (by decide) ?_
        refine siG6 (pc := 138) notL_i (by decide) dX11_copy_138 ?_
        refine b_iconst (pc := 140) (nI 0) dX11_copy_140 (by decide) ?_
        refine siG7 (pc := 141) notL_i (by decide) dX11_copy_141 ?_
        rotate_left -- leaf 1: at 143
        -- leaves: 0 at 137; 1 at 143
        · rw [n_lt (by omega) (by omega)] at c130; omega
        · exact l none (by omega) (by omega)
      · have loop : ∀ q k o8, n1 + 1 ≤ k + q → k ≤ n1 → B e_X11_copy Φ 143 [some (vr 11 110), some (vi (nI a)), some (vi (nI i1)), some (vi (nI b)), some (vi (nI j1)), some (vi (nI n1)), some (vi (nI 0)), some (vi (nI k)), o8] [] (aset m1 113 (va_cpy (m1.1 113) (m1.1 113) (40 * a + i1 + (n1 - k)) (40 * b + j1 + (n1 - k)) k)) (0, 0) := by
          intro q
          induction q with
          | zero => intro k o8 z1 z2; omega
          | succ q ih =>
            intro k o8 z1 z2
            refine b_iloadG (pc := 143) 7 dX11_copy_143 rfl ?_
            refine b_iloadG (pc := 145) 5 dX11_copy_145 rfl ?_
            refine b_icmp_ge (pc := 147) 204 dX11_copy_147 (by decide) (fun c147 => ?_) (fun c147 => ?_)
            refine b_iloadG (pc := 204) 5 dX11_copy_204 rfl ?_
            refine b_iret (pc := 206) rfl dX11_copy_206 ⟨Nat.le_of_ble_eq_true rfl, Nat.le_of_ble_eq_true rfl⟩ ?_
            rotate_left -- leaf 0: return at 206
            refine b_iloadG (pc := 150) 6 dX11_copy_150 rfl ?_
            refine b_if_eq (pc := 152) 160 dX11_copy_152 (by decide) (fun c152 => ?_) (fun c152 => ?_)
            refine b_iloadG (pc := 160) 5 dX11_copy_160 rfl ?_
            refine b_iconst (pc := 162) (nI 1) dX11_copy_162 (by decide) ?_
            refine b_isub (pc := 163) dX11_copy_163 ?_
            refine b_iloadG (pc := 164) 7 dX11_copy_164 rfl ?_
            refine b_isub (pc := 166) dX11_copy_166 ?_
            refine siG8 (pc := 167) notL_i (by decide) dX11_copy_167 ?_
            refine b_aloadN (pc := 169) 0 dX11_copy_169 rfl rfl ?_
            refine gf11_4 (pc := 170) 113 rfl k1046 dX11_copy_170 ?_
            refine b_bipush (pc := 173) (nI 40) dX11_copy_173 (by decide) ?_
            refine b_iloadN (pc := 175) 3 dX11_copy_175 rfl rfl ?_
            refine b_imul (pc := 176) dX11_copy_176 ?_
            refine b_iloadG (pc := 177) 4 dX11_copy_177 rfl ?_
            refine b_iadd (pc := 179) dX11_copy_179 ?_
            refine b_iloadG (pc := 180) 8 dX11_copy_180 rfl ?_
            refine b_iadd (pc := 182) dX11_copy_182 ?_
            refine b_aloadN (pc := 183) 0 dX11_copy_183 rfl rfl ?_
            refine gf11_4 (pc := 184) 113 rfl k1046 dX11_copy_184 ?_
            refine b_bipush (pc := 187) (nI 40) dX11_copy_187 (by decide) ?_
            refine b_iloadN (pc := 189) 1 dX11_copy_189 rfl rfl ?_
            refine b_imul (pc := 190) dX11_copy_190 ?_
            refine b_iloadN (pc := 191) 2 dX11_copy_191 rfl rfl ?_
            refine b_iadd (pc := 192) dX11_copy_192 ?_
            refine b_iloadG (pc := 193) 8 dX11_copy_193 rfl ?_
            refine b_iadd (pc := 195) dX11_copy_195 ?_
            refine b_iald (pc := 196) (by decide) ?_ dX11_copy_196 ?_
            rotate_left -- leaf 1: index at 196
            refine b_iast (pc := 197) (by decide) ?_ dX11_copy_197 ?_
            rotate_left -- leaf 2: index at 197
            refine inc7 (pc := 198) notL_i (by decide) dX11_copy_198 ?_
            refine b_goto (pc := 201) 143 dX11_copy_201 (by decide) ?_
            rotate_left -- leaf 3: at 143
            rotate_left -- leaf 4: at 155
            -- leaves: 0 return at 206; 1 index at 196; 2 index at 197; 3 at 143; 4 at 155
            · rw [n_le (by omega) (by omega)] at c147
              rw [show k = n1 by omega]
              refine done _ ?_
              rw [Nat.sub_self, Nat.add_zero, Nat.add_zero]
            · rw [n_le (by omega) (by omega)] at c147
              rw [n_sub (by omega), n_sub (by omega), n_mul, n_add, n_add]; exact n_in (by omega) (by omega)
            · rw [n_le (by omega) (by omega)] at c147
              rw [n_sub (by omega), n_sub (by omega), n_mul, n_add, n_add]; exact n_in (by omega) (by omega)
            · rw [n_le (by omega) (by omega)] at c147
              rw [n_sub (by omega), n_sub (by omega), n_mul, n_add, n_add, n_mul, n_add, n_add, n_cl (show 40 * b + j1 + (n1 - 1 - k) < 2147483648 by omega), n_cl (show 40 * a + i1 + (n1 - 1 - k) < 2147483648 by omega), n_inc, mset_of_aset, aset_at, cpy_dn (by omega) (by omega)]
              exact ih (k + 1) _ (by omega) (by omega)
            · exact absurd rfl c152
        have l := loop (n1 + 1) 0
        rw [cpy_0, aset_self _ _ _ rfl] at l
        refine b_iloadN (pc := 127) 2 dX11_copy_127 rfl rfl ?_
        refine b_iloadG (pc := 128) 4 dX11_copy_128 rfl ?_
        refine b_icmp_lt (pc := 130) 137 dX11_copy_130 (by decide) (fun c130 => ?_) (fun c130 => ?_)
        refine b_iconst (pc := 137) (nI 0) dX11_copy_137 (by decide) ?_
        refine siG6 (pc := 138) notL_i (by decide) dX11_copy_138 ?_
        refine b_iconst (pc := 140) (nI 0) dX11_copy_140 (by decide) ?_
        refine siG7 (pc := 141) notL_i (by decide) dX11_copy_141 ?_
        rotate_left -- leaf 0: at 143
        rotate_left -- leaf 1: at 133
        -- leaves: 0 at 143; 1 at 133
        · exact l none (by omega) (by omega)
        · have c130 := Int32.not_lt.mp c130
          rw [n_le (by omega) (by omega)] at c130; omega
    have pre : ¬ (mset (mset m 110 0 (nI 0)) 110 1 (nI 0)).1 111 (nI a).toNatClampNeg < 0 → 0 ≤ (mset (mset m 110 0 (nI 0)) 110 1 (nI 0)).1 111 (nI b).toNatClampNeg → (mset (mset m 110 0 (nI 0)) 110 1 (nI 0)).1 111 (nI a).toNatClampNeg = (mset (mset m 110 0 (nI 0)) 110 1 (nI 0)).1 111 (nI b).toNatClampNeg → 0 < La a ∧ 0 < La b ∧ La a = La b := by
      intro z1 z2 z3
      rw [n_cl (show a < 2147483648 by omega)] at z1 z3
      rw [n_cl (show b < 2147483648 by omega)] at z2 z3
      have l1 := qa.mp (Int32.not_lt.mp z1)
      have l2 := qb.mp z2
      have w1 := (hR2 a ha).2 l1
      have w2 := (hR2 b hb).2 l2
      rw [w1.2.1, w2.2.1, n_eq (by omega) (by omega)] at z3
      exact ⟨l1, l2, by omega⟩
    have no : 0 < La a → 0 < La b → La a = La b → (i.toInt < 0 ∨ j.toInt < 0 ∨ n.toInt < 0 ∨ (Ma a : Int) < i.toInt + n.toInt ∨ (Ma b : Int) < j.toInt + n.toInt) → Φ (some (vi (-1000010 - nI 2))) (mset (mset (mset m 110 0 (nI 0)) 110 1 (nI 0)) 110 1 (nI 2)) := by
      intro l1 l2 l3 z
      refine h4 hxy l1 l3 ?_ _ (fd _).1 (fd _).2
      cases q1 : fitB i n (Ma a) with
      | false => rfl
      | true =>
        cases q2 : fitB j n (Ma b) with
        | false => rfl
        | true =>
          unfold fitB at q1 q2
          rw [Bool.and_eq_true, Bool.and_eq_true] at q1 q2
          have a1 := of_decide_eq_true q1.1
          have a2 := of_decide_eq_true q1.2.1
          have a3 := of_decide_eq_true q1.2.2
          have a4 := of_decide_eq_true q2.1
          have a5 := of_decide_eq_true q2.2.2
          omega
    refine b_aloadN (pc := 0) 0 dX11_copy_0 rfl rfl ?_
    refine b_iconst (pc := 1) (nI 0) dX11_copy_1 (by decide) ?_
    refine pf11_0 (pc := 2) k1042 dX11_copy_2 ?_
    refine b_iloadN (pc := 5) 1 dX11_copy_5 rfl rfl ?_
    refine call_X11_isRow (pc := 6) k1132 (by decide) ⟨Nat.le_of_ble_eq_true rfl, Nat.le_of_ble_eq_true rfl⟩ (Nat.le_of_ble_eq_true rfl) dX11_copy_6 ?_
    refine ⟨_, rfl, ?_⟩
    refine b_if_eq (pc := 9) 19 dX11_copy_9 (by decide) (fun c9 => ?_) (fun c9 => ?_)
    refine b_ldc (pc := 19) k1140 dX11_copy_19 ?_
    refine b_iret (pc := 21) rfl dX11_copy_21 ⟨Nat.le_of_ble_eq_true rfl, Nat.le_of_ble_eq_true rfl⟩ ?_
    rotate_left -- leaf 0: return at 21
    refine b_iloadN (pc := 12) 3 dX11_copy_12 rfl rfl ?_
    refine call_X11_isRow (pc := 13) k1132 (by decide) ⟨Nat.le_of_ble_eq_true rfl, Nat.le_of_ble_eq_true rfl⟩ (Nat.le_of_ble_eq_true rfl) dX11_copy_13 ?_
    refine ⟨_, rfl, ?_⟩
    refine b_if_ne (pc := 16) 22 dX11_copy_16 (by decide) (fun c16 => ?_) (fun c16 => ?_)
    refine b_aloadN (pc := 22) 0 dX11_copy_22 rfl rfl ?_
    refine b_iconst (pc := 23) (nI 0) dX11_copy_23 (by decide) ?_
    refine pf11_1 (pc := 24) k1043 dX11_copy_24 ?_
    refine b_aloadN (pc := 27) 0 dX11_copy_27 rfl rfl ?_
    refine gf11_2 (pc := 28) 111 rfl k1044 dX11_copy_28 ?_
    refine b_iloadN (pc := 31) 1 dX11_copy_31 rfl rfl ?_
    refine b_iald (pc := 32) (by decide) ?_ dX11_copy_32 ?_
    rotate_left -- leaf 1: index at 32
    refine b_if_lt (pc := 33) 45 dX11_copy_33 (by decide) (fun c33 => ?_) (fun c33 => ?_)
    refine b_aloadN (pc := 45) 0 dX11_copy_45 rfl rfl ?_
    refine b_iconst (pc := 46) (nI 1) dX11_copy_46 (by decide) ?_
    refine call_X11_finding (pc := 47) k1141 (by decide) ⟨Nat.le_of_ble_eq_true rfl, Nat.le_of_ble_eq_true rfl⟩ (Nat.le_of_ble_eq_true rfl) dX11_copy_47 ?_
    refine ⟨_, rfl, ?_⟩
    refine b_iret (pc := 50) rfl dX11_copy_50 ⟨Nat.le_of_ble_eq_true rfl, Nat.le_of_ble_eq_true rfl⟩ ?_
    rotate_left -- leaf 2: return at 50
    refine b_aloadN (pc := 36) 0 dX11_copy_36 rfl rfl ?_
    refine gf11_2 (pc := 37) 111 rfl k1044 dX11_copy_37 ?_
    refine b_iloadN (pc := 40) 3 dX11_copy_40 rfl rfl ?_
    refine b_iald (pc := 41) (by decide) ?_ dX11_copy_41 ?_
    rotate_left -- leaf 3: index at 41
    refine b_if_ge (pc := 42) 51 dX11_copy_42 (by decide) (fun c42 => ?_) (fun c42 => ?_)
    refine b_aloadN (pc := 51) 0 dX11_copy_51 rfl rfl ?_
    refine gf11_2 (pc := 52) 111 rfl k1044 dX11_copy_52 ?_
    refine b_iloadN (pc := 55) 1 dX11_copy_55 rfl rfl ?_
    refine b_iald (pc := 56) (by decide) ?_ dX11_copy_56 ?_
    rotate_left -- leaf 4: index at 56
    refine b_aloadN (pc := 57) 0 dX11_copy_57 rfl rfl ?_
    refine gf11_2 (pc := 58) 111 rfl k1044 dX11_copy_58 ?_
    refine b_iloadN (pc := 61) 3 dX11_copy_61 rfl rfl ?_
    refine b_iald (pc := 62) (by decide) ?_ dX11_copy_62 ?_
    rotate_left -- leaf 5: index at 62
    refine b_icmp_eq (pc := 63) 72 dX11_copy_63 (by decide) (fun c63 => ?_) (fun c63 => ?_)
    refine b_iloadN (pc := 72) 2 dX11_copy_72 rfl rfl ?_
    refine b_if_lt (pc := 73) 121 dX11_copy_73 (by decide) (fun c73 => ?_) (fun c73 => ?_)
    refine b_aloadN (pc := 121) 0 dX11_copy_121 rfl rfl ?_
    refine b_iconst (pc := 122) (nI 2) dX11_copy_122 (by decide) ?_
    refine call_X11_finding (pc := 123) k1141 (by decide) ⟨Nat.le_of_ble_eq_true rfl, Nat.le_of_ble_eq_true rfl⟩ (Nat.le_of_ble_eq_true rfl) dX11_copy_123 ?_
    refine ⟨_, rfl, ?_⟩
    refine b_iret (pc := 126) rfl dX11_copy_126 ⟨Nat.le_of_ble_eq_true rfl, Nat.le_of_ble_eq_true rfl⟩ ?_
    rotate_left -- leaf 6: return at 126
    refine b_iloadG (pc := 76) 4 dX11_copy_76 rfl ?_
    refine b_if_lt (pc := 78) 121 dX11_copy_78 (by decide) (fun c78 => ?_) (fun c78 => ?_)
    refine b_aloadN (pc := 121) 0 dX11_copy_121 rfl rfl ?_
    refine b_iconst (pc := 122) (nI 2) dX11_copy_122 (by decide) ?_
    refine call_X11_finding (pc := 123) k1141 (by decide) ⟨Nat.le_of_ble_eq_true rfl, Nat.le_of_ble_eq_true rfl⟩ (Nat.le_of_ble_eq_true rfl) dX11_copy_123 ?_
    refine ⟨_, rfl, ?_⟩
    refine b_iret (pc := 126) rfl dX11_copy_126 ⟨Nat.le_of_ble_eq_true rfl, Nat.le_of_ble_eq_true rfl⟩ ?_
    rotate_left -- leaf 7: return at 126
    refine b_iloadG (pc := 81) 5 dX11_copy_81 rfl ?_
    refine b_if_lt (pc := 83) 121 dX11_copy_83 (by decide) (fun c83 => ?_) (fun c83 => ?_)
    refine b_aloadN (pc := 121) 0 dX11_copy_121 rfl rfl ?_
    refine b_iconst (pc := 122) (nI 2) dX11_copy_122 (by decide) ?_
    refine call_X11_finding (pc := 123) k1141 (by decide) ⟨Nat.le_of_ble_eq_true rfl, Nat.le_of_ble_eq_true rfl⟩ (Nat.le_of_ble_eq_true rfl) dX11_copy_123 ?_
    refine ⟨_, rfl, ?_⟩
    refine b_iret (pc := 126) rfl dX11_copy_126 ⟨Nat.le_of_ble_eq_true rfl, Nat.le_of_ble_eq_true rfl⟩ ?_
    rotate_left -- leaf 8: return at 126
    refine b_iloadN (pc := 86) 2 dX11_copy_86 rfl rfl ?_
    refine b_i2l (pc := 87) dX11_copy_87 ?_
    refine b_iloadG (pc := 88) 5 dX11_copy_88 rfl ?_
    refine b_i2l (pc := 90) dX11_copy_90 ?_
    refine b_ladd (pc := 91) dX11_copy_91 ?_
    refine b_aloadN (pc := 92) 0 dX11_copy_92 rfl rfl ?_
    refine gf11_3 (pc := 93) 112 rfl k1045 dX11_copy_93 ?_
    refine b_iloadN (pc := 96) 1 dX11_copy_96 rfl rfl ?_
    refine b_iald (pc := 97) (by decide) ?_ dX11_copy_97 ?_
    rotate_left -- leaf 9: index at 97
    refine b_i2l (pc := 98) dX11_copy_98 ?_
    refine b_lcmp (pc := 99) dX11_copy_99 ?_
    refine b_if_gt (pc := 100) 121 dX11_copy_100 (by decide) (fun c100 => ?_) (fun c100 => ?_)
    refine b_aloadN (pc := 121) 0 dX11_copy_121 rfl rfl ?_
    refine b_iconst (pc := 122) (nI 2) dX11_copy_122 (by decide) ?_
    refine call_X11_finding (pc := 123) k1141 (by decide) ⟨Nat.le_of_ble_eq_true rfl, Nat.le_of_ble_eq_true rfl⟩ (Nat.le_of_ble_eq_true rfl) dX11_copy_123 ?_
    refine ⟨_, rfl, ?_⟩
    refine b_iret (pc := 126) rfl dX11_copy_126 ⟨Nat.le_of_ble_eq_true rfl, Nat.le_of_ble_eq_true rfl⟩ ?_
    rotate_left -- leaf 10: return at 126
    refine b_iloadG (pc := 103) 4 dX11_copy_103 rfl ?_
    refine b_i2l (pc := 105) dX11_copy_105 ?_
    refine b_iloadG (pc := 106) 5 dX11_copy_106 rfl ?_
    refine b_i2l (pc := 108) dX11_copy_108 ?_
    refine b_ladd (pc := 109) dX11_copy_109 ?_
    refine b_aloadN (pc := 110) 0 dX11_copy_110 rfl rfl ?_
    refine gf11_3 (pc := 111) 112 rfl k1045 dX11_copy_111 ?_
    refine b_iloadN (pc := 114) 3 dX11_copy_114 rfl rfl ?_
    refine b_iald (pc := 115) (by decide) ?_ dX11_copy_115 ?_
    rotate_left -- leaf 11: index at 115
    refine b_i2l (pc := 116) dX11_copy_116 ?_
    refine b_lcmp (pc := 117) dX11_copy_117 ?_
    refine b_if_le (pc := 118) 127 dX11_copy_118 (by decide) (fun c118 => ?_) (fun c118 => ?_)
    rotate_left -- leaf 12: at 127
    refine b_aloadN (pc := 121) 0 dX11_copy_121 rfl rfl ?_
    refine b_iconst (pc := 122) (nI 2) dX11_copy_122 (by decide) ?_
    refine call_X11_finding (pc := 123) k1141 (by decide) ⟨Nat.le_of_ble_eq_true rfl, Nat.le_of_ble_eq_true rfl⟩ (Nat.le_of_ble_eq_true rfl) dX11_copy_123 ?_
    refine ⟨_, rfl, ?_⟩
    refine b_iret (pc := 126) rfl dX11_copy_126 ⟨Nat.le_of_ble_eq_true rfl, Nat.le_of_ble_eq_true rfl⟩ ?_
    rotate_left -- leaf 13: return at 126
    refine b_aloadN (pc := 66) 0 dX11_copy_66 rfl rfl ?_
    refine b_iconst (pc := 67) (nI 5) dX11_copy_67 (by decide) ?_
    refine call_X11_finding (pc := 68) k1141 (by decide) ⟨Nat.le_of_ble_eq_true rfl, Nat.le_of_ble_eq_true rfl⟩ (Nat.le_of_ble_eq_true rfl) dX11_copy_68 ?_
    refine ⟨_, rfl, ?_⟩
    refine b_iret (pc := 71) rfl dX11_copy_71 ⟨Nat.le_of_ble_eq_true rfl, Nat.le_of_ble_eq_true rfl⟩ ?_
    rotate_left -- leaf 14: return at 71
    refine b_aloadN (pc := 45) 0 dX11_copy_45 rfl rfl ?_
    refine b_iconst (pc := 46) (nI 1) dX11_copy_46 (by decide) ?_
    refine call_X11_finding (pc := 47) k1141 (by decide) ⟨Nat.le_of_ble_eq_true rfl, Nat.le_of_ble_eq_true rfl⟩ (Nat.le_of_ble_eq_true rfl) dX11_copy_47 ?_
    refine ⟨_, rfl, ?_⟩
    refine b_iret (pc := 50) rfl dX11_copy_50 ⟨Nat.le_of_ble_eq_true rfl, Nat.le_of_ble_eq_true rfl⟩ ?_
    rotate_left -- leaf 15: return at 50
    refine b_ldc (pc := 19) k1140 dX11_copy_19 ?_
    refine b_iret (pc := 21) rfl dX11_copy_21 ⟨Nat.le_of_ble_eq_true rfl, Nat.le_of_ble_eq_true rfl⟩ ?_
    rotate_left -- leaf 16: return at 21
    -- leaves: 0 return at 21; 1 index at 32; 2 return at 50; 3 index at 41; 4 index at 56; 5 index at 62; 6 return at 126; 7 return at 126; 8 return at 126; 9 index at 97; 10 return at 126; 11 index at 115; 12 at 127; 13 return at 126; 14 return at 71; 15 return at 50; 16 return at 21
    · rw [hxy2.1] at c9; exact absurd c9 (by decide)
    · exact n_in (by omega) (by omega)
    · rw [n_cl (by omega)] at c33
      have c33 := Int32.not_le.mpr c33
      rw [qa] at c33
      exact h2 hxy (Or.inl (by omega)) _ (fd _).1 (fd _).2
    · exact n_in (by omega) (by omega)
    · exact n_in (by omega) (by omega)
    · exact n_in (by omega) (by omega)
    all_goals try (exact n_in (by omega) (by omega))
    · obtain ⟨l1, l2, l3⟩ := pre c33 c42 c63
      rw [i_lt, i_0] at c73
      exact no l1 l2 l3 (by omega)
    · obtain ⟨l1, l2, l3⟩ := pre c33 c42 c63
      rw [i_lt, i_0] at c78
      exact no l1 l2 l3 (by omega)
    · obtain ⟨l1, l2, l3⟩ := pre c33 c42 c63
      rw [i_lt, i_0] at c83
      exact no l1 l2 l3 (by omega)
    · obtain ⟨l1, l2, l3⟩ := pre c33 c42 c63
      rw [cmp_gt, il_sum, Int32.toInt_toInt64, n_cl (by omega), ((hR2 a ha).2 l1).2.2.1, nI_toInt (by have := ((hR2 a ha).2 l1).2.2.2.1; omega)] at c100
      exact no l1 l2 l3 (by omega)
    · obtain ⟨l1, l2, l3⟩ := pre c33 c42 c63
      have Ma1 := ((hR2 a ha).2 l1).2.2.2.1
      have Mb1 := ((hR2 b hb).2 l2).2.2.2.1
      have c118 := Int32.not_lt.mpr c118
      rw [cmp_gt, il_sum, Int32.toInt_toInt64, n_cl (by omega), ((hR2 a ha).2 l1).2.2.1, nI_toInt (by omega)] at c100
      rw [cmp_gt, il_sum, Int32.toInt_toInt64, n_cl (by omega), ((hR2 b hb).2 l2).2.2.1, nI_toInt (by omega)] at c118
      rw [i_lt, i_0] at c73 c78 c83
      have w1 : fitB i n (Ma a) = true := by
        unfold fitB
        rw [decide_eq_true (by omega), decide_eq_true (by omega), decide_eq_true (by omega)]; rfl
      have w2 : fitB j n (Ma b) = true := by
        unfold fitB
        rw [decide_eq_true (by omega), decide_eq_true (by omega), decide_eq_true (by omega)]; rfl
      obtain ⟨i1, n1, hi, hn, g1⟩ := fit_to Ma1 w1
      obtain ⟨j1, n2, hj, hn2, g2⟩ := fit_to Mb1 w2
      have e12 : n1 = n2 := by
        rw [hn] at hn2
        rw [n_eq (by omega) (by omega)] at hn2
        exact hn2
      exact fin _ hR2 f1 s1 i1 j1 n1 hi hj hn g1 (by omega) l1 l3
    · obtain ⟨l1, l2, l3⟩ := pre c33 c42 c63
      have c118 := Int32.not_le.mp c118
      rw [cmp_gt, il_sum, Int32.toInt_toInt64, n_cl (by omega), ((hR2 b hb).2 l2).2.2.1, nI_toInt (by have := ((hR2 b hb).2 l2).2.2.2.1; omega)] at c118
      exact no l1 l2 l3 (by omega)
    · rw [n_cl (by omega)] at c33 c42
      have l1 := qa.mp (Int32.not_lt.mp c33)
      have l2 := qb.mp c42
      rw [n_cl (by omega), n_cl (by omega), ((hR2 a ha).2 l1).2.1, ((hR2 b hb).2 l2).2.1] at c63
      exact h3 hxy l1 l2 (fun e => c63 (by rw [e])) _ (fd _).1 (fd _).2
    · rw [n_cl (by omega)] at c42
      rw [qb] at c42
      exact h2 hxy (Or.inr (by omega)) _ (fd _).1 (fd _).2
    · rw [hxy2.2] at c16; exact absurd c16 (by decide)
  · have e : (inB x 8 && inB y 8) = false := by
      cases q : (inB x 8 && inB y 8)
      · rfl
      · exact absurd q hxy
    refine b_aloadN (pc := 0) 0 dX11_copy_0 rfl rfl ?_
    refine b_iconst (pc := 1) (nI 0) dX11_copy_1 (by decide) ?_
    refine pf11_0 (pc := 2) k1042 dX11_copy_2 ?_
    refine b_iloadN (pc := 5) 1 dX11_copy_5 rfl rfl ?_
    refine call_X11_isRow (pc := 6) k1132 (by decide) ⟨Nat.le_of_ble_eq_true rfl, Nat.le_of_ble_eq_true rfl⟩ (Nat.le_of_ble_eq_true rfl) dX11_copy_6 ?_
    refine ⟨_, rfl, ?_⟩
    refine b_if_eq (pc := 9) 19 dX11_copy_9 (by decide) (fun c9 => ?_) (fun c9 => ?_)
    refine b_ldc (pc := 19) k1140 dX11_copy_19 ?_
    refine b_iret (pc := 21) rfl dX11_copy_21 ⟨Nat.le_of_ble_eq_true rfl, Nat.le_of_ble_eq_true rfl⟩ ?_
    rotate_left -- leaf 0: return at 21
    refine b_iloadN (pc := 12) 3 dX11_copy_12 rfl rfl ?_
    refine call_X11_isRow (pc := 13) k1132 (by decide) ⟨Nat.le_of_ble_eq_true rfl, Nat.le_of_ble_eq_true rfl⟩ (Nat.le_of_ble_eq_true rfl) dX11_copy_13 ?_
    refine ⟨_, rfl, ?_⟩
    refine b_if_ne (pc := 16) 22 dX11_copy_16 (by decide) (fun c16 => ?_) (fun c16 => ?_)
    rotate_left -- leaf 1: at 22
    refine b_ldc (pc := 19) k1140 dX11_copy_19 ?_
    refine b_iret (pc := 21) rfl dX11_copy_21 ⟨Nat.le_of_ble_eq_true rfl, Nat.le_of_ble_eq_true rfl⟩ ?_
    rotate_left -- leaf 2: return at 21
    -- leaves: 0 return at 21; 1 at 22; 2 return at 21
    · exact h1 e _ f0
    · exact absurd (by rw [bT c9, bT c16]; rfl) hxy
    · exact h1 e _ f0
theorem call_X11_copy {E : ME} {Φ : Option AV → AM → Prop} {pc : Nat} {L : List (Option AV)} {st : List AV} {m : AM} {a : Nat × Nat} {idx : Nat} {x0 x1 x2 x3 x4 : AV} {i : Nat} (hl : Cond.methodLink E.2.1 idx yX11_copy ∈ TB) (hdep : 8 + 1 ≤ E.2.2.2.2.2.2) (hroom : a.1 + 0 ≤ E.2.2.2.2.1 ∧ a.2 + 0 ≤ E.2.2.2.2.2.1) (hsr : st.length ≤ 4) (hd : decode E.1 pc = .ok (.invokevirtual idx, 3)) (hsp : Sp_X11_copy [vr 11 i, x0, x1, x2, x3, x4] m (fun r m2 => B E Φ (pc + 3) L (r.toList ++ st) m2 a)) : B E Φ pc L (x4 :: x3 :: x2 :: x1 :: x0 :: vr 11 i :: st) m a := b_callV S_X11_copy [x0, x1, x2, x3, x4] (RX11, TX11, 28) rfl rfl (by decide) (Or.inl hl) k1151 k1152 k80 k1153 (show _ ∧ _ ∧ Option.map (fun d => d.parameters.length) (parseMethodDescriptor yX11_copy.desc) = some 5 from by decide +kernel) ⟨hdep, by decide⟩ hroom hsr hd hsp
