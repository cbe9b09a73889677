/-! the flat world at the start, out of what the two great constructors lay (printed by gen_world.py) -/
def tauI (i : Nat) : Nat := if 82 ≤ i ∧ i ≤ 97 then i + 12 else if 98 ≤ i ∧ i ≤ 109 then i - 16 else i
def ad0 (z : Nat) (i : Nat) : Nat := z + tauI i
def m0I (i j : Nat) : Int32 := if i = 12 then (if j < 8 then -1 else nI 0) else if i = 111 then (upd (upd (upd (upd (upd (upd (upd (upd (fun _ => nI 0) (nI 0).toNatClampNeg (-1)) (nI 1).toNatClampNeg (-1)) (nI 2).toNatClampNeg (-1)) (nI 3).toNatClampNeg (-1)) (nI 4).toNatClampNeg (-1)) (nI 5).toNatClampNeg (-1)) (nI 6).toNatClampNeg (-1)) (nI 7).toNatClampNeg (-1)) j else nI 0
def m0R (i k : Nat) : Nat := if i = 98 then (if k = 1 then 100 else if k = 2 then 101 else 102) else (if k = 0 then 104 else if k = 1 then 105 else if k = 2 then 106 else 107)
def m0L (i : Nat) : Nat := if 104 ≤ i ∧ i ≤ 107 then 64 else 0
def m0 : AM := (m0I, (m0R, (m0L, 125)))
def cur0 (Y : Nat → ClassId) (z : Nat) : List va_E := blk10 Y z ++ blk11 Y (z + 110)
def At (L : List va_E) (o : Nat) (B : List va_E) : Prop := ∀ (k : Nat) (e : va_E), B[k]? = some e → L[o + k]? = some e
theorem At.rf (L : List va_E) : At L 0 L := fun k e h => by rw [Nat.zero_add]; exact h
theorem At.l {L xs ys : List va_E} {o : Nat} (h : At L o (xs ++ ys)) : At L o xs := fun k e q => h k e (by rw [List.getElem?_append_left (List.getElem?_eq_some_iff.mp q).1]; exact q)
theorem At.r {L xs ys : List va_E} {o : Nat} (n : Nat) (h : At L o (xs ++ ys)) (hn : xs.length = n) : At L (o + n) ys := fun k e q => by
  have t := h (n + k) e (by rw [List.getElem?_append_right (by omega), hn, show n + k - n = k by omega]; exact q)
  rw [show o + (n + k) = o + n + k by omega] at t
  exact t
theorem At.t {L xs : List va_E} {x : va_E} {o : Nat} (h : At L o (x :: xs)) : At L (o + 1) xs := fun k e q => by
  have t := h (k + 1) e q
  rw [show o + (k + 1) = o + 1 + k by omega] at t
  exact t
theorem cel_at {Y : Nat → ClassId} {ad : Nat → Nat} {m : AM} {i t : Nat} (h : KD i = t) : cel Y ad m i = celT Y ad (m.1 i) (m.2.1 i) (m.2.2.1 i) t i := by
  unfold cel
  rw [h]
section LAID
variable (Y : Nat → ClassId) (z : Nat)
theorem len5 (b : Nat) : (blk5 Y b).length = 5 := rfl
theorem len8 (b : Nat) : (blk8 Y b).length = 2 := rfl
theorem len6 (b : Nat) : (blk6 Y b).length = 12 := rfl
theorem len9 (b : Nat) : (blk9 Y b).length = 7 := rfl
theorem len2 (b : Nat) : (blk2 Y b).length = 11 := rfl
theorem len0 (b : Nat) : (blk0 Y b).length = 50 := by
  show (stdR Y b 24).length + 1 + 1 = 50
  rw [stdR_len]
theorem len7 (b : Nat) : (blk7 Y b).length = 5 := rfl
theorem len3 (b : Nat) : (blk3 Y b).length = 5 := rfl
theorem len1 (b : Nat) : (blk1 Y b).length = 2 := rfl
theorem len4 (b : Nat) : (blk4 Y b).length = 8 := rfl
theorem hb10 : At (cur0 Y z) 0 (blk10 Y z) := (At.rf (cur0 Y z)).l
theorem hbR : At (cur0 Y z) 1 (((((((((blk6 Y (z + 1) ++ blk9 Y (z + 13)) ++ blk2 Y (z + 20)) ++ blk0 Y (z + 31)) ++ [raE Y 2 2 (fun i => if i < 2 then some (z + 94 + 8 * i) else none)]) ++ blk7 Y (z + 82)) ++ blk3 Y (z + 87)) ++ blk1 Y (z + 92)) ++ blk4 Y (z + 94)) ++ blk4 Y (z + 102)) := At.t (hb10 Y z)
theorem hb102 : At (cur0 Y z) 102 (blk4 Y (z + 102)) := At.r 101 (hbR Y z) (by simp only [List.length_append, List.length_cons, List.length_nil, len6, len9, len2, len0, len7, len3, len1, len4])
theorem hb94 : At (cur0 Y z) 94 (blk4 Y (z + 94)) := At.r 93 (hbR Y z).l (by simp only [List.length_append, List.length_cons, List.length_nil, len6, len9, len2, len0, len7, len3, len1, len4])
theorem hb92 : At (cur0 Y z) 92 (blk1 Y (z + 92)) := At.r 91 (hbR Y z).l.l (by simp only [List.length_append, List.length_cons, List.length_nil, len6, len9, len2, len0, len7, len3, len1, len4])
theorem hb87 : At (cur0 Y z) 87 (blk3 Y (z + 87)) := At.r 86 (hbR Y z).l.l.l (by simp only [List.length_append, List.length_cons, List.length_nil, len6, len9, len2, len0, len7, len3, len1, len4])
theorem hb82 : At (cur0 Y z) 82 (blk7 Y (z + 82)) := At.r 81 (hbR Y z).l.l.l.l (by simp only [List.length_append, List.length_cons, List.length_nil, len6, len9, len2, len0, len7, len3, len1, len4])
theorem hb81 : At (cur0 Y z) 81 [raE Y 2 2 (fun i => if i < 2 then some (z + 94 + 8 * i) else none)] := At.r 80 (hbR Y z).l.l.l.l.l (by simp only [List.length_append, List.length_cons, List.length_nil, len6, len9, len2, len0, len7, len3, len1, len4])
theorem hb31 : At (cur0 Y z) 31 (blk0 Y (z + 31)) := At.r 30 (hbR Y z).l.l.l.l.l.l (by simp only [List.length_append, List.length_cons, List.length_nil, len6, len9, len2, len0, len7, len3, len1, len4])
theorem hb20 : At (cur0 Y z) 20 (blk2 Y (z + 20)) := At.r 19 (hbR Y z).l.l.l.l.l.l.l (by simp only [List.length_append, List.length_cons, List.length_nil, len6, len9, len2, len0, len7, len3, len1, len4])
theorem hb13 : At (cur0 Y z) 13 (blk9 Y (z + 13)) := At.r 12 (hbR Y z).l.l.l.l.l.l.l.l (by simp only [List.length_append, List.length_cons, List.length_nil, len6, len9, len2, len0, len7, len3, len1, len4])
theorem hb1 : At (cur0 Y z) 1 (blk6 Y (z + 1)) := (hbR Y z).l.l.l.l.l.l.l.l.l
theorem len10 : (blk10 Y z).length = 110 := by
  show (_ :: _ : List va_E).length = 110
  simp only [List.length_append, List.length_cons, List.length_nil, len6, len9, len2, len0, len7, len3, len1, len4]
theorem hb110 : At (cur0 Y z) 110 (blk11 Y (z + 110)) := At.r 110 (At.rf (cur0 Y z)) (len10 Y z)
theorem len11 (b : Nat) : (blk11 Y b).length = 15 := by
  show (_ :: _ : List va_E).length = 15
  simp only [List.length_append, List.length_cons, List.length_nil]
theorem hbst : ∀ n k, k < n → At (stdR Y (z + 31) n) (2 * k) (blk8 Y (z + 31 + 2 + 2 * k))
  | 0, k, h => absurd h (Nat.not_lt_zero k)
  | n + 1, k, h => by
    rw [stdR_s]
    intro j e q
    by_cases z1 : k < n
    · have t := hbst n k z1 j e q
      rw [List.getElem?_append_left (List.getElem?_eq_some_iff.mp t).1]
      exact t
    · have ek : k = n := by omega
      subst ek
      rw [List.getElem?_append_right (by rw [stdR_len]; omega), stdR_len, show 2 * k + j - 2 * k = j by omega]
      exact q
theorem w0_0 : (cur0 Y z)[0]? = some (cel Y (ad0 z) m0 0) := by
  rw [cel_at (t := 10) (by decide +kernel)]
  exact hb10 Y z 0 _ rfl
theorem w0_1 : (cur0 Y z)[1]? = some (cel Y (ad0 z) m0 1) := by
  rw [cel_at (t := 6) (by decide +kernel)]
  exact hb1 Y z 0 _ rfl
theorem w0_3 : (cur0 Y z)[3]? = some (cel Y (ad0 z) m0 3) := by
  rw [cel_at (t := 140) (by decide +kernel)]
  exact hb1 Y z 2 _ rfl
theorem w0_4 : (cur0 Y z)[4]? = some (cel Y (ad0 z) m0 4) := by
  rw [cel_at (t := 140) (by decide +kernel)]
  exact hb1 Y z 3 _ rfl
theorem w0_5 : (cur0 Y z)[5]? = some (cel Y (ad0 z) m0 5) := by
  rw [cel_at (t := 140) (by decide +kernel)]
  exact hb1 Y z 4 _ rfl
theorem w0_6 : (cur0 Y z)[6]? = some (cel Y (ad0 z) m0 6) := by
  rw [cel_at (t := 140) (by decide +kernel)]
  exact hb1 Y z 5 _ rfl
theorem w0_7 : (cur0 Y z)[7]? = some (cel Y (ad0 z) m0 7) := by
  rw [cel_at (t := 140) (by decide +kernel)]
  exact hb1 Y z 6 _ rfl
theorem w0_8 : (cur0 Y z)[8]? = some (cel Y (ad0 z) m0 8) := by
  rw [cel_at (t := 140) (by decide +kernel)]
  exact hb1 Y z 7 _ rfl
theorem w0_9 : (cur0 Y z)[9]? = some (cel Y (ad0 z) m0 9) := by
  rw [cel_at (t := 140) (by decide +kernel)]
  exact hb1 Y z 8 _ rfl
theorem w0_10 : (cur0 Y z)[10]? = some (cel Y (ad0 z) m0 10) := by
  rw [cel_at (t := 140) (by decide +kernel)]
  exact hb1 Y z 9 _ rfl
theorem w0_11 : (cur0 Y z)[11]? = some (cel Y (ad0 z) m0 11) := by
  rw [cel_at (t := 108) (by decide +kernel)]
  exact hb1 Y z 10 _ rfl
theorem w0_12 : (cur0 Y z)[12]? = some (cel Y (ad0 z) m0 12) := by
  rw [cel_at (t := 108) (by decide +kernel)]
  exact hb1 Y z 11 _ rfl
theorem w0_13 : (cur0 Y z)[13]? = some (cel Y (ad0 z) m0 13) := by
  rw [cel_at (t := 9) (by decide +kernel)]
  exact hb13 Y z 0 _ rfl
theorem w0_14 : (cur0 Y z)[14]? = some (cel Y (ad0 z) m0 14) := by
  rw [cel_at (t := 5) (by decide +kernel)]
  exact hb13 Y z 1 _ rfl
theorem w0_15 : (cur0 Y z)[15]? = some (cel Y (ad0 z) m0 15) := by
  rw [cel_at (t := 108) (by decide +kernel)]
  exact hb13 Y z 2 _ rfl
theorem w0_16 : (cur0 Y z)[16]? = some (cel Y (ad0 z) m0 16) := by
  rw [cel_at (t := 108) (by decide +kernel)]
  exact hb13 Y z 3 _ rfl
theorem w0_17 : (cur0 Y z)[17]? = some (cel Y (ad0 z) m0 17) := by
  rw [cel_at (t := 108) (by decide +kernel)]
  exact hb13 Y z 4 _ rfl
theorem w0_18 : (cur0 Y z)[18]? = some (cel Y (ad0 z) m0 18) := by
  rw [cel_at (t := 105) (by decide +kernel)]
  exact hb13 Y z 5 _ rfl
theorem w0_19 : (cur0 Y z)[19]? = some (cel Y (ad0 z) m0 19) := by
  rw [cel_at (t := 220) (by decide +kernel)]
  exact hb13 Y z 6 _ rfl
theorem w0_20 : (cur0 Y z)[20]? = some (cel Y (ad0 z) m0 20) := by
  rw [cel_at (t := 2) (by decide +kernel)]
  exact hb20 Y z 0 _ rfl
theorem w0_21 : (cur0 Y z)[21]? = some (cel Y (ad0 z) m0 21) := by
  rw [cel_at (t := 5) (by decide +kernel)]
  exact hb20 Y z 1 _ rfl
theorem w0_22 : (cur0 Y z)[22]? = some (cel Y (ad0 z) m0 22) := by
  rw [cel_at (t := 108) (by decide +kernel)]
  exact hb20 Y z 2 _ rfl
theorem w0_23 : (cur0 Y z)[23]? = some (cel Y (ad0 z) m0 23) := by
  rw [cel_at (t := 108) (by decide +kernel)]
  exact hb20 Y z 3 _ rfl
theorem w0_24 : (cur0 Y z)[24]? = some (cel Y (ad0 z) m0 24) := by
  rw [cel_at (t := 108) (by decide +kernel)]
  exact hb20 Y z 4 _ rfl
theorem w0_25 : (cur0 Y z)[25]? = some (cel Y (ad0 z) m0 25) := by
  rw [cel_at (t := 105) (by decide +kernel)]
  exact hb20 Y z 5 _ rfl
theorem w0_26 : (cur0 Y z)[26]? = some (cel Y (ad0 z) m0 26) := by
  rw [cel_at (t := 8) (by decide +kernel)]
  exact hb20 Y z 6 _ rfl
theorem w0_27 : (cur0 Y z)[27]? = some (cel Y (ad0 z) m0 27) := by
  rw [cel_at (t := 105) (by decide +kernel)]
  exact hb20 Y z 7 _ rfl
theorem w0_28 : (cur0 Y z)[28]? = some (cel Y (ad0 z) m0 28) := by
  rw [cel_at (t := 106) (by decide +kernel)]
  exact hb20 Y z 8 _ rfl
theorem w0_29 : (cur0 Y z)[29]? = some (cel Y (ad0 z) m0 29) := by
  rw [cel_at (t := 106) (by decide +kernel)]
  exact hb20 Y z 9 _ rfl
theorem w0_30 : (cur0 Y z)[30]? = some (cel Y (ad0 z) m0 30) := by
  rw [cel_at (t := 164) (by decide +kernel)]
  exact hb20 Y z 10 _ rfl
theorem w0_31 : (cur0 Y z)[31]? = some (cel Y (ad0 z) m0 31) := by
  rw [cel_at (t := 0) (by decide +kernel)]
  exact hb31 Y z 0 _ rfl
theorem w0_82 : (cur0 Y z)[94]? = some (cel Y (ad0 z) m0 82) := by
  rw [cel_at (t := 4) (by decide +kernel)]
  exact hb94 Y z 0 _ rfl
theorem w0_83 : (cur0 Y z)[95]? = some (cel Y (ad0 z) m0 83) := by
  rw [cel_at (t := 5) (by decide +kernel)]
  exact hb94 Y z 1 _ rfl
theorem w0_84 : (cur0 Y z)[96]? = some (cel Y (ad0 z) m0 84) := by
  rw [cel_at (t := 108) (by decide +kernel)]
  exact hb94 Y z 2 _ rfl
theorem w0_85 : (cur0 Y z)[97]? = some (cel Y (ad0 z) m0 85) := by
  rw [cel_at (t := 108) (by decide +kernel)]
  exact hb94 Y z 3 _ rfl
theorem w0_86 : (cur0 Y z)[98]? = some (cel Y (ad0 z) m0 86) := by
  rw [cel_at (t := 108) (by decide +kernel)]
  exact hb94 Y z 4 _ rfl
theorem w0_87 : (cur0 Y z)[99]? = some (cel Y (ad0 z) m0 87) := by
  rw [cel_at (t := 105) (by decide +kernel)]
  exact hb94 Y z 5 _ rfl
theorem w0_88 : (cur0 Y z)[100]? = some (cel Y (ad0 z) m0 88) := by
  rw [cel_at (t := 8) (by decide +kernel)]
  exact hb94 Y z 6 _ rfl
theorem w0_89 : (cur0 Y z)[101]? = some (cel Y (ad0 z) m0 89) := by
  rw [cel_at (t := 105) (by decide +kernel)]
  exact hb94 Y z 7 _ rfl
theorem w0_90 : (cur0 Y z)[102]? = some (cel Y (ad0 z) m0 90) := by
  rw [cel_at (t := 4) (by decide +kernel)]
  exact hb102 Y z 0 _ rfl
theorem w0_91 : (cur0 Y z)[103]? = some (cel Y (ad0 z) m0 91) := by
  rw [cel_at (t := 5) (by decide +kernel)]
  exact hb102 Y z 1 _ rfl
theorem w0_92 : (cur0 Y z)[104]? = some (cel Y (ad0 z) m0 92) := by
  rw [cel_at (t := 108) (by decide +kernel)]
  exact hb102 Y z 2 _ rfl
theorem w0_93 : (cur0 Y z)[105]? = some (cel Y (ad0 z) m0 93) := by
  rw [cel_at (t := 108) (by decide +kernel)]
  exact hb102 Y z 3 _ rfl
theorem w0_94 : (cur0 Y z)[106]? = some (cel Y (ad0 z) m0 94) := by
  rw [cel_at (t := 108) (by decide +kernel)]
  exact hb102 Y z 4 _ rfl
theorem w0_95 : (cur0 Y z)[107]? = some (cel Y (ad0 z) m0 95) := by
  rw [cel_at (t := 105) (by decide +kernel)]
  exact hb102 Y z 5 _ rfl
theorem w0_96 : (cur0 Y z)[108]? = some (cel Y (ad0 z) m0 96) := by
  rw [cel_at (t := 8) (by decide +kernel)]
  exact hb102 Y z 6 _ rfl
theorem w0_97 : (cur0 Y z)[109]? = some (cel Y (ad0 z) m0 97) := by
  rw [cel_at (t := 105) (by decide +kernel)]
  exact hb102 Y z 7 _ rfl
theorem w0_98 : (cur0 Y z)[82]? = some (cel Y (ad0 z) m0 98) := by
  rw [cel_at (t := 7) (by decide +kernel)]
  exact hb82 Y z 0 _ rfl
theorem w0_99 : (cur0 Y z)[83]? = some (cel Y (ad0 z) m0 99) := by
  rw [cel_at (t := 105) (by decide +kernel)]
  exact hb82 Y z 1 _ rfl
theorem w0_100 : (cur0 Y z)[84]? = some (cel Y (ad0 z) m0 100) := by
  rw [cel_at (t := 12) (by decide +kernel)]
  exact hb82 Y z 2 _ rfl
theorem w0_101 : (cur0 Y z)[85]? = some (cel Y (ad0 z) m0 101) := by
  rw [cel_at (t := 12) (by decide +kernel)]
  exact hb82 Y z 3 _ rfl
theorem w0_102 : (cur0 Y z)[86]? = some (cel Y (ad0 z) m0 102) := by
  rw [cel_at (t := 12) (by decide +kernel)]
  exact hb82 Y z 4 _ rfl
theorem w0_103 : (cur0 Y z)[87]? = some (cel Y (ad0 z) m0 103) := by
  rw [cel_at (t := 3) (by decide +kernel)]
  exact hb87 Y z 0 _ rfl
theorem w0_104 : (cur0 Y z)[88]? = some (cel Y (ad0 z) m0 104) := by
  rw [cel_at (t := 12) (by decide +kernel)]
  exact hb87 Y z 1 _ rfl
theorem w0_105 : (cur0 Y z)[89]? = some (cel Y (ad0 z) m0 105) := by
  rw [cel_at (t := 12) (by decide +kernel)]
  exact hb87 Y z 2 _ rfl
theorem w0_106 : (cur0 Y z)[90]? = some (cel Y (ad0 z) m0 106) := by
  rw [cel_at (t := 12) (by decide +kernel)]
  exact hb87 Y z 3 _ rfl
theorem w0_107 : (cur0 Y z)[91]? = some (cel Y (ad0 z) m0 107) := by
  rw [cel_at (t := 12) (by decide +kernel)]
  exact hb87 Y z 4 _ rfl
theorem w0_108 : (cur0 Y z)[92]? = some (cel Y (ad0 z) m0 108) := by
  rw [cel_at (t := 1) (by decide +kernel)]
  exact hb92 Y z 0 _ rfl
theorem w0_109 : (cur0 Y z)[93]? = some (cel Y (ad0 z) m0 109) := by
  rw [cel_at (t := 116) (by decide +kernel)]
  exact hb92 Y z 1 _ rfl
theorem w0_110 : (cur0 Y z)[110]? = some (cel Y (ad0 z) m0 110) := by
  rw [cel_at (t := 11) (by decide +kernel)]
  exact hb110 Y z 0 _ rfl
theorem w0_111 : (cur0 Y z)[111]? = some (cel Y (ad0 z) m0 111) := by
  rw [cel_at (t := 108) (by decide +kernel)]
  exact hb110 Y z 1 _ rfl
theorem w0_112 : (cur0 Y z)[112]? = some (cel Y (ad0 z) m0 112) := by
  rw [cel_at (t := 108) (by decide +kernel)]
  exact hb110 Y z 2 _ rfl
theorem w0_113 : (cur0 Y z)[113]? = some (cel Y (ad0 z) m0 113) := by
  rw [cel_at (t := 420) (by decide +kernel)]
  exact hb110 Y z 3 _ rfl
theorem w0_114 : (cur0 Y z)[114]? = some (cel Y (ad0 z) m0 114) := by
  rw [cel_at (t := 150) (by decide +kernel)]
  exact hb110 Y z 4 _ rfl
theorem w0_115 : (cur0 Y z)[115]? = some (cel Y (ad0 z) m0 115) := by
  rw [cel_at (t := 150) (by decide +kernel)]
  exact hb110 Y z 5 _ rfl
theorem w0_116 : (cur0 Y z)[116]? = some (cel Y (ad0 z) m0 116) := by
  rw [cel_at (t := 1300) (by decide +kernel)]
  exact hb110 Y z 6 _ rfl
theorem w0_117 : (cur0 Y z)[117]? = some (cel Y (ad0 z) m0 117) := by
  rw [cel_at (t := 220) (by decide +kernel)]
  exact hb110 Y z 7 _ rfl
theorem w0_118 : (cur0 Y z)[118]? = some (cel Y (ad0 z) m0 118) := by
  rw [cel_at (t := 4196) (by decide +kernel)]
  exact hb110 Y z 8 _ rfl
theorem w0_119 : (cur0 Y z)[119]? = some (cel Y (ad0 z) m0 119) := by
  rw [cel_at (t := 4196) (by decide +kernel)]
  exact hb110 Y z 9 _ rfl
theorem w0_120 : (cur0 Y z)[120]? = some (cel Y (ad0 z) m0 120) := by
  rw [cel_at (t := 24096) (by decide +kernel)]
  exact hb110 Y z 10 _ rfl
theorem w0_121 : (cur0 Y z)[121]? = some (cel Y (ad0 z) m0 121) := by
  rw [cel_at (t := 4197) (by decide +kernel)]
  exact hb110 Y z 11 _ rfl
theorem w0_122 : (cur0 Y z)[122]? = some (cel Y (ad0 z) m0 122) := by
  rw [cel_at (t := 20002) (by decide +kernel)]
  exact hb110 Y z 12 _ rfl
theorem w0_123 : (cur0 Y z)[123]? = some (cel Y (ad0 z) m0 123) := by
  rw [cel_at (t := 200) (by decide +kernel)]
  exact hb110 Y z 13 _ rfl
theorem w0_124 : (cur0 Y z)[124]? = some (cel Y (ad0 z) m0 124) := by
  rw [cel_at (t := 116) (by decide +kernel)]
  exact hb110 Y z 14 _ rfl
theorem tau_low {i : Nat} (h : i < 82) : tauI i = i := by
  unfold tauI
  rw [if_neg (by omega), if_neg (by omega)]
theorem w0_std (k : Nat) (hk : k < 24) : (cur0 Y z)[33 + 2 * k]? = some (.inr (8, [.ref (z + 31 + 2 + 2 * k + 1), .int 0, .int 0, .int 0, .int 0, .int 0])) ∧ (cur0 Y z)[34 + 2 * k]? = some (iaE Y 5) := by
  have a : ∀ (j : Nat) (e : va_E), (blk8 Y (z + 31 + 2 + 2 * k))[j]? = some e → (cur0 Y z)[31 + (2 + (2 * k + j))]? = some e := fun j e q => hb31 Y z (2 + (2 * k + j)) e (by
    rw [show 2 + (2 * k + j) = (2 * k + j) + 1 + 1 by omega]
    exact hbst Y z 24 k hk j e q)
  refine ⟨?_, ?_⟩
  · have t := a 0 _ rfl
    rw [show 31 + (2 + (2 * k + 0)) = 33 + 2 * k by omega] at t
    exact t
  · have t := a 1 _ rfl
    rw [show 31 + (2 + (2 * k + 1)) = 34 + 2 * k by omega] at t
    exact t
theorem kd_std : ∀ k, k < 24 → KD (33 + 2 * k) = 8 ∧ KD (34 + 2 * k) = 105 := by decide +kernel
theorem m0_z {i : Nat} (h : i ≠ 12) (h2 : i ≠ 111) : m0.1 i = fun _ => nI 0 := by
  funext j
  show m0I i j = nI 0
  unfold m0I
  rw [if_neg h, if_neg h2]
theorem w0_ring (k : Nat) (hk : k < 24) : (cur0 Y z)[33 + 2 * k]? = some (cel Y (ad0 z) m0 (33 + 2 * k)) ∧ (cur0 Y z)[34 + 2 * k]? = some (cel Y (ad0 z) m0 (34 + 2 * k)) := by
  have w := w0_std Y z k hk
  have t := kd_std k hk
  rw [cel_at t.1, cel_at t.2, m0_z (by omega) (by omega), m0_z (by omega) (by omega)]
  refine ⟨w.1.trans ?_, w.2.trans rfl⟩
  show some _ = some (Sum.inr (8, [Value.ref (z + tauI (33 + 2 * k + 1)), _, _, _, _, _]))
  rw [tau_low (by omega), show z + 31 + 2 + 2 * k + 1 = z + (33 + 2 * k + 1) by omega]
  rfl
theorem w0_2 : (cur0 Y z)[2]? = some (cel Y (ad0 z) m0 2) := by
  rw [cel_at (t := 15) (by decide +kernel)]
  refine (hb1 Y z 1 _ rfl).trans ?_
  refine congrArg some ?_
  show raE Y 4 8 (fun i => if i < 8 then some (z + 1 + 1 + 1 + i) else none) = raE Y 4 8 (fun j => if j < 8 then some (z + tauI (2 + 1 + j)) else none)
  congr 6
  funext j
  by_cases h : j < 8
  · rw [if_pos h, if_pos h, tau_low (by omega), show z + 1 + 1 + 1 + j = z + (2 + 1 + j) by omega]
  · rw [if_neg h, if_neg h]
theorem w0_32 : (cur0 Y z)[32]? = some (cel Y (ad0 z) m0 32) := by
  rw [cel_at (t := 13) (by decide +kernel)]
  refine (hb31 Y z 1 _ rfl).trans ?_
  refine congrArg some ?_
  show raE Y 3 24 (fun j => if j < 24 then some (z + 31 + 2 + 2 * j) else none) = raE Y 3 24 (fun j => if j < 24 then some (z + tauI (32 + 1 + 2 * j)) else none)
  congr 6
  funext j
  by_cases h : j < 24
  · rw [if_pos h, if_pos h, tau_low (by omega), show z + 31 + 2 + 2 * j = z + (32 + 1 + 2 * j) by omega]
  · rw [if_neg h, if_neg h]
theorem w0_81 : (cur0 Y z)[81]? = some (cel Y (ad0 z) m0 81) := by
  rw [cel_at (t := 14) (by decide +kernel)]
  refine (hb81 Y z 0 _ rfl).trans ?_
  refine congrArg some ?_
  show raE Y 2 2 (fun i => if i < 2 then some (z + 94 + 8 * i) else none) = raE Y 2 2 (fun j => if j < 2 then some (z + tauI (81 + 1 + 8 * j)) else none)
  congr 6
  funext j
  by_cases h : j < 2
  · rw [if_pos h, if_pos h]
    rcases (show j = 0 ∨ j = 1 by omega) with rfl | rfl <;> rfl
  · rw [if_neg h, if_neg h]
end LAID
theorem w0_all (Y : Nat → ClassId) (z : Nat) : ∀ i, i < 125 → (cur0 Y z)[tauI i]? = some (cel Y (ad0 z) m0 i) := by
  intro i hi
  by_cases h : 33 ≤ i ∧ i ≤ 80
  · rw [tau_low (by omega)]
    have w := w0_ring Y z ((i - 33) / 2) (by omega)
    rcases (show i = 33 + 2 * ((i - 33) / 2) ∨ i = 34 + 2 * ((i - 33) / 2) by omega) with e | e
    · rw [← e] at w; exact w.1
    · rw [← e] at w; exact w.2
  · rcases (show i = 0 ∨ i = 1 ∨ i = 2 ∨ i = 3 ∨ i = 4 ∨ i = 5 ∨ i = 6 ∨ i = 7 ∨ i = 8 ∨ i = 9 ∨ i = 10 ∨ i = 11 ∨ i = 12 ∨ i = 13 ∨ i = 14 ∨ i = 15 ∨ i = 16 ∨ i = 17 ∨ i = 18 ∨ i = 19 ∨ i = 20 ∨ i = 21 ∨ i = 22 ∨ i = 23 ∨ i = 24 ∨ i = 25 ∨ i = 26 ∨ i = 27 ∨ i = 28 ∨ i = 29 ∨ i = 30 ∨ i = 31 ∨ i = 32 ∨ i = 81 ∨ i = 82 ∨ i = 83 ∨ i = 84 ∨ i = 85 ∨ i = 86 ∨ i = 87 ∨ i = 88 ∨ i = 89 ∨ i = 90 ∨ i = 91 ∨ i = 92 ∨ i = 93 ∨ i = 94 ∨ i = 95 ∨ i = 96 ∨ i = 97 ∨ i = 98 ∨ i = 99 ∨ i = 100 ∨ i = 101 ∨ i = 102 ∨ i = 103 ∨ i = 104 ∨ i = 105 ∨ i = 106 ∨ i = 107 ∨ i = 108 ∨ i = 109 ∨ i = 110 ∨ i = 111 ∨ i = 112 ∨ i = 113 ∨ i = 114 ∨ i = 115 ∨ i = 116 ∨ i = 117 ∨ i = 118 ∨ i = 119 ∨ i = 120 ∨ i = 121 ∨ i = 122 ∨ i = 123 ∨ i = 124 by omega) with rfl | rfl | rfl | rfl | rfl | rfl | rfl | rfl | rfl | rfl | rfl | rfl | rfl | rfl | rfl | rfl | rfl | rfl | rfl | rfl | rfl | rfl | rfl | rfl | rfl | rfl | rfl | rfl | rfl | rfl | rfl | rfl | rfl | rfl | rfl | rfl | rfl | rfl | rfl | rfl | rfl | rfl | rfl | rfl | rfl | rfl | rfl | rfl | rfl | rfl | rfl | rfl | rfl | rfl | rfl | rfl | rfl | rfl | rfl | rfl | rfl | rfl | rfl | rfl | rfl | rfl | rfl | rfl | rfl | rfl | rfl | rfl | rfl | rfl | rfl | rfl | rfl
    · exact w0_0 Y z
    · exact w0_1 Y z
    · exact w0_2 Y z
    · exact w0_3 Y z
    · exact w0_4 Y z
    · exact w0_5 Y z
    · exact w0_6 Y z
    · exact w0_7 Y z
    · exact w0_8 Y z
    · exact w0_9 Y z
    · exact w0_10 Y z
    · exact w0_11 Y z
    · exact w0_12 Y z
    · exact w0_13 Y z
    · exact w0_14 Y z
    · exact w0_15 Y z
    · exact w0_16 Y z
    · exact w0_17 Y z
    · exact w0_18 Y z
    · exact w0_19 Y z
    · exact w0_20 Y z
    · exact w0_21 Y z
    · exact w0_22 Y z
    · exact w0_23 Y z
    · exact w0_24 Y z
    · exact w0_25 Y z
    · exact w0_26 Y z
    · exact w0_27 Y z
    · exact w0_28 Y z
    · exact w0_29 Y z
    · exact w0_30 Y z
    · exact w0_31 Y z
    · exact w0_32 Y z
    · exact w0_81 Y z
    · exact w0_82 Y z
    · exact w0_83 Y z
    · exact w0_84 Y z
    · exact w0_85 Y z
    · exact w0_86 Y z
    · exact w0_87 Y z
    · exact w0_88 Y z
    · exact w0_89 Y z
    · exact w0_90 Y z
    · exact w0_91 Y z
    · exact w0_92 Y z
    · exact w0_93 Y z
    · exact w0_94 Y z
    · exact w0_95 Y z
    · exact w0_96 Y z
    · exact w0_97 Y z
    · exact w0_98 Y z
    · exact w0_99 Y z
    · exact w0_100 Y z
    · exact w0_101 Y z
    · exact w0_102 Y z
    · exact w0_103 Y z
    · exact w0_104 Y z
    · exact w0_105 Y z
    · exact w0_106 Y z
    · exact w0_107 Y z
    · exact w0_108 Y z
    · exact w0_109 Y z
    · exact w0_110 Y z
    · exact w0_111 Y z
    · exact w0_112 Y z
    · exact w0_113 Y z
    · exact w0_114 Y z
    · exact w0_115 Y z
    · exact w0_116 Y z
    · exact w0_117 Y z
    · exact w0_118 Y z
    · exact w0_119 Y z
    · exact w0_120 Y z
    · exact w0_121 Y z
    · exact w0_122 Y z
    · exact w0_123 Y z
    · exact w0_124 Y z
