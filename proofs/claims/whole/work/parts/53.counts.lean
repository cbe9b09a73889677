/-! count, of both; the reference's as -/
theorem gn_len {E : ME} {Φ : Option AV → AM → Prop} {pc : Nat} {L : List (Option AV)} {st : List AV} {m : AM} {a : Nat × Nat} {i idx : Nat} (hd : decode E.1 pc = .ok (.getfield idx, 3)) (kk : B E Φ (pc + 3) L (vi (m.1 i 2) :: st) m a) (hlink : Cond.fieldLinkNest E.2.1 idx "BelievedWords$Tape" "length" "I" "BelievedWords" = NWw := by rfl) : B E Φ pc L (vr 9 i :: st) m a :=
  b_getN 2 (vi (m.1 i 2)) (T := TX9) (N := 9) (C := RX9) rfl (by decide) (by decide) uTB9 hlink (fun ad => rfl) (fun _ _ => trivial) hd kk
def cntN (La C : Nat → Nat) (a n : Nat) (w : Nat) : Nat := match w with
  | 0 => rowsN La 8
  | 1 => C 0
  | 2 => C 3
  | 3 => C 4
  | 4 => C 2
  | 5 => C 1
  | 6 => a
  | _ => n
def countV (La C : Nat → Nat) (a n : Nat) (w : Int32) : Int32 := if inB w 8 = true then nI (cntN La C a n w.toNatClampNeg) else -1000001
theorem inB_out {w : Int32} {n : Nat} (hn : n < 2147483648) (q : inB w n = false) : w.toInt < 0 ∨ (n : Int) - 1 < w.toInt := by
  rcases inB_not q with z | z
  · left; exact Int32.lt_iff_toInt_lt.mp z
  · right
    have := Int32.le_iff_toInt_le.mp z
    rw [nI_toInt (by omega)] at this
    omega
abbrev e_X10_count : ME := (cX10_count, (RX10, (2, ((some .int), (0, (0, 8))))))
theorem dX10_count_0 : decode cX10_count 0 = .ok (.iload_n 1, 1) := by decide +kernel
theorem dX10_count_1 : decode cX10_count 1 = .ok (.tableswitch 126 0 7 #[47, 55, 66, 77, 88, 99, 110, 118], 47) := by decide +kernel
theorem dX10_count_48 : decode cX10_count 48 = .ok (.aload_n 0, 1) := by decide +kernel
theorem dX10_count_49 : decode cX10_count 49 = .ok (.getfield 10, 3) := by decide +kernel
theorem dX10_count_52 : decode cX10_count 52 = .ok (.invokevirtual 312, 3) := by decide +kernel
theorem dX10_count_55 : decode cX10_count 55 = .ok (.ireturn, 1) := by decide +kernel
theorem dX10_count_56 : decode cX10_count 56 = .ok (.aload_n 0, 1) := by decide +kernel
theorem dX10_count_57 : decode cX10_count 57 = .ok (.getfield 26, 3) := by decide +kernel
theorem dX10_count_60 : decode cX10_count 60 = .ok (.getfield 127, 3) := by decide +kernel
theorem dX10_count_63 : decode cX10_count 63 = .ok (.getfield 171, 3) := by decide +kernel
theorem dX10_count_66 : decode cX10_count 66 = .ok (.ireturn, 1) := by decide +kernel
theorem dX10_count_67 : decode cX10_count 67 = .ok (.aload_n 0, 1) := by decide +kernel
theorem dX10_count_68 : decode cX10_count 68 = .ok (.getfield 26, 3) := by decide +kernel
theorem dX10_count_71 : decode cX10_count 71 = .ok (.getfield 127, 3) := by decide +kernel
theorem dX10_count_74 : decode cX10_count 74 = .ok (.getfield 315, 3) := by decide +kernel
theorem dX10_count_77 : decode cX10_count 77 = .ok (.ireturn, 1) := by decide +kernel
theorem dX10_count_78 : decode cX10_count 78 = .ok (.aload_n 0, 1) := by decide +kernel
theorem dX10_count_79 : decode cX10_count 79 = .ok (.getfield 26, 3) := by decide +kernel
theorem dX10_count_82 : decode cX10_count 82 = .ok (.getfield 127, 3) := by decide +kernel
theorem dX10_count_85 : decode cX10_count 85 = .ok (.getfield 130, 3) := by decide +kernel
theorem dX10_count_88 : decode cX10_count 88 = .ok (.ireturn, 1) := by decide +kernel
theorem dX10_count_89 : decode cX10_count 89 = .ok (.aload_n 0, 1) := by decide +kernel
theorem dX10_count_90 : decode cX10_count 90 = .ok (.getfield 26, 3) := by decide +kernel
theorem dX10_count_93 : decode cX10_count 93 = .ok (.getfield 127, 3) := by decide +kernel
theorem dX10_count_96 : decode cX10_count 96 = .ok (.getfield 318, 3) := by decide +kernel
theorem dX10_count_99 : decode cX10_count 99 = .ok (.ireturn, 1) := by decide +kernel
theorem dX10_count_100 : decode cX10_count 100 = .ok (.aload_n 0, 1) := by decide +kernel
theorem dX10_count_101 : decode cX10_count 101 = .ok (.getfield 26, 3) := by decide +kernel
theorem dX10_count_104 : decode cX10_count 104 = .ok (.getfield 153, 3) := by decide +kernel
theorem dX10_count_107 : decode cX10_count 107 = .ok (.getfield 192, 3) := by decide +kernel
theorem dX10_count_110 : decode cX10_count 110 = .ok (.ireturn, 1) := by decide +kernel
theorem dX10_count_111 : decode cX10_count 111 = .ok (.aload_n 0, 1) := by decide +kernel
theorem dX10_count_112 : decode cX10_count 112 = .ok (.getfield 33, 3) := by decide +kernel
theorem dX10_count_115 : decode cX10_count 115 = .ok (.getfield 321, 3) := by decide +kernel
theorem dX10_count_118 : decode cX10_count 118 = .ok (.ireturn, 1) := by decide +kernel
theorem dX10_count_119 : decode cX10_count 119 = .ok (.aload_n 0, 1) := by decide +kernel
theorem dX10_count_120 : decode cX10_count 120 = .ok (.getfield 19, 3) := by decide +kernel
theorem dX10_count_123 : decode cX10_count 123 = .ok (.getfield 323, 3) := by decide +kernel
theorem dX10_count_126 : decode cX10_count 126 = .ok (.ireturn, 1) := by decide +kernel
theorem dX10_count_127 : decode cX10_count 127 = .ok (.ldc 69, 2) := by decide +kernel
theorem dX10_count_129 : decode cX10_count 129 = .ok (.ireturn, 1) := by decide +kernel
def Sp_X10_count (av : List AV) (m : AM) (Φ : Option AV → AM → Prop) : Prop := ∃ w, av = [vr 10 0, vi w] ∧ ∃ C La Ma It a n, CR m C ∧ RowR m La Ma It ∧ m.1 31 2 = nI a ∧ m.1 13 2 = nI n ∧ Φ (some (vi (countV La C a n w))) m
set_option maxRecDepth 20000 in
set_option maxHeartbeats 4000000 in
theorem S_X10_count : Snd yX10_count e_X10_count Sp_X10_count := by
  refine Snd.of (by decide +kernel) rfl ?_ ?_
  · rintro av m Φ ⟨w, rfl, _⟩; exact Nat.le_of_ble_eq_true rfl
  rintro av m Φ ⟨w, rfl, C, La, Ma, It, a, n, hC, hR, ha, hn, h⟩ hav hty
  show B e_X10_count Φ 0 [some (vr 10 0), some (vi w)] [] m (0, 0)
  unfold countV at h
  have hnu := hC.num
  refine b_iloadN (pc := 0) 1 dX10_count_0 rfl rfl ?_
  cases q : inB w 8 with
  | false =>
    rw [q] at h
    refine b_tableOut (pc := 1) 127 dX10_count_1 (inB_out (n := 8) (by omega) q) (by decide) ?_
    refine b_ldc (pc := 127) k450 dX10_count_127 ?_
    refine b_iret (pc := 129) rfl dX10_count_129 ⟨Nat.le_of_ble_eq_true rfl, Nat.le_of_ble_eq_true rfl⟩ ?_
    rotate_left -- leaf 0: return at 129
    -- leaves: 0 return at 129
    exact h
  | true =>
    rw [q, if_pos rfl] at h
    obtain ⟨j, hj, rfl⟩ := (inB_iff (by omega)).mp q
    rw [n_cl (by omega)] at h
    rcases (by omega : j = 0 ∨ j = 1 ∨ j = 2 ∨ j = 3 ∨ j = 4 ∨ j = 5 ∨ j = 6 ∨ j = 7) with rfl | rfl | rfl | rfl | rfl | rfl | rfl | rfl
    · refine b_tableIn (pc := 1) (off := 47) 48 dX10_count_1 (by decide) (by decide) (by decide) (by decide) ?_
      refine b_aloadN (pc := 48) 0 dX10_count_48 rfl rfl ?_
      refine gf10_0 (pc := 49) 1 rfl k415 dX10_count_49 ?_
      refine call_X6_present (pc := 52) k1028 (by decide) ⟨Nat.le_of_ble_eq_true rfl, Nat.le_of_ble_eq_true rfl⟩ (Nat.le_of_ble_eq_true rfl) dX10_count_52 ?_
      refine ⟨rfl, La, Ma, It, hR, ?_⟩
      refine b_iret (pc := 55) rfl dX10_count_55 ⟨Nat.le_of_ble_eq_true rfl, Nat.le_of_ble_eq_true rfl⟩ ?_
      rotate_left -- leaf 0: return at 55
      -- leaves: 0 return at 55
      exact h
    · refine b_tableIn (pc := 1) (off := 55) 56 dX10_count_1 (by decide) (by decide) (by decide) (by decide) ?_
      refine b_aloadN (pc := 56) 0 dX10_count_56 rfl rfl ?_
      refine gf10_2 (pc := 57) 20 rfl k417 dX10_count_57 ?_
      refine gf2_0 (pc := 60) 21 rfl k269 dX10_count_60 ?_
      refine gf5_4 (pc := 63) k147 dX10_count_63 ?_
      refine b_iret (pc := 66) rfl dX10_count_66 ⟨Nat.le_of_ble_eq_true rfl, Nat.le_of_ble_eq_true rfl⟩ ?_
      rotate_left -- leaf 0: return at 66
      -- leaves: 0 return at 66
      rw [hnu.1]; exact h
    · refine b_tableIn (pc := 1) (off := 66) 67 dX10_count_1 (by decide) (by decide) (by decide) (by decide) ?_
      refine b_aloadN (pc := 67) 0 dX10_count_67 rfl rfl ?_
      refine gf10_2 (pc := 68) 20 rfl k417 dX10_count_68 ?_
      refine gf2_0 (pc := 71) 21 rfl k269 dX10_count_71 ?_
      refine gf5_7 (pc := 74) k159 dX10_count_74 ?_
      refine b_iret (pc := 77) rfl dX10_count_77 ⟨Nat.le_of_ble_eq_true rfl, Nat.le_of_ble_eq_true rfl⟩ ?_
      rotate_left -- leaf 0: return at 77
      -- leaves: 0 return at 77
      rw [hnu.2.2.1]; exact h
    · refine b_tableIn (pc := 1) (off := 77) 78 dX10_count_1 (by decide) (by decide) (by decide) (by decide) ?_
      refine b_aloadN (pc := 78) 0 dX10_count_78 rfl rfl ?_
      refine gf10_2 (pc := 79) 20 rfl k417 dX10_count_79 ?_
      refine gf2_0 (pc := 82) 21 rfl k269 dX10_count_82 ?_
      refine gf5_8 (pc := 85) k161 dX10_count_85 ?_
      refine b_iret (pc := 88) rfl dX10_count_88 ⟨Nat.le_of_ble_eq_true rfl, Nat.le_of_ble_eq_true rfl⟩ ?_
      rotate_left -- leaf 0: return at 88
      -- leaves: 0 return at 88
      rw [hnu.2.2.2.1]; exact h
    · refine b_tableIn (pc := 1) (off := 88) 89 dX10_count_1 (by decide) (by decide) (by decide) (by decide) ?_
      refine b_aloadN (pc := 89) 0 dX10_count_89 rfl rfl ?_
      refine gf10_2 (pc := 90) 20 rfl k417 dX10_count_90 ?_
      refine gf2_0 (pc := 93) 21 rfl k269 dX10_count_93 ?_
      refine gf5_6 (pc := 96) k155 dX10_count_96 ?_
      refine b_iret (pc := 99) rfl dX10_count_99 ⟨Nat.le_of_ble_eq_true rfl, Nat.le_of_ble_eq_true rfl⟩ ?_
      rotate_left -- leaf 0: return at 99
      -- leaves: 0 return at 99
      rw [hnu.2.1]; exact h
    · refine b_tableIn (pc := 1) (off := 99) 100 dX10_count_1 (by decide) (by decide) (by decide) (by decide) ?_
      refine b_aloadN (pc := 100) 0 dX10_count_100 rfl rfl ?_
      refine gf10_2 (pc := 101) 20 rfl k417 dX10_count_101 ?_
      refine gf2_1 (pc := 104) 26 rfl k275 dX10_count_104 ?_
      refine gf8_1 (pc := 107) k236 dX10_count_107 ?_
      refine b_iret (pc := 110) rfl dX10_count_110 ⟨Nat.le_of_ble_eq_true rfl, Nat.le_of_ble_eq_true rfl⟩ ?_
      rotate_left -- leaf 0: return at 110
      -- leaves: 0 return at 110
      rw [hnu.2.2.2.2]; exact h
    · refine b_tableIn (pc := 1) (off := 110) 111 dX10_count_1 (by decide) (by decide) (by decide) (by decide) ?_
      refine b_aloadN (pc := 111) 0 dX10_count_111 rfl rfl ?_
      refine gf10_3 (pc := 112) 31 rfl k418 dX10_count_112 ?_
      refine gf0_2 (pc := 115) k302 dX10_count_115 ?_
      refine b_iret (pc := 118) rfl dX10_count_118 ⟨Nat.le_of_ble_eq_true rfl, Nat.le_of_ble_eq_true rfl⟩ ?_
      rotate_left -- leaf 0: return at 118
      -- leaves: 0 return at 118
      rw [ha]; exact h
    · refine b_tableIn (pc := 1) (off := 118) 119 dX10_count_1 (by decide) (by decide) (by decide) (by decide) ?_
      refine b_aloadN (pc := 119) 0 dX10_count_119 rfl rfl ?_
      refine gf10_1 (pc := 120) 13 rfl k416 dX10_count_120 ?_
      refine gn_len (pc := 123) dX10_count_123 ?_
      refine b_iret (pc := 126) rfl dX10_count_126 ⟨Nat.le_of_ble_eq_true rfl, Nat.le_of_ble_eq_true rfl⟩ ?_
      rotate_left -- leaf 0: return at 126
      -- leaves: 0 return at 126
      rw [hn]; exact h
theorem call_X10_count {E : ME} {Φ : Option AV → AM → Prop} {pc : Nat} {L : List (Option AV)} {st : List AV} {m : AM} {a : Nat × Nat} {idx : Nat} {x0 : AV} {i : Nat} (hl : Cond.methodLink E.2.1 idx yX10_count ∈ TB) (hdep : 8 + 1 ≤ E.2.2.2.2.2.2) (hroom : a.1 + 0 ≤ E.2.2.2.2.1 ∧ a.2 + 0 ≤ E.2.2.2.2.2.1) (hsr : st.length ≤ 4) (hd : decode E.1 pc = .ok (.invokevirtual idx, 3)) (hsp : Sp_X10_count [vr 10 i, x0] m (fun r m2 => B E Φ (pc + 3) L (r.toList ++ st) m2 a)) : B E Φ pc L (x0 :: vr 10 i :: st) m a := b_callV S_X10_count [x0] (RX10, TX10, 9) rfl rfl (by decide) (Or.inl hl) k1025 k1026 k68 k1027 (show _ ∧ _ ∧ Option.map (fun d => d.parameters.length) (parseMethodDescriptor yX10_count.desc) = some 1 from by decide +kernel) ⟨hdep, by decide⟩ hroom hsr hd hsp
abbrev e_X11_count : ME := (cX11_count, (RX11, (4, ((some .int), (0, (0, 8))))))
theorem dX11_count_0 : decode cX11_count 0 = .ok (.aload_n 0, 1) := by decide +kernel
theorem dX11_count_1 : decode cX11_count 1 = .ok (.iconst 0, 1) := by decide +kernel
theorem dX11_count_2 : decode cX11_count 2 = .ok (.putfield 53, 3) := by decide +kernel
theorem dX11_count_5 : decode cX11_count 5 = .ok (.iconst 0, 1) := by decide +kernel
theorem dX11_count_6 : decode cX11_count 6 = .ok (.istore_n 2, 1) := by decide +kernel
theorem dX11_count_7 : decode cX11_count 7 = .ok (.iload_n 1, 1) := by decide +kernel
theorem dX11_count_8 : decode cX11_count 8 = .ok (.tableswitch 126 0 7 #[48, 81, 88, 95, 102, 109, 116, 121], 48) := by decide +kernel
theorem dX11_count_56 : decode cX11_count 56 = .ok (.iconst 0, 1) := by decide +kernel
theorem dX11_count_57 : decode cX11_count 57 = .ok (.istore_n 3, 1) := by decide +kernel
theorem dX11_count_58 : decode cX11_count 58 = .ok (.iload_n 3, 1) := by decide +kernel
theorem dX11_count_59 : decode cX11_count 59 = .ok (.bipush 8, 2) := by decide +kernel
theorem dX11_count_61 : decode cX11_count 61 = .ok (.if_icmp .ge 26, 3) := by decide +kernel
theorem dX11_count_64 : decode cX11_count 64 = .ok (.iload_n 2, 1) := by decide +kernel
theorem dX11_count_65 : decode cX11_count 65 = .ok (.aload_n 0, 1) := by decide +kernel
theorem dX11_count_66 : decode cX11_count 66 = .ok (.getfield 7, 3) := by decide +kernel
theorem dX11_count_69 : decode cX11_count 69 = .ok (.iload_n 3, 1) := by decide +kernel
theorem dX11_count_70 : decode cX11_count 70 = .ok (.iaload, 1) := by decide +kernel
theorem dX11_count_71 : decode cX11_count 71 = .ok (.ifCond .lt 7, 3) := by decide +kernel
theorem dX11_count_74 : decode cX11_count 74 = .ok (.iconst 1, 1) := by decide +kernel
theorem dX11_count_75 : decode cX11_count 75 = .ok (.goto 4, 3) := by decide +kernel
theorem dX11_count_78 : decode cX11_count 78 = .ok (.iconst 0, 1) := by decide +kernel
theorem dX11_count_79 : decode cX11_count 79 = .ok (.iadd, 1) := by decide +kernel
theorem dX11_count_80 : decode cX11_count 80 = .ok (.istore_n 2, 1) := by decide +kernel
theorem dX11_count_81 : decode cX11_count 81 = .ok (.iinc 3 1, 3) := by decide +kernel
theorem dX11_count_84 : decode cX11_count 84 = .ok (.goto (-26), 3) := by decide +kernel
theorem dX11_count_87 : decode cX11_count 87 = .ok (.iload_n 2, 1) := by decide +kernel
theorem dX11_count_88 : decode cX11_count 88 = .ok (.ireturn, 1) := by decide +kernel
theorem dX11_count_89 : decode cX11_count 89 = .ok (.aload_n 0, 1) := by decide +kernel
theorem dX11_count_90 : decode cX11_count 90 = .ok (.getfield 19, 3) := by decide +kernel
theorem dX11_count_93 : decode cX11_count 93 = .ok (.iconst 0, 1) := by decide +kernel
theorem dX11_count_94 : decode cX11_count 94 = .ok (.iaload, 1) := by decide +kernel
theorem dX11_count_95 : decode cX11_count 95 = .ok (.ireturn, 1) := by decide +kernel
theorem dX11_count_96 : decode cX11_count 96 = .ok (.aload_n 0, 1) := by decide +kernel
theorem dX11_count_97 : decode cX11_count 97 = .ok (.getfield 19, 3) := by decide +kernel
theorem dX11_count_100 : decode cX11_count 100 = .ok (.iconst 3, 1) := by decide +kernel
theorem dX11_count_101 : decode cX11_count 101 = .ok (.iaload, 1) := by decide +kernel
theorem dX11_count_102 : decode cX11_count 102 = .ok (.ireturn, 1) := by decide +kernel
theorem dX11_count_103 : decode cX11_count 103 = .ok (.aload_n 0, 1) := by decide +kernel
theorem dX11_count_104 : decode cX11_count 104 = .ok (.getfield 19, 3) := by decide +kernel
theorem dX11_count_107 : decode cX11_count 107 = .ok (.iconst 4, 1) := by decide +kernel
theorem dX11_count_108 : decode cX11_count 108 = .ok (.iaload, 1) := by decide +kernel
theorem dX11_count_109 : decode cX11_count 109 = .ok (.ireturn, 1) := by decide +kernel
theorem dX11_count_110 : decode cX11_count 110 = .ok (.aload_n 0, 1) := by decide +kernel
theorem dX11_count_111 : decode cX11_count 111 = .ok (.getfield 19, 3) := by decide +kernel
theorem dX11_count_114 : decode cX11_count 114 = .ok (.iconst 2, 1) := by decide +kernel
theorem dX11_count_115 : decode cX11_count 115 = .ok (.iaload, 1) := by decide +kernel
theorem dX11_count_116 : decode cX11_count 116 = .ok (.ireturn, 1) := by decide +kernel
theorem dX11_count_117 : decode cX11_count 117 = .ok (.aload_n 0, 1) := by decide +kernel
theorem dX11_count_118 : decode cX11_count 118 = .ok (.getfield 19, 3) := by decide +kernel
theorem dX11_count_121 : decode cX11_count 121 = .ok (.iconst 1, 1) := by decide +kernel
theorem dX11_count_122 : decode cX11_count 122 = .ok (.iaload, 1) := by decide +kernel
theorem dX11_count_123 : decode cX11_count 123 = .ok (.ireturn, 1) := by decide +kernel
theorem dX11_count_124 : decode cX11_count 124 = .ok (.aload_n 0, 1) := by decide +kernel
theorem dX11_count_125 : decode cX11_count 125 = .ok (.getfield 156, 3) := by decide +kernel
theorem dX11_count_128 : decode cX11_count 128 = .ok (.ireturn, 1) := by decide +kernel
theorem dX11_count_129 : decode cX11_count 129 = .ok (.aload_n 0, 1) := by decide +kernel
theorem dX11_count_130 : decode cX11_count 130 = .ok (.getfield 80, 3) := by decide +kernel
theorem dX11_count_133 : decode cX11_count 133 = .ok (.ireturn, 1) := by decide +kernel
theorem dX11_count_134 : decode cX11_count 134 = .ok (.ldc 73, 2) := by decide +kernel
theorem dX11_count_136 : decode cX11_count 136 = .ok (.ireturn, 1) := by decide +kernel
def Sp_X11_count (av : List AV) (m : AM) (Φ : Option AV → AM → Prop) : Prop := ∃ w, av = [vr 11 110, vi w] ∧ ∃ C La Ma It a n, MC m C ∧ MRow m La Ma It ∧ m.1 110 8 = nI a ∧ m.1 110 10 = nI n ∧ Φ (some (vi (countV La C a n w))) (mset m 110 0 (nI 0))
set_option maxRecDepth 20000 in
set_option maxHeartbeats 4000000 in
theorem S_X11_count : Snd yX11_count e_X11_count Sp_X11_count := by
  refine Snd.of (by decide +kernel) rfl ?_ ?_
  · rintro av m Φ ⟨w, rfl, _⟩; exact Nat.le_of_ble_eq_true rfl
  rintro av m Φ ⟨w, rfl, C, La, Ma, It, a, n, hM0, hR0, ha, hn, h⟩ hav hty
  show B e_X11_count Φ 0 [some (vr 11 110), some (vi w), none, none] [] m (0, 0)
  have hM : MC (mset m 110 0 (nI 0)) C := MC.ms hM0 (by decide)
  have hR : MRow (mset m 110 0 (nI 0)) La Ma It := hR0.ms
  unfold countV at h
  have loop : inB w 8 = true → w.toNatClampNeg = 0 → ∀ n r, 9 ≤ r + n → r ≤ 8 → B e_X11_count Φ 58 [some (vr 11 110), some (vi w), some (vi (nI (rowsN La r))), some (vi (nI r))] [] (mset m 110 0 (nI 0)) (0, 0) := by
    intro hw hw0 n
    induction n with
    | zero => intro r h1 h2; omega
    | succ n ih =>
      intro r h1 h2
      have un : rowsN La (r + 1) = rowsN La r + if La r = 0 then 0 else 1 := rfl
      refine b_iloadN (pc := 58) 3 dX11_count_58 rfl rfl ?_
      refine b_bipush (pc := 59) (nI 8) dX11_count_59 (by decide) ?_
      refine b_icmp_ge (pc := 61) 87 dX11_count_61 (by decide) (fun c61 => ?_) (fun c61 => ?_)
      refine b_iloadN (pc := 87) 2 dX11_count_87 rfl rfl ?_
      refine b_iret (pc := 88) rfl dX11_count_88 ⟨Nat.le_of_ble_eq_true rfl, Nat.le_of_ble_eq_true rfl⟩ ?_
      rotate_left -- leaf 0: return at 88
      refine b_iloadN (pc := 64) 2 dX11_count_64 rfl rfl ?_
      refine b_aloadN (pc := 65) 0 dX11_count_65 rfl rfl ?_
      refine gf11_2 (pc := 66) 111 rfl k1044 dX11_count_66 ?_
      refine b_iloadN (pc := 69) 3 dX11_count_69 rfl rfl ?_
      refine b_iald (pc := 70) (by decide) ?_ dX11_count_70 ?_
      rotate_left -- leaf 1: index at 70
      refine b_if_lt (pc := 71) 78 dX11_count_71 (by decide) (fun c71 => ?_) (fun c71 => ?_)
      refine b_iconst (pc := 78) (nI 0) dX11_count_78 (by decide) ?_
      refine b_iadd (pc := 79) dX11_count_79 ?_
      refine siN2 (pc := 80) rfl notL_i (by decide) dX11_count_80 ?_
      refine inc3 (pc := 81) notL_i (by decide) dX11_count_81 ?_
      refine b_goto (pc := 84) 58 dX11_count_84 (by decide) ?_
      rotate_left -- leaf 2: at 58
      refine b_iconst (pc := 74) (nI 1) dX11_count_74 (by decide) ?_
      refine b_goto (pc := 75) 79 dX11_count_75 (by decide) ?_
      refine b_iadd (pc := 79) dX11_count_79 ?_
      refine siN2 (pc := 80) rfl notL_i (by decide) dX11_count_80 ?_
      refine inc3 (pc := 81) notL_i (by decide) dX11_count_81 ?_
      refine b_goto (pc := 84) 58 dX11_count_84 (by decide) ?_
      rotate_left -- leaf 3: at 58
      -- leaves: 0 return at 88; 1 index at 70; 2 at 58; 3 at 58
      · rw [n_le (by omega) (by omega)] at c61
        rw [if_pos hw, hw0] at h
        rw [show r = 8 by omega]
        exact h
      · rw [n_le (by omega) (by omega)] at c61
        exact n_in (by omega) (by omega)
      · rw [n_le (by omega) (by omega)] at c61
        rw [n_cl (by omega)] at c71
        have c71 : ¬ 0 ≤ (mset m 110 0 (nI 0)).1 111 r := Int32.not_le.mpr c71
        rw [hR.lane (by omega)] at c71
        rw [if_pos (by omega)] at un
        rw [n_add, n_inc, ← un]
        exact ih (r + 1) (by omega) (by omega)
      · rw [n_le (by omega) (by omega)] at c61
        rw [n_cl (by omega)] at c71
        have c71 := Int32.not_lt.mp c71
        rw [hR.lane (by omega)] at c71
        rw [if_neg (by omega)] at un
        rw [n_add, n_inc, ← un]
        exact ih (r + 1) (by omega) (by omega)
  refine b_aloadN (pc := 0) 0 dX11_count_0 rfl rfl ?_
  refine b_iconst (pc := 1) (nI 0) dX11_count_1 (by decide) ?_
  refine pf11_0 (pc := 2) k1042 dX11_count_2 ?_
  refine b_iconst (pc := 5) (nI 0) dX11_count_5 (by decide) ?_
  refine siN2 (pc := 6) rfl notL_i (by decide) dX11_count_6 ?_
  refine b_iloadN (pc := 7) 1 dX11_count_7 rfl rfl ?_
  rotate_left -- leaf 0: at 8
  -- leaves: 0 at 8
  all_goals try rfl
  cases q : inB w 8 with
  | false =>
    rw [q] at h
    refine b_tableOut (pc := 8) 134 dX11_count_8 (inB_out (n := 8) (by omega) q) (by decide) ?_
    refine b_ldc (pc := 134) k1140 dX11_count_134 ?_
    refine b_iret (pc := 136) rfl dX11_count_136 ⟨Nat.le_of_ble_eq_true rfl, Nat.le_of_ble_eq_true rfl⟩ ?_
    rotate_left -- leaf 0: return at 136
    -- leaves: 0 return at 136
    exact h
  | true =>
    have q0 := q
    rw [q, if_pos rfl] at h
    obtain ⟨j, hj, rfl⟩ := (inB_iff (by omega)).mp q
    rw [n_cl (by omega)] at h
    rcases (by omega : j = 0 ∨ j = 1 ∨ j = 2 ∨ j = 3 ∨ j = 4 ∨ j = 5 ∨ j = 6 ∨ j = 7) with rfl | rfl | rfl | rfl | rfl | rfl | rfl | rfl
    · refine b_tableIn (pc := 8) (off := 48) 56 dX11_count_8 (by decide) (by decide) (by decide) (by decide) ?_
      refine b_iconst (pc := 56) (nI 0) dX11_count_56 (by decide) ?_
      refine siN3 (pc := 57) rfl notL_i (by decide) dX11_count_57 ?_
      rotate_left -- leaf 0: at 58
      -- leaves: 0 at 58
      exact loop q0 (n_cl (by omega)) 9 0 (by omega) (by omega)
    · refine b_tableIn (pc := 8) (off := 81) 89 dX11_count_8 (by decide) (by decide) (by decide) (by decide) ?_
      refine b_aloadN (pc := 89) 0 dX11_count_89 rfl rfl ?_
      refine gf11_5 (pc := 90) 114 rfl k1047 dX11_count_90 ?_
      refine b_iconst (pc := 93) (nI 0) dX11_count_93 (by decide) ?_
      refine b_iald (pc := 94) (by decide) ?_ dX11_count_94 ?_
      rotate_left -- leaf 0: index at 94
      refine b_iret (pc := 95) rfl dX11_count_95 ⟨Nat.le_of_ble_eq_true rfl, Nat.le_of_ble_eq_true rfl⟩ ?_
      rotate_left -- leaf 1: return at 95
      -- leaves: 0 index at 94; 1 return at 95
      · exact n_in (by omega) (by omega)
      · rw [n_cl (by omega), hM 0 (by omega)]; exact h
    · refine b_tableIn (pc := 8) (off := 88) 96 dX11_count_8 (by decide) (by decide) (by decide) (by decide) ?_
      refine b_aloadN (pc := 96) 0 dX11_count_96 rfl rfl ?_
      refine gf11_5 (pc := 97) 114 rfl k1047 dX11_count_97 ?_
      refine b_iconst (pc := 100) (nI 3) dX11_count_100 (by decide) ?_
      refine b_iald (pc := 101) (by decide) ?_ dX11_count_101 ?_
      rotate_left -- leaf 0: index at 101
      refine b_iret (pc := 102) rfl dX11_count_102 ⟨Nat.le_of_ble_eq_true rfl, Nat.le_of_ble_eq_true rfl⟩ ?_
      rotate_left -- leaf 1: return at 102
      -- leaves: 0 index at 101; 1 return at 102
      · exact n_in (by omega) (by omega)
      · rw [n_cl (by omega), hM 3 (by omega)]; exact h
    · refine b_tableIn (pc := 8) (off := 95) 103 dX11_count_8 (by decide) (by decide) (by decide) (by decide) ?_
      refine b_aloadN (pc := 103) 0 dX11_count_103 rfl rfl ?_
      refine gf11_5 (pc := 104) 114 rfl k1047 dX11_count_104 ?_
      refine b_iconst (pc := 107) (nI 4) dX11_count_107 (by decide) ?_
      refine b_iald (pc := 108) (by decide) ?_ dX11_count_108 ?_
      rotate_left -- leaf 0: index at 108
      refine b_iret (pc := 109) rfl dX11_count_109 ⟨Nat.le_of_ble_eq_true rfl, Nat.le_of_ble_eq_true rfl⟩ ?_
      rotate_left -- leaf 1: return at 109
      -- leaves: 0 index at 108; 1 return at 109
      · exact n_in (by omega) (by omega)
      · rw [n_cl (by omega), hM 4 (by omega)]; exact h
    · refine b_tableIn (pc := 8) (off := 102) 110 dX11_count_8 (by decide) (by decide) (by decide) (by decide) ?_
      refine b_aloadN (pc := 110) 0 dX11_count_110 rfl rfl ?_
      refine gf11_5 (pc := 111) 114 rfl k1047 dX11_count_111 ?_
      refine b_iconst (pc := 114) (nI 2) dX11_count_114 (by decide) ?_
      refine b_iald (pc := 115) (by decide) ?_ dX11_count_115 ?_
      rotate_left -- leaf 0: index at 115
      refine b_iret (pc := 116) rfl dX11_count_116 ⟨Nat.le_of_ble_eq_true rfl, Nat.le_of_ble_eq_true rfl⟩ ?_
      rotate_left -- leaf 1: return at 116
      -- leaves: 0 index at 115; 1 return at 116
      · exact n_in (by omega) (by omega)
      · rw [n_cl (by omega), hM 2 (by omega)]; exact h
    · refine b_tableIn (pc := 8) (off := 109) 117 dX11_count_8 (by decide) (by decide) (by decide) (by decide) ?_
      refine b_aloadN (pc := 117) 0 dX11_count_117 rfl rfl ?_
      refine gf11_5 (pc := 118) 114 rfl k1047 dX11_count_118 ?_
      refine b_iconst (pc := 121) (nI 1) dX11_count_121 (by decide) ?_
      refine b_iald (pc := 122) (by decide) ?_ dX11_count_122 ?_
      rotate_left -- leaf 0: index at 122
      refine b_iret (pc := 123) rfl dX11_count_123 ⟨Nat.le_of_ble_eq_true rfl, Nat.le_of_ble_eq_true rfl⟩ ?_
      rotate_left -- leaf 1: return at 123
      -- leaves: 0 index at 122; 1 return at 123
      · exact n_in (by omega) (by omega)
      · rw [n_cl (by omega), hM 1 (by omega)]; exact h
    · refine b_tableIn (pc := 8) (off := 116) 124 dX11_count_8 (by decide) (by decide) (by decide) (by decide) ?_
      refine b_aloadN (pc := 124) 0 dX11_count_124 rfl rfl ?_
      refine gf11_8 (pc := 125) k1050 dX11_count_125 ?_
      refine b_iret (pc := 128) rfl dX11_count_128 ⟨Nat.le_of_ble_eq_true rfl, Nat.le_of_ble_eq_true rfl⟩ ?_
      rotate_left -- leaf 0: return at 128
      -- leaves: 0 return at 128
      rw [mset_at, if_neg (by decide), ha]; exact h
    · refine b_tableIn (pc := 8) (off := 121) 129 dX11_count_8 (by decide) (by decide) (by decide) (by decide) ?_
      refine b_aloadN (pc := 129) 0 dX11_count_129 rfl rfl ?_
      refine gf11_10 (pc := 130) k1052 dX11_count_130 ?_
      refine b_iret (pc := 133) rfl dX11_count_133 ⟨Nat.le_of_ble_eq_true rfl, Nat.le_of_ble_eq_true rfl⟩ ?_
      rotate_left -- leaf 0: return at 133
      -- leaves: 0 return at 133
      rw [mset_at, if_neg (by decide), hn]; exact h
theorem call_X11_count {E : ME} {Φ : Option AV → AM → Prop} {pc : Nat} {L : List (Option AV)} {st : List AV} {m : AM} {a : Nat × Nat} {idx : Nat} {x0 : AV} {i : Nat} (hl : Cond.methodLink E.2.1 idx yX11_count ∈ TB) (hdep : 8 + 1 ≤ E.2.2.2.2.2.2) (hroom : a.1 + 0 ≤ E.2.2.2.2.1 ∧ a.2 + 0 ≤ E.2.2.2.2.2.1) (hsr : st.length ≤ 4) (hd : decode E.1 pc = .ok (.invokevirtual idx, 3)) (hsp : Sp_X11_count [vr 11 i, x0] m (fun r m2 => B E Φ (pc + 3) L (r.toList ++ st) m2 a)) : B E Φ pc L (x0 :: vr 11 i :: st) m a := b_callV S_X11_count [x0] (RX11, TX11, 28) rfl rfl (by decide) (Or.inl hl) k1444 k1445 k80 k1446 (show _ ∧ _ ∧ Option.map (fun d => d.parameters.length) (parseMethodDescriptor yX11_count.desc) = some 1 from by decide +kernel) ⟨hdep, by decide⟩ hroom hsr hd hsp
abbrev e_X11_as : ME := (cX11_as, (RX11, (3, ((some .int), (0, (0, 8))))))
theorem dX11_as_0 : decode cX11_as 0 = .ok (.aload_n 0, 1) := by decide +kernel
theorem dX11_as_1 : decode cX11_as 1 = .ok (.iconst 0, 1) := by decide +kernel
theorem dX11_as_2 : decode cX11_as 2 = .ok (.putfield 53, 3) := by decide +kernel
theorem dX11_as_5 : decode cX11_as 5 = .ok (.aload_n 0, 1) := by decide +kernel
theorem dX11_as_6 : decode cX11_as 6 = .ok (.iload_n 1, 1) := by decide +kernel
theorem dX11_as_7 : decode cX11_as 7 = .ok (.invokevirtual 176, 3) := by decide +kernel
theorem dX11_as_10 : decode cX11_as 10 = .ok (.ifCond .eq 15, 3) := by decide +kernel
theorem dX11_as_13 : decode cX11_as 13 = .ok (.iload_n 2, 1) := by decide +kernel
theorem dX11_as_14 : decode cX11_as 14 = .ok (.i2l, 1) := by decide +kernel
theorem dX11_as_15 : decode cX11_as 15 = .ok (.lconst 0, 1) := by decide +kernel
theorem dX11_as_16 : decode cX11_as 16 = .ok (.ldc2_w 259, 3) := by decide +kernel
theorem dX11_as_19 : decode cX11_as 19 = .ok (.invokestatic 63, 3) := by decide +kernel
theorem dX11_as_22 : decode cX11_as 22 = .ok (.ifCond .ne 6, 3) := by decide +kernel
theorem dX11_as_25 : decode cX11_as 25 = .ok (.ldc 73, 2) := by decide +kernel
theorem dX11_as_27 : decode cX11_as 27 = .ok (.ireturn, 1) := by decide +kernel
theorem dX11_as_28 : decode cX11_as 28 = .ok (.aload_n 0, 1) := by decide +kernel
theorem dX11_as_29 : decode cX11_as 29 = .ok (.iconst 0, 1) := by decide +kernel
theorem dX11_as_30 : decode cX11_as 30 = .ok (.putfield 57, 3) := by decide +kernel
theorem dX11_as_33 : decode cX11_as 33 = .ok (.aload_n 0, 1) := by decide +kernel
theorem dX11_as_34 : decode cX11_as 34 = .ok (.iload_n 1, 1) := by decide +kernel
theorem dX11_as_35 : decode cX11_as 35 = .ok (.invokevirtual 169, 3) := by decide +kernel
theorem dX11_as_38 : decode cX11_as 38 = .ok (.iload_n 2, 1) := by decide +kernel
theorem dX11_as_39 : decode cX11_as 39 = .ok (.invokestatic 261, 3) := by decide +kernel
theorem dX11_as_42 : decode cX11_as 42 = .ok (.ifCond .eq 7, 3) := by decide +kernel
theorem dX11_as_45 : decode cX11_as 45 = .ok (.iload_n 1, 1) := by decide +kernel
theorem dX11_as_46 : decode cX11_as 46 = .ok (.goto 8, 3) := by decide +kernel
theorem dX11_as_49 : decode cX11_as 49 = .ok (.aload_n 0, 1) := by decide +kernel
theorem dX11_as_50 : decode cX11_as 50 = .ok (.iconst 3, 1) := by decide +kernel
theorem dX11_as_51 : decode cX11_as 51 = .ok (.invokevirtual 74, 3) := by decide +kernel
theorem dX11_as_54 : decode cX11_as 54 = .ok (.ireturn, 1) := by decide +kernel
def Sp_X11_as (av : List AV) (m : AM) (Φ : Option AV → AM → Prop) : Prop := ∃ p k, av = [vr 11 110, vi p, vi k] ∧ ∃ C, MCo m C ∧ ((inB p (C 4) && inB k 6) = false → ∀ m2, Fm [] [0] m m2 → Φ (some (vi (-1000001))) m2) ∧ ((inB p (C 4) && inB k 6) = true → itK 6 (C (40 + 2 * p.toNatClampNeg)) k.toNatClampNeg = k.toNatClampNeg → ∀ m2, Fm [] [0, 1] m m2 → m2.1 110 1 = nI 0 → Φ (some (vi p)) m2) ∧ ((inB p (C 4) && inB k 6) = true → ¬ itK 6 (C (40 + 2 * p.toNatClampNeg)) k.toNatClampNeg = k.toNatClampNeg → ∀ m2, Fm [] [0, 1] m m2 → m2.1 110 1 = nI 3 → Φ (some (vi (-1000010 - nI 3))) m2)
set_option maxRecDepth 20000 in
set_option maxHeartbeats 4000000 in
theorem S_X11_as : Snd yX11_as e_X11_as Sp_X11_as := by
  refine Snd.of (by decide +kernel) rfl ?_ ?_
  · rintro av m Φ ⟨p, k, rfl, _⟩; exact Nat.le_of_ble_eq_true rfl
  rintro av m Φ ⟨p, k, rfl, C, hC0, h1, h2, h3⟩ hav hty
  show B e_X11_as Φ 0 [some (vr 11 110), some (vi p), some (vi k)] [] m (0, 0)
  have hC : MCo (mset m 110 0 (nI 0)) C := hC0.ms (by decide)
  have hle := hC.le
  by_cases hpk : (inB p (C 4) && inB k 6) = true
  · have hpk2 := hpk
    rw [Bool.and_eq_true] at hpk2
    obtain ⟨j, hj, rfl⟩ := (inB_iff (by omega)).mp hpk2.1
    obtain ⟨w, hw, rfl⟩ := (inB_iff (by omega)).mp hpk2.2
    rw [n_cl (show j < 2147483648 by omega), n_cl (show w < 2147483648 by omega)] at h2 h3
    have hv := hC.op (Or.inr (Or.inr (by omega)))
    have hq := (hv.2.2.2.2.2.2.2.2.2 j hj).1
    have f1 : Fm [] [0, 1] m (mset (mset m 110 0 (nI 0)) 110 1 (nI 0)) := ((Fm.rf _ _ m).m0 (by simp)).m0 (by simp)
    refine b_aloadN (pc := 0) 0 dX11_as_0 rfl rfl ?_
    refine b_iconst (pc := 1) (nI 0) dX11_as_1 (by decide) ?_
    refine pf11_0 (pc := 2) k1042 dX11_as_2 ?_
    refine b_aloadN (pc := 5) 0 dX11_as_5 rfl rfl ?_
    refine b_iloadN (pc := 6) 1 dX11_as_6 rfl rfl ?_
    refine call_X11_isPerson (pc := 7) k1229 (by decide) ⟨Nat.le_of_ble_eq_true rfl, Nat.le_of_ble_eq_true rfl⟩ (Nat.le_of_ble_eq_true rfl) dX11_as_7 ?_
    refine ⟨_, rfl, _, hC.1 4 (by omega), ?_, ?_⟩
    rotate_left -- leaf 0: small of X11_isPerson at 7
    refine b_if_eq (pc := 10) 25 dX11_as_10 (by decide) (fun c10 => ?_) (fun c10 => ?_)
    refine b_ldc (pc := 25) k1140 dX11_as_25 ?_
    refine b_iret (pc := 27) rfl dX11_as_27 ⟨Nat.le_of_ble_eq_true rfl, Nat.le_of_ble_eq_true rfl⟩ ?_
    rotate_left -- leaf 1: return at 27
    refine b_iloadN (pc := 13) 2 dX11_as_13 rfl rfl ?_
    refine b_i2l (pc := 14) dX11_as_14 ?_
    refine b_lconst (pc := 15) 0 dX11_as_15 (by decide) ?_
    refine b_ldc2 (pc := 16) k1411 dX11_as_16 ?_
    refine call_X11_in (pc := 19) k1136 (by decide) ⟨Nat.le_of_ble_eq_true rfl, Nat.le_of_ble_eq_true rfl⟩ (Nat.le_of_ble_eq_true rfl) dX11_as_19 ?_
    refine ⟨_, _, _, rfl, ?_⟩
    refine b_if_ne (pc := 22) 28 dX11_as_22 (by decide) (fun c22 => ?_) (fun c22 => ?_)
    refine b_aloadN (pc := 28) 0 dX11_as_28 rfl rfl ?_
    refine b_iconst (pc := 29) (nI 0) dX11_as_29 (by decide) ?_
    refine pf11_1 (pc := 30) k1043 dX11_as_30 ?_
    refine b_aloadN (pc := 33) 0 dX11_as_33 rfl rfl ?_
    refine b_iloadN (pc := 34) 1 dX11_as_34 rfl rfl ?_
    refine call_X11_kindOf (pc := 35) k1245 (by decide) ⟨Nat.le_of_ble_eq_true rfl, Nat.le_of_ble_eq_true rfl⟩ (Nat.le_of_ble_eq_true rfl) dX11_as_35 ?_
    refine ⟨_, rfl, C, j, MC.ms hC.1 (by decide), rfl, ?_, ?_⟩
    rotate_left -- leaf 2: person of X11_kindOf at 35
    refine b_iloadN (pc := 38) 2 dX11_as_38 rfl rfl ?_
    refine call_X11_isOf (pc := 39) k1412 (by decide) ⟨Nat.le_of_ble_eq_true rfl, Nat.le_of_ble_eq_true rfl⟩ (Nat.le_of_ble_eq_true rfl) dX11_as_39 ?_
    refine ⟨_, _, rfl, C (40 + 2 * j), w, rfl, rfl, ?_, ?_, ?_⟩
    rotate_left -- leaf 3: kd of X11_isOf at 39
    rotate_left -- leaf 4: wd of X11_isOf at 39
    refine b_if_eq (pc := 42) 49 dX11_as_42 (by decide) (fun c42 => ?_) (fun c42 => ?_)
    refine b_aloadN (pc := 49) 0 dX11_as_49 rfl rfl ?_
    refine b_iconst (pc := 50) (nI 3) dX11_as_50 (by decide) ?_
    refine call_X11_finding (pc := 51) k1141 (by decide) ⟨Nat.le_of_ble_eq_true rfl, Nat.le_of_ble_eq_true rfl⟩ (Nat.le_of_ble_eq_true rfl) dX11_as_51 ?_
    refine ⟨_, rfl, ?_⟩
    refine b_iret (pc := 54) rfl dX11_as_54 ⟨Nat.le_of_ble_eq_true rfl, Nat.le_of_ble_eq_true rfl⟩ ?_
    rotate_left -- leaf 5: return at 54
    refine b_iloadN (pc := 45) 1 dX11_as_45 rfl rfl ?_
    refine b_goto (pc := 46) 54 dX11_as_46 (by decide) ?_
    refine b_iret (pc := 54) rfl dX11_as_54 ⟨Nat.le_of_ble_eq_true rfl, Nat.le_of_ble_eq_true rfl⟩ ?_
    rotate_left -- leaf 6: return at 54
    refine b_ldc (pc := 25) k1140 dX11_as_25 ?_
    refine b_iret (pc := 27) rfl dX11_as_27 ⟨Nat.le_of_ble_eq_true rfl, Nat.le_of_ble_eq_true rfl⟩ ?_
    rotate_left -- leaf 7: return at 27
    -- leaves: 0 small of X11_isPerson at 7; 1 return at 27; 2 person of X11_kindOf at 35; 3 kd of X11_isOf at 39; 4 wd of X11_isOf at 39; 5 return at 54; 6 return at 54; 7 return at 27
    · omega
    · rw [hpk2.1] at c10; exact absurd c10 (by decide)
    · omega
    · exact hq
    · omega
    · exact h3 hpk (of_decide_eq_false (bF c42)) _ (f1.m0 (by simp)) (by rw [mset_at, if_pos rfl])
    · exact h2 hpk (of_decide_eq_true (bT c42)) _ f1 (by rw [mset_at, if_pos rfl])
    · rw [inLc 6 rfl (by omega), hpk2.2] at c22; exact absurd c22 (by decide)
  · have e : (inB p (C 4) && inB k 6) = false := by
      cases q : (inB p (C 4) && inB k 6)
      · rfl
      · exact absurd q hpk
    refine b_aloadN (pc := 0) 0 dX11_as_0 rfl rfl ?_
    refine b_iconst (pc := 1) (nI 0) dX11_as_1 (by decide) ?_
    refine pf11_0 (pc := 2) k1042 dX11_as_2 ?_
    refine b_aloadN (pc := 5) 0 dX11_as_5 rfl rfl ?_
    refine b_iloadN (pc := 6) 1 dX11_as_6 rfl rfl ?_
    refine call_X11_isPerson (pc := 7) k1229 (by decide) ⟨Nat.le_of_ble_eq_true rfl, Nat.le_of_ble_eq_true rfl⟩ (Nat.le_of_ble_eq_true rfl) dX11_as_7 ?_
    refine ⟨_, rfl, _, hC.1 4 (by omega), ?_, ?_⟩
    rotate_left -- leaf 0: small of X11_isPerson at 7
    refine b_if_eq (pc := 10) 25 dX11_as_10 (by decide) (fun c10 => ?_) (fun c10 => ?_)
    refine b_ldc (pc := 25) k1140 dX11_as_25 ?_
    refine b_iret (pc := 27) rfl dX11_as_27 ⟨Nat.le_of_ble_eq_true rfl, Nat.le_of_ble_eq_true rfl⟩ ?_
    rotate_left -- leaf 1: return at 27
    refine b_iloadN (pc := 13) 2 dX11_as_13 rfl rfl ?_
    refine b_i2l (pc := 14) dX11_as_14 ?_
    refine b_lconst (pc := 15) 0 dX11_as_15 (by decide) ?_
    refine b_ldc2 (pc := 16) k1411 dX11_as_16 ?_
    refine call_X11_in (pc := 19) k1136 (by decide) ⟨Nat.le_of_ble_eq_true rfl, Nat.le_of_ble_eq_true rfl⟩ (Nat.le_of_ble_eq_true rfl) dX11_as_19 ?_
    refine ⟨_, _, _, rfl, ?_⟩
    refine b_if_ne (pc := 22) 28 dX11_as_22 (by decide) (fun c22 => ?_) (fun c22 => ?_)
    rotate_left -- leaf 2: at 28
    refine b_ldc (pc := 25) k1140 dX11_as_25 ?_
    refine b_iret (pc := 27) rfl dX11_as_27 ⟨Nat.le_of_ble_eq_true rfl, Nat.le_of_ble_eq_true rfl⟩ ?_
    rotate_left -- leaf 3: return at 27
    -- leaves: 0 small of X11_isPerson at 7; 1 return at 27; 2 at 28; 3 return at 27
    · omega
    · exact h1 e _ ((Fm.rf _ _ m).m0 (by simp))
    · rw [inLc 6 rfl (by omega)] at c22
      exact absurd (by rw [bT c10, bT c22]; rfl) hpk
    · exact h1 e _ ((Fm.rf _ _ m).m0 (by simp))
theorem call_X11_as {E : ME} {Φ : Option AV → AM → Prop} {pc : Nat} {L : List (Option AV)} {st : List AV} {m : AM} {a : Nat × Nat} {idx : Nat} {x0 x1 : AV} {i : Nat} (hl : Cond.methodLink E.2.1 idx yX11_as ∈ TB) (hdep : 8 + 1 ≤ E.2.2.2.2.2.2) (hroom : a.1 + 0 ≤ E.2.2.2.2.1 ∧ a.2 + 0 ≤ E.2.2.2.2.2.1) (hsr : st.length ≤ 4) (hd : decode E.1 pc = .ok (.invokevirtual idx, 3)) (hsp : Sp_X11_as [vr 11 i, x0, x1] m (fun r m2 => B E Φ (pc + 3) L (r.toList ++ st) m2 a)) : B E Φ pc L (x1 :: x0 :: vr 11 i :: st) m a := b_callV S_X11_as [x0, x1] (RX11, TX11, 28) rfl rfl (by decide) (Or.inl hl) k1408 k1409 k80 k1410 (show _ ∧ _ ∧ Option.map (fun d => d.parameters.length) (parseMethodDescriptor yX11_as.desc) = some 2 from by decide +kernel) ⟨hdep, by decide⟩ hroom hsr hd hsp
