/-! the two great constructors (printed by gen_ctor.py) -/
abbrev dfl10 : va_E := .inr (10, [.null, .null, .null, .null, .null, .null, .null, .null, .int 0])
theorem df10 : ∀ j, j < 9 → defaultValue (tyX10 j) = vp_V [.null, .null, .null, .null, .null, .null, .null, .null, .int 0] j := fun j hj => by
  rcases (show j = 0 ∨ j = 1 ∨ j = 2 ∨ j = 3 ∨ j = 4 ∨ j = 5 ∨ j = 6 ∨ j = 7 ∨ j = 8 by omega) with rfl | rfl | rfl | rfl | rfl | rfl | rfl | rfl | rfl <;> rfl
abbrev e_X10_init : ME := (cX10_init, (RX10, (2, (none, (109, (1338, 3))))))
theorem dX10_init_0 : decode cX10_init 0 = .ok (.aload_n 0, 1) := by decide +kernel
theorem dX10_init_1 : decode cX10_init 1 = .ok (.invokespecial 1, 3) := by decide +kernel
theorem dX10_init_4 : decode cX10_init 4 = .ok (.aload_n 0, 1) := by decide +kernel
theorem dX10_init_5 : decode cX10_init 5 = .ok (.new 7, 3) := by decide +kernel
theorem dX10_init_8 : decode cX10_init 8 = .ok (.dup, 1) := by decide +kernel
theorem dX10_init_9 : decode cX10_init 9 = .ok (.invokespecial 9, 3) := by decide +kernel
theorem dX10_init_12 : decode cX10_init 12 = .ok (.putfield 10, 3) := by decide +kernel
theorem dX10_init_15 : decode cX10_init 15 = .ok (.aload_n 0, 1) := by decide +kernel
theorem dX10_init_16 : decode cX10_init 16 = .ok (.new 16, 3) := by decide +kernel
theorem dX10_init_19 : decode cX10_init 19 = .ok (.dup, 1) := by decide +kernel
theorem dX10_init_20 : decode cX10_init 20 = .ok (.invokespecial 18, 3) := by decide +kernel
theorem dX10_init_23 : decode cX10_init 23 = .ok (.putfield 19, 3) := by decide +kernel
theorem dX10_init_26 : decode cX10_init 26 = .ok (.aload_n 0, 1) := by decide +kernel
theorem dX10_init_27 : decode cX10_init 27 = .ok (.new 23, 3) := by decide +kernel
theorem dX10_init_30 : decode cX10_init 30 = .ok (.dup, 1) := by decide +kernel
theorem dX10_init_31 : decode cX10_init 31 = .ok (.invokespecial 25, 3) := by decide +kernel
theorem dX10_init_34 : decode cX10_init 34 = .ok (.putfield 26, 3) := by decide +kernel
theorem dX10_init_37 : decode cX10_init 37 = .ok (.aload_n 0, 1) := by decide +kernel
theorem dX10_init_38 : decode cX10_init 38 = .ok (.new 30, 3) := by decide +kernel
theorem dX10_init_41 : decode cX10_init 41 = .ok (.dup, 1) := by decide +kernel
theorem dX10_init_42 : decode cX10_init 42 = .ok (.invokespecial 32, 3) := by decide +kernel
theorem dX10_init_45 : decode cX10_init 45 = .ok (.putfield 33, 3) := by decide +kernel
theorem dX10_init_48 : decode cX10_init 48 = .ok (.aload_n 0, 1) := by decide +kernel
theorem dX10_init_49 : decode cX10_init 49 = .ok (.iconst 2, 1) := by decide +kernel
theorem dX10_init_50 : decode cX10_init 50 = .ok (.anewarray 37, 3) := by decide +kernel
theorem dX10_init_53 : decode cX10_init 53 = .ok (.putfield 39, 3) := by decide +kernel
theorem dX10_init_56 : decode cX10_init 56 = .ok (.aload_n 0, 1) := by decide +kernel
theorem dX10_init_57 : decode cX10_init 57 = .ok (.new 43, 3) := by decide +kernel
theorem dX10_init_60 : decode cX10_init 60 = .ok (.dup, 1) := by decide +kernel
theorem dX10_init_61 : decode cX10_init 61 = .ok (.invokespecial 45, 3) := by decide +kernel
theorem dX10_init_64 : decode cX10_init 64 = .ok (.putfield 46, 3) := by decide +kernel
theorem dX10_init_67 : decode cX10_init 67 = .ok (.aload_n 0, 1) := by decide +kernel
theorem dX10_init_68 : decode cX10_init 68 = .ok (.new 50, 3) := by decide +kernel
theorem dX10_init_71 : decode cX10_init 71 = .ok (.dup, 1) := by decide +kernel
theorem dX10_init_72 : decode cX10_init 72 = .ok (.invokespecial 52, 3) := by decide +kernel
theorem dX10_init_75 : decode cX10_init 75 = .ok (.putfield 53, 3) := by decide +kernel
theorem dX10_init_78 : decode cX10_init 78 = .ok (.aload_n 0, 1) := by decide +kernel
theorem dX10_init_79 : decode cX10_init 79 = .ok (.new 57, 3) := by decide +kernel
theorem dX10_init_82 : decode cX10_init 82 = .ok (.dup, 1) := by decide +kernel
theorem dX10_init_83 : decode cX10_init 83 = .ok (.invokespecial 59, 3) := by decide +kernel
theorem dX10_init_86 : decode cX10_init 86 = .ok (.putfield 60, 3) := by decide +kernel
theorem dX10_init_89 : decode cX10_init 89 = .ok (.iconst 0, 1) := by decide +kernel
theorem dX10_init_90 : decode cX10_init 90 = .ok (.istore_n 1, 1) := by decide +kernel
theorem dX10_init_91 : decode cX10_init 91 = .ok (.iload_n 1, 1) := by decide +kernel
theorem dX10_init_92 : decode cX10_init 92 = .ok (.iconst 2, 1) := by decide +kernel
theorem dX10_init_93 : decode cX10_init 93 = .ok (.if_icmp .ge 22, 3) := by decide +kernel
theorem dX10_init_96 : decode cX10_init 96 = .ok (.aload_n 0, 1) := by decide +kernel
theorem dX10_init_97 : decode cX10_init 97 = .ok (.getfield 39, 3) := by decide +kernel
theorem dX10_init_100 : decode cX10_init 100 = .ok (.iload_n 1, 1) := by decide +kernel
theorem dX10_init_101 : decode cX10_init 101 = .ok (.new 37, 3) := by decide +kernel
theorem dX10_init_104 : decode cX10_init 104 = .ok (.dup, 1) := by decide +kernel
theorem dX10_init_105 : decode cX10_init 105 = .ok (.invokespecial 64, 3) := by decide +kernel
theorem dX10_init_108 : decode cX10_init 108 = .ok (.aastore, 1) := by decide +kernel
theorem dX10_init_109 : decode cX10_init 109 = .ok (.iinc 1 1, 3) := by decide +kernel
theorem dX10_init_112 : decode cX10_init 112 = .ok (.goto (-21), 3) := by decide +kernel
theorem dX10_init_115 : decode cX10_init 115 = .ok (.return_, 1) := by decide +kernel
def blk10 (Y : Nat → ClassId) (b : Nat) : List va_E := (.inr (10, [.ref (b + 1), .ref (b + 13), .ref (b + 20), .ref (b + 31), .ref (b + 81), .ref (b + 82), .ref (b + 87), .ref (b + 92), .int 0]) :: (((((((((blk6 Y (b + 1) ++ blk9 Y (b + 13)) ++ blk2 Y (b + 20)) ++ blk0 Y (b + 31)) ++ [raE Y 2 2 (fun i => if i < 2 then some (b + 94 + 8 * i) else none)]) ++ blk7 Y (b + 82)) ++ blk3 Y (b + 87)) ++ blk1 Y (b + 92)) ++ blk4 Y (b + 94)) ++ blk4 Y (b + 102)))
set_option maxRecDepth 20000 in
set_option maxHeartbeats 4000000 in
theorem SB10 : SndB yX10_init e_X10_init dfl10 blk10 := by
  refine SndB.of (by decide +kernel) rfl rfl (by decide) (fun G pre b => ?_)
  show BB G pre b e_X10_init (blk10 G.2 b) 0 [(0, .ref b)] [] (.inr (10, [.null, .null, .null, .null, .null, .null, .null, .null, .int 0]) :: []) (0, 0)
  refine bb_aload (pc := 0) 0 0 dX10_init_0 rfl rfl ?_
  refine bb_obj (pc := 1) k90 k91 k92 dX10_init_1 (by decide) rfl ?_
  refine bb_aload (pc := 4) 0 0 dX10_init_4 rfl rfl ?_
  refine bb_new (pc := 5) (t := 6) [.null, .null, .null] tyX6 rfl uTB6 tyX6_ok k93 k94 k69 (df6) ⟨Nat.le_of_ble_eq_true rfl, Nat.le_of_ble_eq_true rfl⟩ dX10_init_5 ?_
  show BB G pre b e_X10_init (blk10 G.2 b) 8 [(0, .ref b)] [.ref (b + 1), .ref b] ((.inr (10, [.null, .null, .null, .null, .null, .null, .null, .null, .int 0]) :: []) ++ [dfl6]) (1, 3)
  refine bb_dup (pc := 8) dX10_init_8 ?_
  refine bb_call (pc := 9) SB6 (Or.inl k95) k96 k69 k97 rfl (show _ ∧ _ ∧ Option.map (fun d => d.parameters.length) (parseMethodDescriptor yX6_init.desc) = some 0 from by decide +kernel) rfl ⟨by decide, by decide⟩ ⟨Nat.le_of_ble_eq_true rfl, Nat.le_of_ble_eq_true rfl⟩ (Nat.le_of_ble_eq_true rfl) rfl dX10_init_9 ?_
  show BB G pre b e_X10_init (blk10 G.2 b) 12 [(0, .ref b)] [.ref (b + 1), .ref b] (.inr (10, [.null, .null, .null, .null, .null, .null, .null, .null, .int 0]) :: blk6 G.2 (b + 1)) (12, 347)
  refine bb_putF (pc := 12) (kc := 0) 0 (.ref (b + 1)) tyX10 (.object "BelievedWords$Rows") (by decide) rfl (by decide) uTB10 tyX10_ok nmX10 k415 rfl rfl (by decide +kernel) rfl rfl (Nat.le_of_ble_eq_true rfl) rfl rfl dX10_init_12 ?_
  show BB G pre b e_X10_init (blk10 G.2 b) 15 [(0, .ref b)] [] (.inr (10, [.ref (b + 1), .null, .null, .null, .null, .null, .null, .null, .int 0]) :: blk6 G.2 (b + 1)) (12, 347)
  refine bb_aload (pc := 15) 0 0 dX10_init_15 rfl rfl ?_
  refine bb_new (pc := 16) (t := 9) [.null, .null, .int 0, .int 0, .int 0, .int 0, .int 0, .int 0, .int 0] tyX9 rfl uTB9 tyX9_ok k115 k116 k71 (df9) ⟨Nat.le_of_ble_eq_true rfl, Nat.le_of_ble_eq_true rfl⟩ dX10_init_16 ?_
  show BB G pre b e_X10_init (blk10 G.2 b) 19 [(0, .ref b)] [.ref (b + 13), .ref b] ((.inr (10, [.ref (b + 1), .null, .null, .null, .null, .null, .null, .null, .int 0]) :: blk6 G.2 (b + 1)) ++ [dfl9]) (13, 356)
  refine bb_dup (pc := 19) dX10_init_19 ?_
  refine bb_call (pc := 20) SB9 (Or.inr (List.mem_of_getElem? (i := 0) rfl)) k118 k71 k119 rfl (show _ ∧ _ ∧ Option.map (fun d => d.parameters.length) (parseMethodDescriptor yX9_init.desc) = some 0 from by decide +kernel) rfl ⟨by decide, by decide⟩ ⟨Nat.le_of_ble_eq_true rfl, Nat.le_of_ble_eq_true rfl⟩ (Nat.le_of_ble_eq_true rfl) rfl dX10_init_20 ?_
  show BB G pre b e_X10_init (blk10 G.2 b) 23 [(0, .ref b)] [.ref (b + 13), .ref b] (.inr (10, [.ref (b + 1), .null, .null, .null, .null, .null, .null, .null, .int 0]) :: (blk6 G.2 (b + 1) ++ blk9 G.2 (b + 13))) (19, 514)
  refine bb_putF (pc := 23) (kc := 0) 1 (.ref (b + 13)) tyX10 (.object "BelievedWords$Tape") (by decide) rfl (by decide) uTB10 tyX10_ok nmX10 k416 rfl rfl (by decide +kernel) rfl rfl (Nat.le_of_ble_eq_true rfl) rfl rfl dX10_init_23 ?_
  show BB G pre b e_X10_init (blk10 G.2 b) 26 [(0, .ref b)] [] (.inr (10, [.ref (b + 1), .ref (b + 13), .null, .null, .null, .null, .null, .null, .int 0]) :: (blk6 G.2 (b + 1) ++ blk9 G.2 (b + 13))) (19, 514)
  refine bb_aload (pc := 26) 0 0 dX10_init_26 rfl rfl ?_
  refine bb_new (pc := 27) (t := 2) [.null, .null, .null, .null, .null] tyX2 rfl uTB2 tyX2_ok k213 k214 k73 (df2) ⟨Nat.le_of_ble_eq_true rfl, Nat.le_of_ble_eq_true rfl⟩ dX10_init_27 ?_
  show BB G pre b e_X10_init (blk10 G.2 b) 30 [(0, .ref b)] [.ref (b + 20), .ref b] ((.inr (10, [.ref (b + 1), .ref (b + 13), .null, .null, .null, .null, .null, .null, .int 0]) :: (blk6 G.2 (b + 1) ++ blk9 G.2 (b + 13))) ++ [dfl2]) (20, 519)
  refine bb_dup (pc := 30) dX10_init_30 ?_
  refine bb_call (pc := 31) SB2 (Or.inr (List.mem_of_getElem? (i := 2) rfl)) k216 k73 k217 rfl (show _ ∧ _ ∧ Option.map (fun d => d.parameters.length) (parseMethodDescriptor yX2_init.desc) = some 0 from by decide +kernel) rfl ⟨by decide, by decide⟩ ⟨Nat.le_of_ble_eq_true rfl, Nat.le_of_ble_eq_true rfl⟩ (Nat.le_of_ble_eq_true rfl) rfl dX10_init_31 ?_
  show BB G pre b e_X10_init (blk10 G.2 b) 34 [(0, .ref b)] [.ref (b + 20), .ref b] (.inr (10, [.ref (b + 1), .ref (b + 13), .null, .null, .null, .null, .null, .null, .int 0]) :: ((blk6 G.2 (b + 1) ++ blk9 G.2 (b + 13)) ++ blk2 G.2 (b + 20))) (30, 644)
  refine bb_putF (pc := 34) (kc := 0) 2 (.ref (b + 20)) tyX10 (.object "BelievedWords$Court") (by decide) rfl (by decide) uTB10 tyX10_ok nmX10 k417 rfl rfl (by decide +kernel) rfl rfl (Nat.le_of_ble_eq_true rfl) rfl rfl dX10_init_34 ?_
  show BB G pre b e_X10_init (blk10 G.2 b) 37 [(0, .ref b)] [] (.inr (10, [.ref (b + 1), .ref (b + 13), .ref (b + 20), .null, .null, .null, .null, .null, .int 0]) :: ((blk6 G.2 (b + 1) ++ blk9 G.2 (b + 13)) ++ blk2 G.2 (b + 20))) (30, 644)
  refine bb_aload (pc := 37) 0 0 dX10_init_37 rfl rfl ?_
  refine bb_new (pc := 38) (t := 0) [.null, .int 0, .int 0] tyX0 rfl uTB0 tyX0_ok k290 k291 k75 (df0) ⟨Nat.le_of_ble_eq_true rfl, Nat.le_of_ble_eq_true rfl⟩ dX10_init_38 ?_
  show BB G pre b e_X10_init (blk10 G.2 b) 41 [(0, .ref b)] [.ref (b + 31), .ref b] ((.inr (10, [.ref (b + 1), .ref (b + 13), .ref (b + 20), .null, .null, .null, .null, .null, .int 0]) :: ((blk6 G.2 (b + 1) ++ blk9 G.2 (b + 13)) ++ blk2 G.2 (b + 20))) ++ [dfl0]) (31, 647)
  refine bb_dup (pc := 41) dX10_init_41 ?_
  refine bb_call (pc := 42) SB0 (Or.inl k292) k293 k75 k294 rfl (show _ ∧ _ ∧ Option.map (fun d => d.parameters.length) (parseMethodDescriptor yX0_init.desc) = some 0 from by decide +kernel) rfl ⟨by decide, by decide⟩ ⟨Nat.le_of_ble_eq_true rfl, Nat.le_of_ble_eq_true rfl⟩ (Nat.le_of_ble_eq_true rfl) rfl dX10_init_42 ?_
  show BB G pre b e_X10_init (blk10 G.2 b) 45 [(0, .ref b)] [.ref (b + 31), .ref b] (.inr (10, [.ref (b + 1), .ref (b + 13), .ref (b + 20), .null, .null, .null, .null, .null, .int 0]) :: (((blk6 G.2 (b + 1) ++ blk9 G.2 (b + 13)) ++ blk2 G.2 (b + 20)) ++ blk0 G.2 (b + 31))) (80, 935)
  refine bb_putF (pc := 45) (kc := 0) 3 (.ref (b + 31)) tyX10 (.object "BelievedWords$Acts") (by decide) rfl (by decide) uTB10 tyX10_ok nmX10 k418 rfl rfl (by decide +kernel) rfl rfl (Nat.le_of_ble_eq_true rfl) rfl rfl dX10_init_45 ?_
  show BB G pre b e_X10_init (blk10 G.2 b) 48 [(0, .ref b)] [] (.inr (10, [.ref (b + 1), .ref (b + 13), .ref (b + 20), .ref (b + 31), .null, .null, .null, .null, .int 0]) :: (((blk6 G.2 (b + 1) ++ blk9 G.2 (b + 13)) ++ blk2 G.2 (b + 20)) ++ blk0 G.2 (b + 31))) (80, 935)
  refine bb_aload (pc := 48) 0 0 dX10_init_48 rfl rfl ?_
  refine bb_iconst (pc := 49) (nI 2) dX10_init_49 (by decide) ?_
  refine bb_newR (pc := 50) (N := 2) (t0 := 2) (C := "BelievedWords$Image") rfl (by decide) (by decide) k310 ⟨Nat.le_of_ble_eq_true rfl, Nat.le_of_ble_eq_true rfl⟩ dX10_init_50 ?_
  show BB G pre b e_X10_init (blk10 G.2 b) 53 [(0, .ref b)] [.ref (b + 81), .ref b] (.inr (10, [.ref (b + 1), .ref (b + 13), .ref (b + 20), .ref (b + 31), .null, .null, .null, .null, .int 0]) :: ((((blk6 G.2 (b + 1) ++ blk9 G.2 (b + 13)) ++ blk2 G.2 (b + 20)) ++ blk0 G.2 (b + 31)) ++ [raE G.2 2 2 (fun _ => none)])) (81, 937)
  refine bb_putF (pc := 53) (kc := 0) 4 (.ref (b + 81)) tyX10 (.array (.object "BelievedWords$Image")) (by decide) rfl (by decide) uTB10 tyX10_ok nmX10 k419 rfl rfl (by decide +kernel) rfl rfl (Nat.le_of_ble_eq_true rfl) rfl rfl dX10_init_53 ?_
  show BB G pre b e_X10_init (blk10 G.2 b) 56 [(0, .ref b)] [] (.inr (10, [.ref (b + 1), .ref (b + 13), .ref (b + 20), .ref (b + 31), .ref (b + 81), .null, .null, .null, .int 0]) :: ((((blk6 G.2 (b + 1) ++ blk9 G.2 (b + 13)) ++ blk2 G.2 (b + 20)) ++ blk0 G.2 (b + 31)) ++ [raE G.2 2 2 (fun _ => none)])) (81, 937)
  refine bb_aload (pc := 56) 0 0 dX10_init_56 rfl rfl ?_
  refine bb_new (pc := 57) (t := 7) [.null, .null, .null, .null, .int 0, .int 0, .int 0, .int 0, .int 0, .int 0, .int 0, .int 0, .int 0, .int 0] tyX7 rfl uTB7 tyX7_ok k312 k313 k76 (df7) ⟨Nat.le_of_ble_eq_true rfl, Nat.le_of_ble_eq_true rfl⟩ dX10_init_57 ?_
  show BB G pre b e_X10_init (blk10 G.2 b) 60 [(0, .ref b)] [.ref (b + 82), .ref b] ((.inr (10, [.ref (b + 1), .ref (b + 13), .ref (b + 20), .ref (b + 31), .ref (b + 81), .null, .null, .null, .int 0]) :: ((((blk6 G.2 (b + 1) ++ blk9 G.2 (b + 13)) ++ blk2 G.2 (b + 20)) ++ blk0 G.2 (b + 31)) ++ [raE G.2 2 2 (fun _ => none)])) ++ [dfl7]) (82, 951)
  refine bb_dup (pc := 60) dX10_init_60 ?_
  refine bb_call (pc := 61) SB7 (Or.inr (List.mem_of_getElem? (i := 6) rfl)) k315 k76 k316 rfl (show _ ∧ _ ∧ Option.map (fun d => d.parameters.length) (parseMethodDescriptor yX7_init.desc) = some 0 from by decide +kernel) rfl ⟨by decide, by decide⟩ ⟨Nat.le_of_ble_eq_true rfl, Nat.le_of_ble_eq_true rfl⟩ (Nat.le_of_ble_eq_true rfl) rfl dX10_init_61 ?_
  show BB G pre b e_X10_init (blk10 G.2 b) 64 [(0, .ref b)] [.ref (b + 82), .ref b] (.inr (10, [.ref (b + 1), .ref (b + 13), .ref (b + 20), .ref (b + 31), .ref (b + 81), .null, .null, .null, .int 0]) :: (((((blk6 G.2 (b + 1) ++ blk9 G.2 (b + 13)) ++ blk2 G.2 (b + 20)) ++ blk0 G.2 (b + 31)) ++ [raE G.2 2 2 (fun _ => none)]) ++ blk7 G.2 (b + 82))) (86, 956)
  refine bb_putF (pc := 64) (kc := 0) 5 (.ref (b + 82)) tyX10 (.object "BelievedWords$Search") (by decide) rfl (by decide) uTB10 tyX10_ok nmX10 k420 rfl rfl (by decide +kernel) rfl rfl (Nat.le_of_ble_eq_true rfl) rfl rfl dX10_init_64 ?_
  show BB G pre b e_X10_init (blk10 G.2 b) 67 [(0, .ref b)] [] (.inr (10, [.ref (b + 1), .ref (b + 13), .ref (b + 20), .ref (b + 31), .ref (b + 81), .ref (b + 82), .null, .null, .int 0]) :: (((((blk6 G.2 (b + 1) ++ blk9 G.2 (b + 13)) ++ blk2 G.2 (b + 20)) ++ blk0 G.2 (b + 31)) ++ [raE G.2 2 2 (fun _ => none)]) ++ blk7 G.2 (b + 82))) (86, 956)
  refine bb_aload (pc := 67) 0 0 dX10_init_67 rfl rfl ?_
  refine bb_new (pc := 68) (t := 3) [.null, .null, .null, .null] tyX3 rfl uTB3 tyX3_ok k361 k362 k77 (df3) ⟨Nat.le_of_ble_eq_true rfl, Nat.le_of_ble_eq_true rfl⟩ dX10_init_68 ?_
  show BB G pre b e_X10_init (blk10 G.2 b) 71 [(0, .ref b)] [.ref (b + 87), .ref b] ((.inr (10, [.ref (b + 1), .ref (b + 13), .ref (b + 20), .ref (b + 31), .ref (b + 81), .ref (b + 82), .null, .null, .int 0]) :: (((((blk6 G.2 (b + 1) ++ blk9 G.2 (b + 13)) ++ blk2 G.2 (b + 20)) ++ blk0 G.2 (b + 31)) ++ [raE G.2 2 2 (fun _ => none)]) ++ blk7 G.2 (b + 82))) ++ [dfl3]) (87, 960)
  refine bb_dup (pc := 71) dX10_init_71 ?_
  refine bb_call (pc := 72) SB3 (Or.inr (List.mem_of_getElem? (i := 7) rfl)) k364 k77 k365 rfl (show _ ∧ _ ∧ Option.map (fun d => d.parameters.length) (parseMethodDescriptor yX3_init.desc) = some 0 from by decide +kernel) rfl ⟨by decide, by decide⟩ ⟨Nat.le_of_ble_eq_true rfl, Nat.le_of_ble_eq_true rfl⟩ (Nat.le_of_ble_eq_true rfl) rfl dX10_init_72 ?_
  show BB G pre b e_X10_init (blk10 G.2 b) 75 [(0, .ref b)] [.ref (b + 87), .ref b] (.inr (10, [.ref (b + 1), .ref (b + 13), .ref (b + 20), .ref (b + 31), .ref (b + 81), .ref (b + 82), .null, .null, .int 0]) :: ((((((blk6 G.2 (b + 1) ++ blk9 G.2 (b + 13)) ++ blk2 G.2 (b + 20)) ++ blk0 G.2 (b + 31)) ++ [raE G.2 2 2 (fun _ => none)]) ++ blk7 G.2 (b + 82)) ++ blk3 G.2 (b + 87))) (91, 1216)
  refine bb_putF (pc := 75) (kc := 0) 6 (.ref (b + 87)) tyX10 (.object "BelievedWords$Foresight") (by decide) rfl (by decide) uTB10 tyX10_ok nmX10 k421 rfl rfl (by decide +kernel) rfl rfl (Nat.le_of_ble_eq_true rfl) rfl rfl dX10_init_75 ?_
  show BB G pre b e_X10_init (blk10 G.2 b) 78 [(0, .ref b)] [] (.inr (10, [.ref (b + 1), .ref (b + 13), .ref (b + 20), .ref (b + 31), .ref (b + 81), .ref (b + 82), .ref (b + 87), .null, .int 0]) :: ((((((blk6 G.2 (b + 1) ++ blk9 G.2 (b + 13)) ++ blk2 G.2 (b + 20)) ++ blk0 G.2 (b + 31)) ++ [raE G.2 2 2 (fun _ => none)]) ++ blk7 G.2 (b + 82)) ++ blk3 G.2 (b + 87))) (91, 1216)
  refine bb_aload (pc := 78) 0 0 dX10_init_78 rfl rfl ?_
  refine bb_new (pc := 79) (t := 1) [.null, .int 0] tyX1 rfl uTB1 tyX1_ok k380 k381 k78 (df1) ⟨Nat.le_of_ble_eq_true rfl, Nat.le_of_ble_eq_true rfl⟩ dX10_init_79 ?_
  show BB G pre b e_X10_init (blk10 G.2 b) 82 [(0, .ref b)] [.ref (b + 92), .ref b] ((.inr (10, [.ref (b + 1), .ref (b + 13), .ref (b + 20), .ref (b + 31), .ref (b + 81), .ref (b + 82), .ref (b + 87), .null, .int 0]) :: ((((((blk6 G.2 (b + 1) ++ blk9 G.2 (b + 13)) ++ blk2 G.2 (b + 20)) ++ blk0 G.2 (b + 31)) ++ [raE G.2 2 2 (fun _ => none)]) ++ blk7 G.2 (b + 82)) ++ blk3 G.2 (b + 87))) ++ [dfl1]) (92, 1218)
  refine bb_dup (pc := 82) dX10_init_82 ?_
  refine bb_call (pc := 83) SB1 (Or.inr (List.mem_of_getElem? (i := 8) rfl)) k383 k78 k384 rfl (show _ ∧ _ ∧ Option.map (fun d => d.parameters.length) (parseMethodDescriptor yX1_init.desc) = some 0 from by decide +kernel) rfl ⟨by decide, by decide⟩ ⟨Nat.le_of_ble_eq_true rfl, Nat.le_of_ble_eq_true rfl⟩ (Nat.le_of_ble_eq_true rfl) rfl dX10_init_83 ?_
  show BB G pre b e_X10_init (blk10 G.2 b) 86 [(0, .ref b)] [.ref (b + 92), .ref b] (.inr (10, [.ref (b + 1), .ref (b + 13), .ref (b + 20), .ref (b + 31), .ref (b + 81), .ref (b + 82), .ref (b + 87), .null, .int 0]) :: (((((((blk6 G.2 (b + 1) ++ blk9 G.2 (b + 13)) ++ blk2 G.2 (b + 20)) ++ blk0 G.2 (b + 31)) ++ [raE G.2 2 2 (fun _ => none)]) ++ blk7 G.2 (b + 82)) ++ blk3 G.2 (b + 87)) ++ blk1 G.2 (b + 92))) (93, 1234)
  refine bb_putF (pc := 86) (kc := 0) 7 (.ref (b + 92)) tyX10 (.object "BelievedWords$Asks") (by decide) rfl (by decide) uTB10 tyX10_ok nmX10 k422 rfl rfl (by decide +kernel) rfl rfl (Nat.le_of_ble_eq_true rfl) rfl rfl dX10_init_86 ?_
  show BB G pre b e_X10_init (blk10 G.2 b) 89 [(0, .ref b)] [] (.inr (10, [.ref (b + 1), .ref (b + 13), .ref (b + 20), .ref (b + 31), .ref (b + 81), .ref (b + 82), .ref (b + 87), .ref (b + 92), .int 0]) :: (((((((blk6 G.2 (b + 1) ++ blk9 G.2 (b + 13)) ++ blk2 G.2 (b + 20)) ++ blk0 G.2 (b + 31)) ++ [raE G.2 2 2 (fun _ => none)]) ++ blk7 G.2 (b + 82)) ++ blk3 G.2 (b + 87)) ++ blk1 G.2 (b + 92))) (93, 1234)
  refine bb_iconst (pc := 89) (nI 0) dX10_init_89 (by decide) ?_
  refine bb_istore (pc := 90) (L' := [(1, .int (nI 0)), (0, .ref b)]) 1 dX10_init_90 rfl (by decide) rfl ?_
  refine bb_iload (pc := 91) 1 0 dX10_init_91 rfl rfl ?_
  refine bb_iconst (pc := 92) (nI 2) dX10_init_92 (by decide) ?_
  refine bb_icmp_ge (pc := 93) 115 dX10_init_93 (by decide) (fun c93 => ?_) (fun c93 => ?_)
  · exact absurd c93 (by decide)
  refine bb_aload (pc := 96) 0 1 dX10_init_96 rfl rfl ?_
  refine bb_get (pc := 97) (kc := 0) 4 rfl (by decide) uTB10 k419 rfl rfl rfl dX10_init_97 ?_
  refine bb_iload (pc := 100) 1 0 dX10_init_100 rfl rfl ?_
  refine bb_new (pc := 101) (t := 4) [.null, .null, .int 0] tyX4 rfl uTB4 tyX4_ok k310 k393 k79 (df4) ⟨Nat.le_of_ble_eq_true rfl, Nat.le_of_ble_eq_true rfl⟩ dX10_init_101 ?_
  show BB G pre b e_X10_init (blk10 G.2 b) 104 [(1, .int (nI 0)), (0, .ref b)] [.ref (b + 94), .int (nI 0), .ref (b + 81)] ((.inr (10, [.ref (b + 1), .ref (b + 13), .ref (b + 20), .ref (b + 31), .ref (b + 81), .ref (b + 82), .ref (b + 87), .ref (b + 92), .int 0]) :: (((((((blk6 G.2 (b + 1) ++ blk9 G.2 (b + 13)) ++ blk2 G.2 (b + 20)) ++ blk0 G.2 (b + 31)) ++ [raE G.2 2 2 (fun _ => none)]) ++ blk7 G.2 (b + 82)) ++ blk3 G.2 (b + 87)) ++ blk1 G.2 (b + 92))) ++ [dfl4]) (94, 1237)
  refine bb_dup (pc := 104) dX10_init_104 ?_
  refine bb_call (pc := 105) SB4 (Or.inr (List.mem_of_getElem? (i := 9) rfl)) k395 k79 k396 rfl (show _ ∧ _ ∧ Option.map (fun d => d.parameters.length) (parseMethodDescriptor yX4_init.desc) = some 0 from by decide +kernel) rfl ⟨by decide, by decide⟩ ⟨Nat.le_of_ble_eq_true rfl, Nat.le_of_ble_eq_true rfl⟩ (Nat.le_of_ble_eq_true rfl) rfl dX10_init_105 ?_
  show BB G pre b e_X10_init (blk10 G.2 b) 108 [(1, .int (nI 0)), (0, .ref b)] [.ref (b + 94), .int (nI 0), .ref (b + 81)] (.inr (10, [.ref (b + 1), .ref (b + 13), .ref (b + 20), .ref (b + 31), .ref (b + 81), .ref (b + 82), .ref (b + 87), .ref (b + 92), .int 0]) :: ((((((((blk6 G.2 (b + 1) ++ blk9 G.2 (b + 13)) ++ blk2 G.2 (b + 20)) ++ blk0 G.2 (b + 31)) ++ [raE G.2 2 2 (fun _ => none)]) ++ blk7 G.2 (b + 82)) ++ blk3 G.2 (b + 87)) ++ blk1 G.2 (b + 92)) ++ blk4 G.2 (b + 94))) (101, 1286)
  refine bb_aast (pc := 108) (kc := 81) (kv := 94) (N := 2) (t := 4) (t0 := 2) (f := fun _ => none) (r := (RX4, TX4, 3)) (vs := [.ref (b + 94 + 1), .ref (b + 94 + 6), .int 0]) rfl rfl rfl rfl rfl rfl (n_in (by decide) (by decide)) dX10_init_108 ?_
  have eu : va_up (fun _ => none) (nI 0).toNatClampNeg (some (b + 94)) = (fun i => if i < 1 then some (b + 94 + 8 * i) else none) := by
    funext i
    unfold va_up
    rw [n_cl (by omega)]
    by_cases q : i = 0
    · subst q
      rfl
    · rw [if_neg q, if_neg (show ¬ i < 1 by omega)]
  rw [eu]
  show BB G pre b e_X10_init (blk10 G.2 b) 109 [(1, .int (nI 0)), (0, .ref b)] [] (.inr (10, [.ref (b + 1), .ref (b + 13), .ref (b + 20), .ref (b + 31), .ref (b + 81), .ref (b + 82), .ref (b + 87), .ref (b + 92), .int 0]) :: ((((((((blk6 G.2 (b + 1) ++ blk9 G.2 (b + 13)) ++ blk2 G.2 (b + 20)) ++ blk0 G.2 (b + 31)) ++ [raE G.2 2 2 (fun i => if i < 1 then some (b + 94 + 8 * i) else none)]) ++ blk7 G.2 (b + 82)) ++ blk3 G.2 (b + 87)) ++ blk1 G.2 (b + 92)) ++ blk4 G.2 (b + 94))) (101, 1286)
  refine bb_iinc (pc := 109) (L' := [(1, .int (nI 1)), (0, .ref b)]) 1 0 dX10_init_109 rfl (n_inc 0) (by decide) rfl ?_
  refine bb_goto (pc := 112) 91 dX10_init_112 (by decide) ?_
  refine bb_iload (pc := 91) 1 0 dX10_init_91 rfl rfl ?_
  refine bb_iconst (pc := 92) (nI 2) dX10_init_92 (by decide) ?_
  refine bb_icmp_ge (pc := 93) 115 dX10_init_93 (by decide) (fun c93 => ?_) (fun c93 => ?_)
  · exact absurd c93 (by decide)
  refine bb_aload (pc := 96) 0 1 dX10_init_96 rfl rfl ?_
  refine bb_get (pc := 97) (kc := 0) 4 rfl (by decide) uTB10 k419 rfl rfl rfl dX10_init_97 ?_
  refine bb_iload (pc := 100) 1 0 dX10_init_100 rfl rfl ?_
  refine bb_new (pc := 101) (t := 4) [.null, .null, .int 0] tyX4 rfl uTB4 tyX4_ok k310 k393 k79 (df4) ⟨Nat.le_of_ble_eq_true rfl, Nat.le_of_ble_eq_true rfl⟩ dX10_init_101 ?_
  show BB G pre b e_X10_init (blk10 G.2 b) 104 [(1, .int (nI 1)), (0, .ref b)] [.ref (b + 102), .int (nI 1), .ref (b + 81)] ((.inr (10, [.ref (b + 1), .ref (b + 13), .ref (b + 20), .ref (b + 31), .ref (b + 81), .ref (b + 82), .ref (b + 87), .ref (b + 92), .int 0]) :: ((((((((blk6 G.2 (b + 1) ++ blk9 G.2 (b + 13)) ++ blk2 G.2 (b + 20)) ++ blk0 G.2 (b + 31)) ++ [raE G.2 2 2 (fun i => if i < 1 then some (b + 94 + 8 * i) else none)]) ++ blk7 G.2 (b + 82)) ++ blk3 G.2 (b + 87)) ++ blk1 G.2 (b + 92)) ++ blk4 G.2 (b + 94))) ++ [dfl4]) (102, 1289)
  refine bb_dup (pc := 104) dX10_init_104 ?_
  refine bb_call (pc := 105) SB4 (Or.inr (List.mem_of_getElem? (i := 9) rfl)) k395 k79 k396 rfl (show _ ∧ _ ∧ Option.map (fun d => d.parameters.length) (parseMethodDescriptor yX4_init.desc) = some 0 from by decide +kernel) rfl ⟨by decide, by decide⟩ ⟨Nat.le_of_ble_eq_true rfl, Nat.le_of_ble_eq_true rfl⟩ (Nat.le_of_ble_eq_true rfl) rfl dX10_init_105 ?_
  show BB G pre b e_X10_init (blk10 G.2 b) 108 [(1, .int (nI 1)), (0, .ref b)] [.ref (b + 102), .int (nI 1), .ref (b + 81)] (.inr (10, [.ref (b + 1), .ref (b + 13), .ref (b + 20), .ref (b + 31), .ref (b + 81), .ref (b + 82), .ref (b + 87), .ref (b + 92), .int 0]) :: (((((((((blk6 G.2 (b + 1) ++ blk9 G.2 (b + 13)) ++ blk2 G.2 (b + 20)) ++ blk0 G.2 (b + 31)) ++ [raE G.2 2 2 (fun i => if i < 1 then some (b + 94 + 8 * i) else none)]) ++ blk7 G.2 (b + 82)) ++ blk3 G.2 (b + 87)) ++ blk1 G.2 (b + 92)) ++ blk4 G.2 (b + 94)) ++ blk4 G.2 (b + 102))) (109, 1338)
  refine bb_aast (pc := 108) (kc := 81) (kv := 102) (N := 2) (t := 4) (t0 := 2) (f := fun i => if i < 1 then some (b + 94 + 8 * i) else none) (r := (RX4, TX4, 3)) (vs := [.ref (b + 102 + 1), .ref (b + 102 + 6), .int 0]) rfl rfl rfl rfl rfl rfl (n_in (by decide) (by decide)) dX10_init_108 ?_
  have eu : va_up (fun i => if i < 1 then some (b + 94 + 8 * i) else none) (nI 1).toNatClampNeg (some (b + 102)) = (fun i => if i < 2 then some (b + 94 + 8 * i) else none) := by
    funext i
    unfold va_up
    rw [n_cl (by omega)]
    by_cases q : i = 1
    · subst q
      rfl
    · rw [if_neg q]
      show (if i < 1 then _ else _) = _
      by_cases q2 : i < 1
      · rw [if_pos q2, if_pos (by omega)]
      · rw [if_neg q2, if_neg (by omega)]
  rw [eu]
  show BB G pre b e_X10_init (blk10 G.2 b) 109 [(1, .int (nI 1)), (0, .ref b)] [] (.inr (10, [.ref (b + 1), .ref (b + 13), .ref (b + 20), .ref (b + 31), .ref (b + 81), .ref (b + 82), .ref (b + 87), .ref (b + 92), .int 0]) :: (((((((((blk6 G.2 (b + 1) ++ blk9 G.2 (b + 13)) ++ blk2 G.2 (b + 20)) ++ blk0 G.2 (b + 31)) ++ [raE G.2 2 2 (fun i => if i < 2 then some (b + 94 + 8 * i) else none)]) ++ blk7 G.2 (b + 82)) ++ blk3 G.2 (b + 87)) ++ blk1 G.2 (b + 92)) ++ blk4 G.2 (b + 94)) ++ blk4 G.2 (b + 102))) (109, 1338)
  refine bb_iinc (pc := 109) (L' := [(1, .int (nI 2)), (0, .ref b)]) 1 0 dX10_init_109 rfl (n_inc 1) (by decide) rfl ?_
  refine bb_goto (pc := 112) 91 dX10_init_112 (by decide) ?_
  refine bb_iload (pc := 91) 1 0 dX10_init_91 rfl rfl ?_
  refine bb_iconst (pc := 92) (nI 2) dX10_init_92 (by decide) ?_
  refine bb_icmp_ge (pc := 93) 115 dX10_init_93 (by decide) (fun c93 => ?_) (fun c93 => ?_)
  · refine bb_ret (pc := 115) rfl dX10_init_115 ⟨Nat.le_of_ble_eq_true rfl, Nat.le_of_ble_eq_true rfl⟩ ?_
    rfl
  · exact absurd (by decide) c93
abbrev dfl11 : va_E := .inr (11, [.int 0, .int 0, .null, .null, .null, .null, .null, .null, .int 0, .null, .int 0, .int 0, .int 0, .int 0, .int 0, .int 0, .int 0, .int 0, .null, .null, .null, .null, .int 0, .int 0, .null, .null, .null, .int 0])
theorem df11 : ∀ j, j < 28 → defaultValue (tyX11 j) = vp_V [.int 0, .int 0, .null, .null, .null, .null, .null, .null, .int 0, .null, .int 0, .int 0, .int 0, .int 0, .int 0, .int 0, .int 0, .int 0, .null, .null, .null, .null, .int 0, .int 0, .null, .null, .null, .int 0] j := fun j hj => by
  rcases (show j = 0 ∨ j = 1 ∨ j = 2 ∨ j = 3 ∨ j = 4 ∨ j = 5 ∨ j = 6 ∨ j = 7 ∨ j = 8 ∨ j = 9 ∨ j = 10 ∨ j = 11 ∨ j = 12 ∨ j = 13 ∨ j = 14 ∨ j = 15 ∨ j = 16 ∨ j = 17 ∨ j = 18 ∨ j = 19 ∨ j = 20 ∨ j = 21 ∨ j = 22 ∨ j = 23 ∨ j = 24 ∨ j = 25 ∨ j = 26 ∨ j = 27 by omega) with rfl | rfl | rfl | rfl | rfl | rfl | rfl | rfl | rfl | rfl | rfl | rfl | rfl | rfl | rfl | rfl | rfl | rfl | rfl | rfl | rfl | rfl | rfl | rfl | rfl | rfl | rfl | rfl <;> rfl
abbrev e_X11_init : ME := (cX11_init, (RX11, (1, (none, (14, (18259, 1))))))
theorem dX11_init_0 : decode cX11_init 0 = .ok (.aload_n 0, 1) := by decide +kernel
theorem dX11_init_1 : decode cX11_init 1 = .ok (.invokespecial 1, 3) := by decide +kernel
theorem dX11_init_4 : decode cX11_init 4 = .ok (.aload_n 0, 1) := by decide +kernel
theorem dX11_init_5 : decode cX11_init 5 = .ok (.bipush 8, 2) := by decide +kernel
theorem dX11_init_7 : decode cX11_init 7 = .ok (.newarray .int, 2) := by decide +kernel
theorem dX11_init_9 : decode cX11_init 9 = .ok (.dup, 1) := by decide +kernel
theorem dX11_init_10 : decode cX11_init 10 = .ok (.iconst 0, 1) := by decide +kernel
theorem dX11_init_11 : decode cX11_init 11 = .ok (.iconst (-1), 1) := by decide +kernel
theorem dX11_init_12 : decode cX11_init 12 = .ok (.iastore, 1) := by decide +kernel
theorem dX11_init_13 : decode cX11_init 13 = .ok (.dup, 1) := by decide +kernel
theorem dX11_init_14 : decode cX11_init 14 = .ok (.iconst 1, 1) := by decide +kernel
theorem dX11_init_15 : decode cX11_init 15 = .ok (.iconst (-1), 1) := by decide +kernel
theorem dX11_init_16 : decode cX11_init 16 = .ok (.iastore, 1) := by decide +kernel
theorem dX11_init_17 : decode cX11_init 17 = .ok (.dup, 1) := by decide +kernel
theorem dX11_init_18 : decode cX11_init 18 = .ok (.iconst 2, 1) := by decide +kernel
theorem dX11_init_19 : decode cX11_init 19 = .ok (.iconst (-1), 1) := by decide +kernel
theorem dX11_init_20 : decode cX11_init 20 = .ok (.iastore, 1) := by decide +kernel
theorem dX11_init_21 : decode cX11_init 21 = .ok (.dup, 1) := by decide +kernel
theorem dX11_init_22 : decode cX11_init 22 = .ok (.iconst 3, 1) := by decide +kernel
theorem dX11_init_23 : decode cX11_init 23 = .ok (.iconst (-1), 1) := by decide +kernel
theorem dX11_init_24 : decode cX11_init 24 = .ok (.iastore, 1) := by decide +kernel
theorem dX11_init_25 : decode cX11_init 25 = .ok (.dup, 1) := by decide +kernel
theorem dX11_init_26 : decode cX11_init 26 = .ok (.iconst 4, 1) := by decide +kernel
theorem dX11_init_27 : decode cX11_init 27 = .ok (.iconst (-1), 1) := by decide +kernel
theorem dX11_init_28 : decode cX11_init 28 = .ok (.iastore, 1) := by decide +kernel
theorem dX11_init_29 : decode cX11_init 29 = .ok (.dup, 1) := by decide +kernel
theorem dX11_init_30 : decode cX11_init 30 = .ok (.iconst 5, 1) := by decide +kernel
theorem dX11_init_31 : decode cX11_init 31 = .ok (.iconst (-1), 1) := by decide +kernel
theorem dX11_init_32 : decode cX11_init 32 = .ok (.iastore, 1) := by decide +kernel
theorem dX11_init_33 : decode cX11_init 33 = .ok (.dup, 1) := by decide +kernel
theorem dX11_init_34 : decode cX11_init 34 = .ok (.bipush 6, 2) := by decide +kernel
theorem dX11_init_36 : decode cX11_init 36 = .ok (.iconst (-1), 1) := by decide +kernel
theorem dX11_init_37 : decode cX11_init 37 = .ok (.iastore, 1) := by decide +kernel
theorem dX11_init_38 : decode cX11_init 38 = .ok (.dup, 1) := by decide +kernel
theorem dX11_init_39 : decode cX11_init 39 = .ok (.bipush 7, 2) := by decide +kernel
theorem dX11_init_41 : decode cX11_init 41 = .ok (.iconst (-1), 1) := by decide +kernel
theorem dX11_init_42 : decode cX11_init 42 = .ok (.iastore, 1) := by decide +kernel
theorem dX11_init_43 : decode cX11_init 43 = .ok (.putfield 7, 3) := by decide +kernel
theorem dX11_init_46 : decode cX11_init 46 = .ok (.aload_n 0, 1) := by decide +kernel
theorem dX11_init_47 : decode cX11_init 47 = .ok (.bipush 8, 2) := by decide +kernel
theorem dX11_init_49 : decode cX11_init 49 = .ok (.newarray .int, 2) := by decide +kernel
theorem dX11_init_51 : decode cX11_init 51 = .ok (.putfield 13, 3) := by decide +kernel
theorem dX11_init_54 : decode cX11_init 54 = .ok (.aload_n 0, 1) := by decide +kernel
theorem dX11_init_55 : decode cX11_init 55 = .ok (.sipush 320, 3) := by decide +kernel
theorem dX11_init_58 : decode cX11_init 58 = .ok (.newarray .int, 2) := by decide +kernel
theorem dX11_init_60 : decode cX11_init 60 = .ok (.putfield 16, 3) := by decide +kernel
theorem dX11_init_63 : decode cX11_init 63 = .ok (.aload_n 0, 1) := by decide +kernel
theorem dX11_init_64 : decode cX11_init 64 = .ok (.bipush 50, 2) := by decide +kernel
theorem dX11_init_66 : decode cX11_init 66 = .ok (.newarray .int, 2) := by decide +kernel
theorem dX11_init_68 : decode cX11_init 68 = .ok (.putfield 19, 3) := by decide +kernel
theorem dX11_init_71 : decode cX11_init 71 = .ok (.aload_n 0, 1) := by decide +kernel
theorem dX11_init_72 : decode cX11_init 72 = .ok (.bipush 50, 2) := by decide +kernel
theorem dX11_init_74 : decode cX11_init 74 = .ok (.newarray .int, 2) := by decide +kernel
theorem dX11_init_76 : decode cX11_init 76 = .ok (.putfield 22, 3) := by decide +kernel
theorem dX11_init_79 : decode cX11_init 79 = .ok (.aload_n 0, 1) := by decide +kernel
theorem dX11_init_80 : decode cX11_init 80 = .ok (.sipush 1200, 3) := by decide +kernel
theorem dX11_init_83 : decode cX11_init 83 = .ok (.newarray .int, 2) := by decide +kernel
theorem dX11_init_85 : decode cX11_init 85 = .ok (.putfield 25, 3) := by decide +kernel
theorem dX11_init_88 : decode cX11_init 88 = .ok (.aload_n 0, 1) := by decide +kernel
theorem dX11_init_89 : decode cX11_init 89 = .ok (.bipush 120, 2) := by decide +kernel
theorem dX11_init_91 : decode cX11_init 91 = .ok (.newarray .int, 2) := by decide +kernel
theorem dX11_init_93 : decode cX11_init 93 = .ok (.putfield 28, 3) := by decide +kernel
theorem dX11_init_96 : decode cX11_init 96 = .ok (.aload_n 0, 1) := by decide +kernel
theorem dX11_init_97 : decode cX11_init 97 = .ok (.sipush 4096, 3) := by decide +kernel
theorem dX11_init_100 : decode cX11_init 100 = .ok (.newarray .int, 2) := by decide +kernel
theorem dX11_init_102 : decode cX11_init 102 = .ok (.putfield 31, 3) := by decide +kernel
theorem dX11_init_105 : decode cX11_init 105 = .ok (.aload_n 0, 1) := by decide +kernel
theorem dX11_init_106 : decode cX11_init 106 = .ok (.sipush 4096, 3) := by decide +kernel
theorem dX11_init_109 : decode cX11_init 109 = .ok (.newarray .int, 2) := by decide +kernel
theorem dX11_init_111 : decode cX11_init 111 = .ok (.putfield 34, 3) := by decide +kernel
theorem dX11_init_114 : decode cX11_init 114 = .ok (.aload_n 0, 1) := by decide +kernel
theorem dX11_init_115 : decode cX11_init 115 = .ok (.sipush 4096, 3) := by decide +kernel
theorem dX11_init_118 : decode cX11_init 118 = .ok (.newarray .boolean, 2) := by decide +kernel
theorem dX11_init_120 : decode cX11_init 120 = .ok (.putfield 37, 3) := by decide +kernel
theorem dX11_init_123 : decode cX11_init 123 = .ok (.aload_n 0, 1) := by decide +kernel
theorem dX11_init_124 : decode cX11_init 124 = .ok (.sipush 4097, 3) := by decide +kernel
theorem dX11_init_127 : decode cX11_init 127 = .ok (.newarray .int, 2) := by decide +kernel
theorem dX11_init_129 : decode cX11_init 129 = .ok (.putfield 41, 3) := by decide +kernel
theorem dX11_init_132 : decode cX11_init 132 = .ok (.aload_n 0, 1) := by decide +kernel
theorem dX11_init_133 : decode cX11_init 133 = .ok (.iconst 2, 1) := by decide +kernel
theorem dX11_init_134 : decode cX11_init 134 = .ok (.newarray .boolean, 2) := by decide +kernel
theorem dX11_init_136 : decode cX11_init 136 = .ok (.putfield 44, 3) := by decide +kernel
theorem dX11_init_139 : decode cX11_init 139 = .ok (.aload_n 0, 1) := by decide +kernel
theorem dX11_init_140 : decode cX11_init 140 = .ok (.bipush 100, 2) := by decide +kernel
theorem dX11_init_142 : decode cX11_init 142 = .ok (.newarray .int, 2) := by decide +kernel
theorem dX11_init_144 : decode cX11_init 144 = .ok (.putfield 47, 3) := by decide +kernel
theorem dX11_init_147 : decode cX11_init 147 = .ok (.aload_n 0, 1) := by decide +kernel
theorem dX11_init_148 : decode cX11_init 148 = .ok (.bipush 16, 2) := by decide +kernel
theorem dX11_init_150 : decode cX11_init 150 = .ok (.newarray .int, 2) := by decide +kernel
theorem dX11_init_152 : decode cX11_init 152 = .ok (.putfield 50, 3) := by decide +kernel
theorem dX11_init_155 : decode cX11_init 155 = .ok (.return_, 1) := by decide +kernel
def blk11 (Y : Nat → ClassId) (b : Nat) : List va_E := (.inr (11, [.int 0, .int 0, .ref (b + 1), .ref (b + 2), .ref (b + 3), .ref (b + 4), .ref (b + 5), .ref (b + 6), .int 0, .ref (b + 7), .int 0, .int 0, .int 0, .int 0, .int 0, .int 0, .int 0, .int 0, .ref (b + 8), .ref (b + 9), .ref (b + 10), .ref (b + 11), .int 0, .int 0, .ref (b + 12), .ref (b + 13), .ref (b + 14), .int 0]) :: ((((((((((((([.inl (Y 0, 8, .inl (upd (upd (upd (upd (upd (upd (upd (upd (fun _ => nI 0) (nI 0).toNatClampNeg (-1)) (nI 1).toNatClampNeg (-1)) (nI 2).toNatClampNeg (-1)) (nI 3).toNatClampNeg (-1)) (nI 4).toNatClampNeg (-1)) (nI 5).toNatClampNeg (-1)) (nI 6).toNatClampNeg (-1)) (nI 7).toNatClampNeg (-1)))] ++ [iaE Y 8]) ++ [iaE Y 320]) ++ [iaE Y 50]) ++ [iaE Y 50]) ++ [iaE Y 1200]) ++ [iaE Y 120]) ++ [iaE Y 4096]) ++ [iaE Y 4096]) ++ [zaE Y 4096]) ++ [iaE Y 4097]) ++ [zaE Y 2]) ++ [iaE Y 100]) ++ [iaE Y 16]))
set_option maxRecDepth 20000 in
set_option maxHeartbeats 4000000 in
theorem SB11 : SndB yX11_init e_X11_init dfl11 blk11 := by
  refine SndB.of (by decide +kernel) rfl rfl (by decide) (fun G pre b => ?_)
  show BB G pre b e_X11_init (blk11 G.2 b) 0 [(0, .ref b)] [] (.inr (11, [.int 0, .int 0, .null, .null, .null, .null, .null, .null, .int 0, .null, .int 0, .int 0, .int 0, .int 0, .int 0, .int 0, .int 0, .int 0, .null, .null, .null, .null, .int 0, .int 0, .null, .null, .null, .int 0]) :: []) (0, 0)
  refine bb_aload (pc := 0) 0 0 dX11_init_0 rfl rfl ?_
  refine bb_obj (pc := 1) k1041 k91 k92 dX11_init_1 (by decide) rfl ?_
  refine bb_aload (pc := 4) 0 0 dX11_init_4 rfl rfl ?_
  refine bb_bipush (pc := 5) (nI 8) dX11_init_5 (by decide) ?_
  refine bb_newI (pc := 7) (N := 8) rfl (by decide) ⟨Nat.le_of_ble_eq_true rfl, Nat.le_of_ble_eq_true rfl⟩ k114 dX11_init_7 ?_
  show BB G pre b e_X11_init (blk11 G.2 b) 9 [(0, .ref b)] [.ref (b + 1), .ref b] (.inr (11, [.int 0, .int 0, .null, .null, .null, .null, .null, .null, .int 0, .null, .int 0, .int 0, .int 0, .int 0, .int 0, .int 0, .int 0, .int 0, .null, .null, .null, .null, .int 0, .int 0, .null, .null, .null, .int 0]) :: [iaE G.2 8]) (1, 8)
  refine bb_dup (pc := 9) dX11_init_9 ?_
  refine bb_iconst (pc := 10) (nI 0) dX11_init_10 (by decide) ?_
  refine bb_iconst (pc := 11) (-1) dX11_init_11 (by decide) ?_
  refine bb_iast (pc := 12) (kc := 1) (N := 8) (f := (fun _ => nI 0)) rfl rfl (n_in (by decide) (by decide)) dX11_init_12 ?_
  show BB G pre b e_X11_init (blk11 G.2 b) 13 [(0, .ref b)] [.ref (b + 1), .ref b] (.inr (11, [.int 0, .int 0, .null, .null, .null, .null, .null, .null, .int 0, .null, .int 0, .int 0, .int 0, .int 0, .int 0, .int 0, .int 0, .int 0, .null, .null, .null, .null, .int 0, .int 0, .null, .null, .null, .int 0]) :: [.inl (G.2 0, 8, .inl (upd (fun _ => nI 0) (nI 0).toNatClampNeg (-1)))]) (1, 8)
  refine bb_dup (pc := 13) dX11_init_13 ?_
  refine bb_iconst (pc := 14) (nI 1) dX11_init_14 (by decide) ?_
  refine bb_iconst (pc := 15) (-1) dX11_init_15 (by decide) ?_
  refine bb_iast (pc := 16) (kc := 1) (N := 8) (f := (upd (fun _ => nI 0) (nI 0).toNatClampNeg (-1))) rfl rfl (n_in (by decide) (by decide)) dX11_init_16 ?_
  show BB G pre b e_X11_init (blk11 G.2 b) 17 [(0, .ref b)] [.ref (b + 1), .ref b] (.inr (11, [.int 0, .int 0, .null, .null, .null, .null, .null, .null, .int 0, .null, .int 0, .int 0, .int 0, .int 0, .int 0, .int 0, .int 0, .int 0, .null, .null, .null, .null, .int 0, .int 0, .null, .null, .null, .int 0]) :: [.inl (G.2 0, 8, .inl (upd (upd (fun _ => nI 0) (nI 0).toNatClampNeg (-1)) (nI 1).toNatClampNeg (-1)))]) (1, 8)
  refine bb_dup (pc := 17) dX11_init_17 ?_
  refine bb_iconst (pc := 18) (nI 2) dX11_init_18 (by decide) ?_
  refine bb_iconst (pc := 19) (-1) dX11_init_19 (by decide) ?_
  refine bb_iast (pc := 20) (kc := 1) (N := 8) (f := (upd (upd (fun _ => nI 0) (nI 0).toNatClampNeg (-1)) (nI 1).toNatClampNeg (-1))) rfl rfl (n_in (by decide) (by decide)) dX11_init_20 ?_
  show BB G pre b e_X11_init (blk11 G.2 b) 21 [(0, .ref b)] [.ref (b + 1), .ref b] (.inr (11, [.int 0, .int 0, .null, .null, .null, .null, .null, .null, .int 0, .null, .int 0, .int 0, .int 0, .int 0, .int 0, .int 0, .int 0, .int 0, .null, .null, .null, .null, .int 0, .int 0, .null, .null, .null, .int 0]) :: [.inl (G.2 0, 8, .inl (upd (upd (upd (fun _ => nI 0) (nI 0).toNatClampNeg (-1)) (nI 1).toNatClampNeg (-1)) (nI 2).toNatClampNeg (-1)))]) (1, 8)
  refine bb_dup (pc := 21) dX11_init_21 ?_
  refine bb_iconst (pc := 22) (nI 3) dX11_init_22 (by decide) ?_
  refine bb_iconst (pc := 23) (-1) dX11_init_23 (by decide) ?_
  refine bb_iast (pc := 24) (kc := 1) (N := 8) (f := (upd (upd (upd (fun _ => nI 0) (nI 0).toNatClampNeg (-1)) (nI 1).toNatClampNeg (-1)) (nI 2).toNatClampNeg (-1))) rfl rfl (n_in (by decide) (by decide)) dX11_init_24 ?_
  show BB G pre b e_X11_init (blk11 G.2 b) 25 [(0, .ref b)] [.ref (b + 1), .ref b] (.inr (11, [.int 0, .int 0, .null, .null, .null, .null, .null, .null, .int 0, .null, .int 0, .int 0, .int 0, .int 0, .int 0, .int 0, .int 0, .int 0, .null, .null, .null, .null, .int 0, .int 0, .null, .null, .null, .int 0]) :: [.inl (G.2 0, 8, .inl (upd (upd (upd (upd (fun _ => nI 0) (nI 0).toNatClampNeg (-1)) (nI 1).toNatClampNeg (-1)) (nI 2).toNatClampNeg (-1)) (nI 3).toNatClampNeg (-1)))]) (1, 8)
  refine bb_dup (pc := 25) dX11_init_25 ?_
  refine bb_iconst (pc := 26) (nI 4) dX11_init_26 (by decide) ?_
  refine bb_iconst (pc := 27) (-1) dX11_init_27 (by decide) ?_
  refine bb_iast (pc := 28) (kc := 1) (N := 8) (f := (upd (upd (upd (upd (fun _ => nI 0) (nI 0).toNatClampNeg (-1)) (nI 1).toNatClampNeg (-1)) (nI 2).toNatClampNeg (-1)) (nI 3).toNatClampNeg (-1))) rfl rfl (n_in (by decide) (by decide)) dX11_init_28 ?_
  show BB G pre b e_X11_init (blk11 G.2 b) 29 [(0, .ref b)] [.ref (b + 1), .ref b] (.inr (11, [.int 0, .int 0, .null, .null, .null, .null, .null, .null, .int 0, .null, .int 0, .int 0, .int 0, .int 0, .int 0, .int 0, .int 0, .int 0, .null, .null, .null, .null, .int 0, .int 0, .null, .null, .null, .int 0]) :: [.inl (G.2 0, 8, .inl (upd (upd (upd (upd (upd (fun _ => nI 0) (nI 0).toNatClampNeg (-1)) (nI 1).toNatClampNeg (-1)) (nI 2).toNatClampNeg (-1)) (nI 3).toNatClampNeg (-1)) (nI 4).toNatClampNeg (-1)))]) (1, 8)
  refine bb_dup (pc := 29) dX11_init_29 ?_
  refine bb_iconst (pc := 30) (nI 5) dX11_init_30 (by decide) ?_
  refine bb_iconst (pc := 31) (-1) dX11_init_31 (by decide) ?_
  refine bb_iast (pc := 32) (kc := 1) (N := 8) (f := (upd (upd (upd (upd (upd (fun _ => nI 0) (nI 0).toNatClampNeg (-1)) (nI 1).toNatClampNeg (-1)) (nI 2).toNatClampNeg (-1)) (nI 3).toNatClampNeg (-1)) (nI 4).toNatClampNeg (-1))) rfl rfl (n_in (by decide) (by decide)) dX11_init_32 ?_
  show BB G pre b e_X11_init (blk11 G.2 b) 33 [(0, .ref b)] [.ref (b + 1), .ref b] (.inr (11, [.int 0, .int 0, .null, .null, .null, .null, .null, .null, .int 0, .null, .int 0, .int 0, .int 0, .int 0, .int 0, .int 0, .int 0, .int 0, .null, .null, .null, .null, .int 0, .int 0, .null, .null, .null, .int 0]) :: [.inl (G.2 0, 8, .inl (upd (upd (upd (upd (upd (upd (fun _ => nI 0) (nI 0).toNatClampNeg (-1)) (nI 1).toNatClampNeg (-1)) (nI 2).toNatClampNeg (-1)) (nI 3).toNatClampNeg (-1)) (nI 4).toNatClampNeg (-1)) (nI 5).toNatClampNeg (-1)))]) (1, 8)
  refine bb_dup (pc := 33) dX11_init_33 ?_
  refine bb_bipush (pc := 34) (nI 6) dX11_init_34 (by decide) ?_
  refine bb_iconst (pc := 36) (-1) dX11_init_36 (by decide) ?_
  refine bb_iast (pc := 37) (kc := 1) (N := 8) (f := (upd (upd (upd (upd (upd (upd (fun _ => nI 0) (nI 0).toNatClampNeg (-1)) (nI 1).toNatClampNeg (-1)) (nI 2).toNatClampNeg (-1)) (nI 3).toNatClampNeg (-1)) (nI 4).toNatClampNeg (-1)) (nI 5).toNatClampNeg (-1))) rfl rfl (n_in (by decide) (by decide)) dX11_init_37 ?_
  show BB G pre b e_X11_init (blk11 G.2 b) 38 [(0, .ref b)] [.ref (b + 1), .ref b] (.inr (11, [.int 0, .int 0, .null, .null, .null, .null, .null, .null, .int 0, .null, .int 0, .int 0, .int 0, .int 0, .int 0, .int 0, .int 0, .int 0, .null, .null, .null, .null, .int 0, .int 0, .null, .null, .null, .int 0]) :: [.inl (G.2 0, 8, .inl (upd (upd (upd (upd (upd (upd (upd (fun _ => nI 0) (nI 0).toNatClampNeg (-1)) (nI 1).toNatClampNeg (-1)) (nI 2).toNatClampNeg (-1)) (nI 3).toNatClampNeg (-1)) (nI 4).toNatClampNeg (-1)) (nI 5).toNatClampNeg (-1)) (nI 6).toNatClampNeg (-1)))]) (1, 8)
  refine bb_dup (pc := 38) dX11_init_38 ?_
  refine bb_bipush (pc := 39) (nI 7) dX11_init_39 (by decide) ?_
  refine bb_iconst (pc := 41) (-1) dX11_init_41 (by decide) ?_
  refine bb_iast (pc := 42) (kc := 1) (N := 8) (f := (upd (upd (upd (upd (upd (upd (upd (fun _ => nI 0) (nI 0).toNatClampNeg (-1)) (nI 1).toNatClampNeg (-1)) (nI 2).toNatClampNeg (-1)) (nI 3).toNatClampNeg (-1)) (nI 4).toNatClampNeg (-1)) (nI 5).toNatClampNeg (-1)) (nI 6).toNatClampNeg (-1))) rfl rfl (n_in (by decide) (by decide)) dX11_init_42 ?_
  show BB G pre b e_X11_init (blk11 G.2 b) 43 [(0, .ref b)] [.ref (b + 1), .ref b] (.inr (11, [.int 0, .int 0, .null, .null, .null, .null, .null, .null, .int 0, .null, .int 0, .int 0, .int 0, .int 0, .int 0, .int 0, .int 0, .int 0, .null, .null, .null, .null, .int 0, .int 0, .null, .null, .null, .int 0]) :: [.inl (G.2 0, 8, .inl (upd (upd (upd (upd (upd (upd (upd (upd (fun _ => nI 0) (nI 0).toNatClampNeg (-1)) (nI 1).toNatClampNeg (-1)) (nI 2).toNatClampNeg (-1)) (nI 3).toNatClampNeg (-1)) (nI 4).toNatClampNeg (-1)) (nI 5).toNatClampNeg (-1)) (nI 6).toNatClampNeg (-1)) (nI 7).toNatClampNeg (-1)))]) (1, 8)
  refine bb_putF (pc := 43) (kc := 0) 2 (.ref (b + 1)) tyX11 (.array .int) (by decide) rfl (by decide) uTB11 tyX11_ok nmX11 k1044 rfl rfl (by decide +kernel) rfl rfl (Nat.le_of_ble_eq_true rfl) rfl rfl dX11_init_43 ?_
  show BB G pre b e_X11_init (blk11 G.2 b) 46 [(0, .ref b)] [] (.inr (11, [.int 0, .int 0, .ref (b + 1), .null, .null, .null, .null, .null, .int 0, .null, .int 0, .int 0, .int 0, .int 0, .int 0, .int 0, .int 0, .int 0, .null, .null, .null, .null, .int 0, .int 0, .null, .null, .null, .int 0]) :: [.inl (G.2 0, 8, .inl (upd (upd (upd (upd (upd (upd (upd (upd (fun _ => nI 0) (nI 0).toNatClampNeg (-1)) (nI 1).toNatClampNeg (-1)) (nI 2).toNatClampNeg (-1)) (nI 3).toNatClampNeg (-1)) (nI 4).toNatClampNeg (-1)) (nI 5).toNatClampNeg (-1)) (nI 6).toNatClampNeg (-1)) (nI 7).toNatClampNeg (-1)))]) (1, 8)
  refine bb_aload (pc := 46) 0 0 dX11_init_46 rfl rfl ?_
  refine bb_bipush (pc := 47) (nI 8) dX11_init_47 (by decide) ?_
  refine bb_newI (pc := 49) (N := 8) rfl (by decide) ⟨Nat.le_of_ble_eq_true rfl, Nat.le_of_ble_eq_true rfl⟩ k114 dX11_init_49 ?_
  show BB G pre b e_X11_init (blk11 G.2 b) 51 [(0, .ref b)] [.ref (b + 2), .ref b] (.inr (11, [.int 0, .int 0, .ref (b + 1), .null, .null, .null, .null, .null, .int 0, .null, .int 0, .int 0, .int 0, .int 0, .int 0, .int 0, .int 0, .int 0, .null, .null, .null, .null, .int 0, .int 0, .null, .null, .null, .int 0]) :: ([.inl (G.2 0, 8, .inl (upd (upd (upd (upd (upd (upd (upd (upd (fun _ => nI 0) (nI 0).toNatClampNeg (-1)) (nI 1).toNatClampNeg (-1)) (nI 2).toNatClampNeg (-1)) (nI 3).toNatClampNeg (-1)) (nI 4).toNatClampNeg (-1)) (nI 5).toNatClampNeg (-1)) (nI 6).toNatClampNeg (-1)) (nI 7).toNatClampNeg (-1)))] ++ [iaE G.2 8])) (2, 16)
  refine bb_putF (pc := 51) (kc := 0) 3 (.ref (b + 2)) tyX11 (.array .int) (by decide) rfl (by decide) uTB11 tyX11_ok nmX11 k1045 rfl rfl (by decide +kernel) rfl rfl (Nat.le_of_ble_eq_true rfl) rfl rfl dX11_init_51 ?_
  show BB G pre b e_X11_init (blk11 G.2 b) 54 [(0, .ref b)] [] (.inr (11, [.int 0, .int 0, .ref (b + 1), .ref (b + 2), .null, .null, .null, .null, .int 0, .null, .int 0, .int 0, .int 0, .int 0, .int 0, .int 0, .int 0, .int 0, .null, .null, .null, .null, .int 0, .int 0, .null, .null, .null, .int 0]) :: ([.inl (G.2 0, 8, .inl (upd (upd (upd (upd (upd (upd (upd (upd (fun _ => nI 0) (nI 0).toNatClampNeg (-1)) (nI 1).toNatClampNeg (-1)) (nI 2).toNatClampNeg (-1)) (nI 3).toNatClampNeg (-1)) (nI 4).toNatClampNeg (-1)) (nI 5).toNatClampNeg (-1)) (nI 6).toNatClampNeg (-1)) (nI 7).toNatClampNeg (-1)))] ++ [iaE G.2 8])) (2, 16)
  refine bb_aload (pc := 54) 0 0 dX11_init_54 rfl rfl ?_
  refine bb_sipush (pc := 55) (nI 320) dX11_init_55 (by decide) ?_
  refine bb_newI (pc := 58) (N := 320) rfl (by decide) ⟨Nat.le_of_ble_eq_true rfl, Nat.le_of_ble_eq_true rfl⟩ k114 dX11_init_58 ?_
  show BB G pre b e_X11_init (blk11 G.2 b) 60 [(0, .ref b)] [.ref (b + 3), .ref b] (.inr (11, [.int 0, .int 0, .ref (b + 1), .ref (b + 2), .null, .null, .null, .null, .int 0, .null, .int 0, .int 0, .int 0, .int 0, .int 0, .int 0, .int 0, .int 0, .null, .null, .null, .null, .int 0, .int 0, .null, .null, .null, .int 0]) :: (([.inl (G.2 0, 8, .inl (upd (upd (upd (upd (upd (upd (upd (upd (fun _ => nI 0) (nI 0).toNatClampNeg (-1)) (nI 1).toNatClampNeg (-1)) (nI 2).toNatClampNeg (-1)) (nI 3).toNatClampNeg (-1)) (nI 4).toNatClampNeg (-1)) (nI 5).toNatClampNeg (-1)) (nI 6).toNatClampNeg (-1)) (nI 7).toNatClampNeg (-1)))] ++ [iaE G.2 8]) ++ [iaE G.2 320])) (3, 336)
  refine bb_putF (pc := 60) (kc := 0) 4 (.ref (b + 3)) tyX11 (.array .int) (by decide) rfl (by decide) uTB11 tyX11_ok nmX11 k1046 rfl rfl (by decide +kernel) rfl rfl (Nat.le_of_ble_eq_true rfl) rfl rfl dX11_init_60 ?_
  show BB G pre b e_X11_init (blk11 G.2 b) 63 [(0, .ref b)] [] (.inr (11, [.int 0, .int 0, .ref (b + 1), .ref (b + 2), .ref (b + 3), .null, .null, .null, .int 0, .null, .int 0, .int 0, .int 0, .int 0, .int 0, .int 0, .int 0, .int 0, .null, .null, .null, .null, .int 0, .int 0, .null, .null, .null, .int 0]) :: (([.inl (G.2 0, 8, .inl (upd (upd (upd (upd (upd (upd (upd (upd (fun _ => nI 0) (nI 0).toNatClampNeg (-1)) (nI 1).toNatClampNeg (-1)) (nI 2).toNatClampNeg (-1)) (nI 3).toNatClampNeg (-1)) (nI 4).toNatClampNeg (-1)) (nI 5).toNatClampNeg (-1)) (nI 6).toNatClampNeg (-1)) (nI 7).toNatClampNeg (-1)))] ++ [iaE G.2 8]) ++ [iaE G.2 320])) (3, 336)
  refine bb_aload (pc := 63) 0 0 dX11_init_63 rfl rfl ?_
  refine bb_bipush (pc := 64) (nI 50) dX11_init_64 (by decide) ?_
  refine bb_newI (pc := 66) (N := 50) rfl (by decide) ⟨Nat.le_of_ble_eq_true rfl, Nat.le_of_ble_eq_true rfl⟩ k114 dX11_init_66 ?_
  show BB G pre b e_X11_init (blk11 G.2 b) 68 [(0, .ref b)] [.ref (b + 4), .ref b] (.inr (11, [.int 0, .int 0, .ref (b + 1), .ref (b + 2), .ref (b + 3), .null, .null, .null, .int 0, .null, .int 0, .int 0, .int 0, .int 0, .int 0, .int 0, .int 0, .int 0, .null, .null, .null, .null, .int 0, .int 0, .null, .null, .null, .int 0]) :: ((([.inl (G.2 0, 8, .inl (upd (upd (upd (upd (upd (upd (upd (upd (fun _ => nI 0) (nI 0).toNatClampNeg (-1)) (nI 1).toNatClampNeg (-1)) (nI 2).toNatClampNeg (-1)) (nI 3).toNatClampNeg (-1)) (nI 4).toNatClampNeg (-1)) (nI 5).toNatClampNeg (-1)) (nI 6).toNatClampNeg (-1)) (nI 7).toNatClampNeg (-1)))] ++ [iaE G.2 8]) ++ [iaE G.2 320]) ++ [iaE G.2 50])) (4, 386)
  refine bb_putF (pc := 68) (kc := 0) 5 (.ref (b + 4)) tyX11 (.array .int) (by decide) rfl (by decide) uTB11 tyX11_ok nmX11 k1047 rfl rfl (by decide +kernel) rfl rfl (Nat.le_of_ble_eq_true rfl) rfl rfl dX11_init_68 ?_
  show BB G pre b e_X11_init (blk11 G.2 b) 71 [(0, .ref b)] [] (.inr (11, [.int 0, .int 0, .ref (b + 1), .ref (b + 2), .ref (b + 3), .ref (b + 4), .null, .null, .int 0, .null, .int 0, .int 0, .int 0, .int 0, .int 0, .int 0, .int 0, .int 0, .null, .null, .null, .null, .int 0, .int 0, .null, .null, .null, .int 0]) :: ((([.inl (G.2 0, 8, .inl (upd (upd (upd (upd (upd (upd (upd (upd (fun _ => nI 0) (nI 0).toNatClampNeg (-1)) (nI 1).toNatClampNeg (-1)) (nI 2).toNatClampNeg (-1)) (nI 3).toNatClampNeg (-1)) (nI 4).toNatClampNeg (-1)) (nI 5).toNatClampNeg (-1)) (nI 6).toNatClampNeg (-1)) (nI 7).toNatClampNeg (-1)))] ++ [iaE G.2 8]) ++ [iaE G.2 320]) ++ [iaE G.2 50])) (4, 386)
  refine bb_aload (pc := 71) 0 0 dX11_init_71 rfl rfl ?_
  refine bb_bipush (pc := 72) (nI 50) dX11_init_72 (by decide) ?_
  refine bb_newI (pc := 74) (N := 50) rfl (by decide) ⟨Nat.le_of_ble_eq_true rfl, Nat.le_of_ble_eq_true rfl⟩ k114 dX11_init_74 ?_
  show BB G pre b e_X11_init (blk11 G.2 b) 76 [(0, .ref b)] [.ref (b + 5), .ref b] (.inr (11, [.int 0, .int 0, .ref (b + 1), .ref (b + 2), .ref (b + 3), .ref (b + 4), .null, .null, .int 0, .null, .int 0, .int 0, .int 0, .int 0, .int 0, .int 0, .int 0, .int 0, .null, .null, .null, .null, .int 0, .int 0, .null, .null, .null, .int 0]) :: (((([.inl (G.2 0, 8, .inl (upd (upd (upd (upd (upd (upd (upd (upd (fun _ => nI 0) (nI 0).toNatClampNeg (-1)) (nI 1).toNatClampNeg (-1)) (nI 2).toNatClampNeg (-1)) (nI 3).toNatClampNeg (-1)) (nI 4).toNatClampNeg (-1)) (nI 5).toNatClampNeg (-1)) (nI 6).toNatClampNeg (-1)) (nI 7).toNatClampNeg (-1)))] ++ [iaE G.2 8]) ++ [iaE G.2 320]) ++ [iaE G.2 50]) ++ [iaE G.2 50])) (5, 436)
  refine bb_putF (pc := 76) (kc := 0) 6 (.ref (b + 5)) tyX11 (.array .int) (by decide) rfl (by decide) uTB11 tyX11_ok nmX11 k1048 rfl rfl (by decide +kernel) rfl rfl (Nat.le_of_ble_eq_true rfl) rfl rfl dX11_init_76 ?_
  show BB G pre b e_X11_init (blk11 G.2 b) 79 [(0, .ref b)] [] (.inr (11, [.int 0, .int 0, .ref (b + 1), .ref (b + 2), .ref (b + 3), .ref (b + 4), .ref (b + 5), .null, .int 0, .null, .int 0, .int 0, .int 0, .int 0, .int 0, .int 0, .int 0, .int 0, .null, .null, .null, .null, .int 0, .int 0, .null, .null, .null, .int 0]) :: (((([.inl (G.2 0, 8, .inl (upd (upd (upd (upd (upd (upd (upd (upd (fun _ => nI 0) (nI 0).toNatClampNeg (-1)) (nI 1).toNatClampNeg (-1)) (nI 2).toNatClampNeg (-1)) (nI 3).toNatClampNeg (-1)) (nI 4).toNatClampNeg (-1)) (nI 5).toNatClampNeg (-1)) (nI 6).toNatClampNeg (-1)) (nI 7).toNatClampNeg (-1)))] ++ [iaE G.2 8]) ++ [iaE G.2 320]) ++ [iaE G.2 50]) ++ [iaE G.2 50])) (5, 436)
  refine bb_aload (pc := 79) 0 0 dX11_init_79 rfl rfl ?_
  refine bb_sipush (pc := 80) (nI 1200) dX11_init_80 (by decide) ?_
  refine bb_newI (pc := 83) (N := 1200) rfl (by decide) ⟨Nat.le_of_ble_eq_true rfl, Nat.le_of_ble_eq_true rfl⟩ k114 dX11_init_83 ?_
  show BB G pre b e_X11_init (blk11 G.2 b) 85 [(0, .ref b)] [.ref (b + 6), .ref b] (.inr (11, [.int 0, .int 0, .ref (b + 1), .ref (b + 2), .ref (b + 3), .ref (b + 4), .ref (b + 5), .null, .int 0, .null, .int 0, .int 0, .int 0, .int 0, .int 0, .int 0, .int 0, .int 0, .null, .null, .null, .null, .int 0, .int 0, .null, .null, .null, .int 0]) :: ((((([.inl (G.2 0, 8, .inl (upd (upd (upd (upd (upd (upd (upd (upd (fun _ => nI 0) (nI 0).toNatClampNeg (-1)) (nI 1).toNatClampNeg (-1)) (nI 2).toNatClampNeg (-1)) (nI 3).toNatClampNeg (-1)) (nI 4).toNatClampNeg (-1)) (nI 5).toNatClampNeg (-1)) (nI 6).toNatClampNeg (-1)) (nI 7).toNatClampNeg (-1)))] ++ [iaE G.2 8]) ++ [iaE G.2 320]) ++ [iaE G.2 50]) ++ [iaE G.2 50]) ++ [iaE G.2 1200])) (6, 1636)
  refine bb_putF (pc := 85) (kc := 0) 7 (.ref (b + 6)) tyX11 (.array .int) (by decide) rfl (by decide) uTB11 tyX11_ok nmX11 k1049 rfl rfl (by decide +kernel) rfl rfl (Nat.le_of_ble_eq_true rfl) rfl rfl dX11_init_85 ?_
  show BB G pre b e_X11_init (blk11 G.2 b) 88 [(0, .ref b)] [] (.inr (11, [.int 0, .int 0, .ref (b + 1), .ref (b + 2), .ref (b + 3), .ref (b + 4), .ref (b + 5), .ref (b + 6), .int 0, .null, .int 0, .int 0, .int 0, .int 0, .int 0, .int 0, .int 0, .int 0, .null, .null, .null, .null, .int 0, .int 0, .null, .null, .null, .int 0]) :: ((((([.inl (G.2 0, 8, .inl (upd (upd (upd (upd (upd (upd (upd (upd (fun _ => nI 0) (nI 0).toNatClampNeg (-1)) (nI 1).toNatClampNeg (-1)) (nI 2).toNatClampNeg (-1)) (nI 3).toNatClampNeg (-1)) (nI 4).toNatClampNeg (-1)) (nI 5).toNatClampNeg (-1)) (nI 6).toNatClampNeg (-1)) (nI 7).toNatClampNeg (-1)))] ++ [iaE G.2 8]) ++ [iaE G.2 320]) ++ [iaE G.2 50]) ++ [iaE G.2 50]) ++ [iaE G.2 1200])) (6, 1636)
  refine bb_aload (pc := 88) 0 0 dX11_init_88 rfl rfl ?_
  refine bb_bipush (pc := 89) (nI 120) dX11_init_89 (by decide) ?_
  refine bb_newI (pc := 91) (N := 120) rfl (by decide) ⟨Nat.le_of_ble_eq_true rfl, Nat.le_of_ble_eq_true rfl⟩ k114 dX11_init_91 ?_
  show BB G pre b e_X11_init (blk11 G.2 b) 93 [(0, .ref b)] [.ref (b + 7), .ref b] (.inr (11, [.int 0, .int 0, .ref (b + 1), .ref (b + 2), .ref (b + 3), .ref (b + 4), .ref (b + 5), .ref (b + 6), .int 0, .null, .int 0, .int 0, .int 0, .int 0, .int 0, .int 0, .int 0, .int 0, .null, .null, .null, .null, .int 0, .int 0, .null, .null, .null, .int 0]) :: (((((([.inl (G.2 0, 8, .inl (upd (upd (upd (upd (upd (upd (upd (upd (fun _ => nI 0) (nI 0).toNatClampNeg (-1)) (nI 1).toNatClampNeg (-1)) (nI 2).toNatClampNeg (-1)) (nI 3).toNatClampNeg (-1)) (nI 4).toNatClampNeg (-1)) (nI 5).toNatClampNeg (-1)) (nI 6).toNatClampNeg (-1)) (nI 7).toNatClampNeg (-1)))] ++ [iaE G.2 8]) ++ [iaE G.2 320]) ++ [iaE G.2 50]) ++ [iaE G.2 50]) ++ [iaE G.2 1200]) ++ [iaE G.2 120])) (7, 1756)
  refine bb_putF (pc := 93) (kc := 0) 9 (.ref (b + 7)) tyX11 (.array .int) (by decide) rfl (by decide) uTB11 tyX11_ok nmX11 k1051 rfl rfl (by decide +kernel) rfl rfl (Nat.le_of_ble_eq_true rfl) rfl rfl dX11_init_93 ?_
  show BB G pre b e_X11_init (blk11 G.2 b) 96 [(0, .ref b)] [] (.inr (11, [.int 0, .int 0, .ref (b + 1), .ref (b + 2), .ref (b + 3), .ref (b + 4), .ref (b + 5), .ref (b + 6), .int 0, .ref (b + 7), .int 0, .int 0, .int 0, .int 0, .int 0, .int 0, .int 0, .int 0, .null, .null, .null, .null, .int 0, .int 0, .null, .null, .null, .int 0]) :: (((((([.inl (G.2 0, 8, .inl (upd (upd (upd (upd (upd (upd (upd (upd (fun _ => nI 0) (nI 0).toNatClampNeg (-1)) (nI 1).toNatClampNeg (-1)) (nI 2).toNatClampNeg (-1)) (nI 3).toNatClampNeg (-1)) (nI 4).toNatClampNeg (-1)) (nI 5).toNatClampNeg (-1)) (nI 6).toNatClampNeg (-1)) (nI 7).toNatClampNeg (-1)))] ++ [iaE G.2 8]) ++ [iaE G.2 320]) ++ [iaE G.2 50]) ++ [iaE G.2 50]) ++ [iaE G.2 1200]) ++ [iaE G.2 120])) (7, 1756)
  refine bb_aload (pc := 96) 0 0 dX11_init_96 rfl rfl ?_
  refine bb_sipush (pc := 97) (nI 4096) dX11_init_97 (by decide) ?_
  refine bb_newI (pc := 100) (N := 4096) rfl (by decide) ⟨Nat.le_of_ble_eq_true rfl, Nat.le_of_ble_eq_true rfl⟩ k114 dX11_init_100 ?_
  show BB G pre b e_X11_init (blk11 G.2 b) 102 [(0, .ref b)] [.ref (b + 8), .ref b] (.inr (11, [.int 0, .int 0, .ref (b + 1), .ref (b + 2), .ref (b + 3), .ref (b + 4), .ref (b + 5), .ref (b + 6), .int 0, .ref (b + 7), .int 0, .int 0, .int 0, .int 0, .int 0, .int 0, .int 0, .int 0, .null, .null, .null, .null, .int 0, .int 0, .null, .null, .null, .int 0]) :: ((((((([.inl (G.2 0, 8, .inl (upd (upd (upd (upd (upd (upd (upd (upd (fun _ => nI 0) (nI 0).toNatClampNeg (-1)) (nI 1).toNatClampNeg (-1)) (nI 2).toNatClampNeg (-1)) (nI 3).toNatClampNeg (-1)) (nI 4).toNatClampNeg (-1)) (nI 5).toNatClampNeg (-1)) (nI 6).toNatClampNeg (-1)) (nI 7).toNatClampNeg (-1)))] ++ [iaE G.2 8]) ++ [iaE G.2 320]) ++ [iaE G.2 50]) ++ [iaE G.2 50]) ++ [iaE G.2 1200]) ++ [iaE G.2 120]) ++ [iaE G.2 4096])) (8, 5852)
  refine bb_putF (pc := 102) (kc := 0) 18 (.ref (b + 8)) tyX11 (.array .int) (by decide) rfl (by decide) uTB11 tyX11_ok nmX11 k1060 rfl rfl (by decide +kernel) rfl rfl (Nat.le_of_ble_eq_true rfl) rfl rfl dX11_init_102 ?_
  show BB G pre b e_X11_init (blk11 G.2 b) 105 [(0, .ref b)] [] (.inr (11, [.int 0, .int 0, .ref (b + 1), .ref (b + 2), .ref (b + 3), .ref (b + 4), .ref (b + 5), .ref (b + 6), .int 0, .ref (b + 7), .int 0, .int 0, .int 0, .int 0, .int 0, .int 0, .int 0, .int 0, .ref (b + 8), .null, .null, .null, .int 0, .int 0, .null, .null, .null, .int 0]) :: ((((((([.inl (G.2 0, 8, .inl (upd (upd (upd (upd (upd (upd (upd (upd (fun _ => nI 0) (nI 0).toNatClampNeg (-1)) (nI 1).toNatClampNeg (-1)) (nI 2).toNatClampNeg (-1)) (nI 3).toNatClampNeg (-1)) (nI 4).toNatClampNeg (-1)) (nI 5).toNatClampNeg (-1)) (nI 6).toNatClampNeg (-1)) (nI 7).toNatClampNeg (-1)))] ++ [iaE G.2 8]) ++ [iaE G.2 320]) ++ [iaE G.2 50]) ++ [iaE G.2 50]) ++ [iaE G.2 1200]) ++ [iaE G.2 120]) ++ [iaE G.2 4096])) (8, 5852)
  refine bb_aload (pc := 105) 0 0 dX11_init_105 rfl rfl ?_
  refine bb_sipush (pc := 106) (nI 4096) dX11_init_106 (by decide) ?_
  refine bb_newI (pc := 109) (N := 4096) rfl (by decide) ⟨Nat.le_of_ble_eq_true rfl, Nat.le_of_ble_eq_true rfl⟩ k114 dX11_init_109 ?_
  show BB G pre b e_X11_init (blk11 G.2 b) 111 [(0, .ref b)] [.ref (b + 9), .ref b] (.inr (11, [.int 0, .int 0, .ref (b + 1), .ref (b + 2), .ref (b + 3), .ref (b + 4), .ref (b + 5), .ref (b + 6), .int 0, .ref (b + 7), .int 0, .int 0, .int 0, .int 0, .int 0, .int 0, .int 0, .int 0, .ref (b + 8), .null, .null, .null, .int 0, .int 0, .null, .null, .null, .int 0]) :: (((((((([.inl (G.2 0, 8, .inl (upd (upd (upd (upd (upd (upd (upd (upd (fun _ => nI 0) (nI 0).toNatClampNeg (-1)) (nI 1).toNatClampNeg (-1)) (nI 2).toNatClampNeg (-1)) (nI 3).toNatClampNeg (-1)) (nI 4).toNatClampNeg (-1)) (nI 5).toNatClampNeg (-1)) (nI 6).toNatClampNeg (-1)) (nI 7).toNatClampNeg (-1)))] ++ [iaE G.2 8]) ++ [iaE G.2 320]) ++ [iaE G.2 50]) ++ [iaE G.2 50]) ++ [iaE G.2 1200]) ++ [iaE G.2 120]) ++ [iaE G.2 4096]) ++ [iaE G.2 4096])) (9, 9948)
  refine bb_putF (pc := 111) (kc := 0) 19 (.ref (b + 9)) tyX11 (.array .int) (by decide) rfl (by decide) uTB11 tyX11_ok nmX11 k1061 rfl rfl (by decide +kernel) rfl rfl (Nat.le_of_ble_eq_true rfl) rfl rfl dX11_init_111 ?_
  show BB G pre b e_X11_init (blk11 G.2 b) 114 [(0, .ref b)] [] (.inr (11, [.int 0, .int 0, .ref (b + 1), .ref (b + 2), .ref (b + 3), .ref (b + 4), .ref (b + 5), .ref (b + 6), .int 0, .ref (b + 7), .int 0, .int 0, .int 0, .int 0, .int 0, .int 0, .int 0, .int 0, .ref (b + 8), .ref (b + 9), .null, .null, .int 0, .int 0, .null, .null, .null, .int 0]) :: (((((((([.inl (G.2 0, 8, .inl (upd (upd (upd (upd (upd (upd (upd (upd (fun _ => nI 0) (nI 0).toNatClampNeg (-1)) (nI 1).toNatClampNeg (-1)) (nI 2).toNatClampNeg (-1)) (nI 3).toNatClampNeg (-1)) (nI 4).toNatClampNeg (-1)) (nI 5).toNatClampNeg (-1)) (nI 6).toNatClampNeg (-1)) (nI 7).toNatClampNeg (-1)))] ++ [iaE G.2 8]) ++ [iaE G.2 320]) ++ [iaE G.2 50]) ++ [iaE G.2 50]) ++ [iaE G.2 1200]) ++ [iaE G.2 120]) ++ [iaE G.2 4096]) ++ [iaE G.2 4096])) (9, 9948)
  refine bb_aload (pc := 114) 0 0 dX11_init_114 rfl rfl ?_
  refine bb_sipush (pc := 115) (nI 4096) dX11_init_115 (by decide) ?_
  refine bb_newZ (pc := 118) (N := 4096) rfl (by decide) ⟨Nat.le_of_ble_eq_true rfl, Nat.le_of_ble_eq_true rfl⟩ k1127 dX11_init_118 ?_
  show BB G pre b e_X11_init (blk11 G.2 b) 120 [(0, .ref b)] [.ref (b + 10), .ref b] (.inr (11, [.int 0, .int 0, .ref (b + 1), .ref (b + 2), .ref (b + 3), .ref (b + 4), .ref (b + 5), .ref (b + 6), .int 0, .ref (b + 7), .int 0, .int 0, .int 0, .int 0, .int 0, .int 0, .int 0, .int 0, .ref (b + 8), .ref (b + 9), .null, .null, .int 0, .int 0, .null, .null, .null, .int 0]) :: ((((((((([.inl (G.2 0, 8, .inl (upd (upd (upd (upd (upd (upd (upd (upd (fun _ => nI 0) (nI 0).toNatClampNeg (-1)) (nI 1).toNatClampNeg (-1)) (nI 2).toNatClampNeg (-1)) (nI 3).toNatClampNeg (-1)) (nI 4).toNatClampNeg (-1)) (nI 5).toNatClampNeg (-1)) (nI 6).toNatClampNeg (-1)) (nI 7).toNatClampNeg (-1)))] ++ [iaE G.2 8]) ++ [iaE G.2 320]) ++ [iaE G.2 50]) ++ [iaE G.2 50]) ++ [iaE G.2 1200]) ++ [iaE G.2 120]) ++ [iaE G.2 4096]) ++ [iaE G.2 4096]) ++ [zaE G.2 4096])) (10, 14044)
  refine bb_putF (pc := 120) (kc := 0) 20 (.ref (b + 10)) tyX11 (.array .boolean) (by decide) rfl (by decide) uTB11 tyX11_ok nmX11 k1062 rfl rfl (by decide +kernel) rfl rfl (Nat.le_of_ble_eq_true rfl) rfl rfl dX11_init_120 ?_
  show BB G pre b e_X11_init (blk11 G.2 b) 123 [(0, .ref b)] [] (.inr (11, [.int 0, .int 0, .ref (b + 1), .ref (b + 2), .ref (b + 3), .ref (b + 4), .ref (b + 5), .ref (b + 6), .int 0, .ref (b + 7), .int 0, .int 0, .int 0, .int 0, .int 0, .int 0, .int 0, .int 0, .ref (b + 8), .ref (b + 9), .ref (b + 10), .null, .int 0, .int 0, .null, .null, .null, .int 0]) :: ((((((((([.inl (G.2 0, 8, .inl (upd (upd (upd (upd (upd (upd (upd (upd (fun _ => nI 0) (nI 0).toNatClampNeg (-1)) (nI 1).toNatClampNeg (-1)) (nI 2).toNatClampNeg (-1)) (nI 3).toNatClampNeg (-1)) (nI 4).toNatClampNeg (-1)) (nI 5).toNatClampNeg (-1)) (nI 6).toNatClampNeg (-1)) (nI 7).toNatClampNeg (-1)))] ++ [iaE G.2 8]) ++ [iaE G.2 320]) ++ [iaE G.2 50]) ++ [iaE G.2 50]) ++ [iaE G.2 1200]) ++ [iaE G.2 120]) ++ [iaE G.2 4096]) ++ [iaE G.2 4096]) ++ [zaE G.2 4096])) (10, 14044)
  refine bb_aload (pc := 123) 0 0 dX11_init_123 rfl rfl ?_
  refine bb_sipush (pc := 124) (nI 4097) dX11_init_124 (by decide) ?_
  refine bb_newI (pc := 127) (N := 4097) rfl (by decide) ⟨Nat.le_of_ble_eq_true rfl, Nat.le_of_ble_eq_true rfl⟩ k114 dX11_init_127 ?_
  show BB G pre b e_X11_init (blk11 G.2 b) 129 [(0, .ref b)] [.ref (b + 11), .ref b] (.inr (11, [.int 0, .int 0, .ref (b + 1), .ref (b + 2), .ref (b + 3), .ref (b + 4), .ref (b + 5), .ref (b + 6), .int 0, .ref (b + 7), .int 0, .int 0, .int 0, .int 0, .int 0, .int 0, .int 0, .int 0, .ref (b + 8), .ref (b + 9), .ref (b + 10), .null, .int 0, .int 0, .null, .null, .null, .int 0]) :: (((((((((([.inl (G.2 0, 8, .inl (upd (upd (upd (upd (upd (upd (upd (upd (fun _ => nI 0) (nI 0).toNatClampNeg (-1)) (nI 1).toNatClampNeg (-1)) (nI 2).toNatClampNeg (-1)) (nI 3).toNatClampNeg (-1)) (nI 4).toNatClampNeg (-1)) (nI 5).toNatClampNeg (-1)) (nI 6).toNatClampNeg (-1)) (nI 7).toNatClampNeg (-1)))] ++ [iaE G.2 8]) ++ [iaE G.2 320]) ++ [iaE G.2 50]) ++ [iaE G.2 50]) ++ [iaE G.2 1200]) ++ [iaE G.2 120]) ++ [iaE G.2 4096]) ++ [iaE G.2 4096]) ++ [zaE G.2 4096]) ++ [iaE G.2 4097])) (11, 18141)
  refine bb_putF (pc := 129) (kc := 0) 21 (.ref (b + 11)) tyX11 (.array .int) (by decide) rfl (by decide) uTB11 tyX11_ok nmX11 k1063 rfl rfl (by decide +kernel) rfl rfl (Nat.le_of_ble_eq_true rfl) rfl rfl dX11_init_129 ?_
  show BB G pre b e_X11_init (blk11 G.2 b) 132 [(0, .ref b)] [] (.inr (11, [.int 0, .int 0, .ref (b + 1), .ref (b + 2), .ref (b + 3), .ref (b + 4), .ref (b + 5), .ref (b + 6), .int 0, .ref (b + 7), .int 0, .int 0, .int 0, .int 0, .int 0, .int 0, .int 0, .int 0, .ref (b + 8), .ref (b + 9), .ref (b + 10), .ref (b + 11), .int 0, .int 0, .null, .null, .null, .int 0]) :: (((((((((([.inl (G.2 0, 8, .inl (upd (upd (upd (upd (upd (upd (upd (upd (fun _ => nI 0) (nI 0).toNatClampNeg (-1)) (nI 1).toNatClampNeg (-1)) (nI 2).toNatClampNeg (-1)) (nI 3).toNatClampNeg (-1)) (nI 4).toNatClampNeg (-1)) (nI 5).toNatClampNeg (-1)) (nI 6).toNatClampNeg (-1)) (nI 7).toNatClampNeg (-1)))] ++ [iaE G.2 8]) ++ [iaE G.2 320]) ++ [iaE G.2 50]) ++ [iaE G.2 50]) ++ [iaE G.2 1200]) ++ [iaE G.2 120]) ++ [iaE G.2 4096]) ++ [iaE G.2 4096]) ++ [zaE G.2 4096]) ++ [iaE G.2 4097])) (11, 18141)
  refine bb_aload (pc := 132) 0 0 dX11_init_132 rfl rfl ?_
  refine bb_iconst (pc := 133) (nI 2) dX11_init_133 (by decide) ?_
  refine bb_newZ (pc := 134) (N := 2) rfl (by decide) ⟨Nat.le_of_ble_eq_true rfl, Nat.le_of_ble_eq_true rfl⟩ k1127 dX11_init_134 ?_
  show BB G pre b e_X11_init (blk11 G.2 b) 136 [(0, .ref b)] [.ref (b + 12), .ref b] (.inr (11, [.int 0, .int 0, .ref (b + 1), .ref (b + 2), .ref (b + 3), .ref (b + 4), .ref (b + 5), .ref (b + 6), .int 0, .ref (b + 7), .int 0, .int 0, .int 0, .int 0, .int 0, .int 0, .int 0, .int 0, .ref (b + 8), .ref (b + 9), .ref (b + 10), .ref (b + 11), .int 0, .int 0, .null, .null, .null, .int 0]) :: ((((((((((([.inl (G.2 0, 8, .inl (upd (upd (upd (upd (upd (upd (upd (upd (fun _ => nI 0) (nI 0).toNatClampNeg (-1)) (nI 1).toNatClampNeg (-1)) (nI 2).toNatClampNeg (-1)) (nI 3).toNatClampNeg (-1)) (nI 4).toNatClampNeg (-1)) (nI 5).toNatClampNeg (-1)) (nI 6).toNatClampNeg (-1)) (nI 7).toNatClampNeg (-1)))] ++ [iaE G.2 8]) ++ [iaE G.2 320]) ++ [iaE G.2 50]) ++ [iaE G.2 50]) ++ [iaE G.2 1200]) ++ [iaE G.2 120]) ++ [iaE G.2 4096]) ++ [iaE G.2 4096]) ++ [zaE G.2 4096]) ++ [iaE G.2 4097]) ++ [zaE G.2 2])) (12, 18143)
  refine bb_putF (pc := 136) (kc := 0) 24 (.ref (b + 12)) tyX11 (.array .boolean) (by decide) rfl (by decide) uTB11 tyX11_ok nmX11 k1066 rfl rfl (by decide +kernel) rfl rfl (Nat.le_of_ble_eq_true rfl) rfl rfl dX11_init_136 ?_
  show BB G pre b e_X11_init (blk11 G.2 b) 139 [(0, .ref b)] [] (.inr (11, [.int 0, .int 0, .ref (b + 1), .ref (b + 2), .ref (b + 3), .ref (b + 4), .ref (b + 5), .ref (b + 6), .int 0, .ref (b + 7), .int 0, .int 0, .int 0, .int 0, .int 0, .int 0, .int 0, .int 0, .ref (b + 8), .ref (b + 9), .ref (b + 10), .ref (b + 11), .int 0, .int 0, .ref (b + 12), .null, .null, .int 0]) :: ((((((((((([.inl (G.2 0, 8, .inl (upd (upd (upd (upd (upd (upd (upd (upd (fun _ => nI 0) (nI 0).toNatClampNeg (-1)) (nI 1).toNatClampNeg (-1)) (nI 2).toNatClampNeg (-1)) (nI 3).toNatClampNeg (-1)) (nI 4).toNatClampNeg (-1)) (nI 5).toNatClampNeg (-1)) (nI 6).toNatClampNeg (-1)) (nI 7).toNatClampNeg (-1)))] ++ [iaE G.2 8]) ++ [iaE G.2 320]) ++ [iaE G.2 50]) ++ [iaE G.2 50]) ++ [iaE G.2 1200]) ++ [iaE G.2 120]) ++ [iaE G.2 4096]) ++ [iaE G.2 4096]) ++ [zaE G.2 4096]) ++ [iaE G.2 4097]) ++ [zaE G.2 2])) (12, 18143)
  refine bb_aload (pc := 139) 0 0 dX11_init_139 rfl rfl ?_
  refine bb_bipush (pc := 140) (nI 100) dX11_init_140 (by decide) ?_
  refine bb_newI (pc := 142) (N := 100) rfl (by decide) ⟨Nat.le_of_ble_eq_true rfl, Nat.le_of_ble_eq_true rfl⟩ k114 dX11_init_142 ?_
  show BB G pre b e_X11_init (blk11 G.2 b) 144 [(0, .ref b)] [.ref (b + 13), .ref b] (.inr (11, [.int 0, .int 0, .ref (b + 1), .ref (b + 2), .ref (b + 3), .ref (b + 4), .ref (b + 5), .ref (b + 6), .int 0, .ref (b + 7), .int 0, .int 0, .int 0, .int 0, .int 0, .int 0, .int 0, .int 0, .ref (b + 8), .ref (b + 9), .ref (b + 10), .ref (b + 11), .int 0, .int 0, .ref (b + 12), .null, .null, .int 0]) :: (((((((((((([.inl (G.2 0, 8, .inl (upd (upd (upd (upd (upd (upd (upd (upd (fun _ => nI 0) (nI 0).toNatClampNeg (-1)) (nI 1).toNatClampNeg (-1)) (nI 2).toNatClampNeg (-1)) (nI 3).toNatClampNeg (-1)) (nI 4).toNatClampNeg (-1)) (nI 5).toNatClampNeg (-1)) (nI 6).toNatClampNeg (-1)) (nI 7).toNatClampNeg (-1)))] ++ [iaE G.2 8]) ++ [iaE G.2 320]) ++ [iaE G.2 50]) ++ [iaE G.2 50]) ++ [iaE G.2 1200]) ++ [iaE G.2 120]) ++ [iaE G.2 4096]) ++ [iaE G.2 4096]) ++ [zaE G.2 4096]) ++ [iaE G.2 4097]) ++ [zaE G.2 2]) ++ [iaE G.2 100])) (13, 18243)
  refine bb_putF (pc := 144) (kc := 0) 25 (.ref (b + 13)) tyX11 (.array .int) (by decide) rfl (by decide) uTB11 tyX11_ok nmX11 k1067 rfl rfl (by decide +kernel) rfl rfl (Nat.le_of_ble_eq_true rfl) rfl rfl dX11_init_144 ?_
  show BB G pre b e_X11_init (blk11 G.2 b) 147 [(0, .ref b)] [] (.inr (11, [.int 0, .int 0, .ref (b + 1), .ref (b + 2), .ref (b + 3), .ref (b + 4), .ref (b + 5), .ref (b + 6), .int 0, .ref (b + 7), .int 0, .int 0, .int 0, .int 0, .int 0, .int 0, .int 0, .int 0, .ref (b + 8), .ref (b + 9), .ref (b + 10), .ref (b + 11), .int 0, .int 0, .ref (b + 12), .ref (b + 13), .null, .int 0]) :: (((((((((((([.inl (G.2 0, 8, .inl (upd (upd (upd (upd (upd (upd (upd (upd (fun _ => nI 0) (nI 0).toNatClampNeg (-1)) (nI 1).toNatClampNeg (-1)) (nI 2).toNatClampNeg (-1)) (nI 3).toNatClampNeg (-1)) (nI 4).toNatClampNeg (-1)) (nI 5).toNatClampNeg (-1)) (nI 6).toNatClampNeg (-1)) (nI 7).toNatClampNeg (-1)))] ++ [iaE G.2 8]) ++ [iaE G.2 320]) ++ [iaE G.2 50]) ++ [iaE G.2 50]) ++ [iaE G.2 1200]) ++ [iaE G.2 120]) ++ [iaE G.2 4096]) ++ [iaE G.2 4096]) ++ [zaE G.2 4096]) ++ [iaE G.2 4097]) ++ [zaE G.2 2]) ++ [iaE G.2 100])) (13, 18243)
  refine bb_aload (pc := 147) 0 0 dX11_init_147 rfl rfl ?_
  refine bb_bipush (pc := 148) (nI 16) dX11_init_148 (by decide) ?_
  refine bb_newI (pc := 150) (N := 16) rfl (by decide) ⟨Nat.le_of_ble_eq_true rfl, Nat.le_of_ble_eq_true rfl⟩ k114 dX11_init_150 ?_
  show BB G pre b e_X11_init (blk11 G.2 b) 152 [(0, .ref b)] [.ref (b + 14), .ref b] (.inr (11, [.int 0, .int 0, .ref (b + 1), .ref (b + 2), .ref (b + 3), .ref (b + 4), .ref (b + 5), .ref (b + 6), .int 0, .ref (b + 7), .int 0, .int 0, .int 0, .int 0, .int 0, .int 0, .int 0, .int 0, .ref (b + 8), .ref (b + 9), .ref (b + 10), .ref (b + 11), .int 0, .int 0, .ref (b + 12), .ref (b + 13), .null, .int 0]) :: ((((((((((((([.inl (G.2 0, 8, .inl (upd (upd (upd (upd (upd (upd (upd (upd (fun _ => nI 0) (nI 0).toNatClampNeg (-1)) (nI 1).toNatClampNeg (-1)) (nI 2).toNatClampNeg (-1)) (nI 3).toNatClampNeg (-1)) (nI 4).toNatClampNeg (-1)) (nI 5).toNatClampNeg (-1)) (nI 6).toNatClampNeg (-1)) (nI 7).toNatClampNeg (-1)))] ++ [iaE G.2 8]) ++ [iaE G.2 320]) ++ [iaE G.2 50]) ++ [iaE G.2 50]) ++ [iaE G.2 1200]) ++ [iaE G.2 120]) ++ [iaE G.2 4096]) ++ [iaE G.2 4096]) ++ [zaE G.2 4096]) ++ [iaE G.2 4097]) ++ [zaE G.2 2]) ++ [iaE G.2 100]) ++ [iaE G.2 16])) (14, 18259)
  refine bb_putF (pc := 152) (kc := 0) 26 (.ref (b + 14)) tyX11 (.array .int) (by decide) rfl (by decide) uTB11 tyX11_ok nmX11 k1068 rfl rfl (by decide +kernel) rfl rfl (Nat.le_of_ble_eq_true rfl) rfl rfl dX11_init_152 ?_
  show BB G pre b e_X11_init (blk11 G.2 b) 155 [(0, .ref b)] [] (.inr (11, [.int 0, .int 0, .ref (b + 1), .ref (b + 2), .ref (b + 3), .ref (b + 4), .ref (b + 5), .ref (b + 6), .int 0, .ref (b + 7), .int 0, .int 0, .int 0, .int 0, .int 0, .int 0, .int 0, .int 0, .ref (b + 8), .ref (b + 9), .ref (b + 10), .ref (b + 11), .int 0, .int 0, .ref (b + 12), .ref (b + 13), .ref (b + 14), .int 0]) :: ((((((((((((([.inl (G.2 0, 8, .inl (upd (upd (upd (upd (upd (upd (upd (upd (fun _ => nI 0) (nI 0).toNatClampNeg (-1)) (nI 1).toNatClampNeg (-1)) (nI 2).toNatClampNeg (-1)) (nI 3).toNatClampNeg (-1)) (nI 4).toNatClampNeg (-1)) (nI 5).toNatClampNeg (-1)) (nI 6).toNatClampNeg (-1)) (nI 7).toNatClampNeg (-1)))] ++ [iaE G.2 8]) ++ [iaE G.2 320]) ++ [iaE G.2 50]) ++ [iaE G.2 50]) ++ [iaE G.2 1200]) ++ [iaE G.2 120]) ++ [iaE G.2 4096]) ++ [iaE G.2 4096]) ++ [zaE G.2 4096]) ++ [iaE G.2 4097]) ++ [zaE G.2 2]) ++ [iaE G.2 100]) ++ [iaE G.2 16])) (14, 18259)
  refine bb_ret (pc := 155) rfl dX11_init_155 ⟨Nat.le_of_ble_eq_true rfl, Nat.le_of_ble_eq_true rfl⟩ ?_
  rfl
