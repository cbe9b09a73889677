/-! the constructors: what each lays, and that it does (printed by gen_ctor.py) -/
abbrev iaE (Y : Nat → ClassId) (n : Nat) : va_E := .inl (Y 0, n, .inl (fun _ => nI 0))
abbrev zaE (Y : Nat → ClassId) (n : Nat) : va_E := .inl (Y 1, n, .inl (fun _ => nI 0))
abbrev raE (Y : Nat → ClassId) (t n : Nat) (f : Nat → Option Nat) : va_E := .inl (Y t, n, .inr (.inr (.inr (.inr f))))
abbrev dfl5 : va_E := .inr (5, [.null, .null, .null, .null, .int 0, .int 0, .int 0, .int 0, .int 0])
theorem df5 : ∀ j, j < 9 → defaultValue (tyX5 j) = vp_V [.null, .null, .null, .null, .int 0, .int 0, .int 0, .int 0, .int 0] j := fun j hj => by
  rcases (show j = 0 ∨ j = 1 ∨ j = 2 ∨ j = 3 ∨ j = 4 ∨ j = 5 ∨ j = 6 ∨ j = 7 ∨ j = 8 by omega) with rfl | rfl | rfl | rfl | rfl | rfl | rfl | rfl | rfl <;> rfl
abbrev e_X5_init : ME := (cX5_init, (RX5, (1, (none, (4, (29, 1))))))
theorem dX5_init_0 : decode cX5_init 0 = .ok (.aload_n 0, 1) := by decide +kernel
theorem dX5_init_1 : decode cX5_init 1 = .ok (.invokespecial 3, 3) := by decide +kernel
theorem dX5_init_4 : decode cX5_init 4 = .ok (.aload_n 0, 1) := by decide +kernel
theorem dX5_init_5 : decode cX5_init 5 = .ok (.bipush 8, 2) := by decide +kernel
theorem dX5_init_7 : decode cX5_init 7 = .ok (.newarray .int, 2) := by decide +kernel
theorem dX5_init_9 : decode cX5_init 9 = .ok (.putfield 9, 3) := by decide +kernel
theorem dX5_init_12 : decode cX5_init 12 = .ok (.aload_n 0, 1) := by decide +kernel
theorem dX5_init_13 : decode cX5_init 13 = .ok (.bipush 8, 2) := by decide +kernel
theorem dX5_init_15 : decode cX5_init 15 = .ok (.newarray .int, 2) := by decide +kernel
theorem dX5_init_17 : decode cX5_init 17 = .ok (.putfield 15, 3) := by decide +kernel
theorem dX5_init_20 : decode cX5_init 20 = .ok (.aload_n 0, 1) := by decide +kernel
theorem dX5_init_21 : decode cX5_init 21 = .ok (.bipush 8, 2) := by decide +kernel
theorem dX5_init_23 : decode cX5_init 23 = .ok (.newarray .int, 2) := by decide +kernel
theorem dX5_init_25 : decode cX5_init 25 = .ok (.putfield 18, 3) := by decide +kernel
theorem dX5_init_28 : decode cX5_init 28 = .ok (.aload_n 0, 1) := by decide +kernel
theorem dX5_init_29 : decode cX5_init 29 = .ok (.iconst 5, 1) := by decide +kernel
theorem dX5_init_30 : decode cX5_init 30 = .ok (.newarray .int, 2) := by decide +kernel
theorem dX5_init_32 : decode cX5_init 32 = .ok (.putfield 21, 3) := by decide +kernel
theorem dX5_init_35 : decode cX5_init 35 = .ok (.return_, 1) := by decide +kernel
def blk5 (Y : Nat → ClassId) (b : Nat) : List va_E := (.inr (5, [.ref (b + 1), .ref (b + 2), .ref (b + 3), .ref (b + 4), .int 0, .int 0, .int 0, .int 0, .int 0]) :: ((([iaE Y 8] ++ [iaE Y 8]) ++ [iaE Y 8]) ++ [iaE Y 5]))
set_option maxRecDepth 20000 in
set_option maxHeartbeats 4000000 in
theorem SB5 : SndB yX5_init e_X5_init dfl5 blk5 := by
  refine SndB.of (by decide +kernel) rfl rfl (by decide) (fun G pre b => ?_)
  show BB G pre b e_X5_init (blk5 G.2 b) 0 [(0, .ref b)] [] (.inr (5, [.null, .null, .null, .null, .int 0, .int 0, .int 0, .int 0, .int 0]) :: []) (0, 0)
  refine bb_aload (pc := 0) 0 0 dX5_init_0 rfl rfl ?_
  refine bb_obj (pc := 1) k126 k91 k92 dX5_init_1 (by decide) rfl ?_
  refine bb_aload (pc := 4) 0 0 dX5_init_4 rfl rfl ?_
  refine bb_bipush (pc := 5) (nI 8) dX5_init_5 (by decide) ?_
  refine bb_newI (pc := 7) (N := 8) rfl (by decide) ⟨Nat.le_of_ble_eq_true rfl, Nat.le_of_ble_eq_true rfl⟩ k114 dX5_init_7 ?_
  show BB G pre b e_X5_init (blk5 G.2 b) 9 [(0, .ref b)] [.ref (b + 1), .ref b] (.inr (5, [.null, .null, .null, .null, .int 0, .int 0, .int 0, .int 0, .int 0]) :: [iaE G.2 8]) (1, 8)
  refine bb_putF (pc := 9) (kc := 0) 0 (.ref (b + 1)) tyX5 (.array .int) (by decide) rfl (by decide) uTB5 tyX5_ok nmX5 k127 rfl rfl (by decide +kernel) rfl rfl (Nat.le_of_ble_eq_true rfl) rfl rfl dX5_init_9 ?_
  show BB G pre b e_X5_init (blk5 G.2 b) 12 [(0, .ref b)] [] (.inr (5, [.ref (b + 1), .null, .null, .null, .int 0, .int 0, .int 0, .int 0, .int 0]) :: [iaE G.2 8]) (1, 8)
  refine bb_aload (pc := 12) 0 0 dX5_init_12 rfl rfl ?_
  refine bb_bipush (pc := 13) (nI 8) dX5_init_13 (by decide) ?_
  refine bb_newI (pc := 15) (N := 8) rfl (by decide) ⟨Nat.le_of_ble_eq_true rfl, Nat.le_of_ble_eq_true rfl⟩ k114 dX5_init_15 ?_
  show BB G pre b e_X5_init (blk5 G.2 b) 17 [(0, .ref b)] [.ref (b + 2), .ref b] (.inr (5, [.ref (b + 1), .null, .null, .null, .int 0, .int 0, .int 0, .int 0, .int 0]) :: ([iaE G.2 8] ++ [iaE G.2 8])) (2, 16)
  refine bb_putF (pc := 17) (kc := 0) 1 (.ref (b + 2)) tyX5 (.array .int) (by decide) rfl (by decide) uTB5 tyX5_ok nmX5 k130 rfl rfl (by decide +kernel) rfl rfl (Nat.le_of_ble_eq_true rfl) rfl rfl dX5_init_17 ?_
  show BB G pre b e_X5_init (blk5 G.2 b) 20 [(0, .ref b)] [] (.inr (5, [.ref (b + 1), .ref (b + 2), .null, .null, .int 0, .int 0, .int 0, .int 0, .int 0]) :: ([iaE G.2 8] ++ [iaE G.2 8])) (2, 16)
  refine bb_aload (pc := 20) 0 0 dX5_init_20 rfl rfl ?_
  refine bb_bipush (pc := 21) (nI 8) dX5_init_21 (by decide) ?_
  refine bb_newI (pc := 23) (N := 8) rfl (by decide) ⟨Nat.le_of_ble_eq_true rfl, Nat.le_of_ble_eq_true rfl⟩ k114 dX5_init_23 ?_
  show BB G pre b e_X5_init (blk5 G.2 b) 25 [(0, .ref b)] [.ref (b + 3), .ref b] (.inr (5, [.ref (b + 1), .ref (b + 2), .null, .null, .int 0, .int 0, .int 0, .int 0, .int 0]) :: (([iaE G.2 8] ++ [iaE G.2 8]) ++ [iaE G.2 8])) (3, 24)
  refine bb_putF (pc := 25) (kc := 0) 2 (.ref (b + 3)) tyX5 (.array .int) (by decide) rfl (by decide) uTB5 tyX5_ok nmX5 k133 rfl rfl (by decide +kernel) rfl rfl (Nat.le_of_ble_eq_true rfl) rfl rfl dX5_init_25 ?_
  show BB G pre b e_X5_init (blk5 G.2 b) 28 [(0, .ref b)] [] (.inr (5, [.ref (b + 1), .ref (b + 2), .ref (b + 3), .null, .int 0, .int 0, .int 0, .int 0, .int 0]) :: (([iaE G.2 8] ++ [iaE G.2 8]) ++ [iaE G.2 8])) (3, 24)
  refine bb_aload (pc := 28) 0 0 dX5_init_28 rfl rfl ?_
  refine bb_iconst (pc := 29) (nI 5) dX5_init_29 (by decide) ?_
  refine bb_newI (pc := 30) (N := 5) rfl (by decide) ⟨Nat.le_of_ble_eq_true rfl, Nat.le_of_ble_eq_true rfl⟩ k114 dX5_init_30 ?_
  show BB G pre b e_X5_init (blk5 G.2 b) 32 [(0, .ref b)] [.ref (b + 4), .ref b] (.inr (5, [.ref (b + 1), .ref (b + 2), .ref (b + 3), .null, .int 0, .int 0, .int 0, .int 0, .int 0]) :: ((([iaE G.2 8] ++ [iaE G.2 8]) ++ [iaE G.2 8]) ++ [iaE G.2 5])) (4, 29)
  refine bb_putF (pc := 32) (kc := 0) 3 (.ref (b + 4)) tyX5 (.array .int) (by decide) rfl (by decide) uTB5 tyX5_ok nmX5 k136 rfl rfl (by decide +kernel) rfl rfl (Nat.le_of_ble_eq_true rfl) rfl rfl dX5_init_32 ?_
  show BB G pre b e_X5_init (blk5 G.2 b) 35 [(0, .ref b)] [] (.inr (5, [.ref (b + 1), .ref (b + 2), .ref (b + 3), .ref (b + 4), .int 0, .int 0, .int 0, .int 0, .int 0]) :: ((([iaE G.2 8] ++ [iaE G.2 8]) ++ [iaE G.2 8]) ++ [iaE G.2 5])) (4, 29)
  refine bb_ret (pc := 35) rfl dX5_init_35 ⟨Nat.le_of_ble_eq_true rfl, Nat.le_of_ble_eq_true rfl⟩ ?_
  rfl
abbrev dfl8 : va_E := .inr (8, [.null, .int 0, .int 0, .int 0, .int 0, .int 0])
theorem df8 : ∀ j, j < 6 → defaultValue (tyX8 j) = vp_V [.null, .int 0, .int 0, .int 0, .int 0, .int 0] j := fun j hj => by
  rcases (show j = 0 ∨ j = 1 ∨ j = 2 ∨ j = 3 ∨ j = 4 ∨ j = 5 by omega) with rfl | rfl | rfl | rfl | rfl | rfl <;> rfl
abbrev e_X8_init : ME := (cX8_init, (RX8, (1, (none, (1, (5, 1))))))
theorem dX8_init_0 : decode cX8_init 0 = .ok (.aload_n 0, 1) := by decide +kernel
theorem dX8_init_1 : decode cX8_init 1 = .ok (.invokespecial 3, 3) := by decide +kernel
theorem dX8_init_4 : decode cX8_init 4 = .ok (.aload_n 0, 1) := by decide +kernel
theorem dX8_init_5 : decode cX8_init 5 = .ok (.iconst 5, 1) := by decide +kernel
theorem dX8_init_6 : decode cX8_init 6 = .ok (.newarray .int, 2) := by decide +kernel
theorem dX8_init_8 : decode cX8_init 8 = .ok (.putfield 9, 3) := by decide +kernel
theorem dX8_init_11 : decode cX8_init 11 = .ok (.return_, 1) := by decide +kernel
def blk8 (Y : Nat → ClassId) (b : Nat) : List va_E := (.inr (8, [.ref (b + 1), .int 0, .int 0, .int 0, .int 0, .int 0]) :: [iaE Y 5])
set_option maxRecDepth 20000 in
set_option maxHeartbeats 4000000 in
theorem SB8 : SndB yX8_init e_X8_init dfl8 blk8 := by
  refine SndB.of (by decide +kernel) rfl rfl (by decide) (fun G pre b => ?_)
  show BB G pre b e_X8_init (blk8 G.2 b) 0 [(0, .ref b)] [] (.inr (8, [.null, .int 0, .int 0, .int 0, .int 0, .int 0]) :: []) (0, 0)
  refine bb_aload (pc := 0) 0 0 dX8_init_0 rfl rfl ?_
  refine bb_obj (pc := 1) k226 k91 k92 dX8_init_1 (by decide) rfl ?_
  refine bb_aload (pc := 4) 0 0 dX8_init_4 rfl rfl ?_
  refine bb_iconst (pc := 5) (nI 5) dX8_init_5 (by decide) ?_
  refine bb_newI (pc := 6) (N := 5) rfl (by decide) ⟨Nat.le_of_ble_eq_true rfl, Nat.le_of_ble_eq_true rfl⟩ k114 dX8_init_6 ?_
  show BB G pre b e_X8_init (blk8 G.2 b) 8 [(0, .ref b)] [.ref (b + 1), .ref b] (.inr (8, [.null, .int 0, .int 0, .int 0, .int 0, .int 0]) :: [iaE G.2 5]) (1, 5)
  refine bb_putF (pc := 8) (kc := 0) 0 (.ref (b + 1)) tyX8 (.array .int) (by decide) rfl (by decide) uTB8 tyX8_ok nmX8 k227 rfl rfl (by decide +kernel) rfl rfl (Nat.le_of_ble_eq_true rfl) rfl rfl dX8_init_8 ?_
  show BB G pre b e_X8_init (blk8 G.2 b) 11 [(0, .ref b)] [] (.inr (8, [.ref (b + 1), .int 0, .int 0, .int 0, .int 0, .int 0]) :: [iaE G.2 5]) (1, 5)
  refine bb_ret (pc := 11) rfl dX8_init_11 ⟨Nat.le_of_ble_eq_true rfl, Nat.le_of_ble_eq_true rfl⟩ ?_
  rfl
abbrev dfl9 : va_E := .inr (9, [.null, .null, .int 0, .int 0, .int 0, .int 0, .int 0, .int 0, .int 0])
theorem df9 : ∀ j, j < 9 → defaultValue (tyX9 j) = vp_V [.null, .null, .int 0, .int 0, .int 0, .int 0, .int 0, .int 0, .int 0] j := fun j hj => by
  rcases (show j = 0 ∨ j = 1 ∨ j = 2 ∨ j = 3 ∨ j = 4 ∨ j = 5 ∨ j = 6 ∨ j = 7 ∨ j = 8 by omega) with rfl | rfl | rfl | rfl | rfl | rfl | rfl | rfl | rfl <;> rfl
abbrev e_X9_init : ME := (cX9_init, (RX9, (1, (none, (6, (158, 2))))))
theorem dX9_init_0 : decode cX9_init 0 = .ok (.aload_n 0, 1) := by decide +kernel
theorem dX9_init_1 : decode cX9_init 1 = .ok (.invokespecial 3, 3) := by decide +kernel
theorem dX9_init_4 : decode cX9_init 4 = .ok (.aload_n 0, 1) := by decide +kernel
theorem dX9_init_5 : decode cX9_init 5 = .ok (.new 9, 3) := by decide +kernel
theorem dX9_init_8 : decode cX9_init 8 = .ok (.dup, 1) := by decide +kernel
theorem dX9_init_9 : decode cX9_init 9 = .ok (.invokespecial 11, 3) := by decide +kernel
theorem dX9_init_12 : decode cX9_init 12 = .ok (.putfield 12, 3) := by decide +kernel
theorem dX9_init_15 : decode cX9_init 15 = .ok (.aload_n 0, 1) := by decide +kernel
theorem dX9_init_16 : decode cX9_init 16 = .ok (.bipush 120, 2) := by decide +kernel
theorem dX9_init_18 : decode cX9_init 18 = .ok (.newarray .int, 2) := by decide +kernel
theorem dX9_init_20 : decode cX9_init 20 = .ok (.putfield 18, 3) := by decide +kernel
theorem dX9_init_23 : decode cX9_init 23 = .ok (.return_, 1) := by decide +kernel
def blk9 (Y : Nat → ClassId) (b : Nat) : List va_E := (.inr (9, [.ref (b + 1), .ref (b + 6), .int 0, .int 0, .int 0, .int 0, .int 0, .int 0, .int 0]) :: (blk5 Y (b + 1) ++ [iaE Y 120]))
set_option maxRecDepth 20000 in
set_option maxHeartbeats 4000000 in
theorem SB9 : SndB yX9_init e_X9_init dfl9 blk9 := by
  refine SndB.of (by decide +kernel) rfl rfl (by decide) (fun G pre b => ?_)
  show BB G pre b e_X9_init (blk9 G.2 b) 0 [(0, .ref b)] [] (.inr (9, [.null, .null, .int 0, .int 0, .int 0, .int 0, .int 0, .int 0, .int 0]) :: []) (0, 0)
  refine bb_aload (pc := 0) 0 0 dX9_init_0 rfl rfl ?_
  refine bb_obj (pc := 1) k120 k91 k92 dX9_init_1 (by decide) rfl ?_
  refine bb_aload (pc := 4) 0 0 dX9_init_4 rfl rfl ?_
  refine bb_new (pc := 5) (t := 5) [.null, .null, .null, .null, .int 0, .int 0, .int 0, .int 0, .int 0] tyX5 rfl uTB5 tyX5_ok k121 k122 k72 (df5) ⟨Nat.le_of_ble_eq_true rfl, Nat.le_of_ble_eq_true rfl⟩ dX9_init_5 ?_
  show BB G pre b e_X9_init (blk9 G.2 b) 8 [(0, .ref b)] [.ref (b + 1), .ref b] ((.inr (9, [.null, .null, .int 0, .int 0, .int 0, .int 0, .int 0, .int 0, .int 0]) :: []) ++ [dfl5]) (1, 9)
  refine bb_dup (pc := 8) dX9_init_8 ?_
  refine bb_call (pc := 9) SB5 (Or.inr (List.mem_of_getElem? (i := 1) rfl)) k124 k72 k125 rfl (show _ ∧ _ ∧ Option.map (fun d => d.parameters.length) (parseMethodDescriptor yX5_init.desc) = some 0 from by decide +kernel) rfl ⟨by decide, by decide⟩ ⟨Nat.le_of_ble_eq_true rfl, Nat.le_of_ble_eq_true rfl⟩ (Nat.le_of_ble_eq_true rfl) rfl dX9_init_9 ?_
  show BB G pre b e_X9_init (blk9 G.2 b) 12 [(0, .ref b)] [.ref (b + 1), .ref b] (.inr (9, [.null, .null, .int 0, .int 0, .int 0, .int 0, .int 0, .int 0, .int 0]) :: blk5 G.2 (b + 1)) (5, 38)
  refine bb_putF (pc := 12) (kc := 0) 0 (.ref (b + 1)) tyX9 (.object "BelievedWords$Law") (by decide) rfl (by decide) uTB9 tyX9_ok nmX9 k183 rfl rfl (by decide +kernel) rfl rfl (Nat.le_of_ble_eq_true rfl) rfl rfl dX9_init_12 ?_
  show BB G pre b e_X9_init (blk9 G.2 b) 15 [(0, .ref b)] [] (.inr (9, [.ref (b + 1), .null, .int 0, .int 0, .int 0, .int 0, .int 0, .int 0, .int 0]) :: blk5 G.2 (b + 1)) (5, 38)
  refine bb_aload (pc := 15) 0 0 dX9_init_15 rfl rfl ?_
  refine bb_bipush (pc := 16) (nI 120) dX9_init_16 (by decide) ?_
  refine bb_newI (pc := 18) (N := 120) rfl (by decide) ⟨Nat.le_of_ble_eq_true rfl, Nat.le_of_ble_eq_true rfl⟩ k114 dX9_init_18 ?_
  show BB G pre b e_X9_init (blk9 G.2 b) 20 [(0, .ref b)] [.ref (b + 6), .ref b] (.inr (9, [.ref (b + 1), .null, .int 0, .int 0, .int 0, .int 0, .int 0, .int 0, .int 0]) :: (blk5 G.2 (b + 1) ++ [iaE G.2 120])) (6, 158)
  refine bb_putF (pc := 20) (kc := 0) 1 (.ref (b + 6)) tyX9 (.array .int) (by decide) rfl (by decide) uTB9 tyX9_ok nmX9 k185 rfl rfl (by decide +kernel) rfl rfl (Nat.le_of_ble_eq_true rfl) rfl rfl dX9_init_20 ?_
  show BB G pre b e_X9_init (blk9 G.2 b) 23 [(0, .ref b)] [] (.inr (9, [.ref (b + 1), .ref (b + 6), .int 0, .int 0, .int 0, .int 0, .int 0, .int 0, .int 0]) :: (blk5 G.2 (b + 1) ++ [iaE G.2 120])) (6, 158)
  refine bb_ret (pc := 23) rfl dX9_init_23 ⟨Nat.le_of_ble_eq_true rfl, Nat.le_of_ble_eq_true rfl⟩ ?_
  rfl
abbrev dfl2 : va_E := .inr (2, [.null, .null, .null, .null, .null])
theorem df2 : ∀ j, j < 5 → defaultValue (tyX2 j) = vp_V [.null, .null, .null, .null, .null] j := fun j hj => by
  rcases (show j = 0 ∨ j = 1 ∨ j = 2 ∨ j = 3 ∨ j = 4 by omega) with rfl | rfl | rfl | rfl | rfl <;> rfl
abbrev e_X2_init : ME := (cX2_init, (RX2, (1, (none, (10, (125, 2))))))
theorem dX2_init_0 : decode cX2_init 0 = .ok (.aload_n 0, 1) := by decide +kernel
theorem dX2_init_1 : decode cX2_init 1 = .ok (.invokespecial 3, 3) := by decide +kernel
theorem dX2_init_4 : decode cX2_init 4 = .ok (.aload_n 0, 1) := by decide +kernel
theorem dX2_init_5 : decode cX2_init 5 = .ok (.new 9, 3) := by decide +kernel
theorem dX2_init_8 : decode cX2_init 8 = .ok (.dup, 1) := by decide +kernel
theorem dX2_init_9 : decode cX2_init 9 = .ok (.invokespecial 11, 3) := by decide +kernel
theorem dX2_init_12 : decode cX2_init 12 = .ok (.putfield 12, 3) := by decide +kernel
theorem dX2_init_15 : decode cX2_init 15 = .ok (.aload_n 0, 1) := by decide +kernel
theorem dX2_init_16 : decode cX2_init 16 = .ok (.new 18, 3) := by decide +kernel
theorem dX2_init_19 : decode cX2_init 19 = .ok (.dup, 1) := by decide +kernel
theorem dX2_init_20 : decode cX2_init 20 = .ok (.invokespecial 20, 3) := by decide +kernel
theorem dX2_init_23 : decode cX2_init 23 = .ok (.putfield 21, 3) := by decide +kernel
theorem dX2_init_26 : decode cX2_init 26 = .ok (.aload_n 0, 1) := by decide +kernel
theorem dX2_init_27 : decode cX2_init 27 = .ok (.bipush 6, 2) := by decide +kernel
theorem dX2_init_29 : decode cX2_init 29 = .ok (.newarray .int, 2) := by decide +kernel
theorem dX2_init_31 : decode cX2_init 31 = .ok (.putfield 25, 3) := by decide +kernel
theorem dX2_init_34 : decode cX2_init 34 = .ok (.aload_n 0, 1) := by decide +kernel
theorem dX2_init_35 : decode cX2_init 35 = .ok (.bipush 6, 2) := by decide +kernel
theorem dX2_init_37 : decode cX2_init 37 = .ok (.newarray .int, 2) := by decide +kernel
theorem dX2_init_39 : decode cX2_init 39 = .ok (.putfield 29, 3) := by decide +kernel
theorem dX2_init_42 : decode cX2_init 42 = .ok (.aload_n 0, 1) := by decide +kernel
theorem dX2_init_43 : decode cX2_init 43 = .ok (.bipush 64, 2) := by decide +kernel
theorem dX2_init_45 : decode cX2_init 45 = .ok (.newarray .int, 2) := by decide +kernel
theorem dX2_init_47 : decode cX2_init 47 = .ok (.putfield 32, 3) := by decide +kernel
theorem dX2_init_50 : decode cX2_init 50 = .ok (.return_, 1) := by decide +kernel
def blk2 (Y : Nat → ClassId) (b : Nat) : List va_E := (.inr (2, [.ref (b + 1), .ref (b + 6), .ref (b + 8), .ref (b + 9), .ref (b + 10)]) :: ((((blk5 Y (b + 1) ++ blk8 Y (b + 6)) ++ [iaE Y 6]) ++ [iaE Y 6]) ++ [iaE Y 64]))
set_option maxRecDepth 20000 in
set_option maxHeartbeats 4000000 in
theorem SB2 : SndB yX2_init e_X2_init dfl2 blk2 := by
  refine SndB.of (by decide +kernel) rfl rfl (by decide) (fun G pre b => ?_)
  show BB G pre b e_X2_init (blk2 G.2 b) 0 [(0, .ref b)] [] (.inr (2, [.null, .null, .null, .null, .null]) :: []) (0, 0)
  refine bb_aload (pc := 0) 0 0 dX2_init_0 rfl rfl ?_
  refine bb_obj (pc := 1) k218 k91 k92 dX2_init_1 (by decide) rfl ?_
  refine bb_aload (pc := 4) 0 0 dX2_init_4 rfl rfl ?_
  refine bb_new (pc := 5) (t := 5) [.null, .null, .null, .null, .int 0, .int 0, .int 0, .int 0, .int 0] tyX5 rfl uTB5 tyX5_ok k219 k122 k72 (df5) ⟨Nat.le_of_ble_eq_true rfl, Nat.le_of_ble_eq_true rfl⟩ dX2_init_5 ?_
  show BB G pre b e_X2_init (blk2 G.2 b) 8 [(0, .ref b)] [.ref (b + 1), .ref b] ((.inr (2, [.null, .null, .null, .null, .null]) :: []) ++ [dfl5]) (1, 9)
  refine bb_dup (pc := 8) dX2_init_8 ?_
  refine bb_call (pc := 9) SB5 (Or.inr (List.mem_of_getElem? (i := 3) rfl)) k124 k72 k125 rfl (show _ ∧ _ ∧ Option.map (fun d => d.parameters.length) (parseMethodDescriptor yX5_init.desc) = some 0 from by decide +kernel) rfl ⟨by decide, by decide⟩ ⟨Nat.le_of_ble_eq_true rfl, Nat.le_of_ble_eq_true rfl⟩ (Nat.le_of_ble_eq_true rfl) rfl dX2_init_9 ?_
  show BB G pre b e_X2_init (blk2 G.2 b) 12 [(0, .ref b)] [.ref (b + 1), .ref b] (.inr (2, [.null, .null, .null, .null, .null]) :: blk5 G.2 (b + 1)) (5, 38)
  refine bb_putF (pc := 12) (kc := 0) 0 (.ref (b + 1)) tyX2 (.object "BelievedWords$Law") (by decide) rfl (by decide) uTB2 tyX2_ok nmX2 k264 rfl rfl (by decide +kernel) rfl rfl (Nat.le_of_ble_eq_true rfl) rfl rfl dX2_init_12 ?_
  show BB G pre b e_X2_init (blk2 G.2 b) 15 [(0, .ref b)] [] (.inr (2, [.ref (b + 1), .null, .null, .null, .null]) :: blk5 G.2 (b + 1)) (5, 38)
  refine bb_aload (pc := 15) 0 0 dX2_init_15 rfl rfl ?_
  refine bb_new (pc := 16) (t := 8) [.null, .int 0, .int 0, .int 0, .int 0, .int 0] tyX8 rfl uTB8 tyX8_ok k221 k222 k74 (df8) ⟨Nat.le_of_ble_eq_true rfl, Nat.le_of_ble_eq_true rfl⟩ dX2_init_16 ?_
  show BB G pre b e_X2_init (blk2 G.2 b) 19 [(0, .ref b)] [.ref (b + 6), .ref b] ((.inr (2, [.ref (b + 1), .null, .null, .null, .null]) :: blk5 G.2 (b + 1)) ++ [dfl8]) (6, 44)
  refine bb_dup (pc := 19) dX2_init_19 ?_
  refine bb_call (pc := 20) SB8 (Or.inr (List.mem_of_getElem? (i := 4) rfl)) k224 k74 k225 rfl (show _ ∧ _ ∧ Option.map (fun d => d.parameters.length) (parseMethodDescriptor yX8_init.desc) = some 0 from by decide +kernel) rfl ⟨by decide, by decide⟩ ⟨Nat.le_of_ble_eq_true rfl, Nat.le_of_ble_eq_true rfl⟩ (Nat.le_of_ble_eq_true rfl) rfl dX2_init_20 ?_
  show BB G pre b e_X2_init (blk2 G.2 b) 23 [(0, .ref b)] [.ref (b + 6), .ref b] (.inr (2, [.ref (b + 1), .null, .null, .null, .null]) :: (blk5 G.2 (b + 1) ++ blk8 G.2 (b + 6))) (7, 49)
  refine bb_putF (pc := 23) (kc := 0) 1 (.ref (b + 6)) tyX2 (.object "BelievedWords$Standing") (by decide) rfl (by decide) uTB2 tyX2_ok nmX2 k270 rfl rfl (by decide +kernel) rfl rfl (Nat.le_of_ble_eq_true rfl) rfl rfl dX2_init_23 ?_
  show BB G pre b e_X2_init (blk2 G.2 b) 26 [(0, .ref b)] [] (.inr (2, [.ref (b + 1), .ref (b + 6), .null, .null, .null]) :: (blk5 G.2 (b + 1) ++ blk8 G.2 (b + 6))) (7, 49)
  refine bb_aload (pc := 26) 0 0 dX2_init_26 rfl rfl ?_
  refine bb_bipush (pc := 27) (nI 6) dX2_init_27 (by decide) ?_
  refine bb_newI (pc := 29) (N := 6) rfl (by decide) ⟨Nat.le_of_ble_eq_true rfl, Nat.le_of_ble_eq_true rfl⟩ k114 dX2_init_29 ?_
  show BB G pre b e_X2_init (blk2 G.2 b) 31 [(0, .ref b)] [.ref (b + 8), .ref b] (.inr (2, [.ref (b + 1), .ref (b + 6), .null, .null, .null]) :: ((blk5 G.2 (b + 1) ++ blk8 G.2 (b + 6)) ++ [iaE G.2 6])) (8, 55)
  refine bb_putF (pc := 31) (kc := 0) 2 (.ref (b + 8)) tyX2 (.array .int) (by decide) rfl (by decide) uTB2 tyX2_ok nmX2 k276 rfl rfl (by decide +kernel) rfl rfl (Nat.le_of_ble_eq_true rfl) rfl rfl dX2_init_31 ?_
  show BB G pre b e_X2_init (blk2 G.2 b) 34 [(0, .ref b)] [] (.inr (2, [.ref (b + 1), .ref (b + 6), .ref (b + 8), .null, .null]) :: ((blk5 G.2 (b + 1) ++ blk8 G.2 (b + 6)) ++ [iaE G.2 6])) (8, 55)
  refine bb_aload (pc := 34) 0 0 dX2_init_34 rfl rfl ?_
  refine bb_bipush (pc := 35) (nI 6) dX2_init_35 (by decide) ?_
  refine bb_newI (pc := 37) (N := 6) rfl (by decide) ⟨Nat.le_of_ble_eq_true rfl, Nat.le_of_ble_eq_true rfl⟩ k114 dX2_init_37 ?_
  show BB G pre b e_X2_init (blk2 G.2 b) 39 [(0, .ref b)] [.ref (b + 9), .ref b] (.inr (2, [.ref (b + 1), .ref (b + 6), .ref (b + 8), .null, .null]) :: (((blk5 G.2 (b + 1) ++ blk8 G.2 (b + 6)) ++ [iaE G.2 6]) ++ [iaE G.2 6])) (9, 61)
  refine bb_putF (pc := 39) (kc := 0) 3 (.ref (b + 9)) tyX2 (.array .int) (by decide) rfl (by decide) uTB2 tyX2_ok nmX2 k277 rfl rfl (by decide +kernel) rfl rfl (Nat.le_of_ble_eq_true rfl) rfl rfl dX2_init_39 ?_
  show BB G pre b e_X2_init (blk2 G.2 b) 42 [(0, .ref b)] [] (.inr (2, [.ref (b + 1), .ref (b + 6), .ref (b + 8), .ref (b + 9), .null]) :: (((blk5 G.2 (b + 1) ++ blk8 G.2 (b + 6)) ++ [iaE G.2 6]) ++ [iaE G.2 6])) (9, 61)
  refine bb_aload (pc := 42) 0 0 dX2_init_42 rfl rfl ?_
  refine bb_bipush (pc := 43) (nI 64) dX2_init_43 (by decide) ?_
  refine bb_newI (pc := 45) (N := 64) rfl (by decide) ⟨Nat.le_of_ble_eq_true rfl, Nat.le_of_ble_eq_true rfl⟩ k114 dX2_init_45 ?_
  show BB G pre b e_X2_init (blk2 G.2 b) 47 [(0, .ref b)] [.ref (b + 10), .ref b] (.inr (2, [.ref (b + 1), .ref (b + 6), .ref (b + 8), .ref (b + 9), .null]) :: ((((blk5 G.2 (b + 1) ++ blk8 G.2 (b + 6)) ++ [iaE G.2 6]) ++ [iaE G.2 6]) ++ [iaE G.2 64])) (10, 125)
  refine bb_putF (pc := 47) (kc := 0) 4 (.ref (b + 10)) tyX2 (.array .int) (by decide) rfl (by decide) uTB2 tyX2_ok nmX2 k278 rfl rfl (by decide +kernel) rfl rfl (Nat.le_of_ble_eq_true rfl) rfl rfl dX2_init_47 ?_
  show BB G pre b e_X2_init (blk2 G.2 b) 50 [(0, .ref b)] [] (.inr (2, [.ref (b + 1), .ref (b + 6), .ref (b + 8), .ref (b + 9), .ref (b + 10)]) :: ((((blk5 G.2 (b + 1) ++ blk8 G.2 (b + 6)) ++ [iaE G.2 6]) ++ [iaE G.2 6]) ++ [iaE G.2 64])) (10, 125)
  refine bb_ret (pc := 50) rfl dX2_init_50 ⟨Nat.le_of_ble_eq_true rfl, Nat.le_of_ble_eq_true rfl⟩ ?_
  rfl
abbrev dfl6 : va_E := .inr (6, [.null, .null, .null])
theorem df6 : ∀ j, j < 3 → defaultValue (tyX6 j) = vp_V [.null, .null, .null] j := fun j hj => by
  rcases (show j = 0 ∨ j = 1 ∨ j = 2 by omega) with rfl | rfl | rfl <;> rfl
abbrev e_X6_init : ME := (cX6_init, (RX6, (1, (none, (11, (344, 2))))))
theorem dX6_init_0 : decode cX6_init 0 = .ok (.aload_n 0, 1) := by decide +kernel
theorem dX6_init_1 : decode cX6_init 1 = .ok (.invokespecial 3, 3) := by decide +kernel
theorem dX6_init_4 : decode cX6_init 4 = .ok (.aload_n 0, 1) := by decide +kernel
theorem dX6_init_5 : decode cX6_init 5 = .ok (.bipush 8, 2) := by decide +kernel
theorem dX6_init_7 : decode cX6_init 7 = .ok (.bipush 40, 2) := by decide +kernel
theorem dX6_init_9 : decode cX6_init 9 = .ok (.multianewarray 9 2, 4) := by decide +kernel
theorem dX6_init_13 : decode cX6_init 13 = .ok (.putfield 11, 3) := by decide +kernel
theorem dX6_init_16 : decode cX6_init 16 = .ok (.aload_n 0, 1) := by decide +kernel
theorem dX6_init_17 : decode cX6_init 17 = .ok (.bipush 8, 2) := by decide +kernel
theorem dX6_init_19 : decode cX6_init 19 = .ok (.newarray .int, 2) := by decide +kernel
theorem dX6_init_21 : decode cX6_init 21 = .ok (.putfield 16, 3) := by decide +kernel
theorem dX6_init_24 : decode cX6_init 24 = .ok (.aload_n 0, 1) := by decide +kernel
theorem dX6_init_25 : decode cX6_init 25 = .ok (.bipush 8, 2) := by decide +kernel
theorem dX6_init_27 : decode cX6_init 27 = .ok (.newarray .int, 2) := by decide +kernel
theorem dX6_init_29 : decode cX6_init 29 = .ok (.putfield 20, 3) := by decide +kernel
theorem dX6_init_32 : decode cX6_init 32 = .ok (.aload_n 0, 1) := by decide +kernel
theorem dX6_init_33 : decode cX6_init 33 = .ok (.getfield 20, 3) := by decide +kernel
theorem dX6_init_36 : decode cX6_init 36 = .ok (.iconst (-1), 1) := by decide +kernel
theorem dX6_init_37 : decode cX6_init 37 = .ok (.invokestatic 23, 3) := by decide +kernel
theorem dX6_init_40 : decode cX6_init 40 = .ok (.return_, 1) := by decide +kernel
def blk6 (Y : Nat → ClassId) (b : Nat) : List va_E := (.inr (6, [.ref (b + 1), .ref (b + 10), .ref (b + 11)]) :: (((raE Y 4 8 (fun i => if i < 8 then some (b + 1 + 1 + i) else none) :: List.replicate 8 (iaE Y 40)) ++ [iaE Y 8]) ++ [.inl (Y 0, 8, .inl (fun j => if j < 8 then -1 else nI 0))]))
set_option maxRecDepth 20000 in
set_option maxHeartbeats 4000000 in
theorem SB6 : SndB yX6_init e_X6_init dfl6 blk6 := by
  refine SndB.of (by decide +kernel) rfl rfl (by decide) (fun G pre b => ?_)
  show BB G pre b e_X6_init (blk6 G.2 b) 0 [(0, .ref b)] [] (.inr (6, [.null, .null, .null]) :: []) (0, 0)
  refine bb_aload (pc := 0) 0 0 dX6_init_0 rfl rfl ?_
  refine bb_obj (pc := 1) k98 k91 k92 dX6_init_1 (by decide) rfl ?_
  refine bb_aload (pc := 4) 0 0 dX6_init_4 rfl rfl ?_
  refine bb_bipush (pc := 5) (nI 8) dX6_init_5 (by decide) ?_
  refine bb_bipush (pc := 7) (nI 40) dX6_init_7 (by decide) ?_
  refine bb_multi (pc := 9) k99 k114 ⟨Nat.le_of_ble_eq_true rfl, Nat.le_of_ble_eq_true rfl⟩ dX6_init_9 ?_
  show BB G pre b e_X6_init (blk6 G.2 b) 13 [(0, .ref b)] [.ref (b + 1), .ref b] (.inr (6, [.null, .null, .null]) :: (raE G.2 4 8 (fun i => if i < 8 then some (b + 1 + 1 + i) else none) :: List.replicate 8 (iaE G.2 40))) (9, 328)
  refine bb_putF (pc := 13) (kc := 0) 0 (.ref (b + 1)) tyX6 (.array (.array .int)) (by decide) rfl (by decide) uTB6 tyX6_ok nmX6 k104 rfl rfl (by decide +kernel) rfl rfl (Nat.le_of_ble_eq_true rfl) rfl rfl dX6_init_13 ?_
  show BB G pre b e_X6_init (blk6 G.2 b) 16 [(0, .ref b)] [] (.inr (6, [.ref (b + 1), .null, .null]) :: (raE G.2 4 8 (fun i => if i < 8 then some (b + 1 + 1 + i) else none) :: List.replicate 8 (iaE G.2 40))) (9, 328)
  refine bb_aload (pc := 16) 0 0 dX6_init_16 rfl rfl ?_
  refine bb_bipush (pc := 17) (nI 8) dX6_init_17 (by decide) ?_
  refine bb_newI (pc := 19) (N := 8) rfl (by decide) ⟨Nat.le_of_ble_eq_true rfl, Nat.le_of_ble_eq_true rfl⟩ k114 dX6_init_19 ?_
  show BB G pre b e_X6_init (blk6 G.2 b) 21 [(0, .ref b)] [.ref (b + 10), .ref b] (.inr (6, [.ref (b + 1), .null, .null]) :: ((raE G.2 4 8 (fun i => if i < 8 then some (b + 1 + 1 + i) else none) :: List.replicate 8 (iaE G.2 40)) ++ [iaE G.2 8])) (10, 336)
  refine bb_putF (pc := 21) (kc := 0) 1 (.ref (b + 10)) tyX6 (.array .int) (by decide) rfl (by decide) uTB6 tyX6_ok nmX6 k105 rfl rfl (by decide +kernel) rfl rfl (Nat.le_of_ble_eq_true rfl) rfl rfl dX6_init_21 ?_
  show BB G pre b e_X6_init (blk6 G.2 b) 24 [(0, .ref b)] [] (.inr (6, [.ref (b + 1), .ref (b + 10), .null]) :: ((raE G.2 4 8 (fun i => if i < 8 then some (b + 1 + 1 + i) else none) :: List.replicate 8 (iaE G.2 40)) ++ [iaE G.2 8])) (10, 336)
  refine bb_aload (pc := 24) 0 0 dX6_init_24 rfl rfl ?_
  refine bb_bipush (pc := 25) (nI 8) dX6_init_25 (by decide) ?_
  refine bb_newI (pc := 27) (N := 8) rfl (by decide) ⟨Nat.le_of_ble_eq_true rfl, Nat.le_of_ble_eq_true rfl⟩ k114 dX6_init_27 ?_
  show BB G pre b e_X6_init (blk6 G.2 b) 29 [(0, .ref b)] [.ref (b + 11), .ref b] (.inr (6, [.ref (b + 1), .ref (b + 10), .null]) :: (((raE G.2 4 8 (fun i => if i < 8 then some (b + 1 + 1 + i) else none) :: List.replicate 8 (iaE G.2 40)) ++ [iaE G.2 8]) ++ [iaE G.2 8])) (11, 344)
  refine bb_putF (pc := 29) (kc := 0) 2 (.ref (b + 11)) tyX6 (.array .int) (by decide) rfl (by decide) uTB6 tyX6_ok nmX6 k106 rfl rfl (by decide +kernel) rfl rfl (Nat.le_of_ble_eq_true rfl) rfl rfl dX6_init_29 ?_
  show BB G pre b e_X6_init (blk6 G.2 b) 32 [(0, .ref b)] [] (.inr (6, [.ref (b + 1), .ref (b + 10), .ref (b + 11)]) :: (((raE G.2 4 8 (fun i => if i < 8 then some (b + 1 + 1 + i) else none) :: List.replicate 8 (iaE G.2 40)) ++ [iaE G.2 8]) ++ [iaE G.2 8])) (11, 344)
  refine bb_aload (pc := 32) 0 0 dX6_init_32 rfl rfl ?_
  refine bb_get (pc := 33) (kc := 0) 2 rfl (by decide) uTB6 k106 rfl rfl rfl dX6_init_33 ?_
  refine bb_iconst (pc := 36) (-1) dX6_init_36 (by decide) ?_
  refine bb_fill (pc := 37) (kc := 11) (N := 8) (f := fun _ => nI 0) rfl (by decide) rfl k101 (by decide) ⟨Nat.le_of_ble_eq_true rfl, Nat.le_of_ble_eq_true rfl⟩ (by decide) dX6_init_37 ?_
  show BB G pre b e_X6_init (blk6 G.2 b) 40 [(0, .ref b)] [] (.inr (6, [.ref (b + 1), .ref (b + 10), .ref (b + 11)]) :: (((raE G.2 4 8 (fun i => if i < 8 then some (b + 1 + 1 + i) else none) :: List.replicate 8 (iaE G.2 40)) ++ [iaE G.2 8]) ++ [filE G 8 (fun _ => nI 0) (-1) 8])) (11, 344)
  refine bb_ret (pc := 40) rfl dX6_init_40 ⟨Nat.le_of_ble_eq_true rfl, Nat.le_of_ble_eq_true rfl⟩ ?_
  rfl
abbrev dfl4 : va_E := .inr (4, [.null, .null, .int 0])
theorem df4 : ∀ j, j < 3 → defaultValue (tyX4 j) = vp_V [.null, .null, .int 0] j := fun j hj => by
  rcases (show j = 0 ∨ j = 1 ∨ j = 2 by omega) with rfl | rfl | rfl <;> rfl
abbrev e_X4_init : ME := (cX4_init, (RX4, (1, (none, (7, (49, 2))))))
theorem dX4_init_0 : decode cX4_init 0 = .ok (.aload_n 0, 1) := by decide +kernel
theorem dX4_init_1 : decode cX4_init 1 = .ok (.invokespecial 1, 3) := by decide +kernel
theorem dX4_init_4 : decode cX4_init 4 = .ok (.aload_n 0, 1) := by decide +kernel
theorem dX4_init_5 : decode cX4_init 5 = .ok (.new 7, 3) := by decide +kernel
theorem dX4_init_8 : decode cX4_init 8 = .ok (.dup, 1) := by decide +kernel
theorem dX4_init_9 : decode cX4_init 9 = .ok (.invokespecial 9, 3) := by decide +kernel
theorem dX4_init_12 : decode cX4_init 12 = .ok (.putfield 10, 3) := by decide +kernel
theorem dX4_init_15 : decode cX4_init 15 = .ok (.aload_n 0, 1) := by decide +kernel
theorem dX4_init_16 : decode cX4_init 16 = .ok (.new 16, 3) := by decide +kernel
theorem dX4_init_19 : decode cX4_init 19 = .ok (.dup, 1) := by decide +kernel
theorem dX4_init_20 : decode cX4_init 20 = .ok (.invokespecial 18, 3) := by decide +kernel
theorem dX4_init_23 : decode cX4_init 23 = .ok (.putfield 19, 3) := by decide +kernel
theorem dX4_init_26 : decode cX4_init 26 = .ok (.return_, 1) := by decide +kernel
def blk4 (Y : Nat → ClassId) (b : Nat) : List va_E := (.inr (4, [.ref (b + 1), .ref (b + 6), .int 0]) :: (blk5 Y (b + 1) ++ blk8 Y (b + 6)))
set_option maxRecDepth 20000 in
set_option maxHeartbeats 4000000 in
theorem SB4 : SndB yX4_init e_X4_init dfl4 blk4 := by
  refine SndB.of (by decide +kernel) rfl rfl (by decide) (fun G pre b => ?_)
  show BB G pre b e_X4_init (blk4 G.2 b) 0 [(0, .ref b)] [] (.inr (4, [.null, .null, .int 0]) :: []) (0, 0)
  refine bb_aload (pc := 0) 0 0 dX4_init_0 rfl rfl ?_
  refine bb_obj (pc := 1) k397 k91 k92 dX4_init_1 (by decide) rfl ?_
  refine bb_aload (pc := 4) 0 0 dX4_init_4 rfl rfl ?_
  refine bb_new (pc := 5) (t := 5) [.null, .null, .null, .null, .int 0, .int 0, .int 0, .int 0, .int 0] tyX5 rfl uTB5 tyX5_ok k398 k122 k72 (df5) ⟨Nat.le_of_ble_eq_true rfl, Nat.le_of_ble_eq_true rfl⟩ dX4_init_5 ?_
  show BB G pre b e_X4_init (blk4 G.2 b) 8 [(0, .ref b)] [.ref (b + 1), .ref b] ((.inr (4, [.null, .null, .int 0]) :: []) ++ [dfl5]) (1, 9)
  refine bb_dup (pc := 8) dX4_init_8 ?_
  refine bb_call (pc := 9) SB5 (Or.inr (List.mem_of_getElem? (i := 10) rfl)) k124 k72 k125 rfl (show _ ∧ _ ∧ Option.map (fun d => d.parameters.length) (parseMethodDescriptor yX5_init.desc) = some 0 from by decide +kernel) rfl ⟨by decide, by decide⟩ ⟨Nat.le_of_ble_eq_true rfl, Nat.le_of_ble_eq_true rfl⟩ (Nat.le_of_ble_eq_true rfl) rfl dX4_init_9 ?_
  show BB G pre b e_X4_init (blk4 G.2 b) 12 [(0, .ref b)] [.ref (b + 1), .ref b] (.inr (4, [.null, .null, .int 0]) :: blk5 G.2 (b + 1)) (5, 38)
  refine bb_putF (pc := 12) (kc := 0) 0 (.ref (b + 1)) tyX4 (.object "BelievedWords$Law") (by decide) rfl (by decide) uTB4 tyX4_ok nmX4 k402 rfl rfl (by decide +kernel) rfl rfl (Nat.le_of_ble_eq_true rfl) rfl rfl dX4_init_12 ?_
  show BB G pre b e_X4_init (blk4 G.2 b) 15 [(0, .ref b)] [] (.inr (4, [.ref (b + 1), .null, .int 0]) :: blk5 G.2 (b + 1)) (5, 38)
  refine bb_aload (pc := 15) 0 0 dX4_init_15 rfl rfl ?_
  refine bb_new (pc := 16) (t := 8) [.null, .int 0, .int 0, .int 0, .int 0, .int 0] tyX8 rfl uTB8 tyX8_ok k400 k222 k74 (df8) ⟨Nat.le_of_ble_eq_true rfl, Nat.le_of_ble_eq_true rfl⟩ dX4_init_16 ?_
  show BB G pre b e_X4_init (blk4 G.2 b) 19 [(0, .ref b)] [.ref (b + 6), .ref b] ((.inr (4, [.ref (b + 1), .null, .int 0]) :: blk5 G.2 (b + 1)) ++ [dfl8]) (6, 44)
  refine bb_dup (pc := 19) dX4_init_19 ?_
  refine bb_call (pc := 20) SB8 (Or.inr (List.mem_of_getElem? (i := 11) rfl)) k224 k74 k225 rfl (show _ ∧ _ ∧ Option.map (fun d => d.parameters.length) (parseMethodDescriptor yX8_init.desc) = some 0 from by decide +kernel) rfl ⟨by decide, by decide⟩ ⟨Nat.le_of_ble_eq_true rfl, Nat.le_of_ble_eq_true rfl⟩ (Nat.le_of_ble_eq_true rfl) rfl dX4_init_20 ?_
  show BB G pre b e_X4_init (blk4 G.2 b) 23 [(0, .ref b)] [.ref (b + 6), .ref b] (.inr (4, [.ref (b + 1), .null, .int 0]) :: (blk5 G.2 (b + 1) ++ blk8 G.2 (b + 6))) (7, 49)
  refine bb_putF (pc := 23) (kc := 0) 1 (.ref (b + 6)) tyX4 (.object "BelievedWords$Standing") (by decide) rfl (by decide) uTB4 tyX4_ok nmX4 k404 rfl rfl (by decide +kernel) rfl rfl (Nat.le_of_ble_eq_true rfl) rfl rfl dX4_init_23 ?_
  show BB G pre b e_X4_init (blk4 G.2 b) 26 [(0, .ref b)] [] (.inr (4, [.ref (b + 1), .ref (b + 6), .int 0]) :: (blk5 G.2 (b + 1) ++ blk8 G.2 (b + 6))) (7, 49)
  refine bb_ret (pc := 26) rfl dX4_init_26 ⟨Nat.le_of_ble_eq_true rfl, Nat.le_of_ble_eq_true rfl⟩ ?_
  rfl
abbrev dfl7 : va_E := .inr (7, [.null, .null, .null, .null, .int 0, .int 0, .int 0, .int 0, .int 0, .int 0, .int 0, .int 0, .int 0, .int 0])
theorem df7 : ∀ j, j < 14 → defaultValue (tyX7 j) = vp_V [.null, .null, .null, .null, .int 0, .int 0, .int 0, .int 0, .int 0, .int 0, .int 0, .int 0, .int 0, .int 0] j := fun j hj => by
  rcases (show j = 0 ∨ j = 1 ∨ j = 2 ∨ j = 3 ∨ j = 4 ∨ j = 5 ∨ j = 6 ∨ j = 7 ∨ j = 8 ∨ j = 9 ∨ j = 10 ∨ j = 11 ∨ j = 12 ∨ j = 13 by omega) with rfl | rfl | rfl | rfl | rfl | rfl | rfl | rfl | rfl | rfl | rfl | rfl | rfl | rfl <;> rfl
abbrev e_X7_init : ME := (cX7_init, (RX7, (1, (none, (4, (5, 1))))))
theorem dX7_init_0 : decode cX7_init 0 = .ok (.aload_n 0, 1) := by decide +kernel
theorem dX7_init_1 : decode cX7_init 1 = .ok (.invokespecial 3, 3) := by decide +kernel
theorem dX7_init_4 : decode cX7_init 4 = .ok (.aload_n 0, 1) := by decide +kernel
theorem dX7_init_5 : decode cX7_init 5 = .ok (.iconst 5, 1) := by decide +kernel
theorem dX7_init_6 : decode cX7_init 6 = .ok (.newarray .int, 2) := by decide +kernel
theorem dX7_init_8 : decode cX7_init 8 = .ok (.putfield 9, 3) := by decide +kernel
theorem dX7_init_11 : decode cX7_init 11 = .ok (.aload_n 0, 1) := by decide +kernel
theorem dX7_init_12 : decode cX7_init 12 = .ok (.iconst 0, 1) := by decide +kernel
theorem dX7_init_13 : decode cX7_init 13 = .ok (.newarray .int, 2) := by decide +kernel
theorem dX7_init_15 : decode cX7_init 15 = .ok (.putfield 15, 3) := by decide +kernel
theorem dX7_init_18 : decode cX7_init 18 = .ok (.aload_n 0, 1) := by decide +kernel
theorem dX7_init_19 : decode cX7_init 19 = .ok (.iconst 0, 1) := by decide +kernel
theorem dX7_init_20 : decode cX7_init 20 = .ok (.newarray .int, 2) := by decide +kernel
theorem dX7_init_22 : decode cX7_init 22 = .ok (.putfield 18, 3) := by decide +kernel
theorem dX7_init_25 : decode cX7_init 25 = .ok (.aload_n 0, 1) := by decide +kernel
theorem dX7_init_26 : decode cX7_init 26 = .ok (.iconst 0, 1) := by decide +kernel
theorem dX7_init_27 : decode cX7_init 27 = .ok (.newarray .int, 2) := by decide +kernel
theorem dX7_init_29 : decode cX7_init 29 = .ok (.putfield 21, 3) := by decide +kernel
theorem dX7_init_32 : decode cX7_init 32 = .ok (.return_, 1) := by decide +kernel
def blk7 (Y : Nat → ClassId) (b : Nat) : List va_E := (.inr (7, [.ref (b + 1), .ref (b + 2), .ref (b + 3), .ref (b + 4), .int 0, .int 0, .int 0, .int 0, .int 0, .int 0, .int 0, .int 0, .int 0, .int 0]) :: ((([iaE Y 5] ++ [iaE Y 0]) ++ [iaE Y 0]) ++ [iaE Y 0]))
set_option maxRecDepth 20000 in
set_option maxHeartbeats 4000000 in
theorem SB7 : SndB yX7_init e_X7_init dfl7 blk7 := by
  refine SndB.of (by decide +kernel) rfl rfl (by decide) (fun G pre b => ?_)
  show BB G pre b e_X7_init (blk7 G.2 b) 0 [(0, .ref b)] [] (.inr (7, [.null, .null, .null, .null, .int 0, .int 0, .int 0, .int 0, .int 0, .int 0, .int 0, .int 0, .int 0, .int 0]) :: []) (0, 0)
  refine bb_aload (pc := 0) 0 0 dX7_init_0 rfl rfl ?_
  refine bb_obj (pc := 1) k317 k91 k92 dX7_init_1 (by decide) rfl ?_
  refine bb_aload (pc := 4) 0 0 dX7_init_4 rfl rfl ?_
  refine bb_iconst (pc := 5) (nI 5) dX7_init_5 (by decide) ?_
  refine bb_newI (pc := 6) (N := 5) rfl (by decide) ⟨Nat.le_of_ble_eq_true rfl, Nat.le_of_ble_eq_true rfl⟩ k114 dX7_init_6 ?_
  show BB G pre b e_X7_init (blk7 G.2 b) 8 [(0, .ref b)] [.ref (b + 1), .ref b] (.inr (7, [.null, .null, .null, .null, .int 0, .int 0, .int 0, .int 0, .int 0, .int 0, .int 0, .int 0, .int 0, .int 0]) :: [iaE G.2 5]) (1, 5)
  refine bb_putF (pc := 8) (kc := 0) 0 (.ref (b + 1)) tyX7 (.array .int) (by decide) rfl (by decide) uTB7 tyX7_ok nmX7 k318 rfl rfl (by decide +kernel) rfl rfl (Nat.le_of_ble_eq_true rfl) rfl rfl dX7_init_8 ?_
  show BB G pre b e_X7_init (blk7 G.2 b) 11 [(0, .ref b)] [] (.inr (7, [.ref (b + 1), .null, .null, .null, .int 0, .int 0, .int 0, .int 0, .int 0, .int 0, .int 0, .int 0, .int 0, .int 0]) :: [iaE G.2 5]) (1, 5)
  refine bb_aload (pc := 11) 0 0 dX7_init_11 rfl rfl ?_
  refine bb_iconst (pc := 12) (nI 0) dX7_init_12 (by decide) ?_
  refine bb_newI (pc := 13) (N := 0) rfl (by decide) ⟨Nat.le_of_ble_eq_true rfl, Nat.le_of_ble_eq_true rfl⟩ k114 dX7_init_13 ?_
  show BB G pre b e_X7_init (blk7 G.2 b) 15 [(0, .ref b)] [.ref (b + 2), .ref b] (.inr (7, [.ref (b + 1), .null, .null, .null, .int 0, .int 0, .int 0, .int 0, .int 0, .int 0, .int 0, .int 0, .int 0, .int 0]) :: ([iaE G.2 5] ++ [iaE G.2 0])) (2, 5)
  refine bb_put (pc := 15) (kc := 0) 1 (.ref (b + 2)) tyX7 (.array .int) rfl (by decide) uTB7 tyX7_ok nmX7 k319 rfl (by decide +kernel) rfl rfl (Nat.le_of_ble_eq_true rfl) rfl rfl dX7_init_15 ?_
  show BB G pre b e_X7_init (blk7 G.2 b) 18 [(0, .ref b)] [] (.inr (7, [.ref (b + 1), .ref (b + 2), .null, .null, .int 0, .int 0, .int 0, .int 0, .int 0, .int 0, .int 0, .int 0, .int 0, .int 0]) :: ([iaE G.2 5] ++ [iaE G.2 0])) (2, 5)
  refine bb_aload (pc := 18) 0 0 dX7_init_18 rfl rfl ?_
  refine bb_iconst (pc := 19) (nI 0) dX7_init_19 (by decide) ?_
  refine bb_newI (pc := 20) (N := 0) rfl (by decide) ⟨Nat.le_of_ble_eq_true rfl, Nat.le_of_ble_eq_true rfl⟩ k114 dX7_init_20 ?_
  show BB G pre b e_X7_init (blk7 G.2 b) 22 [(0, .ref b)] [.ref (b + 3), .ref b] (.inr (7, [.ref (b + 1), .ref (b + 2), .null, .null, .int 0, .int 0, .int 0, .int 0, .int 0, .int 0, .int 0, .int 0, .int 0, .int 0]) :: (([iaE G.2 5] ++ [iaE G.2 0]) ++ [iaE G.2 0])) (3, 5)
  refine bb_put (pc := 22) (kc := 0) 2 (.ref (b + 3)) tyX7 (.array .int) rfl (by decide) uTB7 tyX7_ok nmX7 k320 rfl (by decide +kernel) rfl rfl (Nat.le_of_ble_eq_true rfl) rfl rfl dX7_init_22 ?_
  show BB G pre b e_X7_init (blk7 G.2 b) 25 [(0, .ref b)] [] (.inr (7, [.ref (b + 1), .ref (b + 2), .ref (b + 3), .null, .int 0, .int 0, .int 0, .int 0, .int 0, .int 0, .int 0, .int 0, .int 0, .int 0]) :: (([iaE G.2 5] ++ [iaE G.2 0]) ++ [iaE G.2 0])) (3, 5)
  refine bb_aload (pc := 25) 0 0 dX7_init_25 rfl rfl ?_
  refine bb_iconst (pc := 26) (nI 0) dX7_init_26 (by decide) ?_
  refine bb_newI (pc := 27) (N := 0) rfl (by decide) ⟨Nat.le_of_ble_eq_true rfl, Nat.le_of_ble_eq_true rfl⟩ k114 dX7_init_27 ?_
  show BB G pre b e_X7_init (blk7 G.2 b) 29 [(0, .ref b)] [.ref (b + 4), .ref b] (.inr (7, [.ref (b + 1), .ref (b + 2), .ref (b + 3), .null, .int 0, .int 0, .int 0, .int 0, .int 0, .int 0, .int 0, .int 0, .int 0, .int 0]) :: ((([iaE G.2 5] ++ [iaE G.2 0]) ++ [iaE G.2 0]) ++ [iaE G.2 0])) (4, 5)
  refine bb_put (pc := 29) (kc := 0) 3 (.ref (b + 4)) tyX7 (.array .int) rfl (by decide) uTB7 tyX7_ok nmX7 k321 rfl (by decide +kernel) rfl rfl (Nat.le_of_ble_eq_true rfl) rfl rfl dX7_init_29 ?_
  show BB G pre b e_X7_init (blk7 G.2 b) 32 [(0, .ref b)] [] (.inr (7, [.ref (b + 1), .ref (b + 2), .ref (b + 3), .ref (b + 4), .int 0, .int 0, .int 0, .int 0, .int 0, .int 0, .int 0, .int 0, .int 0, .int 0]) :: ((([iaE G.2 5] ++ [iaE G.2 0]) ++ [iaE G.2 0]) ++ [iaE G.2 0])) (4, 5)
  refine bb_ret (pc := 32) rfl dX7_init_32 ⟨Nat.le_of_ble_eq_true rfl, Nat.le_of_ble_eq_true rfl⟩ ?_
  rfl
abbrev dfl3 : va_E := .inr (3, [.null, .null, .null, .null])
theorem df3 : ∀ j, j < 4 → defaultValue (tyX3 j) = vp_V [.null, .null, .null, .null] j := fun j hj => by
  rcases (show j = 0 ∨ j = 1 ∨ j = 2 ∨ j = 3 by omega) with rfl | rfl | rfl | rfl <;> rfl
abbrev e_X3_init : ME := (cX3_init, (RX3, (1, (none, (4, (256, 1))))))
theorem dX3_init_0 : decode cX3_init 0 = .ok (.aload_n 0, 1) := by decide +kernel
theorem dX3_init_1 : decode cX3_init 1 = .ok (.invokespecial 3, 3) := by decide +kernel
theorem dX3_init_4 : decode cX3_init 4 = .ok (.aload_n 0, 1) := by decide +kernel
theorem dX3_init_5 : decode cX3_init 5 = .ok (.bipush 64, 2) := by decide +kernel
theorem dX3_init_7 : decode cX3_init 7 = .ok (.newarray .int, 2) := by decide +kernel
theorem dX3_init_9 : decode cX3_init 9 = .ok (.putfield 11, 3) := by decide +kernel
theorem dX3_init_12 : decode cX3_init 12 = .ok (.aload_n 0, 1) := by decide +kernel
theorem dX3_init_13 : decode cX3_init 13 = .ok (.bipush 64, 2) := by decide +kernel
theorem dX3_init_15 : decode cX3_init 15 = .ok (.newarray .int, 2) := by decide +kernel
theorem dX3_init_17 : decode cX3_init 17 = .ok (.putfield 15, 3) := by decide +kernel
theorem dX3_init_20 : decode cX3_init 20 = .ok (.aload_n 0, 1) := by decide +kernel
theorem dX3_init_21 : decode cX3_init 21 = .ok (.bipush 64, 2) := by decide +kernel
theorem dX3_init_23 : decode cX3_init 23 = .ok (.newarray .int, 2) := by decide +kernel
theorem dX3_init_25 : decode cX3_init 25 = .ok (.putfield 18, 3) := by decide +kernel
theorem dX3_init_28 : decode cX3_init 28 = .ok (.aload_n 0, 1) := by decide +kernel
theorem dX3_init_29 : decode cX3_init 29 = .ok (.bipush 64, 2) := by decide +kernel
theorem dX3_init_31 : decode cX3_init 31 = .ok (.newarray .int, 2) := by decide +kernel
theorem dX3_init_33 : decode cX3_init 33 = .ok (.putfield 21, 3) := by decide +kernel
theorem dX3_init_36 : decode cX3_init 36 = .ok (.return_, 1) := by decide +kernel
def blk3 (Y : Nat → ClassId) (b : Nat) : List va_E := (.inr (3, [.ref (b + 1), .ref (b + 2), .ref (b + 3), .ref (b + 4)]) :: ((([iaE Y 64] ++ [iaE Y 64]) ++ [iaE Y 64]) ++ [iaE Y 64]))
set_option maxRecDepth 20000 in
set_option maxHeartbeats 4000000 in
theorem SB3 : SndB yX3_init e_X3_init dfl3 blk3 := by
  refine SndB.of (by decide +kernel) rfl rfl (by decide) (fun G pre b => ?_)
  show BB G pre b e_X3_init (blk3 G.2 b) 0 [(0, .ref b)] [] (.inr (3, [.null, .null, .null, .null]) :: []) (0, 0)
  refine bb_aload (pc := 0) 0 0 dX3_init_0 rfl rfl ?_
  refine bb_obj (pc := 1) k366 k91 k92 dX3_init_1 (by decide) rfl ?_
  refine bb_aload (pc := 4) 0 0 dX3_init_4 rfl rfl ?_
  refine bb_bipush (pc := 5) (nI 64) dX3_init_5 (by decide) ?_
  refine bb_newI (pc := 7) (N := 64) rfl (by decide) ⟨Nat.le_of_ble_eq_true rfl, Nat.le_of_ble_eq_true rfl⟩ k114 dX3_init_7 ?_
  show BB G pre b e_X3_init (blk3 G.2 b) 9 [(0, .ref b)] [.ref (b + 1), .ref b] (.inr (3, [.null, .null, .null, .null]) :: [iaE G.2 64]) (1, 64)
  refine bb_put (pc := 9) (kc := 0) 0 (.ref (b + 1)) tyX3 (.array .int) rfl (by decide) uTB3 tyX3_ok nmX3 k367 rfl (by decide +kernel) rfl rfl (Nat.le_of_ble_eq_true rfl) rfl rfl dX3_init_9 ?_
  show BB G pre b e_X3_init (blk3 G.2 b) 12 [(0, .ref b)] [] (.inr (3, [.ref (b + 1), .null, .null, .null]) :: [iaE G.2 64]) (1, 64)
  refine bb_aload (pc := 12) 0 0 dX3_init_12 rfl rfl ?_
  refine bb_bipush (pc := 13) (nI 64) dX3_init_13 (by decide) ?_
  refine bb_newI (pc := 15) (N := 64) rfl (by decide) ⟨Nat.le_of_ble_eq_true rfl, Nat.le_of_ble_eq_true rfl⟩ k114 dX3_init_15 ?_
  show BB G pre b e_X3_init (blk3 G.2 b) 17 [(0, .ref b)] [.ref (b + 2), .ref b] (.inr (3, [.ref (b + 1), .null, .null, .null]) :: ([iaE G.2 64] ++ [iaE G.2 64])) (2, 128)
  refine bb_put (pc := 17) (kc := 0) 1 (.ref (b + 2)) tyX3 (.array .int) rfl (by decide) uTB3 tyX3_ok nmX3 k368 rfl (by decide +kernel) rfl rfl (Nat.le_of_ble_eq_true rfl) rfl rfl dX3_init_17 ?_
  show BB G pre b e_X3_init (blk3 G.2 b) 20 [(0, .ref b)] [] (.inr (3, [.ref (b + 1), .ref (b + 2), .null, .null]) :: ([iaE G.2 64] ++ [iaE G.2 64])) (2, 128)
  refine bb_aload (pc := 20) 0 0 dX3_init_20 rfl rfl ?_
  refine bb_bipush (pc := 21) (nI 64) dX3_init_21 (by decide) ?_
  refine bb_newI (pc := 23) (N := 64) rfl (by decide) ⟨Nat.le_of_ble_eq_true rfl, Nat.le_of_ble_eq_true rfl⟩ k114 dX3_init_23 ?_
  show BB G pre b e_X3_init (blk3 G.2 b) 25 [(0, .ref b)] [.ref (b + 3), .ref b] (.inr (3, [.ref (b + 1), .ref (b + 2), .null, .null]) :: (([iaE G.2 64] ++ [iaE G.2 64]) ++ [iaE G.2 64])) (3, 192)
  refine bb_put (pc := 25) (kc := 0) 2 (.ref (b + 3)) tyX3 (.array .int) rfl (by decide) uTB3 tyX3_ok nmX3 k369 rfl (by decide +kernel) rfl rfl (Nat.le_of_ble_eq_true rfl) rfl rfl dX3_init_25 ?_
  show BB G pre b e_X3_init (blk3 G.2 b) 28 [(0, .ref b)] [] (.inr (3, [.ref (b + 1), .ref (b + 2), .ref (b + 3), .null]) :: (([iaE G.2 64] ++ [iaE G.2 64]) ++ [iaE G.2 64])) (3, 192)
  refine bb_aload (pc := 28) 0 0 dX3_init_28 rfl rfl ?_
  refine bb_bipush (pc := 29) (nI 64) dX3_init_29 (by decide) ?_
  refine bb_newI (pc := 31) (N := 64) rfl (by decide) ⟨Nat.le_of_ble_eq_true rfl, Nat.le_of_ble_eq_true rfl⟩ k114 dX3_init_31 ?_
  show BB G pre b e_X3_init (blk3 G.2 b) 33 [(0, .ref b)] [.ref (b + 4), .ref b] (.inr (3, [.ref (b + 1), .ref (b + 2), .ref (b + 3), .null]) :: ((([iaE G.2 64] ++ [iaE G.2 64]) ++ [iaE G.2 64]) ++ [iaE G.2 64])) (4, 256)
  refine bb_put (pc := 33) (kc := 0) 3 (.ref (b + 4)) tyX3 (.array .int) rfl (by decide) uTB3 tyX3_ok nmX3 k370 rfl (by decide +kernel) rfl rfl (Nat.le_of_ble_eq_true rfl) rfl rfl dX3_init_33 ?_
  show BB G pre b e_X3_init (blk3 G.2 b) 36 [(0, .ref b)] [] (.inr (3, [.ref (b + 1), .ref (b + 2), .ref (b + 3), .ref (b + 4)]) :: ((([iaE G.2 64] ++ [iaE G.2 64]) ++ [iaE G.2 64]) ++ [iaE G.2 64])) (4, 256)
  refine bb_ret (pc := 36) rfl dX3_init_36 ⟨Nat.le_of_ble_eq_true rfl, Nat.le_of_ble_eq_true rfl⟩ ?_
  rfl
abbrev dfl1 : va_E := .inr (1, [.null, .int 0])
theorem df1 : ∀ j, j < 2 → defaultValue (tyX1 j) = vp_V [.null, .int 0] j := fun j hj => by
  rcases (show j = 0 ∨ j = 1 by omega) with rfl | rfl <;> rfl
abbrev e_X1_init : ME := (cX1_init, (RX1, (1, (none, (1, (16, 1))))))
theorem dX1_init_0 : decode cX1_init 0 = .ok (.aload_n 0, 1) := by decide +kernel
theorem dX1_init_1 : decode cX1_init 1 = .ok (.invokespecial 3, 3) := by decide +kernel
theorem dX1_init_4 : decode cX1_init 4 = .ok (.aload_n 0, 1) := by decide +kernel
theorem dX1_init_5 : decode cX1_init 5 = .ok (.bipush 16, 2) := by decide +kernel
theorem dX1_init_7 : decode cX1_init 7 = .ok (.newarray .int, 2) := by decide +kernel
theorem dX1_init_9 : decode cX1_init 9 = .ok (.putfield 9, 3) := by decide +kernel
theorem dX1_init_12 : decode cX1_init 12 = .ok (.return_, 1) := by decide +kernel
def blk1 (Y : Nat → ClassId) (b : Nat) : List va_E := (.inr (1, [.ref (b + 1), .int 0]) :: [iaE Y 16])
set_option maxRecDepth 20000 in
set_option maxHeartbeats 4000000 in
theorem SB1 : SndB yX1_init e_X1_init dfl1 blk1 := by
  refine SndB.of (by decide +kernel) rfl rfl (by decide) (fun G pre b => ?_)
  show BB G pre b e_X1_init (blk1 G.2 b) 0 [(0, .ref b)] [] (.inr (1, [.null, .int 0]) :: []) (0, 0)
  refine bb_aload (pc := 0) 0 0 dX1_init_0 rfl rfl ?_
  refine bb_obj (pc := 1) k385 k91 k92 dX1_init_1 (by decide) rfl ?_
  refine bb_aload (pc := 4) 0 0 dX1_init_4 rfl rfl ?_
  refine bb_bipush (pc := 5) (nI 16) dX1_init_5 (by decide) ?_
  refine bb_newI (pc := 7) (N := 16) rfl (by decide) ⟨Nat.le_of_ble_eq_true rfl, Nat.le_of_ble_eq_true rfl⟩ k114 dX1_init_7 ?_
  show BB G pre b e_X1_init (blk1 G.2 b) 9 [(0, .ref b)] [.ref (b + 1), .ref b] (.inr (1, [.null, .int 0]) :: [iaE G.2 16]) (1, 16)
  refine bb_putF (pc := 9) (kc := 0) 0 (.ref (b + 1)) tyX1 (.array .int) (by decide) rfl (by decide) uTB1 tyX1_ok nmX1 k386 rfl rfl (by decide +kernel) rfl rfl (Nat.le_of_ble_eq_true rfl) rfl rfl dX1_init_9 ?_
  show BB G pre b e_X1_init (blk1 G.2 b) 12 [(0, .ref b)] [] (.inr (1, [.ref (b + 1), .int 0]) :: [iaE G.2 16]) (1, 16)
  refine bb_ret (pc := 12) rfl dX1_init_12 ⟨Nat.le_of_ble_eq_true rfl, Nat.le_of_ble_eq_true rfl⟩ ?_
  rfl
abbrev dfl0 : va_E := .inr (0, [.null, .int 0, .int 0])
theorem df0 : ∀ j, j < 3 → defaultValue (tyX0 j) = vp_V [.null, .int 0, .int 0] j := fun j hj => by
  rcases (show j = 0 ∨ j = 1 ∨ j = 2 by omega) with rfl | rfl | rfl <;> rfl
abbrev e_X0_init : ME := (cX0_init, (RX0, (2, (none, (49, (288, 2))))))
theorem dX0_init_0 : decode cX0_init 0 = .ok (.aload_n 0, 1) := by decide +kernel
theorem dX0_init_1 : decode cX0_init 1 = .ok (.invokespecial 3, 3) := by decide +kernel
theorem dX0_init_4 : decode cX0_init 4 = .ok (.aload_n 0, 1) := by decide +kernel
theorem dX0_init_5 : decode cX0_init 5 = .ok (.bipush 24, 2) := by decide +kernel
theorem dX0_init_7 : decode cX0_init 7 = .ok (.anewarray 9, 3) := by decide +kernel
theorem dX0_init_10 : decode cX0_init 10 = .ok (.putfield 11, 3) := by decide +kernel
theorem dX0_init_13 : decode cX0_init 13 = .ok (.iconst 0, 1) := by decide +kernel
theorem dX0_init_14 : decode cX0_init 14 = .ok (.istore_n 1, 1) := by decide +kernel
theorem dX0_init_15 : decode cX0_init 15 = .ok (.iload_n 1, 1) := by decide +kernel
theorem dX0_init_16 : decode cX0_init 16 = .ok (.bipush 24, 2) := by decide +kernel
theorem dX0_init_18 : decode cX0_init 18 = .ok (.if_icmp .ge 22, 3) := by decide +kernel
theorem dX0_init_21 : decode cX0_init 21 = .ok (.aload_n 0, 1) := by decide +kernel
theorem dX0_init_22 : decode cX0_init 22 = .ok (.getfield 11, 3) := by decide +kernel
theorem dX0_init_25 : decode cX0_init 25 = .ok (.iload_n 1, 1) := by decide +kernel
theorem dX0_init_26 : decode cX0_init 26 = .ok (.new 9, 3) := by decide +kernel
theorem dX0_init_29 : decode cX0_init 29 = .ok (.dup, 1) := by decide +kernel
theorem dX0_init_30 : decode cX0_init 30 = .ok (.invokespecial 17, 3) := by decide +kernel
theorem dX0_init_33 : decode cX0_init 33 = .ok (.aastore, 1) := by decide +kernel
theorem dX0_init_34 : decode cX0_init 34 = .ok (.iinc 1 1, 3) := by decide +kernel
theorem dX0_init_37 : decode cX0_init 37 = .ok (.goto (-22), 3) := by decide +kernel
theorem dX0_init_40 : decode cX0_init 40 = .ok (.return_, 1) := by decide +kernel
/-- the standings of the ring, the first k of them -/
def stdR (Y : Nat → ClassId) (b k : Nat) : List va_E := (List.range k).flatMap (fun j => blk8 Y (b + 2 + 2 * j))
theorem stdR_s (Y : Nat → ClassId) (b k : Nat) : stdR Y b (k + 1) = stdR Y b k ++ blk8 Y (b + 2 + 2 * k) := by
  unfold stdR
  rw [List.range_succ, List.flatMap_append]
  simp
theorem stdR_len (Y : Nat → ClassId) (b : Nat) : ∀ k, (stdR Y b k).length = 2 * k
  | 0 => rfl
  | k + 1 => by
    rw [stdR_s, List.length_append, stdR_len Y b k]
    show 2 * k + 2 = 2 * (k + 1)
    omega
def blk0 (Y : Nat → ClassId) (b : Nat) : List va_E := .inr (0, [.ref (b + 1), .int 0, .int 0]) :: raE Y 3 24 (fun j => if j < 24 then some (b + 2 + 2 * j) else none) :: stdR Y b 24
set_option maxRecDepth 20000 in
set_option maxHeartbeats 4000000 in
theorem SB0 : SndB yX0_init e_X0_init dfl0 blk0 := by
  refine SndB.of (by decide +kernel) rfl rfl (by decide) (fun G pre b => ?_)
  have loop : ∀ e k, 24 + 1 ≤ k + e → k ≤ 24 → BB G pre b e_X0_init (blk0 G.2 b) 15 [(1, .int (nI k)), (0, .ref b)] [] (.inr (0, [.ref (b + 1), .int 0, .int 0]) :: raE G.2 3 24 (fun j => if j < k then some (b + 2 + 2 * j) else none) :: stdR G.2 b k) (1 + 2 * k, 24 + 11 * k) := by
    intro e
    induction e with
    | zero => intro k z1 z2; omega
    | succ e ih =>
      intro k z1 z2
      refine bb_iload (pc := 15) 1 0 dX0_init_15 rfl rfl ?_
      refine bb_bipush (pc := 16) (nI 24) dX0_init_16 (by decide) ?_
      refine bb_icmp_ge (pc := 18) 40 dX0_init_18 (by decide) (fun c18 => ?_) (fun c18 => ?_)
      · rw [n_le (by omega) (by omega)] at c18
        have ek : k = 24 := by omega
        subst ek
        exact bb_ret (pc := 40) rfl dX0_init_40 ⟨Nat.le_of_ble_eq_true rfl, Nat.le_of_ble_eq_true rfl⟩ rfl
      · rw [n_le (by omega) (by omega)] at c18
        refine bb_aload (pc := 21) 0 1 dX0_init_21 rfl rfl ?_
        refine bb_get (pc := 22) (kc := 0) 0 rfl (by decide) uTB0 k299 rfl rfl rfl dX0_init_22 ?_
        refine bb_iload (pc := 25) 1 0 dX0_init_25 rfl rfl ?_
        refine bb_new (pc := 26) (t := 8) [.null, .int 0, .int 0, .int 0, .int 0, .int 0] tyX8 rfl uTB8 tyX8_ok k296 k222 k74 (df8) ⟨show 1 + 2 * k + 1 ≤ 49 by omega, show 24 + 11 * k + 6 ≤ 288 by omega⟩ dX0_init_26 ?_
        refine bb_dup (pc := 29) dX0_init_29 ?_
        have len : (Sum.inr (0, [.ref (b + 1), .int 0, .int 0]) :: raE G.2 3 24 (fun j => if j < k then some (b + 2 + 2 * j) else none) :: stdR G.2 b k : List va_E).length = 2 + 2 * k := by
          show (stdR G.2 b k).length + 1 + 1 = _
          rw [stdR_len]
          omega
        refine bb_call (pc := 30) SB8 (Or.inr (List.mem_of_getElem? (i := 5) rfl)) k224 k74 k225 rfl (show _ ∧ _ ∧ Option.map (fun d => d.parameters.length) (parseMethodDescriptor yX8_init.desc) = some 0 from by decide +kernel) rfl ⟨by decide, by decide⟩ ⟨show 1 + 2 * k + 1 + 1 ≤ 49 by omega, show 24 + 11 * k + 6 + 5 ≤ 288 by omega⟩ (Nat.le_of_ble_eq_true rfl) rfl dX0_init_30 ?_
        rw [len]
        have e2 : b + (2 + 2 * k) = b + 2 + 2 * k := by omega
        rw [e2]
        refine bb_aast (pc := 33) (kc := 1) (kv := 2 + 2 * k) (N := 24) (t := 8) (t0 := 3) (f := fun j => if j < k then some (b + 2 + 2 * j) else none) (r := (RX8, TX8, 6)) (vs := [.ref (b + 2 + 2 * k + 1), .int 0, .int 0, .int 0, .int 0, .int 0]) rfl rfl rfl ?_ (by omega) rfl (n_in (by omega) (by omega)) dX0_init_33 ?_
        · rw [List.getElem?_append_right (by rw [len]; omega), len, show 2 + 2 * k - (2 + 2 * k) = 0 by omega]
          rfl
        · have eu : va_up (fun j => if j < k then some (b + 2 + 2 * j) else none) (nI k).toNatClampNeg (some (b + 2 + 2 * k)) = (fun j => if j < k + 1 then some (b + 2 + 2 * j) else none) := by
            funext i
            unfold va_up
            rw [n_cl (by omega)]
            by_cases q : i = k
            · subst q
              rw [if_pos rfl, if_pos (by omega)]
            · rw [if_neg q]
              show (if i < k then _ else _) = _
              by_cases q2 : i < k
              · rw [if_pos q2, if_pos (by omega)]
              · rw [if_neg q2, if_neg (by omega)]
          rw [eu]
          refine bb_iinc (pc := 34) (L' := [(1, .int (nI (k + 1))), (0, .ref b)]) 1 0 dX0_init_34 rfl (n_inc k) (by decide) rfl ?_
          refine bb_goto (pc := 37) 15 dX0_init_37 (by decide) ?_
          have l := ih (k + 1) (by omega) (by omega)
          rw [stdR_s] at l
          exact bb_mono l (show 1 + 2 * k + 1 + 1 ≤ 1 + 2 * (k + 1) by omega) (show 24 + 11 * k + 6 + 5 ≤ 24 + 11 * (k + 1) by omega)
  show BB G pre b e_X0_init (blk0 G.2 b) 0 [(0, .ref b)] [] (.inr (0, [.null, .int 0, .int 0]) :: []) (0, 0)
  refine bb_aload (pc := 0) 0 0 dX0_init_0 rfl rfl ?_
  refine bb_obj (pc := 1) k295 k91 k92 dX0_init_1 (by decide) rfl ?_
  refine bb_aload (pc := 4) 0 0 dX0_init_4 rfl rfl ?_
  refine bb_bipush (pc := 5) (nI 24) dX0_init_5 (by decide) ?_
  refine bb_newR (pc := 7) (N := 24) (t0 := 3) (C := "BelievedWords$Standing") rfl (by decide) (by decide) k296 ⟨Nat.le_of_ble_eq_true rfl, Nat.le_of_ble_eq_true rfl⟩ dX0_init_7 ?_
  show BB G pre b e_X0_init (blk0 G.2 b) 10 [(0, .ref b)] [.ref (b + 1), .ref b] (.inr (0, [.null, .int 0, .int 0]) :: [raE G.2 3 24 (fun _ => none)]) (1, 24)
  refine bb_putF (pc := 10) (kc := 0) 0 (.ref (b + 1)) tyX0 (.array (.object "BelievedWords$Standing")) (by decide) rfl (by decide) uTB0 tyX0_ok nmX0 k299 rfl rfl (by decide +kernel) rfl rfl (Nat.le_of_ble_eq_true rfl) rfl rfl dX0_init_10 ?_
  show BB G pre b e_X0_init (blk0 G.2 b) 13 [(0, .ref b)] [] (.inr (0, [.ref (b + 1), .int 0, .int 0]) :: [raE G.2 3 24 (fun _ => none)]) (1, 24)
  refine bb_iconst (pc := 13) (nI 0) dX0_init_13 (by decide) ?_
  refine bb_istore (pc := 14) (L' := [(1, .int (nI 0)), (0, .ref b)]) 1 dX0_init_14 rfl (by decide) rfl ?_
  have l := loop 25 0 (by omega) (by omega)
  rw [show (fun j => if j < 0 then some (b + 2 + 2 * j) else none) = (fun _ => none : Nat → Option Nat) from by
    funext j
    exact if_neg (Nat.not_lt_zero j)] at l
  exact l
