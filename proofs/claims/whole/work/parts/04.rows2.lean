/-! ROWS, second part: branches, locals, returns, arrays. -/
theorem KDl_len : KDl.length = 125 := by decide +kernel
theorem KD_ge {i : Nat} (h : 125 ≤ i) : KD i = 12 := by
  unfold KD
  rw [List.getD_eq_getElem?_getD, List.getElem?_eq_none (by rw [KDl_len]; exact h)]
  rfl
theorem b_if_eq {E : ME} {Φ : Option AV → AM → Prop} {pc : Nat} {L : List (Option AV)} {st : List AV} {m : AM} {a : Nat × Nat} {x : Int32} {off : Int} (tgt : Nat) (hd : decode E.1 pc = .ok (.ifCond .eq off, 3)) (ht : (pc : Int) + off = (tgt : Int)) (kt : x = 0 → B E Φ tgt L st m a) (kf : ¬ x = 0 → B E Φ (pc + 3) L st m a) : B E Φ pc (L) (vi x :: st) m a := by
  intro p l e R s mi args below meth c G ad0 nx0 A ad H locs ls hOk hIn hL hst
  exact lv_if_eq hOk.1 hOk.2.1 hd ht (fun h => kt h p l e R s mi args below meth c G ad0 nx0 A ad H locs ls hOk hIn hL (sw_tl hst)) (fun h => kf h p l e R s mi args below meth c G ad0 nx0 A ad H locs ls hOk hIn hL (sw_tl hst))
theorem b_if_ne {E : ME} {Φ : Option AV → AM → Prop} {pc : Nat} {L : List (Option AV)} {st : List AV} {m : AM} {a : Nat × Nat} {x : Int32} {off : Int} (tgt : Nat) (hd : decode E.1 pc = .ok (.ifCond .ne off, 3)) (ht : (pc : Int) + off = (tgt : Int)) (kt : ¬ x = 0 → B E Φ tgt L st m a) (kf : x = 0 → B E Φ (pc + 3) L st m a) : B E Φ pc (L) (vi x :: st) m a := by
  intro p l e R s mi args below meth c G ad0 nx0 A ad H locs ls hOk hIn hL hst
  exact lv_if_ne hOk.1 hOk.2.1 hd ht (fun h => kt h p l e R s mi args below meth c G ad0 nx0 A ad H locs ls hOk hIn hL (sw_tl hst)) (fun h => kf h p l e R s mi args below meth c G ad0 nx0 A ad H locs ls hOk hIn hL (sw_tl hst))
theorem b_if_lt {E : ME} {Φ : Option AV → AM → Prop} {pc : Nat} {L : List (Option AV)} {st : List AV} {m : AM} {a : Nat × Nat} {x : Int32} {off : Int} (tgt : Nat) (hd : decode E.1 pc = .ok (.ifCond .lt off, 3)) (ht : (pc : Int) + off = (tgt : Int)) (kt : x < 0 → B E Φ tgt L st m a) (kf : ¬ x < 0 → B E Φ (pc + 3) L st m a) : B E Φ pc (L) (vi x :: st) m a := by
  intro p l e R s mi args below meth c G ad0 nx0 A ad H locs ls hOk hIn hL hst
  exact lv_if_lt hOk.1 hOk.2.1 hd ht (fun h => kt h p l e R s mi args below meth c G ad0 nx0 A ad H locs ls hOk hIn hL (sw_tl hst)) (fun h => kf h p l e R s mi args below meth c G ad0 nx0 A ad H locs ls hOk hIn hL (sw_tl hst))
theorem b_if_ge {E : ME} {Φ : Option AV → AM → Prop} {pc : Nat} {L : List (Option AV)} {st : List AV} {m : AM} {a : Nat × Nat} {x : Int32} {off : Int} (tgt : Nat) (hd : decode E.1 pc = .ok (.ifCond .ge off, 3)) (ht : (pc : Int) + off = (tgt : Int)) (kt : 0 ≤ x → B E Φ tgt L st m a) (kf : ¬ 0 ≤ x → B E Φ (pc + 3) L st m a) : B E Φ pc (L) (vi x :: st) m a := by
  intro p l e R s mi args below meth c G ad0 nx0 A ad H locs ls hOk hIn hL hst
  exact lv_if_ge hOk.1 hOk.2.1 hd ht (fun h => kt h p l e R s mi args below meth c G ad0 nx0 A ad H locs ls hOk hIn hL (sw_tl hst)) (fun h => kf h p l e R s mi args below meth c G ad0 nx0 A ad H locs ls hOk hIn hL (sw_tl hst))
theorem b_if_gt {E : ME} {Φ : Option AV → AM → Prop} {pc : Nat} {L : List (Option AV)} {st : List AV} {m : AM} {a : Nat × Nat} {x : Int32} {off : Int} (tgt : Nat) (hd : decode E.1 pc = .ok (.ifCond .gt off, 3)) (ht : (pc : Int) + off = (tgt : Int)) (kt : 0 < x → B E Φ tgt L st m a) (kf : ¬ 0 < x → B E Φ (pc + 3) L st m a) : B E Φ pc (L) (vi x :: st) m a := by
  intro p l e R s mi args below meth c G ad0 nx0 A ad H locs ls hOk hIn hL hst
  exact lv_if_gt hOk.1 hOk.2.1 hd ht (fun h => kt h p l e R s mi args below meth c G ad0 nx0 A ad H locs ls hOk hIn hL (sw_tl hst)) (fun h => kf h p l e R s mi args below meth c G ad0 nx0 A ad H locs ls hOk hIn hL (sw_tl hst))
theorem b_if_le {E : ME} {Φ : Option AV → AM → Prop} {pc : Nat} {L : List (Option AV)} {st : List AV} {m : AM} {a : Nat × Nat} {x : Int32} {off : Int} (tgt : Nat) (hd : decode E.1 pc = .ok (.ifCond .le off, 3)) (ht : (pc : Int) + off = (tgt : Int)) (kt : x ≤ 0 → B E Φ tgt L st m a) (kf : ¬ x ≤ 0 → B E Φ (pc + 3) L st m a) : B E Φ pc (L) (vi x :: st) m a := by
  intro p l e R s mi args below meth c G ad0 nx0 A ad H locs ls hOk hIn hL hst
  exact lv_if_le hOk.1 hOk.2.1 hd ht (fun h => kt h p l e R s mi args below meth c G ad0 nx0 A ad H locs ls hOk hIn hL (sw_tl hst)) (fun h => kf h p l e R s mi args below meth c G ad0 nx0 A ad H locs ls hOk hIn hL (sw_tl hst))
theorem b_icmp_eq {E : ME} {Φ : Option AV → AM → Prop} {pc : Nat} {L : List (Option AV)} {st : List AV} {m : AM} {a : Nat × Nat} {x y : Int32} {off : Int} (tgt : Nat) (hd : decode E.1 pc = .ok (.if_icmp .eq off, 3)) (ht : (pc : Int) + off = (tgt : Int)) (kt : x = y → B E Φ tgt L st m a) (kf : ¬ x = y → B E Φ (pc + 3) L st m a) : B E Φ pc (L) (vi y :: vi x :: st) m a := by
  intro p l e R s mi args below meth c G ad0 nx0 A ad H locs ls hOk hIn hL hst
  exact lv_icmp_eq hOk.1 hOk.2.1 hd ht (fun h => kt h p l e R s mi args below meth c G ad0 nx0 A ad H locs ls hOk hIn hL (sw_tl (sw_tl hst))) (fun h => kf h p l e R s mi args below meth c G ad0 nx0 A ad H locs ls hOk hIn hL (sw_tl (sw_tl hst)))
theorem b_icmp_ne {E : ME} {Φ : Option AV → AM → Prop} {pc : Nat} {L : List (Option AV)} {st : List AV} {m : AM} {a : Nat × Nat} {x y : Int32} {off : Int} (tgt : Nat) (hd : decode E.1 pc = .ok (.if_icmp .ne off, 3)) (ht : (pc : Int) + off = (tgt : Int)) (kt : ¬ x = y → B E Φ tgt L st m a) (kf : x = y → B E Φ (pc + 3) L st m a) : B E Φ pc (L) (vi y :: vi x :: st) m a := by
  intro p l e R s mi args below meth c G ad0 nx0 A ad H locs ls hOk hIn hL hst
  exact lv_icmp_ne hOk.1 hOk.2.1 hd ht (fun h => kt h p l e R s mi args below meth c G ad0 nx0 A ad H locs ls hOk hIn hL (sw_tl (sw_tl hst))) (fun h => kf h p l e R s mi args below meth c G ad0 nx0 A ad H locs ls hOk hIn hL (sw_tl (sw_tl hst)))
theorem b_icmp_lt {E : ME} {Φ : Option AV → AM → Prop} {pc : Nat} {L : List (Option AV)} {st : List AV} {m : AM} {a : Nat × Nat} {x y : Int32} {off : Int} (tgt : Nat) (hd : decode E.1 pc = .ok (.if_icmp .lt off, 3)) (ht : (pc : Int) + off = (tgt : Int)) (kt : x < y → B E Φ tgt L st m a) (kf : ¬ x < y → B E Φ (pc + 3) L st m a) : B E Φ pc (L) (vi y :: vi x :: st) m a := by
  intro p l e R s mi args below meth c G ad0 nx0 A ad H locs ls hOk hIn hL hst
  exact lv_icmp_lt hOk.1 hOk.2.1 hd ht (fun h => kt h p l e R s mi args below meth c G ad0 nx0 A ad H locs ls hOk hIn hL (sw_tl (sw_tl hst))) (fun h => kf h p l e R s mi args below meth c G ad0 nx0 A ad H locs ls hOk hIn hL (sw_tl (sw_tl hst)))
theorem b_icmp_ge {E : ME} {Φ : Option AV → AM → Prop} {pc : Nat} {L : List (Option AV)} {st : List AV} {m : AM} {a : Nat × Nat} {x y : Int32} {off : Int} (tgt : Nat) (hd : decode E.1 pc = .ok (.if_icmp .ge off, 3)) (ht : (pc : Int) + off = (tgt : Int)) (kt : y ≤ x → B E Φ tgt L st m a) (kf : ¬ y ≤ x → B E Φ (pc + 3) L st m a) : B E Φ pc (L) (vi y :: vi x :: st) m a := by
  intro p l e R s mi args below meth c G ad0 nx0 A ad H locs ls hOk hIn hL hst
  exact lv_icmp_ge hOk.1 hOk.2.1 hd ht (fun h => kt h p l e R s mi args below meth c G ad0 nx0 A ad H locs ls hOk hIn hL (sw_tl (sw_tl hst))) (fun h => kf h p l e R s mi args below meth c G ad0 nx0 A ad H locs ls hOk hIn hL (sw_tl (sw_tl hst)))
theorem b_icmp_gt {E : ME} {Φ : Option AV → AM → Prop} {pc : Nat} {L : List (Option AV)} {st : List AV} {m : AM} {a : Nat × Nat} {x y : Int32} {off : Int} (tgt : Nat) (hd : decode E.1 pc = .ok (.if_icmp .gt off, 3)) (ht : (pc : Int) + off = (tgt : Int)) (kt : y < x → B E Φ tgt L st m a) (kf : ¬ y < x → B E Φ (pc + 3) L st m a) : B E Φ pc (L) (vi y :: vi x :: st) m a := by
  intro p l e R s mi args below meth c G ad0 nx0 A ad H locs ls hOk hIn hL hst
  exact lv_icmp_gt hOk.1 hOk.2.1 hd ht (fun h => kt h p l e R s mi args below meth c G ad0 nx0 A ad H locs ls hOk hIn hL (sw_tl (sw_tl hst))) (fun h => kf h p l e R s mi args below meth c G ad0 nx0 A ad H locs ls hOk hIn hL (sw_tl (sw_tl hst)))
theorem b_icmp_le {E : ME} {Φ : Option AV → AM → Prop} {pc : Nat} {L : List (Option AV)} {st : List AV} {m : AM} {a : Nat × Nat} {x y : Int32} {off : Int} (tgt : Nat) (hd : decode E.1 pc = .ok (.if_icmp .le off, 3)) (ht : (pc : Int) + off = (tgt : Int)) (kt : x ≤ y → B E Φ tgt L st m a) (kf : ¬ x ≤ y → B E Φ (pc + 3) L st m a) : B E Φ pc (L) (vi y :: vi x :: st) m a := by
  intro p l e R s mi args below meth c G ad0 nx0 A ad H locs ls hOk hIn hL hst
  exact lv_icmp_le hOk.1 hOk.2.1 hd ht (fun h => kt h p l e R s mi args below meth c G ad0 nx0 A ad H locs ls hOk hIn hL (sw_tl (sw_tl hst))) (fun h => kf h p l e R s mi args below meth c G ad0 nx0 A ad H locs ls hOk hIn hL (sw_tl (sw_tl hst)))
theorem b_goto {E : ME} {Φ : Option AV → AM → Prop} {pc : Nat} {L : List (Option AV)} {st : List AV} {m : AM} {a : Nat × Nat} {off : Int} (tgt : Nat) (hd : decode E.1 pc = .ok (.goto off, 3)) (ht : (pc : Int) + off = (tgt : Int)) (k : B E Φ tgt L st m a) : B E Φ pc (L) (st) m a := by
  intro p l e R s mi args below meth c G ad0 nx0 A ad H locs ls hOk hIn hL hst
  exact lv_goto hOk.1 hOk.2.1 hd ht (k p l e R s mi args below meth c G ad0 nx0 A ad H locs ls hOk hIn hL hst)
theorem b_tableIn {E : ME} {Φ : Option AV → AM → Prop} {pc : Nat} {L : List (Option AV)} {st : List AV} {m : AM} {a : Nat × Nat} {dflt lo hi : Int} {offs : Array Int} {len : Nat} {x : Int32} {off : Int} (tgt : Nat) (hd : decode E.1 pc = .ok (.tableswitch dflt lo hi offs, len)) (h1 : ¬ x.toInt < lo) (h2 : ¬ hi < x.toInt) (ho : offs[(x.toInt - lo).toNat]? = some off) (ht : (pc : Int) + off = (tgt : Int)) (k : B E Φ tgt L st m a) : B E Φ pc (L) (vi x :: st) m a := by
  intro p l e R s mi args below meth c G ad0 nx0 A ad H locs ls hOk hIn hL hst
  exact lv_tableIn hOk.1 hOk.2.1 hd h1 h2 ho ht (k p l e R s mi args below meth c G ad0 nx0 A ad H locs ls hOk hIn hL (sw_tl hst))
theorem b_tableOut {E : ME} {Φ : Option AV → AM → Prop} {pc : Nat} {L : List (Option AV)} {st : List AV} {m : AM} {a : Nat × Nat} {dflt lo hi : Int} {offs : Array Int} {len : Nat} {x : Int32} (tgt : Nat) (hd : decode E.1 pc = .ok (.tableswitch dflt lo hi offs, len)) (h : x.toInt < lo ∨ hi < x.toInt) (ht : (pc : Int) + dflt = (tgt : Int)) (k : B E Φ tgt L st m a) : B E Φ pc (L) (vi x :: st) m a := by
  intro p l e R s mi args below meth c G ad0 nx0 A ad H locs ls hOk hIn hL hst
  exact lv_tableOut hOk.1 hOk.2.1 hd h ht (k p l e R s mi args below meth c G ad0 nx0 A ad H locs ls hOk hIn hL (sw_tl hst))
theorem b_lookup {E : ME} {Φ : Option AV → AM → Prop} {pc : Nat} {L : List (Option AV)} {st : List AV} {m : AM} {a : Nat × Nat} {dflt : Int} {ps : Array (Int × Int)} {len : Nat} {x : Int32} {off : Int} (tgt : Nat) (hd : decode E.1 pc = .ok (.lookupswitch dflt ps, len)) (hp : (ps.toList.zip (ps.toList.drop 1)).all (fun (a, next) => a.1 < next.1) = true) (ho : Op.lookupswitch.offset ps.toList dflt x.toInt = off) (ht : (pc : Int) + off = (tgt : Int)) (k : B E Φ tgt L st m a) : B E Φ pc (L) (vi x :: st) m a := by
  intro p l e R s mi args below meth c G ad0 nx0 A ad H locs ls hOk hIn hL hst
  exact lv_lookup hOk.1 hOk.2.1 hd hp ho ht (k p l e R s mi args below meth c G ad0 nx0 A ad H locs ls hOk hIn hL (sw_tl hst))
theorem b_dup_i {E : ME} {Φ : Option AV → AM → Prop} {pc : Nat} {L : List (Option AV)} {st : List AV} {m : AM} {a : Nat × Nat} {x : Int32} (hd : decode E.1 pc = .ok (.dup, 1)) (k : B E Φ (pc + 1) L (vi x :: vi x :: st) m a) : B E Φ pc (L) (vi x :: st) m a := by
  intro p l e R s mi args below meth c G ad0 nx0 A ad H locs ls hOk hIn hL hst
  exact lv_dup hOk.1 hOk.2.1 hd rfl (k p l e R s mi args below meth c G ad0 nx0 A ad H locs ls hOk hIn hL (sw_i hst))
theorem b_dup_r {E : ME} {Φ : Option AV → AM → Prop} {pc : Nat} {L : List (Option AV)} {st : List AV} {m : AM} {a : Nat × Nat} {t i : Nat} (hd : decode E.1 pc = .ok (.dup, 1)) (k : B E Φ (pc + 1) L (vr t i :: vr t i :: st) m a) : B E Φ pc (L) (vr t i :: st) m a := by
  intro p l e R s mi args below meth c G ad0 nx0 A ad H locs ls hOk hIn hL hst
  exact lv_dup hOk.1 hOk.2.1 hd rfl (k p l e R s mi args below meth c G ad0 nx0 A ad H locs ls hOk hIn hL (sw_c (hst _ List.mem_cons_self) hst))
theorem b_dup2 {E : ME} {Φ : Option AV → AM → Prop} {pc : Nat} {L : List (Option AV)} {st : List AV} {m : AM} {a : Nat × Nat} {t i : Nat} {x : Int32} (hd : decode E.1 pc = .ok (.dup2, 1)) (k : B E Φ (pc + 1) L (vi x :: vr t i :: vi x :: vr t i :: st) m a) : B E Φ pc (L) (vi x :: vr t i :: st) m a := by
  intro p l e R s mi args below meth c G ad0 nx0 A ad H locs ls hOk hIn hL hst
  exact lv_dup2_11 hOk.1 hOk.2.1 hd rfl rfl (k p l e R s mi args below meth c G ad0 nx0 A ad H locs ls hOk hIn hL (sw_i (sw_c (hst _ (List.mem_cons_of_mem _ List.mem_cons_self)) hst)))
theorem b_pop_i {E : ME} {Φ : Option AV → AM → Prop} {pc : Nat} {L : List (Option AV)} {st : List AV} {m : AM} {a : Nat × Nat} {x : Int32} (hd : decode E.1 pc = .ok (.pop, 1)) (k : B E Φ (pc + 1) L st m a) : B E Φ pc (L) (vi x :: st) m a := by
  intro p l e R s mi args below meth c G ad0 nx0 A ad H locs ls hOk hIn hL hst
  exact lv_pop hOk.1 hOk.2.1 hd rfl (k p l e R s mi args below meth c G ad0 nx0 A ad H locs ls hOk hIn hL (sw_tl hst))
theorem b_dup_x1 {E : ME} {Φ : Option AV → AM → Prop} {pc : Nat} {L : List (Option AV)} {st : List AV} {m : AM} {a : Nat × Nat} {t i : Nat} {x : Int32} (hd : decode E.1 pc = .ok (.dup_x1, 1)) (k : B E Φ (pc + 1) L (vi x :: vr t i :: vi x :: st) m a) : B E Φ pc (L) (vi x :: vr t i :: st) m a := by
  intro p l e R s mi args below meth c G ad0 nx0 A ad H locs ls hOk hIn hL hst
  exact lv_dup_x1 hOk.1 hOk.2.1 hd rfl rfl (k p l e R s mi args below meth c G ad0 nx0 A ad H locs ls hOk hIn hL (sw_i (sw_c (hst _ (List.mem_cons_of_mem _ List.mem_cons_self)) (sw_i (sw_tl (sw_tl hst))))))
theorem b_iloadN {E : ME} {Φ : Option AV → AM → Prop} {pc : Nat} {L : List (Option AV)} {st : List AV} {m : AM} {a : Nat × Nat} {k4 : Fin 4} {x : Int32} (j : Nat) (hd : decode E.1 pc = .ok (.iload_n k4, 1)) (hj : (k4 : Nat) = j) (hl : L[j]? = some (some (vi x))) (k : B E Φ (pc + 1) L (vi x :: st) m a) : B E Φ pc (L) (st) m a := by
  intro p l e R s mi args below meth c G ad0 nx0 A ad H locs ls hOk hIn hL hst
  exact lv_iload_n hOk.1 hOk.2.1 hd hj (hL.2.2 _ _ hl).1 (k p l e R s mi args below meth c G ad0 nx0 A ad H locs ls hOk hIn hL (sw_i hst))
theorem b_iloadG {E : ME} {Φ : Option AV → AM → Prop} {pc : Nat} {L : List (Option AV)} {st : List AV} {m : AM} {a : Nat × Nat} {x : Int32} (j : Nat) (hd : decode E.1 pc = .ok (.iload j, 2)) (hl : L[j]? = some (some (vi x))) (k : B E Φ (pc + 2) L (vi x :: st) m a) : B E Φ pc (L) (st) m a := by
  intro p l e R s mi args below meth c G ad0 nx0 A ad H locs ls hOk hIn hL hst
  exact lv_iload hOk.1 hOk.2.1 hd (hL.2.2 _ _ hl).1 (k p l e R s mi args below meth c G ad0 nx0 A ad H locs ls hOk hIn hL (sw_i hst))
theorem b_lloadN {E : ME} {Φ : Option AV → AM → Prop} {pc : Nat} {L : List (Option AV)} {st : List AV} {m : AM} {a : Nat × Nat} {k4 : Fin 4} {x : Int64} (j : Nat) (hd : decode E.1 pc = .ok (.lload_n k4, 1)) (hj : (k4 : Nat) = j) (hl : L[j]? = some (some (vl x))) (k : B E Φ (pc + 1) L (vl x :: st) m a) : B E Φ pc (L) (st) m a := by
  intro p l e R s mi args below meth c G ad0 nx0 A ad H locs ls hOk hIn hL hst
  exact lv_lload_n hOk.1 hOk.2.1 hd hj (hL.2.2 _ _ hl).1 (k p l e R s mi args below meth c G ad0 nx0 A ad H locs ls hOk hIn hL (sw_l hst))
theorem b_lloadG {E : ME} {Φ : Option AV → AM → Prop} {pc : Nat} {L : List (Option AV)} {st : List AV} {m : AM} {a : Nat × Nat} {x : Int64} (j : Nat) (hd : decode E.1 pc = .ok (.lload j, 2)) (hl : L[j]? = some (some (vl x))) (k : B E Φ (pc + 2) L (vl x :: st) m a) : B E Φ pc (L) (st) m a := by
  intro p l e R s mi args below meth c G ad0 nx0 A ad H locs ls hOk hIn hL hst
  exact lv_lload hOk.1 hOk.2.1 hd (hL.2.2 _ _ hl).1 (k p l e R s mi args below meth c G ad0 nx0 A ad H locs ls hOk hIn hL (sw_l hst))
theorem b_aloadN {E : ME} {Φ : Option AV → AM → Prop} {pc : Nat} {L : List (Option AV)} {st : List AV} {m : AM} {a : Nat × Nat} {k4 : Fin 4} {t i : Nat} (j : Nat) (hd : decode E.1 pc = .ok (.aload_n k4, 1)) (hj : (k4 : Nat) = j) (hl : L[j]? = some (some (vr t i))) (k : B E Φ (pc + 1) L (vr t i :: st) m a) : B E Φ pc (L) (st) m a := by
  intro p l e R s mi args below meth c G ad0 nx0 A ad H locs ls hOk hIn hL hst
  exact lv_aload_n hOk.1 hOk.2.1 hd hj (hL.2.2 _ _ hl).1 (k p l e R s mi args below meth c G ad0 nx0 A ad H locs ls hOk hIn hL (sw_c (hL.2.2 _ _ hl).2 hst))
theorem b_aloadG {E : ME} {Φ : Option AV → AM → Prop} {pc : Nat} {L : List (Option AV)} {st : List AV} {m : AM} {a : Nat × Nat} {t i : Nat} (j : Nat) (hd : decode E.1 pc = .ok (.aload j, 2)) (hl : L[j]? = some (some (vr t i))) (k : B E Φ (pc + 2) L (vr t i :: st) m a) : B E Φ pc (L) (st) m a := by
  intro p l e R s mi args below meth c G ad0 nx0 A ad H locs ls hOk hIn hL hst
  exact lv_aload hOk.1 hOk.2.1 hd (hL.2.2 _ _ hl).1 (k p l e R s mi args below meth c G ad0 nx0 A ad H locs ls hOk hIn hL (sw_c (hL.2.2 _ _ hl).2 hst))
theorem b_istoreN {E : ME} {Φ : Option AV → AM → Prop} {pc : Nat} {L : List (Option AV)} {st : List AV} {m : AM} {a : Nat × Nat} {k4 : Fin 4} {x : Int32} (j : Nat) (hd : decode E.1 pc = .ok (.istore_n k4, 1)) (hj : (k4 : Nat) = j) (hn : noL L j) (hj2 : j < E.2.2.1) (k : B E Φ (pc + 1) (L.set j (some (vi x))) st m a) : B E Φ pc (L) (vi x :: st) m a := by
  intro p l e R s mi args below meth c G ad0 nx0 A ad H locs ls hOk hIn hL hst
  exact lv_istore_n hOk.1 hOk.2.1 hd hj hL.lv hj2 rfl (fun ls' h' => k p l e R s mi args below meth c G ad0 nx0 A ad H locs ls' hOk hIn (hL.put hn trivial h') (sw_tl hst))
theorem b_istoreG {E : ME} {Φ : Option AV → AM → Prop} {pc : Nat} {L : List (Option AV)} {st : List AV} {m : AM} {a : Nat × Nat} {x : Int32} (j : Nat) (hd : decode E.1 pc = .ok (.istore j, 2)) (hn : noL L j) (hj2 : j < E.2.2.1) (k : B E Φ (pc + 2) (L.set j (some (vi x))) st m a) : B E Φ pc (L) (vi x :: st) m a := by
  intro p l e R s mi args below meth c G ad0 nx0 A ad H locs ls hOk hIn hL hst
  exact lv_istore hOk.1 hOk.2.1 hd hL.lv hj2 rfl (fun ls' h' => k p l e R s mi args below meth c G ad0 nx0 A ad H locs ls' hOk hIn (hL.put hn trivial h') (sw_tl hst))
theorem b_astoreN {E : ME} {Φ : Option AV → AM → Prop} {pc : Nat} {L : List (Option AV)} {st : List AV} {m : AM} {a : Nat × Nat} {k4 : Fin 4} {t i : Nat} (j : Nat) (hd : decode E.1 pc = .ok (.astore_n k4, 1)) (hj : (k4 : Nat) = j) (hn : noL L j) (hj2 : j < E.2.2.1) (k : B E Φ (pc + 1) (L.set j (some (vr t i))) st m a) : B E Φ pc (L) (vr t i :: st) m a := by
  intro p l e R s mi args below meth c G ad0 nx0 A ad H locs ls hOk hIn hL hst
  exact lv_astore_n hOk.1 hOk.2.1 hd hj hL.lv hj2 rfl (fun ls' h' => k p l e R s mi args below meth c G ad0 nx0 A ad H locs ls' hOk hIn (hL.put hn (hst _ List.mem_cons_self) h') (sw_tl hst))
theorem b_astoreG {E : ME} {Φ : Option AV → AM → Prop} {pc : Nat} {L : List (Option AV)} {st : List AV} {m : AM} {a : Nat × Nat} {t i : Nat} (j : Nat) (hd : decode E.1 pc = .ok (.astore j, 2)) (hn : noL L j) (hj2 : j < E.2.2.1) (k : B E Φ (pc + 2) (L.set j (some (vr t i))) st m a) : B E Φ pc (L) (vr t i :: st) m a := by
  intro p l e R s mi args below meth c G ad0 nx0 A ad H locs ls hOk hIn hL hst
  exact lv_astore hOk.1 hOk.2.1 hd hL.lv hj2 rfl (fun ls' h' => k p l e R s mi args below meth c G ad0 nx0 A ad H locs ls' hOk hIn (hL.put hn (hst _ List.mem_cons_self) h') (sw_tl hst))
theorem b_lstoreN {E : ME} {Φ : Option AV → AM → Prop} {pc : Nat} {L : List (Option AV)} {st : List AV} {m : AM} {a : Nat × Nat} {k4 : Fin 4} {x : Int64} (j : Nat) (hd : decode E.1 pc = .ok (.lstore_n k4, 1)) (hj : (k4 : Nat) = j) (hn : noL L j) (hj2 : j + 1 < E.2.2.1) (k : B E Φ (pc + 1) ((L.set j (some (vl x))).set (j + 1) none) st m a) : B E Φ pc (L) (vl x :: st) m a := by
  intro p l e R s mi args below meth c G ad0 nx0 A ad H locs ls hOk hIn hL hst
  exact lv_lstore_n hOk.1 hOk.2.1 hd hj hL.lv hj2 rfl (fun ls' h' => k p l e R s mi args below meth c G ad0 nx0 A ad H locs ls' hOk hIn (hL.putL hn h') (sw_tl hst))
theorem b_lstoreG {E : ME} {Φ : Option AV → AM → Prop} {pc : Nat} {L : List (Option AV)} {st : List AV} {m : AM} {a : Nat × Nat} {x : Int64} (j : Nat) (hd : decode E.1 pc = .ok (.lstore j, 2)) (hn : noL L j) (hj2 : j + 1 < E.2.2.1) (k : B E Φ (pc + 2) ((L.set j (some (vl x))).set (j + 1) none) st m a) : B E Φ pc (L) (vl x :: st) m a := by
  intro p l e R s mi args below meth c G ad0 nx0 A ad H locs ls hOk hIn hL hst
  exact lv_lstore hOk.1 hOk.2.1 hd hL.lv hj2 rfl (fun ls' h' => k p l e R s mi args below meth c G ad0 nx0 A ad H locs ls' hOk hIn (hL.putL hn h') (sw_tl hst))
theorem b_iincG {E : ME} {Φ : Option AV → AM → Prop} {pc : Nat} {L : List (Option AV)} {st : List AV} {m : AM} {a : Nat × Nat} {x : Int32} {n : Int} (j : Nat) (hd : decode E.1 pc = .ok (.iinc j n, 3)) (hl : L[j]? = some (some (vi x))) (hn : noL L j) (hj2 : j < E.2.2.1) (k : B E Φ (pc + 3) (L.set j (some (vi (x + Int32.ofInt n)))) st m a) : B E Φ pc (L) (st) m a := by
  intro p l e R s mi args below meth c G ad0 nx0 A ad H locs ls hOk hIn hL hst
  obtain ⟨q, hq⟩ := List.getElem?_of_mem (lv_mem (ad := ad) hl)
  exact lv_iinc (v := x + Int32.ofInt n) hOk.1 hOk.2.1 hd hL.lv (k := q) hq rfl hj2 rfl (fun ls' h' => k p l e R s mi args below meth c G ad0 nx0 A ad H locs ls' hOk hIn (hL.put hn trivial h') hst)
theorem b_iret {E : ME} {Φ : Option AV → AM → Prop} {pc : Nat} {L : List (Option AV)} {m : AM} {a : Nat × Nat} {x : Int32} (hr : E.2.2.2.1 = some .int) (hd : decode E.1 pc = .ok (.ireturn, 1)) (ha : a.1 ≤ E.2.2.2.2.1 ∧ a.2 ≤ E.2.2.2.2.2.1) (h : Φ (some (vi x)) m) : B E Φ pc (L) ([vi x]) m a := by
  intro p l e R s mi args below meth c G ad0 nx0 A ad H locs ls hOk hIn hL hst
  refine W.widen ha.1 ha.2 ?_
  exact W.iret (v := x) hOk.1 hOk.2.1 (by rw [hOk.2.2.2.1, hr]) (fun t ht hW => ⟨⟨some (vi x), m, ad, rfl, h, fun v hv => by cases hv; trivial, hIn.2.2.2.2.2.2.2, ⟨by rw [ht]; exact hIn.2.1, va_K.moved hW.alike hIn.1, nw_up hW hOk.2.2.2.2.2.2.2.2, hIn.stt ht hW.alike⟩, hIn.2.2.1, hIn.2.2.2.2.2.2.1, hIn.2.2.2.2.2.1⟩, hIn.2.2.2.1.F ht⟩) hIn.2.2.2.1.2.2 hd hOk.2.2.2.2.2.2.1
theorem b_zret {E : ME} {Φ : Option AV → AM → Prop} {pc : Nat} {L : List (Option AV)} {m : AM} {a : Nat × Nat} {x : Int32} (hr : E.2.2.2.1 = some .boolean) (hx : x = 0 ∨ x = 1) (hd : decode E.1 pc = .ok (.ireturn, 1)) (ha : a.1 ≤ E.2.2.2.2.1 ∧ a.2 ≤ E.2.2.2.2.2.1) (h : Φ (some (vi x)) m) : B E Φ pc (L) ([vi x]) m a := by
  intro p l e R s mi args below meth c G ad0 nx0 A ad H locs ls hOk hIn hL hst
  refine W.widen ha.1 ha.2 ?_
  exact W.zret (v := x) (ty := .boolean) hOk.1 hOk.2.1 (by rw [hOk.2.2.2.1, hr]) (by rcases hx with rfl | rfl <;> rfl) (fun t ht hW => ⟨⟨some (vi x), m, ad, rfl, h, fun v hv => by cases hv; trivial, hIn.2.2.2.2.2.2.2, ⟨by rw [ht]; exact hIn.2.1, va_K.moved hW.alike hIn.1, nw_up hW hOk.2.2.2.2.2.2.2.2, hIn.stt ht hW.alike⟩, hIn.2.2.1, hIn.2.2.2.2.2.2.1, hIn.2.2.2.2.2.1⟩, hIn.2.2.2.1.F ht⟩) hIn.2.2.2.1.2.2 hd hOk.2.2.2.2.2.2.1
theorem b_lret {E : ME} {Φ : Option AV → AM → Prop} {pc : Nat} {L : List (Option AV)} {m : AM} {a : Nat × Nat} {x : Int64} (hr : E.2.2.2.1 = some .long) (hd : decode E.1 pc = .ok (.lreturn, 1)) (ha : a.1 ≤ E.2.2.2.2.1 ∧ a.2 ≤ E.2.2.2.2.2.1) (h : Φ (some (vl x)) m) : B E Φ pc (L) ([vl x]) m a := by
  intro p l e R s mi args below meth c G ad0 nx0 A ad H locs ls hOk hIn hL hst
  refine W.widen ha.1 ha.2 ?_
  exact W.lret (v := x) hOk.1 hOk.2.1 (by rw [hOk.2.2.2.1, hr]) (fun t ht hW => ⟨⟨some (vl x), m, ad, rfl, h, fun v hv => by cases hv; trivial, hIn.2.2.2.2.2.2.2, ⟨by rw [ht]; exact hIn.2.1, va_K.moved hW.alike hIn.1, nw_up hW hOk.2.2.2.2.2.2.2.2, hIn.stt ht hW.alike⟩, hIn.2.2.1, hIn.2.2.2.2.2.2.1, hIn.2.2.2.2.2.1⟩, hIn.2.2.2.1.F ht⟩) hIn.2.2.2.1.2.2 hd hOk.2.2.2.2.2.2.1
theorem b_vret {E : ME} {Φ : Option AV → AM → Prop} {pc : Nat} {L : List (Option AV)} {m : AM} {a : Nat × Nat}  (hr : E.2.2.2.1 = none) (hd : decode E.1 pc = .ok (.return_, 1)) (ha : a.1 ≤ E.2.2.2.2.1 ∧ a.2 ≤ E.2.2.2.2.2.1) (h : Φ none m) : B E Φ pc (L) ([]) m a := by
  intro p l e R s mi args below meth c G ad0 nx0 A ad H locs ls hOk hIn hL hst
  refine W.widen ha.1 ha.2 ?_
  exact W.vret hOk.1 hOk.2.1 (by rw [hOk.2.2.2.1, hr]) (fun t ht hW => ⟨⟨none, m, ad, rfl, h, (fun v hv => by cases hv), hIn.2.2.2.2.2.2.2, ⟨by rw [ht]; exact hIn.2.1, va_K.moved hW.alike hIn.1, nw_up hW hOk.2.2.2.2.2.2.2.2, hIn.stt ht hW.alike⟩, hIn.2.2.1, hIn.2.2.2.2.2.2.1, hIn.2.2.2.2.2.1⟩, hIn.2.2.2.1.F ht⟩) hIn.2.2.2.1.2.2 hd hOk.2.2.2.2.2.2.1
theorem b_aret {E : ME} {Φ : Option AV → AM → Prop} {pc : Nat} {L : List (Option AV)} {m : AM} {a : Nat × Nat} {t i : Nat} {ty : FieldType} (hr : E.2.2.2.1 = some (.array ty)) (hd : decode E.1 pc = .ok (.areturn, 1)) (ha : a.1 ≤ E.2.2.2.2.1 ∧ a.2 ≤ E.2.2.2.2.2.1) (h : Φ (some (vr t i)) m) : B E Φ pc (L) ([vr t i]) m a := by
  intro p l e R s mi args below meth c G ad0 nx0 A ad H locs ls hOk hIn hL hst
  refine W.widen ha.1 ha.2 ?_
  exact W.aret (v := .ref (ad i)) hOk.1 hOk.2.1 (by rw [hOk.2.2.2.1, hr]) (Or.inr ⟨_, rfl⟩) (Or.inr ⟨_, rfl⟩) (fun t' ht hW => ⟨⟨some (vr t i), m, ad, rfl, h, fun v hv => by cases hv; exact hst _ List.mem_cons_self, hIn.2.2.2.2.2.2.2, ⟨by rw [ht]; exact hIn.2.1, va_K.moved hW.alike hIn.1, nw_up hW hOk.2.2.2.2.2.2.2.2, hIn.stt ht hW.alike⟩, hIn.2.2.1, hIn.2.2.2.2.2.2.1, hIn.2.2.2.2.2.1⟩, hIn.2.2.2.1.F ht⟩) hIn.2.2.2.1.2.2 hd hOk.2.2.2.2.2.2.1
theorem b_iald {E : ME} {Φ : Option AV → AM → Prop} {pc : Nat} {L : List (Option AV)} {st : List AV} {m : AM} {a : Nat × Nat} {t i : Nat} {x : Int32} (ht : 100 ≤ t ∧ t < 20000) (hin : vp_in x (t - 100)) (hd : decode E.1 pc = .ok (.iaload, 1)) (k : B E Φ (pc + 1) L (vi (m.1 i x.toNatClampNeg) :: st) m a) : B E Φ pc (L) (vi x :: vr t i :: st) m a := by
  intro p l e R s mi args below meth c G ad0 nx0 A ad H locs ls hOk hIn hL hst
  have hw := hst _ (List.mem_cons_of_mem _ List.mem_cons_self)
  have hc := hIn.cell hw
  unfold celT at hc
  rw [if_neg (by omega), if_neg (by omega), if_neg (by omega), if_neg (by omega), if_neg (by omega), if_pos ht.2] at hc
  exact va_iald hOk.1 hOk.2.1 hIn.1 hIn.2.1 i 0 hc rfl hin hd (k p l e R s mi args below meth c G ad0 nx0 A ad H locs ls hOk hIn hL (sw_i (sw_tl (sw_tl hst))))
theorem b_ialdD {E : ME} {Φ : Option AV → AM → Prop} {pc : Nat} {L : List (Option AV)} {st : List AV} {m : AM} {a : Nat × Nat} {i : Nat} {x : Int32} (hin : vp_in x (m.2.2.1 i)) (hd : decode E.1 pc = .ok (.iaload, 1)) (k : B E Φ (pc + 1) L (vi (m.1 i x.toNatClampNeg) :: st) m a) : B E Φ pc (L) (vi x :: vr 12 i :: st) m a := by
  intro p l e R s mi args below meth c G ad0 nx0 A ad H locs ls hOk hIn hL hst
  have hw := hst _ (List.mem_cons_of_mem _ List.mem_cons_self)
  have hc := hIn.cell hw
  unfold celT at hc
  rw [if_neg (by omega), if_pos rfl] at hc
  exact va_iald hOk.1 hOk.2.1 hIn.1 hIn.2.1 i 0 hc rfl hin hd (k p l e R s mi args below meth c G ad0 nx0 A ad H locs ls hOk hIn hL (sw_i (sw_tl (sw_tl hst))))
theorem b_zald {E : ME} {Φ : Option AV → AM → Prop} {pc : Nat} {L : List (Option AV)} {st : List AV} {m : AM} {a : Nat × Nat} {t i : Nat} {x : Int32} (ht : 20000 ≤ t) (hin : vp_in x (t - 20000)) (hd : decode E.1 pc = .ok (.baload, 1)) (k : B E Φ (pc + 1) L (vi (m.1 i x.toNatClampNeg) :: st) m a) : B E Φ pc (L) (vi x :: vr t i :: st) m a := by
  intro p l e R s mi args below meth c G ad0 nx0 A ad H locs ls hOk hIn hL hst
  have hw := hst _ (List.mem_cons_of_mem _ List.mem_cons_self)
  have hc := hIn.cell hw
  unfold celT at hc
  rw [if_neg (by omega), if_neg (by omega), if_neg (by omega), if_neg (by omega), if_neg (by omega), if_neg (by omega)] at hc
  exact va_zald hOk.1 hOk.2.1 hIn.1 hIn.2.1 i 1 hc rfl hin hd (k p l e R s mi args below meth c G ad0 nx0 A ad H locs ls hOk hIn hL (sw_i (sw_tl (sw_tl hst))))
theorem b_iast {E : ME} {Φ : Option AV → AM → Prop} {pc : Nat} {L : List (Option AV)} {st : List AV} {m : AM} {a : Nat × Nat} {t i : Nat} {x y : Int32} (ht : 100 ≤ t ∧ t < 20000) (hin : vp_in x (t - 100)) (hd : decode E.1 pc = .ok (.iastore, 1)) (k : B E Φ (pc + 1) L st (mset m i x.toNatClampNeg y) a) : B E Φ pc (L) (vi y :: vi x :: vr t i :: st) m a := by
  intro p l e R s mi args below meth c G ad0 nx0 A ad H locs ls hOk hIn hL hst
  have hw := hst _ (List.mem_cons_of_mem _ (List.mem_cons_of_mem _ List.mem_cons_self))
  have hc := hIn.cell hw
  have he : cel G.2 ad (mset m i x.toNatClampNeg y) i = .inl (G.2 0, t - 100, .inl (upd (m.1 i) x.toNatClampNeg y)) := by
    unfold cel celT
    rw [hw.1, if_neg (by omega), if_neg (by omega), if_neg (by omega), if_neg (by omega), if_neg (by omega), if_pos ht.2, mset_upd]
    try rfl
  unfold celT at hc
  rw [if_neg (by omega), if_neg (by omega), if_neg (by omega), if_neg (by omega), if_neg (by omega), if_pos ht.2] at hc
  exact va_iast hOk.1 hOk.2.1 hIn.1 hIn.2.1 hIn.2.2.1 hIn.2.2.2.1 i 0 hc rfl hin hd (fun H1 locs1 hP hD hS => k p l e R s mi args below meth c G ad0 nx0 A ad H1 locs1 ls hOk (hIn.setw rfl he (fun a h => cel_mset_ne _ _ h) hIn.2.2.2.2.2.2.2 hP hD hS) hL (sw_tl (sw_tl (sw_tl hst))))
theorem b_iastD {E : ME} {Φ : Option AV → AM → Prop} {pc : Nat} {L : List (Option AV)} {st : List AV} {m : AM} {a : Nat × Nat} {i : Nat} {x y : Int32} (hin : vp_in x (m.2.2.1 i)) (hd : decode E.1 pc = .ok (.iastore, 1)) (k : B E Φ (pc + 1) L st (mset m i x.toNatClampNeg y) a) : B E Φ pc (L) (vi y :: vi x :: vr 12 i :: st) m a := by
  intro p l e R s mi args below meth c G ad0 nx0 A ad H locs ls hOk hIn hL hst
  have hw := hst _ (List.mem_cons_of_mem _ (List.mem_cons_of_mem _ List.mem_cons_self))
  have hc := hIn.cell hw
  have he : cel G.2 ad (mset m i x.toNatClampNeg y) i = .inl (G.2 0, m.2.2.1 i, .inl (upd (m.1 i) x.toNatClampNeg y)) := by
    unfold cel celT
    rw [hw.1, if_neg (by omega), if_pos rfl, mset_upd]
    try rfl
  unfold celT at hc
  rw [if_neg (by omega), if_pos rfl] at hc
  exact va_iast hOk.1 hOk.2.1 hIn.1 hIn.2.1 hIn.2.2.1 hIn.2.2.2.1 i 0 hc rfl hin hd (fun H1 locs1 hP hD hS => k p l e R s mi args below meth c G ad0 nx0 A ad H1 locs1 ls hOk (hIn.setw rfl he (fun a h => cel_mset_ne _ _ h) hIn.2.2.2.2.2.2.2 hP hD hS) hL (sw_tl (sw_tl (sw_tl hst))))
theorem b_aldR {E : ME} {Φ : Option AV → AM → Prop} {pc : Nat} {L : List (Option AV)} {st : List AV} {m : AM} {a : Nat × Nat} {t n w t' i : Nat} {x : Int32} (ht : t = 13 ∧ n = 24 ∧ w = 2 ∧ t' = 8 ∨ t = 14 ∧ n = 2 ∧ w = 8 ∧ t' = 4) (hin : vp_in x n) (hd : decode E.1 pc = .ok (.aaload, 1)) (k : B E Φ (pc + 1) L (vr t' (i + 1 + w * x.toNatClampNeg) :: st) m a) : B E Φ pc (L) (vi x :: vr t i :: st) m a := by
  intro p l e R s mi args below meth c G ad0 nx0 A ad H locs ls hOk hIn hL hst
  have hw := hst _ (List.mem_cons_of_mem _ List.mem_cons_self)
  have hc := hIn.cell hw
  unfold celT at hc
  have hlt : x.toNatClampNeg < n := Nat.not_le.mp fun q => hin (Or.inr q)
  have hi : i < 125 := by
    rcases Nat.lt_or_ge i 125 with h | h
    · exact h
    · have h9 : KD i = t := hw.1
      rw [KD_ge h] at h9
      omega
  have h5 := TY.nx hIn.2.2.2.2.2.2.2
  rcases ht with ⟨rfl, rfl, rfl, rfl⟩ | ⟨rfl, rfl, rfl, rfl⟩
  · rw [if_neg (by omega), if_neg (by omega), if_pos rfl] at hc
    have hq : ∀ i, i < 125 → KD i = 13 → ∀ j, j < 24 → KD (i + 1 + 2 * j) = 8 ∧ i + 1 + 2 * j < 125 := by decide +kernel
    have h6 := hq i hi hw.1 _ hlt
    exact va_aldq hOk.1 hOk.2.1 hIn.1 hIn.2.1 i 3 hc rfl hin hd (by simp only [if_pos hlt]; exact k p l e R s mi args below meth c G ad0 nx0 A ad H locs ls hOk hIn hL (sw_c ⟨h6.1, Nat.lt_of_lt_of_le h6.2 h5⟩ (sw_tl (sw_tl hst))))
  · rw [if_neg (by omega), if_neg (by omega), if_neg (by omega), if_pos rfl] at hc
    have hq : ∀ i, i < 125 → KD i = 14 → ∀ j, j < 2 → KD (i + 1 + 8 * j) = 4 ∧ i + 1 + 8 * j < 125 := by decide +kernel
    have h6 := hq i hi hw.1 _ hlt
    exact va_aldq hOk.1 hOk.2.1 hIn.1 hIn.2.1 i 2 hc rfl hin hd (by simp only [if_pos hlt]; exact k p l e R s mi args below meth c G ad0 nx0 A ad H locs ls hOk hIn hL (sw_c ⟨h6.1, Nat.lt_of_lt_of_le h6.2 h5⟩ (sw_tl (sw_tl hst))))
