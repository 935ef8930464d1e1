/-! ROWS OF LONGS, and Long.bitCount -/
section WWL
variable {w : WLD} {k : KX} {cc : ByteArray} {own : String} {rm : Room} {pc : Nat} {lv : List (Nat × Value)} {rest : List Value} {M : Mem}
abbrev drp2 (lv : List (Nat × Value)) (i : Nat) : List (Nat × Value) := lv.filter (fun q => !(q.1 == i) && (!(q.1 == i + 1) && !(q.1 + 1 == i && q.2.category == 2)))
theorem ww_lconst (C : Cx w k cc own rm) {n : Fin 2} {v : Int64} (d : decode cc pc = .ok (.lconst n, 1)) (hv : Int64.ofNat (n : Nat) = v) (kk : WW w k (pc + 1) lv (.long v :: rest) M) : WW w k pc lv rest M := fun H locs ls hP hS hl => lv_lconst C.1 C.2.1 d hv (kk H locs ls hP hS hl)
theorem ww_lload_n (C : Cx w k cc own rm) {i : Fin 4} {x : Int64} (d : decode cc pc = .ok (.lload_n i, 1)) (j : Nat) (h : lv[j]? = some ((i : Nat), .long x)) (kk : WW w k (pc + 1) lv (.long x :: rest) M) : WW w k pc lv rest M := fun H locs ls hP hS hl => lv_lload_n C.1 C.2.1 d rfl (lv_at hl j h) (kk H locs ls hP hS hl)
theorem ww_lstore_n (C : Cx w k cc own rm) {i : Fin 4} {x : Int64} {lv' : List (Nat × Value)} (d : decode cc pc = .ok (.lstore_n i, 1)) (hn : (i : Nat) + 1 < kL k) (h : ((i : Nat), Value.long x) :: drp2 lv i = lv') (kk : WW w k (pc + 1) lv' rest M) : WW w k pc lv (.long x :: rest) M := fun H locs ls hP hS hl => lv_lstore_n C.1 C.2.1 d rfl hl hn h (fun ls hl => kk H locs ls hP hS hl)
theorem ww_ladd (C : Cx w k cc own rm) {x y : Int64} (d : decode cc pc = .ok (.ladd, 1)) (kk : WW w k (pc + 1) lv (.long (x + y) :: rest) M) : WW w k pc lv (.long y :: .long x :: rest) M := fun H locs ls hP hS hl => lv_ladd C.1 C.2.1 d (kk H locs ls hP hS hl)
theorem ww_lsub (C : Cx w k cc own rm) {x y : Int64} (d : decode cc pc = .ok (.lsub, 1)) (kk : WW w k (pc + 1) lv (.long (x - y) :: rest) M) : WW w k pc lv (.long y :: .long x :: rest) M := fun H locs ls hP hS hl => lv_lsub C.1 C.2.1 d (kk H locs ls hP hS hl)
theorem ww_land (C : Cx w k cc own rm) {x y : Int64} (d : decode cc pc = .ok (.land, 1)) (kk : WW w k (pc + 1) lv (.long (x &&& y) :: rest) M) : WW w k pc lv (.long y :: .long x :: rest) M := fun H locs ls hP hS hl => lv_land C.1 C.2.1 d (kk H locs ls hP hS hl)
theorem ww_lor (C : Cx w k cc own rm) {x y : Int64} (d : decode cc pc = .ok (.lor, 1)) (kk : WW w k (pc + 1) lv (.long (x ||| y) :: rest) M) : WW w k pc lv (.long y :: .long x :: rest) M := fun H locs ls hP hS hl => lv_lor C.1 C.2.1 d (kk H locs ls hP hS hl)
theorem ww_lushr (C : Cx w k cc own rm) {x : Int64} {y : Int32} (d : decode cc pc = .ok (.lushr, 1)) (kk : WW w k (pc + 1) lv (.long (ush x y) :: rest) M) : WW w k pc lv (.int y :: .long x :: rest) M := fun H locs ls hP hS hl => lv_lushr C.1 C.2.1 d rfl (kk H locs ls hP hS hl)
theorem ww_lshl (C : Cx w k cc own rm) {x : Int64} {y : Int32} (d : decode cc pc = .ok (.lshl, 1)) (kk : WW w k (pc + 1) lv (.long (x <<< (y.toInt64 &&& 63)) :: rest) M) : WW w k pc lv (.int y :: .long x :: rest) M := fun H locs ls hP hS hl => lv_lshl C.1 C.2.1 d rfl (kk H locs ls hP hS hl)
theorem ww_l2i (C : Cx w k cc own rm) {x : Int64} (d : decode cc pc = .ok (.l2i, 1)) (kk : WW w k (pc + 1) lv (.int x.toInt32 :: rest) M) : WW w k pc lv (.long x :: rest) M := fun H locs ls hP hS hl => lv_l2i C.1 C.2.1 d rfl (kk H locs ls hP hS hl)
theorem ww_iandR (C : Cx w k cc own rm) {x y : Int32} (d : decode cc pc = .ok (.iand, 1)) (kk : WW w k (pc + 1) lv (.int (x &&& y) :: rest) M) : WW w k pc lv (.int y :: .int x :: rest) M := fun H locs ls hP hS hl => lv_iand C.1 C.2.1 d (kk H locs ls hP hS hl)
theorem ww_ldc2 (C : Cx w k cc own rm) {index : Nat} {v : Int64} (hc : Cond.constantLong own index v ∈ wsL_law) (d : decode cc pc = .ok (.ldc2_w index, 3)) (kk : WW w k (pc + 3) lv (.long v :: rest) M) : WW w k pc lv rest M := fun H locs ls hP hS hl => lv_ldc2 C.1 C.2.1 C.2.2.2.1 (C.2.2.2.2.1 _ hc) d (kk H locs ls hP hS hl)
end WWL
set_option maxRecDepth 100000 in
theorem ct_J13_bitCount_95d88 (w : WLD) (M : Mem) (A B : Nat) (hab : A + B < 22) : CtI w yJ13_bitCount_95d88 cJ13_bitCount_95d88 2 (some .int) rm_J13_bitCount_95d88 [.long (TL A B)] M (fun z M1 => z = ((fm A B : Nat) : Int) ∧ M1 = M) := by
  refine CtI.of (by decide) (Nat.le_of_ble_eq_true rfl) rfl rfl ?_
  intro k hkL C RT
  have hbc := tl_bc A (by omega) B (by omega) hab
  generalize TL A B = x0 at hbc ⊢
  show WW w k 0 [(0, .long x0)] [] M
  refine ww_lload_n C dJ13_bitCount_95d88_0 0 rfl ?_
  refine ww_lload_n C dJ13_bitCount_95d88_1 0 rfl ?_
  refine ww_iconst C dJ13_bitCount_95d88_2 ?_
  refine ww_lushr C dJ13_bitCount_95d88_3 ?_
  refine ww_ldc2 C wo_constantLong_RJ13_314__6148914691236517205_ dJ13_bitCount_95d88_4 ?_
  refine ww_land C dJ13_bitCount_95d88_7 ?_
  refine ww_lsub C dJ13_bitCount_95d88_8 ?_
  refine ww_lstore_n C dJ13_bitCount_95d88_9 (lv' := [(0, .long (bc1 x0))]) (by rw [hkL]; decide) rfl ?_
  generalize bc1 x0 = x1 at hbc ⊢
  refine ww_lload_n C dJ13_bitCount_95d88_10 0 rfl ?_
  refine ww_ldc2 C wo_constantLong_RJ13_316__3689348814741910323_ dJ13_bitCount_95d88_11 ?_
  refine ww_land C dJ13_bitCount_95d88_14 ?_
  refine ww_lload_n C dJ13_bitCount_95d88_15 0 rfl ?_
  refine ww_iconst C dJ13_bitCount_95d88_16 ?_
  refine ww_lushr C dJ13_bitCount_95d88_17 ?_
  refine ww_ldc2 C wo_constantLong_RJ13_316__3689348814741910323_ dJ13_bitCount_95d88_18 ?_
  refine ww_land C dJ13_bitCount_95d88_21 ?_
  refine ww_ladd C dJ13_bitCount_95d88_22 ?_
  refine ww_lstore_n C dJ13_bitCount_95d88_23 (lv' := [(0, .long (bc2 x1))]) (by rw [hkL]; decide) rfl ?_
  generalize bc2 x1 = x2 at hbc ⊢
  refine ww_lload_n C dJ13_bitCount_95d88_24 0 rfl ?_
  refine ww_lload_n C dJ13_bitCount_95d88_25 0 rfl ?_
  refine ww_iconst C dJ13_bitCount_95d88_26 ?_
  refine ww_lushr C dJ13_bitCount_95d88_27 ?_
  refine ww_ladd C dJ13_bitCount_95d88_28 ?_
  refine ww_ldc2 C wo_constantLong_RJ13_318__1085102592571150095_ dJ13_bitCount_95d88_29 ?_
  refine ww_land C dJ13_bitCount_95d88_32 ?_
  refine ww_lstore_n C dJ13_bitCount_95d88_33 (lv' := [(0, .long (bc3 x2))]) (by rw [hkL]; decide) rfl ?_
  generalize bc3 x2 = x3 at hbc ⊢
  refine ww_lload_n C dJ13_bitCount_95d88_34 0 rfl ?_
  refine ww_lload_n C dJ13_bitCount_95d88_35 0 rfl ?_
  refine ww_bipush C dJ13_bitCount_95d88_36 (by decide) ?_
  refine ww_lushr C dJ13_bitCount_95d88_38 ?_
  refine ww_ladd C dJ13_bitCount_95d88_39 ?_
  refine ww_lstore_n C dJ13_bitCount_95d88_40 (lv' := [(0, .long (bc4 x3 8))]) (by rw [hkL]; decide) rfl ?_
  generalize bc4 x3 8 = x4 at hbc ⊢
  refine ww_lload_n C dJ13_bitCount_95d88_41 0 rfl ?_
  refine ww_lload_n C dJ13_bitCount_95d88_42 0 rfl ?_
  refine ww_bipush C dJ13_bitCount_95d88_43 (by decide) ?_
  refine ww_lushr C dJ13_bitCount_95d88_45 ?_
  refine ww_ladd C dJ13_bitCount_95d88_46 ?_
  refine ww_lstore_n C dJ13_bitCount_95d88_47 (lv' := [(0, .long (bc4 x4 16))]) (by rw [hkL]; decide) rfl ?_
  generalize bc4 x4 16 = x5 at hbc ⊢
  refine ww_lload_n C dJ13_bitCount_95d88_48 0 rfl ?_
  refine ww_lload_n C dJ13_bitCount_95d88_49 0 rfl ?_
  refine ww_bipush C dJ13_bitCount_95d88_50 (by decide) ?_
  refine ww_lushr C dJ13_bitCount_95d88_52 ?_
  refine ww_ladd C dJ13_bitCount_95d88_53 ?_
  refine ww_lstore_n C dJ13_bitCount_95d88_54 (lv' := [(0, .long (bc4 x5 32))]) (by rw [hkL]; decide) rfl ?_
  generalize bc4 x5 32 = x6 at hbc ⊢
  refine ww_lload_n C dJ13_bitCount_95d88_55 0 rfl ?_
  refine ww_l2i C dJ13_bitCount_95d88_56 ?_
  refine ww_bipush C dJ13_bitCount_95d88_57 (by decide) ?_
  refine ww_iandR C dJ13_bitCount_95d88_59 ?_
  show WW w k 60 [(0, .long x6)] [.int (bc5 x6)] M
  rw [hbc]
  exact RT _ _ _ _ dJ13_bitCount_95d88_60 ⟨rfl, rfl⟩
