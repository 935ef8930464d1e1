/-! THE SCRIPT'S ROWS: an array that lies outside the world, and never changes -/
def Scr (k : KX) (b L : Nat) (xs : Nat → Int32) : Prop := va_X b L xs (ks k) (ks k).heap ∧ b < (ks k).heap.size ∧ ¬ kA k b ∧ L < 2 ^ 31
def sx (xs : Nat → Int32) (n : Nat) : Int := (xs n).toInt
theorem sx_R (xs : Nat → Int32) (n : Nat) : R32 (sx xs n) := ⟨Int32.le_toInt (xs n), Int32.toInt_lt (xs n)⟩
theorem iZ_sx (xs : Nat → Int32) (n : Nat) : iZ (sx xs n) = xs n := by
  unfold iZ sx
  exact Int32.ofInt_toInt (xs n)
theorem ww_sld {w : WLD} {k : KX} {cc : ByteArray} {own : String} {rm : Room} {pc : Nat} {lv : List (Nat × Value)} {rest : List Value} {M : Mem} (C : Cx w k cc own rm) {b L : Nat} {xs : Nat → Int32} (X : Scr k b L xs) {i : Int} (n : Nat) (hi : i = (n : Int)) (hn : n < L) (d : decode cc pc = .ok (.iaload, 1))
    (kk : WW w k (pc + 1) lv (.int (iZ (sx xs n)) :: rest) M) : WW w k pc lv (.int (iZ i) :: .ref b :: rest) M := fun H locs ls hP hS hl2 =>
  va_sld C.1 C.2.1 X.1 X.2.1 X.2.2.1 hS (iZ_in hi hn X.2.2.2).1 d (by rw [(iZ_in hi hn X.2.2.2).2, ← iZ_sx xs n]; exact kk H locs ls hP hS hl2)
theorem ww_slen {w : WLD} {k : KX} {cc : ByteArray} {own : String} {rm : Room} {pc : Nat} {lv : List (Nat × Value)} {rest : List Value} {M : Mem} (C : Cx w k cc own rm) {b L : Nat} {xs : Nat → Int32} (X : Scr k b L xs) (d : decode cc pc = .ok (.arraylength, 1))
    (kk : WW w k (pc + 1) lv (.int (iZ ((L : Nat) : Int)) :: rest) M) : WW w k pc lv (.ref b :: rest) M := fun H locs ls hP hS hl2 =>
  va_slen C.1 C.2.1 X.1 X.2.1 X.2.2.1 hS d (by rw [show Int32.ofNat L = iZ ((L : Nat) : Int) from (iZ_nat (n := L)).symm]; exact kk H locs ls hP hS hl2)
theorem and31 (a : Int) : ∃ j : Nat, j < 32 ∧ iZ a &&& iZ 31 = iZ (j : Int) := by
  obtain ⟨j, hj, e⟩ := pk_andE (iZ a) (m := iZ 31) 5 (by decide)
  exact ⟨j, hj, by rw [iZ_nat]; exact e⟩
theorem ww_iand31 {w : WLD} {k : KX} {cc : ByteArray} {own : String} {rm : Room} {pc : Nat} {lv : List (Nat × Value)} {rest : List Value} {M : Mem} (C : Cx w k cc own rm) {a : Int} (d : decode cc pc = .ok (.iand, 1)) (kk : ∀ j : Nat, j < 32 → WW w k (pc + 1) lv (.int (iZ (j : Int)) :: rest) M) : WW w k pc lv (.int (iZ 31) :: .int (iZ a) :: rest) M := fun H locs ls hP hS hl => by
  obtain ⟨j, hj, e⟩ := and31 a
  exact lv_iand C.1 C.2.1 d (by rw [e]; exact kk j hj H locs ls hP hS hl)
