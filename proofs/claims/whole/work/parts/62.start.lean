/-! WHAT THE TWO CONSTRUCTORS LEAVE -/
def z0 : Nat → Int := fun _ => 0
def r111 : Nat → Int := up1 (up1 (up1 z0 0 1) 1 1) 2 1
def r9i : Nat → Int := up1 (up1 (up1 (up1 (up1 (up1 (up1 (up1 (up1 z0 0 1) 1 1) 2 1) 3 1) 4 0) 5 0) 6 0) 7 0) 8 0
def iM : Mem := fun h => match h with
  | 1 => up1 z0 2 1
  | 2 => r111
  | 10 => up1 z0 1 1
  | 11 => r9i
  | 12 => up1 (up1 z0 6 (-1)) 7 (-1)
  | 20 => up1 z0 1 1
  | 21 => r9i
  | 22 => up1 z0 1 1
  | 23 => r9i
  | 30 => up1 z0 8 1
  | 31 => r111
  | 37 => r9i
  | _ => z0
theorem r9i_9 : ∀ q : Nat, 9 ≤ q → r9i q = 0 := fun q hq => by
  unfold r9i
  rw [up1_n (by omega), up1_n (by omega), up1_n (by omega), up1_n (by omega), up1_n (by omega), up1_n (by omega), up1_n (by omega), up1_n (by omega), up1_n (by omega)]
  rfl
theorem r9i_b : ∀ q : Nat, q < 9 → 0 ≤ r9i q ∧ r9i q ≤ 1 := by decide
theorem r9i_2 : Nu2 r9i := fun q hq => by have := r9i_b q hq; omega
theorem R0 : ∀ q : Nat, R32 (z0 q) := fun _ => ⟨show (-2147483648 : Int) ≤ 0 by decide, show (0 : Int) < 2147483648 by decide⟩
theorem sinv_i : SInv iM := ⟨r9i_9, r9i_9, r9i_2, fun _ => ⟨show (-8 : Int) ≤ 0 by decide, show (0 : Int) ≤ 8 by decide⟩, ⟨by decide, by decide⟩, ⟨by decide, by decide⟩⟩
theorem rel_i : Rel iM := ⟨rfl, rfl, rfl, rfl, rfl, rfl, rfl, rfl, rfl, rfl, rfl, R0, fun _ _ => rfl, fun _ _ => rfl⟩
theorem isP_i {p : Nat} (h : isP r111 p) : p = 0 := by
  have e0 : r111 0 = 1 := rfl
  have e1 : r111 1 = 1 := rfl
  have e2 : r111 2 = 1 := rfl
  omega
theorem cinv_i : CInv iM 0 1 := by
  refine ⟨by decide, rfl, by decide, rfl, ?_, fun _ _ => ⟨show (-2 : Int) ≤ 0 by decide, show (0 : Int) ≤ 2 by decide⟩, fun v hv => absurd hv (Nat.not_lt_zero v), fun v hv => absurd hv (Nat.not_lt_zero v), fun v hv => absurd hv (Nat.not_lt_zero v), R0, R0, Or.inl rfl, fun e => absurd (show (0 : Int) = 1 from e) (by decide), fun v hv => absurd hv (Nat.not_lt_zero v), Nu2_3 r9i_2, by decide, r9i_9, r9i_9, r9i_9, Or.inl rfl, fun e => absurd (show (0 : Int) = 1 from e) (by decide), fun _ => rfl, fun _ => Or.inl rfl, fun _ _ => rfl, Or.inl rfl, fun e => absurd (show (0 : Int) = 1 from e) (by decide), R0, by decide⟩
  have hP0 : isP r111 0 := by decide
  refine ⟨fun n hn => ⟨rfl, show 0 < 512 by decide, hP0⟩, fun m n h1 h2 => by omega, fun p _ hp => ⟨0, by decide, (isP_i hp).symm⟩, ?_, by decide⟩
  rw [show cnt (isP (iM 2)) 512 = r111 0 * r111 1 * r111 2 from cnt_isP (sz := r111) (by decide)]
  rfl
theorem lall_i : LAll iM := ⟨0, 1, cinv_i, sinv_i, rel_i⟩
