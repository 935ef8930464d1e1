/-! a few rows more, and the pure words -/
def b2i (P : Prop) [Decidable P] : Int := if P then 1 else 0
theorem b2i_01 (P : Prop) [Decidable P] : b2i P = 0 ∨ b2i P = 1 := by
  unfold b2i
  split
  · exact Or.inr rfl
  · exact Or.inl rfl
theorem b2i_t {P : Prop} [Decidable P] (h : P) : b2i P = 1 := by unfold b2i; rw [if_pos h]
theorem b2i_f {P : Prop} [Decidable P] (h : ¬ P) : b2i P = 0 := by unfold b2i; rw [if_neg h]
theorem b2i_R (P : Prop) [Decidable P] : R32 (b2i P) := by
  rcases b2i_01 P with h | h <;> rw [h] <;> decide
theorem b2i_0 {P : Prop} [Decidable P] : b2i P = 0 ↔ ¬ P := by
  unfold b2i
  split
  · constructor
    · intro h; omega
    · intro h; contradiction
  · constructor
    · intro _; assumption
    · intro _; rfl
theorem aZ_le {a b : Int} : aZ a < b ↔ a < b ∧ - b < a := by
  unfold aZ
  split
  · omega
  · omega
theorem aZ_nn (a : Int) : 0 ≤ aZ a := by unfold aZ; split <;> omega
section WWM
variable {w : WLD} {k : KX} {cc : ByteArray} {own : String} {rm : Room} {pc : Nat} {lv : List (Nat × Value)} {rest st : List Value} {M : Mem}
theorem ww_top {a b : Int} (h : a = b) (kk : WW w k pc lv (.int (iZ b) :: rest) M) : WW w k pc lv (.int (iZ a) :: rest) M := by rw [h]; exact kk
theorem ww_mem {M1 : Mem} (h : M = M1) (kk : WW w k pc lv st M1) : WW w k pc lv st M := by rw [h]; exact kk
theorem ww_iinc2 (C : Cx w k cc own rm) {i : Nat} {n a b : Int} {lv' : List (Nat × Value)} (d : decode cc pc = .ok (.iinc i n, 3)) (j : Nat) (hj : lv[j]? = some (i, .int (iZ a))) (hab : a + n = b) (hn : i < kL k) (h : (i, Value.int (iZ b)) :: drp lv i = lv') (kk : WW w k (pc + 3) lv' rest M) : WW w k pc lv rest M := ww_iinc C d j hj hn (by rw [hab]; exact h) kk
theorem ww_ifb_eq (C : Cx w k cc own rm) {P : Prop} [Decidable P] {off : Int} (tgt : Nat) (d : decode cc pc = .ok (.ifCond .eq off, 3)) (ht : (pc : Int) + off = (tgt : Int)) (kt : ¬ P → WW w k tgt lv rest M) (kf : P → WW w k (pc + 3) lv rest M) : WW w k pc lv (.int (iZ (b2i P)) :: rest) M := ww_if_eq C tgt d ht (b2i_R P) (fun h => kt (b2i_0.mp h)) (fun h => kf (Classical.byContradiction (fun q => h (b2i_0.mpr q))))
theorem ww_ifb_ne (C : Cx w k cc own rm) {P : Prop} [Decidable P] {off : Int} (tgt : Nat) (d : decode cc pc = .ok (.ifCond .ne off, 3)) (ht : (pc : Int) + off = (tgt : Int)) (kt : P → WW w k tgt lv rest M) (kf : ¬ P → WW w k (pc + 3) lv rest M) : WW w k pc lv (.int (iZ (b2i P)) :: rest) M := ww_if_ne C tgt d ht (b2i_R P) (fun h => kt (Classical.byContradiction (fun q => h (b2i_0.mpr q)))) (fun h => kf (b2i_0.mp h))
theorem ww_tabIn (C : Cx w k cc own rm) {dflt lo hi off a : Int} {offs : Array Int} {len : Nat} (tgt : Nat) (v : Int) (d : decode cc pc = .ok (.tableswitch dflt lo hi offs, len)) (ha : a = v) (h1 : ¬ v < lo ∧ ¬ hi < v) (hv : R32 v) (ho : offs[(v - lo).toNat]? = some off) (ht : (pc : Int) + off = (tgt : Int)) (kk : WW w k tgt lv rest M) : WW w k pc lv (.int (iZ a) :: rest) M := fun H locs ls hP hS hl => by
  subst ha
  exact lv_tableIn C.1 C.2.1 d (by rw [iZ_toInt hv]; exact h1.1) (by rw [iZ_toInt hv]; exact h1.2) (by rw [iZ_toInt hv]; exact ho) ht (kk H locs ls hP hS hl)
theorem ww_tabOut (C : Cx w k cc own rm) {dflt lo hi a : Int} {offs : Array Int} {len : Nat} (tgt : Nat) (d : decode cc pc = .ok (.tableswitch dflt lo hi offs, len)) (hv : R32 a) (h : a < lo ∨ hi < a) (ht : (pc : Int) + dflt = (tgt : Int)) (kk : WW w k tgt lv rest M) : WW w k pc lv (.int (iZ a) :: rest) M := fun H locs ls hP hS hl =>
  lv_tableOut C.1 C.2.1 d (by rw [iZ_toInt hv]; exact h) ht (kk H locs ls hP hS hl)
end WWM
/-- of a point: its three numbers lie inside the sizes -/
def ptI (sz : Nat → Int) (i j k : Int) : Prop := (0 ≤ i ∧ i < sz 0) ∧ (0 ≤ j ∧ j < sz 1) ∧ (0 ≤ k ∧ k < sz 2)
def ptI_d (sz : Nat → Int) (i j k : Int) : Decidable (ptI sz i j k) := by unfold ptI; exact inferInstance
def codeZ (sz : Nat → Int) (i j k : Int) : Int := if (0 ≤ i ∧ i < sz 0) ∧ (0 ≤ j ∧ j < sz 1) ∧ (0 ≤ k ∧ k < sz 2) then 64 * i + 8 * j + k else -1
abbrev SzOk (sz : Nat → Int) : Prop := (1 ≤ sz 0 ∧ sz 0 ≤ 8) ∧ (1 ≤ sz 1 ∧ sz 1 ≤ 8) ∧ (1 ≤ sz 2 ∧ sz 2 ≤ 8)
