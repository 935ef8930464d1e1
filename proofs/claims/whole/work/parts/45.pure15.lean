/-! the search over the times -/
theorem fd_blk {b t d : Nat} (hb : b = 1 ∨ b = 2) (h1 : ix b t 0 0 ≤ d) (h2 : d < ix b (t + 1) 0 0) : d / (vc b * vc b) = t := by
  unfold ix at h1 h2
  rcases vc_v hb with e | e <;> rw [e] at h1 h2 ⊢ <;> omega
theorem fd_le {b t : Nat} : ix b t 0 0 ≤ ix b (t + 1) 0 0 := by
  unfold ix
  have : (t * vc b + 0) * vc b ≤ ((t + 1) * vc b + 0) * vc b := Nat.mul_le_mul_right _ (by have := Nat.mul_le_mul_right (vc b) (show t ≤ t + 1 by omega); omega)
  omega
theorem fd_slow {M : Mem} {sz st : Nat → Int} {nv b ln t : Nat} {g : Nat → Int} (h : SS M sz st nv b ln (ix b t 0 0)) (hb : b = 1 ∨ b = 2) (h0 : g 0 = spA b t ∧ g 1 = spB b t ∧ g 2 = spC b t) (hF : M 19 3 = 1) (hl : M 19 1 < buZ g sz) : SS M sz st nv b ln (ix b (t + 1) 0 0) := by
  refine ss_skip h fd_le (fun d d1 d2 _ => ⟨hF, Or.inl ?_⟩)
  have e := fd_blk hb d1 d2
  have : btC sz b d = buZ g sz := by
    unfold btC nuO
    rw [e]
    exact buZ_c h0.1.symm h0.2.1.symm h0.2.2.symm
  rw [this]
  exact hl
theorem fd_ear {M : Mem} {sz st : Nat → Int} {nv b ln t : Nat} {g : Nat → Int} {z : Int} (h : SS M sz st nv b ln (ix b t 0 0)) (hb : b = 1 ∨ b = 2) (h0 : g 0 = spA b t ∧ g 1 = spB b t ∧ g 2 = spC b t) (hz : isFst (earP g sz st) nv z) (hz0 : z ≠ -1) : SS M sz st nv b ln (ix b (t + 1) 0 0) := by
  refine ss_no h fd_le (fun d d1 d2 ac => ?_)
  have e := fd_blk hb d1 d2
  have n := isFst_neg hz
  have : ∀ v : Nat, v < nv → ¬ earP g sz st v := fun v hv q => by
    refine ac.2.2.2.1 v hv ?_
    unfold nuO
    rw [e]
    exact (ear_c (nu := g) (nu' := nuC b t _ _) h0.1 h0.2.1 h0.2.2).mp q
  have := n.mpr this
  rcases hz with ⟨a, -⟩ | ⟨v, a, -⟩ <;> omega
def SInv (M : Mem) : Prop := (∀ q : Nat, 9 ≤ q → M 21 q = 0) ∧ (∀ q : Nat, 9 ≤ q → M 23 q = 0) ∧ Nu2 (M 23) ∧ (∀ d : Nat, -8 ≤ M 24 d ∧ M 24 d ≤ 8) ∧ R32 (M 19 1) ∧ R32 (M 19 2)
theorem ss_begin {M : Mem} {sz st : Nat → Int} {nv b ln : Nat} (h : SInv M) : SS (ups M 19 (up1 (M 19) 3 0)) sz st nv b ln (ix b 0 0 0) := by
  obtain ⟨h1, h2, h3, h4, h5, h6⟩ := h
  refine ⟨⟨0, ?_, fun e => ?_⟩, h1, h2, h3, h4, h5, h6, Or.inl rfl⟩
  · have e : ix b 0 0 0 = 0 := by unfold ix; simp
    rw [e]
    exact bsR_0
  · exfalso
    have e' : (0 : Int) = 1 := e
    omega
theorem ss_inv {M : Mem} {sz st : Nat → Int} {nv b ln n : Nat} (h : SS M sz st nv b ln n) : SInv M := ⟨h.2.1, h.2.2.1, h.2.2.2.1, h.2.2.2.2.1, h.2.2.2.2.2.1, h.2.2.2.2.2.2.1⟩
