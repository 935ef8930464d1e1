/-! counting, filling, the row of all points -/
def fil (n : Nat) (z : Int) (f : Nat → Int) : Nat → Int := fun k => if k < n then z else f k
theorem fil_0 (z : Int) (f : Nat → Int) : fil 0 z f = f := by funext k; unfold fil; rw [if_neg (Nat.not_lt_zero _)]
theorem fil_s (n : Nat) (z : Int) (f : Nat → Int) : up1 (fil n z f) n z = fil (n + 1) z f := by
  funext k
  unfold up1 fil
  by_cases h : k = n
  · rw [if_pos h, if_pos (by omega)]
  · rw [if_neg h]
    by_cases h2 : k < n
    · rw [if_pos h2, if_pos (by omega)]
    · rw [if_neg h2, if_neg (by omega)]
theorem fil_lt {n k : Nat} {z : Int} {f : Nat → Int} (h : k < n) : fil n z f k = z := by unfold fil; rw [if_pos h]
theorem up1_s {f : Nat → Int} {k : Nat} {z : Int} : up1 f k z k = z := by unfold up1; rw [if_pos rfl]
theorem up1_n {f : Nat → Int} {k j : Nat} {z : Int} (h : j ≠ k) : up1 f k z j = f j := by unfold up1; rw [if_neg h]
theorem ups_s {M : Mem} {h : Nat} {f : Nat → Int} : ups M h f h = f := by unfold ups; rw [if_pos rfl]
theorem ups_n {M : Mem} {h j : Nat} {f : Nat → Int} (q : j ≠ h) : ups M h f j = M j := by unfold ups; rw [if_neg q]
theorem ups_ups {M : Mem} {h : Nat} {f g : Nat → Int} : ups (ups M h f) h g = ups M h g := by
  funext j
  unfold ups
  by_cases q : j = h
  · rw [if_pos q, if_pos q]
  · rw [if_neg q, if_neg q, if_neg q]
theorem ups_id {M : Mem} {h : Nat} : ups M h (M h) = M := by
  funext j
  unfold ups
  by_cases q : j = h
  · rw [if_pos q, q]
  · rw [if_neg q]
theorem ups_comm {M : Mem} {h j : Nat} {f g : Nat → Int} (q : h ≠ j) : ups (ups M h f) j g = ups (ups M j g) h f := by
  funext i
  unfold ups
  by_cases a : i = j
  · rw [if_pos a]
    by_cases b : i = h
    · exact absurd (b.symm.trans a) q
    · rw [if_neg b, if_pos a]
  · rw [if_neg a]
    by_cases b : i = h
    · rw [if_pos b, if_pos b]
    · rw [if_neg b, if_neg b, if_neg a]
noncomputable def cnt (P : Nat → Prop) : Nat → Int
  | 0 => 0
  | n + 1 => cnt P n + @ite Int (P n) (Classical.propDecidable _) 1 0
theorem cnt_t {P : Nat → Prop} {n : Nat} (h : P n) : cnt P (n + 1) = cnt P n + 1 := by show cnt P n + @ite Int (P n) (Classical.propDecidable _) 1 0 = cnt P n + 1; rw [if_pos h]
theorem cnt_f {P : Nat → Prop} {n : Nat} (h : ¬ P n) : cnt P (n + 1) = cnt P n := by show cnt P n + @ite Int (P n) (Classical.propDecidable _) 1 0 = cnt P n; rw [if_neg h]; omega
theorem cnt_b (P : Nat → Prop) (n : Nat) : 0 ≤ cnt P n ∧ cnt P n ≤ n := by
  induction n with
  | zero => exact ⟨Int.le_refl 0, Int.le_refl 0⟩
  | succ n ih =>
    by_cases h : P n
    · rw [cnt_t h]; omega
    · rw [cnt_f h]; omega
theorem cnt_c {P Q : Nat → Prop} {n : Nat} (h : ∀ k, k < n → (P k ↔ Q k)) : cnt P n = cnt Q n := by
  induction n with
  | zero => rfl
  | succ n ih =>
    have e := ih (fun k hk => h k (by omega))
    by_cases p : P n
    · rw [cnt_t p, cnt_t ((h n (by omega)).mp p), e]
    · rw [cnt_f p, cnt_f (fun q => p ((h n (by omega)).mpr q)), e]
theorem cnt_le {P : Nat → Prop} {m n : Nat} (h : m ≤ n) : cnt P m ≤ cnt P n := by
  induction n with
  | zero => rw [Nat.le_zero.mp h]; exact Int.le_refl _
  | succ n ih =>
    rcases Nat.lt_or_ge m (n + 1) with q | q
    · have := ih (by omega)
      by_cases p : P n
      · rw [cnt_t p]; omega
      · rw [cnt_f p]; omega
    · rw [Nat.le_antisymm h q]; exact Int.le_refl _
theorem cnt_lt {P : Nat → Prop} {m n : Nat} (h : m < n) (p : P m) : cnt P m < cnt P n := by
  have := cnt_le (P := P) (m := m + 1) (n := n) h
  rw [cnt_t p] at this
  omega
/-- the codes of the points below t, in their order -/
def CdT (sz co : Nat → Int) (np t : Nat) : Prop := (∀ n : Nat, n < np → co n = ((co n).toNat : Int) ∧ (co n).toNat < t ∧ isP sz (co n).toNat) ∧ (∀ m n : Nat, m < n → n < np → (co m).toNat < (co n).toNat) ∧ (∀ p : Nat, p < t → isP sz p → ∃ n : Nat, n < np ∧ (co n).toNat = p) ∧ (np : Int) = cnt (isP sz) t ∧ np ≤ t
abbrev CdOk (sz co : Nat → Int) (np : Nat) : Prop := CdT sz co np 512
theorem CdT_0 (sz co : Nat → Int) : CdT sz co 0 0 := ⟨fun n h => absurd h (Nat.not_lt_zero _), fun m n _ h => absurd h (Nat.not_lt_zero _), fun p h => absurd h (Nat.not_lt_zero _), rfl, Nat.le_refl 0⟩
theorem CdT_skip {sz co : Nat → Int} {np t : Nat} (h : CdT sz co np t) (q : ¬ isP sz t) : CdT sz co np (t + 1) := by
  obtain ⟨a, b, c, d, e⟩ := h
  refine ⟨fun n hn => ⟨(a n hn).1, by have := (a n hn).2.1; omega, (a n hn).2.2⟩, b, fun p hp hq => ?_, by rw [cnt_f q]; exact d, by omega⟩
  rcases Nat.lt_or_ge p t with r | r
  · exact c p r hq
  · have : p = t := by omega
    subst this
    exact absurd hq q
theorem CdT_add {sz co : Nat → Int} {np t : Nat} (h : CdT sz co np t) (q : isP sz t) : CdT sz (up1 co np (t : Int)) (np + 1) (t + 1) := by
  obtain ⟨a, b, c, d, e⟩ := h
  have self : up1 co np (t : Int) np = t := up1_s
  have old : ∀ n, n < np → up1 co np (t : Int) n = co n := fun n hn => up1_n (by omega)
  refine ⟨fun n hn => ?_, fun m n hmn hn => ?_, fun p hp hq => ?_, ?_, by omega⟩
  · rcases Nat.lt_or_ge n np with r | r
    · rw [old n r]
      exact ⟨(a n r).1, by have := (a n r).2.1; omega, (a n r).2.2⟩
    · have : n = np := by omega
      subst this
      rw [self]
      exact ⟨by omega, by omega, by rw [Int.toNat_natCast]; exact q⟩
  · rcases Nat.lt_or_ge n np with r | r
    · rw [old n r, old m (by omega)]
      exact b m n hmn r
    · have : n = np := by omega
      subst this
      rw [self, old m hmn]
      have := (a m hmn).2.1
      omega
  · rcases Nat.lt_or_ge p t with r | r
    · obtain ⟨n, h1, h2⟩ := c p r hq
      exact ⟨n, by omega, by rw [old n h1]; exact h2⟩
    · have : p = t := by omega
      subst this
      exact ⟨np, by omega, by rw [self]; omega⟩
  · rw [cnt_t q, ← d]
    omega
/-- behind the last code comes 512 -/
def bdN (co : Nat → Int) (np n : Nat) : Nat := if n < np then (co n).toNat else 512
section WWO
variable {w : WLD} {k : KX} {cc : ByteArray} {own : String} {rm : Room} {pc : Nat} {lv : List (Nat × Value)} {rest st : List Value} {M : Mem}
theorem ww_alen (C : Cx w k cc own rm) (h : Nat) (hh : h < 44) {N : Nat} (he : cellOf (wI w) (wZ w) (wa w) h (M h) = rowI (wI w) N (M h)) (d : decode cc pc = .ok (.arraylength, 1)) (kk : WW w k (pc + 1) lv (.int (iZ ((N : Nat) : Int)) :: rest) M) : WW w k pc lv (.ref (wa w h) :: rest) M := fun H locs ls hP hS hl2 =>
  va_alen (D := wD w) C.1 C.2.1 C.2.2.2.2.2.1 hP h 0 (cA := wI w) (x := (N, .inl (fun k => iZ (M h k)))) (by rw [wd_get hh, he]; rfl) (ty := .int) rfl rfl d (kk H locs ls hP hS hl2)
theorem as_gen (C : Cx w k cc own rm) {h L : Nat} (hh : h < 44) (hrow : ∀ f : Nat → Int, cellOf (wI w) (wZ w) (wa w) h f = rowI (wI w) L f) (hL : L < 2147483648) {i : Int} (n : Nat) {z : Int} (hi : i = (n : Int)) (hn : n < L) (d : decode cc pc = .ok (.iastore, 1)) (kk : WW w k (pc + 1) lv rest (ups M h (up1 (M h) n z))) : WW w k pc lv (.int (iZ z) :: .int (iZ i) :: .ref (wa w h) :: rest) M := ww_iast C h hh (N := L) n hrow hL hi hn d kk
theorem ww_callSV (C : Cx w k cc own rm) {y : MethodName} {c2 : ByteArray} {n2 np : Nat} {rm2 : Room} {As : List Value} {post : Mem → Prop} {index : Nat} (ct : CtV w y c2 n2 rm2 As M post) (mf : MFs y c2 n2 none np) (hl : Cond.methodLink own index y ∈ wsL_law) (hrm : rm2.cells = 0 ∧ rm2.slots = 0 ∧ rm2.frames + 1 ≤ rm.frames ∧ 8 + (n2 + 11) + rm2.locals ≤ rm.locals) (hn : As.length = np) (hst : st = As.reverse ++ rest) (hr : (rest.map fun v => v.category).sum ≤ 8) (d : decode cc pc = .ok (.invokestatic index, 3))
    (kk : ∀ (M1 : Mem), post M1 → WW w k (pc + 3) lv rest M1) : WW w k pc lv st M := by
  intro H locs ls hP hS hl2
  obtain ⟨hx, hb, hml, hown, hts, hK, hA, hD, hR, hkc, hks⟩ := C
  have hFc : ∀ q, va_A (wdW w M) H.size q → kA k q := by
    rintro q (⟨j, e, hj⟩ | hq)
    · exact (hD M).2 j _ hj
    · exact hA q (Nat.le_trans hS.1 hq)
  refine va_callv (va_runS (As := As) (rest := rest) ⟨hx, hb, hml, hown, hts⟩ (ct H.size) (va_cwS np hts (goodIn_m (fun x hx => ?_)) rfl hrm.1 hrm.2.1 mf.2.2.2 ⟨by rw [hR]; exact hrm.2.2.1, by rw [hR]; exact hrm.2.2.2⟩) ⟨fun a U g mk q => ?_, fun U hU hW => ⟨rfl, by rw [hU], by rw [hU]; exact hP, va_K.moved hW.alike hK, (hD M).weaken (fun _ _ _ _ => trivial)⟩⟩ rfl hn hl2.1 hst (lv_room hr) d ⟨by rw [hR]; exact hkc, by rw [hR]; exact hks⟩) hS (fun q _ h => hFc q h) hFc (fun u t H1 locs1 ht hvm hw hB hz1 hk1 hS1 => ?_)
  · rcases List.mem_append.mp hx with h9 | h9
    · simp only [List.mem_cons, List.not_mem_nil, or_false] at h9
      rcases h9 with rfl | rfl | rfl
      · exact hl
      · exact mf.1
      · exact mf.2.1
    · rcases List.mem_cons.mp h9 with rfl | h9
      · exact mf.2.2.1
      · exact h9
  · obtain ⟨q0, q1, qP, qK, qD⟩ := q
    exact ⟨q0, q1, qP, va_K.moved (u := U) (U := U.calling g mk a) (Vm.Alike.refl U.vm) qK, qD⟩
  · obtain ⟨hP1, hK1, hD1⟩ := hB
    rw [ht] at hP1
    exact kk u hw H1 locs1 ls hP1 hS1 hl2
/-- System.arraycopy of a whole row of nine -/
theorem ww_copy9 (C : Cx w k cc own rm) {h0 h1 : Nat} (q0 : h0 < 44) (q1 : h1 < 44) {index : Nat} (hl : Cond.methodLink own index arraycopyName ∈ wsL_law) (he0 : ∀ f : Nat → Int, cellOf (wI w) (wZ w) (wa w) h0 f = rowI (wI w) 9 f) (he1 : ∀ f : Nat → Int, cellOf (wI w) (wZ w) (wa w) h1 f = rowI (wI w) 9 f) (hR : 1 ≤ rm.frames ∧ 18 ≤ rm.locals) (d : decode cc pc = .ok (.invokestatic index, 3))
    (kk : WW w k (pc + 3) lv [] (ups M h1 (fun j => if j < 9 then M h0 j else M h1 j))) : WW w k pc lv [.int (iZ ((9 : Nat) : Int)), .int (iZ 0), .ref (wa w h1), .int (iZ 0), .ref (wa w h0)] M := fun H locs ls hP hS hl2 =>
  va_copyi (rest := []) C.1 C.2.1 (C.2.2.1.trans hl2.1.symm) C.2.2.2.1 (C.2.2.2.2.1 _ hl) (C.2.2.2.2.1 _ wo_native_arraycopyName) (C.2.2.2.2.1 _ st_arraycopyName) (C.2.2.2.2.1 _ it__java_lang_System_) C.2.2.2.2.2.1 hP (C.2.2.2.2.2.2.2.1 M) hS h0 h1 0 0 (c0 := wI w) (c1 := wI w) (n0 := 9) (n1 := 9) (f := fun j => iZ (M h0 j)) (g := fun j => iZ (M h1 j)) (ty := .int) (by rw [wd_get q0, he0]; rfl) (by rw [wd_get q1, he1]; rfl) rfl rfl rfl (by decide) (by decide) (by decide) (by decide) (by decide) (fun i _ => rfl) (by rw [C.2.2.2.2.2.2.2.2.1]; exact hR.1) (by rw [C.2.2.2.2.2.2.2.2.1]; exact hR.2) d (fun H1 locs1 hP1 _ hS1 => kk H1 locs1 ls (by
    have e : (wa w h1, Sum.inl (wI w, 9, Sum.inl (va_cpy (fun j => iZ (M h0 j)) (fun j => iZ (M h1 j)) (iZ 0).toNatClampNeg (iZ 0).toNatClampNeg (iZ ((9 : Nat) : Int)).toNatClampNeg))) = (wa w h1, cellOf (wI w) (wZ w) (wa w) h1 (fun j => if j < 9 then M h0 j else M h1 j)) := by
      rw [he1]
      unfold rowI
      have e0 : (iZ 0).toNatClampNeg = 0 := by decide
      have e9 : (iZ ((9 : Nat) : Int)).toNatClampNeg = 9 := by decide
      rw [e0, e9]
      have ef : va_cpy (fun j => iZ (M h0 j)) (fun j => iZ (M h1 j)) 0 0 9 = fun k => iZ ((fun j => if j < 9 then M h0 j else M h1 j) k) := by
        funext j
        unfold va_cpy
        by_cases h : j < 9
        · rw [if_pos ⟨Nat.zero_le _, by omega⟩]
          simp only [if_pos h]
          congr 2
          omega
        · rw [if_neg (by omega)]
          simp only [if_neg h]
      rw [ef]
    rw [e, wd_set q1] at hP1
    exact hP1) hS1 hl2)
end WWO
