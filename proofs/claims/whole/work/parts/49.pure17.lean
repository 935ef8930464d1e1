/-! best, of the reference -/
def cpy (k : Nat) (f g : Nat → Int) : Nat → Int := fun j => if j < k then f j else g j
theorem cpy_0 (f g : Nat → Int) : cpy 0 f g = g := by funext j; unfold cpy; rw [if_neg (Nat.not_lt_zero _)]
theorem cpy_s (k : Nat) (f g : Nat → Int) : up1 (cpy k f g) k (f k) = cpy (k + 1) f g := by
  funext j
  unfold up1 cpy
  by_cases h : j = k
  · rw [if_pos h, if_pos (by omega), h]
  · rw [if_neg h]
    by_cases h2 : j < k
    · rw [if_pos h2, if_pos (by omega)]
    · rw [if_neg h2, if_neg (by omega)]
theorem cpy_self (k : Nat) (f g : Nat → Int) (h : ∀ j : Nat, k ≤ j → f j = g j) : cpy k f g = f := by
  funext j
  unfold cpy
  by_cases q : j < k
  · rw [if_pos q]
  · rw [if_neg q]; exact (h j (by omega)).symm
/-- the greatest beat lies at a corner -/
theorem mx1 {a s : Int} (h1 : -3 ≤ a) (h2 : a ≤ 3) (h3 : 1 ≤ s) (h4 : s ≤ 8) : (∀ x : Int, 0 ≤ x → x < s → a * x - min 0 (a * (s - 1)) ≤ aZ a * (s - 1)) ∧ ∃ x : Int, (0 ≤ x ∧ x < s) ∧ a * x - min 0 (a * (s - 1)) = aZ a * (s - 1) := by
  have e : aZ a = a ∨ aZ a = -a := by unfold aZ; split <;> omega
  rcases (show a = -3 ∨ a = -2 ∨ a = -1 ∨ a = 0 ∨ a = 1 ∨ a = 2 ∨ a = 3 by omega) with rfl | rfl | rfl | rfl | rfl | rfl | rfl
  · exact ⟨fun x _ _ => by show -3 * x - _ ≤ 3 * (s - 1); omega, 0, by omega, by show _ = 3 * (s - 1); omega⟩
  · exact ⟨fun x _ _ => by show -2 * x - _ ≤ 2 * (s - 1); omega, 0, by omega, by show _ = 2 * (s - 1); omega⟩
  · exact ⟨fun x _ _ => by show -1 * x - _ ≤ 1 * (s - 1); omega, 0, by omega, by show _ = 1 * (s - 1); omega⟩
  · exact ⟨fun x _ _ => by show 0 * x - _ ≤ 0 * (s - 1); omega, 0, by omega, by show _ = 0 * (s - 1); omega⟩
  · exact ⟨fun x _ _ => by show 1 * x - _ ≤ 1 * (s - 1); omega, s - 1, by omega, by show _ = 1 * (s - 1); omega⟩
  · exact ⟨fun x _ _ => by show 2 * x - _ ≤ 2 * (s - 1); omega, s - 1, by omega, by show _ = 2 * (s - 1); omega⟩
  · exact ⟨fun x _ _ => by show 3 * x - _ ≤ 3 * (s - 1); omega, s - 1, by omega, by show _ = 3 * (s - 1); omega⟩
theorem bea_bu {nu sz : Nat → Int} (hn : NuOk nu) (hs : SzOk sz) : beaR sz (beatZ nu sz 1) 512 (buZ nu sz) := by
  have n0 := hn 0 (by omega)
  have n1 := hn 1 (by omega)
  have n2 := hn 2 (by omega)
  have m0 := mx1 n0.1 n0.2 hs.1.1 hs.1.2
  have m1 := mx1 n1.1 n1.2 hs.2.1.1 hs.2.1.2
  have m2 := mx1 n2.1 n2.2 hs.2.2.1 hs.2.2.2
  have key : ∀ p : Nat, beatZ nu sz 1 p = (nu 0 * ((p / 64 : Nat) : Int) - min 0 (nu 0 * (sz 0 - 1))) + (nu 1 * ((p / 8 % 8 : Nat) : Int) - min 0 (nu 1 * (sz 1 - 1))) + (nu 2 * ((p % 8 : Nat) : Int) - min 0 (nu 2 * (sz 2 - 1))) := by
    intro p
    unfold beatZ atZ dotP dotZ lesZ
    rw [Int.emod_one, Int.one_mul, Int.add_zero]
    simp only [Nat.mul_zero, Nat.zero_add]
    omega
  refine ⟨fun p hp hq => ?_, Or.inr ?_⟩
  · rw [key p]
    have a := m0.1 ((p / 64 : Nat) : Int) (by omega) hq.1
    have b := m1.1 ((p / 8 % 8 : Nat) : Int) (by omega) hq.2.1
    have c := m2.1 ((p % 8 : Nat) : Int) (by omega) hq.2.2
    unfold buZ
    omega
  · obtain ⟨x, hx, ex⟩ := m0.2
    obtain ⟨y, hy, ey⟩ := m1.2
    obtain ⟨z, hz, ez⟩ := m2.2
    have hp := pt_isP (sz := sz) (i := x) (j := y) (l := z) hs ⟨hx, hy, hz⟩
    have e1 : (((64 * x + 8 * y + z).toNat / 64 : Nat) : Int) = x := by omega
    have e2 : (((64 * x + 8 * y + z).toNat / 8 % 8 : Nat) : Int) = y := by omega
    have e3 : (((64 * x + 8 * y + z).toNat % 8 : Nat) : Int) = z := by omega
    refine ⟨_, isP_lt hs hp, hp, ?_⟩
    rw [key, e1, e2, e3]
    unfold buZ
    omega
/-- the reference's search behind the candidates below n -/
def RS (sz st : Nat → Int) (nv b ln n : Nat) (le fe : Int) (fd : Nat → Int) : Prop := (∃ c : Nat, ((le = -1 ∧ ∀ d : Nat, d < n → ¬ accP sz st nv b ln d) ∨ (1 ≤ le ∧ bestAt (accP sz st nv b ln) (btC sz b) (clC sz b) n c ∧ le = btC sz b c ∧ fe = clC sz b c ∧ ∀ j : Nat, j < 9 → fd j = nuO b c j))) ∧ (-1 ≤ le ∧ le ≤ 64) ∧ (0 ≤ fe ∧ fe ≤ 512)
theorem RS_bs {sz st : Nat → Int} {nv b ln n : Nat} {le fe : Int} {fd : Nat → Int} (h : RS sz st nv b ln n le fe fd) : ∃ c : Nat, bsR (accP sz st nv b ln) (btC sz b) (clC sz b) n (if le = -1 then 0 else 1) le fe c ∧ (le ≠ -1 → 1 ≤ le ∧ ∀ j : Nat, j < 9 → fd j = nuO b c j) := by
  obtain ⟨⟨c, h⟩, -⟩ := h
  rcases h with ⟨a, b1⟩ | ⟨a, b1, c1, d1, e1⟩
  · exact ⟨c, Or.inl ⟨if_pos a, b1⟩, fun q => absurd a q⟩
  · exact ⟨c, Or.inr ⟨if_neg (by omega), b1, c1, d1⟩, fun _ => ⟨a, e1⟩⟩
theorem RS_of {sz st : Nat → Int} {nv b ln n : Nat} {le fe : Int} {fd : Nat → Int} {c : Nat} (h : bsR (accP sz st nv b ln) (btC sz b) (clC sz b) n (if le = -1 then 0 else 1) le fe c) (hw : le ≠ -1 → 1 ≤ le ∧ ∀ j : Nat, j < 9 → fd j = nuO b c j) (h1 : -1 ≤ le ∧ le ≤ 64) (h2 : 0 ≤ fe ∧ fe ≤ 512) : RS sz st nv b ln n le fe fd := by
  refine ⟨⟨c, ?_⟩, h1, h2⟩
  rcases h with ⟨a, b1⟩ | ⟨a, b1, c1, d1⟩
  · by_cases e : le = -1
    · exact Or.inl ⟨e, b1⟩
    · rw [if_neg e] at a; omega
  · by_cases e : le = -1
    · rw [if_pos e] at a; omega
    · exact Or.inr ⟨(hw e).1, b1, c1, d1, (hw e).2⟩
theorem RS_skip {sz st : Nat → Int} {nv b ln n m : Nat} {le fe : Int} {fd : Nat → Int} (h : RS sz st nv b ln n le fe fd) (hnm : n ≤ m) (hs : ∀ d : Nat, n ≤ d → d < m → accP sz st nv b ln d → le ≠ -1 ∧ (le < btC sz b d ∨ (le = btC sz b d ∧ fe ≤ clC sz b d))) : RS sz st nv b ln m le fe fd := by
  obtain ⟨c, hb, hw⟩ := RS_bs h
  refine RS_of (bsR_skip hb hnm (fun d d1 d2 ac => ?_)) hw h.2.1 h.2.2
  have := hs d d1 d2 ac
  exact ⟨if_neg this.1, this.2⟩
theorem RS_no {sz st : Nat → Int} {nv b ln n m : Nat} {le fe : Int} {fd : Nat → Int} (h : RS sz st nv b ln n le fe fd) (hnm : n ≤ m) (hs : ∀ d : Nat, n ≤ d → d < m → ¬ accP sz st nv b ln d) : RS sz st nv b ln m le fe fd := RS_skip h hnm (fun d a b c => absurd c (hs d a b))
theorem RS_take {sz st : Nat → Int} {nv b ln n : Nat} {le fe : Int} {fd fd' : Nat → Int} (hsz : SzOk sz) (hb : b = 1 ∨ b = 2) (hn : n < ix b (vc b) 0 0) (h : RS sz st nv b ln n le fe fd) (ha : accP sz st nv b ln n) (hq : le = -1 ∨ btC sz b n < le ∨ (btC sz b n = le ∧ clC sz b n < fe)) (hf : ∀ j : Nat, j < 9 → fd' j = nuO b n j) : RS sz st nv b ln (n + 1) (btC sz b n) (clC sz b n) fd' := by
  obtain ⟨c, hbs, hw⟩ := RS_bs h
  have h1 := buZ_b (Nu2_3 (nuO_2 hb hn)) hsz
  have h2 := dif_b sz (keyZ (nuO b n) sz 1) 512
  have hne : btC sz b n ≠ -1 := by show buZ (nuO b n) sz ≠ -1; omega
  refine RS_of (c := n) ?_ (fun _ => ⟨h1.1, hf⟩) (by show -1 ≤ buZ (nuO b n) sz ∧ buZ (nuO b n) sz ≤ 64; omega) (by show 0 ≤ difK _ _ 512 ∧ difK _ _ 512 ≤ 512; omega)
  rw [if_neg hne]
  refine bsR_take hbs ha ?_
  rcases hq with q | q | q
  · exact Or.inl (if_pos q)
  · exact Or.inr (Or.inl q)
  · exact Or.inr (Or.inr q)
theorem RS_0 {sz st : Nat → Int} {nv b ln : Nat} {fd : Nat → Int} : RS sz st nv b ln (ix b 0 0 0) (-1) 0 fd := by
  have e : ix b 0 0 0 = 0 := by unfold ix; simp
  rw [e]
  exact ⟨⟨0, Or.inl ⟨rfl, fun d h => absurd h (Nat.not_lt_zero _)⟩⟩, by omega, by omega⟩
theorem RS_close {sz st : Nat → Int} {nv b ln t s r : Nat} {le fe : Int} {fd : Nat → Int} (h : RS sz st nv b ln (ix b t s r) le fe fd) (hb : b = 1 ∨ b = 2) (hs : s < vc b) (hr : r ≤ vc b) (hc : s = vc b / 2 ∨ (ln = 1 ∧ vc b / 2 < r) ∨ r = vc b) : RS sz st nv b ln (ix b t (s + 1) 0) le fe fd := by
  refine RS_no h (ix_le hb hr) (fun d d1 d2 ac => ?_)
  have g := ix_in hb hs d1 d2
  rcases hc with q | ⟨q1, q2⟩ | q
  · exact ac.1 (g.1.trans q)
  · have := ac.2.1 q1
    omega
  · have : d % vc b < vc b := Nat.mod_lt _ (by rcases vc_v hb with e | e <;> omega)
    omega
theorem RS_open {sz st : Nat → Int} {nv b ln t s r : Nat} {le fe : Int} {fd : Nat → Int} (h : RS sz st nv b ln (ix b t s 0) le fe fd) (hb : b = 1 ∨ b = 2) (hs : s < vc b) (hr : r < vc b) (hl : r = 0 ∨ (ln = 1 ∧ r ≤ vc b / 2)) : RS sz st nv b ln (ix b t s r) le fe fd := by
  refine RS_no h (by unfold ix; omega) (fun d d1 d2 ac => ?_)
  have hd : d < ix b t (s + 1) 0 := Nat.lt_of_lt_of_le d2 (ix_le hb (by omega))
  have g := ix_in hb hs d1 hd
  rcases hl with q | ⟨q1, q2⟩
  · subst q; omega
  · have e1 := ac.2.1 q1
    have e2 : d % vc b < r := by
      unfold ix at d1 d2
      rcases vc_v hb with e | e <;> rw [e] at d1 d2 hs hr ⊢ <;> omega
    omega
theorem RS_one {sz st : Nat → Int} {nv b ln t s r : Nat} {le fe : Int} {fd : Nat → Int} (h : RS sz st nv b ln (ix b t s r) le fe fd) (hn : accP sz st nv b ln (ix b t s r) → le ≠ -1 ∧ (le < btC sz b (ix b t s r) ∨ (le = btC sz b (ix b t s r) ∧ fe ≤ clC sz b (ix b t s r)))) : RS sz st nv b ln (ix b t s (r + 1)) le fe fd := by
  refine RS_skip h (by unfold ix; omega) (fun d d1 d2 ac => ?_)
  have : d = ix b t s r := by unfold ix at d1 d2 ⊢; omega
  subst this
  exact hn ac
theorem RS_ear {sz st : Nat → Int} {nv b ln t : Nat} {le fe : Int} {fd g : Nat → Int} {z : Int} (h : RS sz st nv b ln (ix b t 0 0) le fe fd) (hb : b = 1 ∨ b = 2) (h0 : g 0 = spA b t ∧ g 1 = spB b t ∧ g 2 = spC b t) (hz : isFst (earP g sz st) nv z) (hz0 : 0 ≤ z) : RS sz st nv b ln (ix b (t + 1) 0 0) le fe fd := by
  refine RS_no h fd_le (fun d d1 d2 ac => ?_)
  have e := fd_blk hb d1 d2
  have n := isFst_neg hz
  have : ∀ v : Nat, v < nv → ¬ earP g sz st v := fun v hv q => by
    refine ac.2.2.2.1 v hv ?_
    unfold nuO
    rw [e]
    exact (ear_c (nu := g) (nu' := nuC b t _ _) h0.1 h0.2.1 h0.2.2).mp q
  have := n.mpr this
  omega
theorem acc_ix {sz st : Nat → Int} {nv b ln t s r : Nat} (hb : b = 1 ∨ b = 2) (hs : s < vc b) (hr : r < vc b) (h1 : s ≠ vc b / 2) (h2 : ln = 1 → r = vc b / 2) (h3 : ln = 2 → r ≠ vc b / 2) : accP sz st nv b ln (ix b t s r) ↔ rigP (nuC b t s r) sz st nv := by
  have hi := ix_d (t := t) hb hs hr
  unfold accP
  rw [hi.2.1, hi.2.2, nuO_ix hb hs hr]
  exact ⟨fun q => q.2.2.2, fun q => ⟨h1, h2, h3, q⟩⟩
theorem bt_ix {sz : Nat → Int} {b t s r : Nat} (hb : b = 1 ∨ b = 2) (hs : s < vc b) (hr : r < vc b) : btC sz b (ix b t s r) = buZ (nuC b t s r) sz ∧ clC sz b (ix b t s r) = difK sz (keyZ (nuC b t s r) sz 1) 512 := by
  unfold btC clC
  rw [nuO_ix hb hs hr]
  exact ⟨rfl, rfl⟩
