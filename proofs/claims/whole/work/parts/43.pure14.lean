/-! candidates that are none, and the rows of a trial -/
theorem ss_skip {M : Mem} {sz st : Nat → Int} {nv b ln n m : Nat} (h : SS M sz st nv b ln n) (hnm : n ≤ m) (hn : ∀ d : Nat, n ≤ d → d < m → accP sz st nv b ln d → M 19 3 = 1 ∧ (M 19 1 < btC sz b d ∨ (M 19 1 = btC sz b d ∧ M 19 2 ≤ clC sz b d))) : SS M sz st nv b ln m := by
  obtain ⟨⟨c, hb, hw⟩, rest⟩ := h
  exact ⟨⟨c, bsR_skip hb hnm hn, hw⟩, rest⟩
theorem ss_no {M : Mem} {sz st : Nat → Int} {nv b ln n m : Nat} (h : SS M sz st nv b ln n) (hnm : n ≤ m) (hn : ∀ d : Nat, n ≤ d → d < m → ¬ accP sz st nv b ln d) : SS M sz st nv b ln m := ss_skip h hnm (fun d a b c => absurd c (hn d a b))
theorem ss_23 {M : Mem} {sz st : Nat → Int} {nv b ln n : Nat} {g : Nat → Int} (h : SS M sz st nv b ln n) (h9 : ∀ q : Nat, 9 ≤ q → g q = 0) (h2 : Nu2 g) : SS (ups M 23 g) sz st nv b ln n := by
  obtain ⟨a, h21, h23, hn2, h24, r1, r2, hF⟩ := h
  exact ⟨a, h21, h9, h2, h24, r1, r2, hF⟩
theorem fr_23 {M Mt : Mem} {g : Nat → Int} (h : frS M Mt) : frS M (ups Mt 23 g) := fun j a b c d => by rw [ups_n c]; exact h j a b c d
theorem ix_in {b t s r d : Nat} (hb : b = 1 ∨ b = 2) (hs : s < vc b) (h1 : ix b t s r ≤ d) (h2 : d < ix b t (s + 1) 0) : d / vc b % vc b = s ∧ r ≤ d % vc b ∧ d / (vc b * vc b) = t := by
  unfold ix at h1 h2
  rcases vc_v hb with e | e <;> rw [e] at hs h1 h2 ⊢ <;> omega
theorem ix_le {b t s r : Nat} (hb : b = 1 ∨ b = 2) (hr : r ≤ vc b) : ix b t s r ≤ ix b t (s + 1) 0 := by
  unfold ix
  rcases vc_v hb with e | e <;> rw [e] at hr ⊢ <;> omega
theorem ss_close {M : Mem} {sz st : Nat → Int} {nv b ln t s r : Nat} (h : SS M sz st nv b ln (ix b t s r)) (hb : b = 1 ∨ b = 2) (hs : s < vc b) (hr : r ≤ vc b) (hc : s = vc b / 2 ∨ (ln = 1 ∧ vc b / 2 < r) ∨ r = vc b) : SS M sz st nv b ln (ix b t (s + 1) 0) := by
  refine ss_no h (ix_le hb hr) (fun d d1 d2 ac => ?_)
  have g := ix_in hb hs d1 d2
  rcases hc with q | ⟨q1, q2⟩ | q
  · exact ac.1 (g.1.trans q)
  · have := ac.2.1 q1
    omega
  · have : d % vc b < vc b := Nat.mod_lt _ (by rcases vc_v hb with e | e <;> omega)
    omega
theorem ss_open {M : Mem} {sz st : Nat → Int} {nv b ln t s r : Nat} (h : SS M sz st nv b ln (ix b t s 0)) (hb : b = 1 ∨ b = 2) (hs : s < vc b) (hr : r < vc b) (hl : r = 0 ∨ (ln = 1 ∧ r ≤ vc b / 2)) : SS M sz st nv b ln (ix b t s r) := by
  refine ss_no h (by unfold ix; omega) (fun d d1 d2 ac => ?_)
  have hd : d < ix b t (s + 1) 0 := Nat.lt_of_lt_of_le d2 (ix_le hb (by omega))
  have g := ix_in hb hs d1 hd
  rcases hl with q | ⟨q1, q2⟩
  · subst q; omega
  · have e1 := ac.2.1 q1
    have e2 : d % vc b < r := by
      unfold ix at d1 d2
      rcases vc_v hb with e | e <;> rw [e] at d1 d2 hs hr ⊢ <;> omega
    omega
theorem sp_ne {b n : Nat} (hb : b = 1 ∨ b = 2) (hn : n < vc b) (hz : n ≠ vc b / 2) : spA b n ≠ 0 ∨ spB b n ≠ 0 ∨ spC b n ≠ 0 := by
  unfold spA spB spC
  rcases hb with rfl | rfl
  · have hn' : n < 27 := hn
    have hz' : n ≠ 13 := hz
    simp only [Nat.reduceMul, Nat.reduceAdd]
    omega
  · have hn' : n < 125 := hn
    have hz' : n ≠ 62 := hz
    simp only [Nat.reduceMul, Nat.reduceAdd]
    omega
theorem tl_row {Mt : Mem} {b t s r : Nat} (h9 : ∀ q : Nat, 9 ≤ q → Mt 23 q = 0) (h0 : Mt 23 0 = spA b t ∧ Mt 23 1 = spB b t ∧ Mt 23 2 = spC b t) (h1 : Mt 23 3 = spA b s ∧ Mt 23 4 = spB b s ∧ Mt 23 5 = spC b s) : up1 (up1 (up1 (Mt 23) 6 (spA b r)) 7 (spB b r)) 8 (spC b r) = nuC b t s r := by
  refine row_eq ?_ ?_ ⟨rfl, rfl, rfl⟩ (fun q hq => ?_)
  · exact h0
  · exact h1
  · rw [up1_n (by omega), up1_n (by omega), up1_n (by omega)]
    exact h9 q hq
theorem sp2 {b n : Nat} (hb : b = 1 ∨ b = 2) (hn : n < vc b) : (-2 ≤ spA b n ∧ spA b n ≤ 2) ∧ (-2 ≤ spB b n ∧ spB b n ≤ 2) ∧ (-2 ≤ spC b n ∧ spC b n ≤ 2) := by
  have := sp_b hb hn
  omega
theorem nu2_up {g : Nat → Int} {b n q : Nat} (hb : b = 1 ∨ b = 2) (hn : n < vc b) (h : Nu2 g) : Nu2 (up1 (up1 (up1 g (3 * q) (spA b n)) (3 * q + 1) (spB b n)) (3 * q + 2) (spC b n)) := by
  have k := sp2 hb hn
  intro j hj
  unfold up1
  split
  · exact k.2.2
  · split
    · exact k.2.1
    · split
      · exact k.1
      · exact h j hj
theorem z9_up {g : Nat → Int} {q : Nat} {x y z : Int} (hq : q < 3) (h : ∀ j : Nat, 9 ≤ j → g j = 0) : ∀ j : Nat, 9 ≤ j → up1 (up1 (up1 g (3 * q) x) (3 * q + 1) y) (3 * q + 2) z j = 0 := fun j hj => by
  rw [up1_n (by omega), up1_n (by omega), up1_n (by omega)]
  exact h j hj
theorem tl_step {M Mt M1 : Mem} {nv b ln t s r : Nat} (hs : SzOk (M 2)) (hfr : frS M Mt) (hss : SS Mt (M 2) (M 4) nv b ln (ix b t s r)) (h012 : Mt 23 0 = spA b t ∧ Mt 23 1 = spB b t ∧ Mt 23 2 = spC b t) (h345 : Mt 23 3 = spA b s ∧ Mt 23 4 = spB b s ∧ Mt 23 5 = spC b s) (hM : M 23 0 = spA b t ∧ M 23 1 = spB b t ∧ M 23 2 = spC b t) (hle : Mt 19 3 = 1 → buZ (M 23) (M 2) ≤ Mt 19 1) (hb : b = 1 ∨ b = 2) (htv : t < vc b) (hsv : s < vc b) (hrv : r < vc b) (hsn : s ≠ vc b / 2) (hl1 : ln = 1 → r = vc b / 2) (hl2 : ln = 2 → r ≠ vc b / 2) (hear : ∀ v : Nat, v < nv → ¬ earP (M 23) (M 2) (M 4) v) (hc : consR (ups Mt 23 (up1 (up1 (up1 (Mt 23) 6 (spA b r)) 7 (spB b r)) 8 (spC b r))) M1 nv (buZ (M 23) (M 2))) : frS M M1 ∧ SS M1 (M 2) (M 4) nv b ln (ix b t s (r + 1)) ∧ (M1 23 0 = spA b t ∧ M1 23 1 = spB b t ∧ M1 23 2 = spC b t) ∧ (M1 23 3 = spA b s ∧ M1 23 4 = spB b s ∧ M1 23 5 = spC b s) ∧ (M1 19 3 = 1 → buZ (M 23) (M 2) ≤ M1 19 1) := by
  have r2 : Mt 2 = M 2 := hfr 2 (by decide) (by decide) (by decide) (by decide)
  have r4 : Mt 4 = M 4 := hfr 4 (by decide) (by decide) (by decide) (by decide)
  have hrow : up1 (up1 (up1 (Mt 23) 6 (spA b r)) 7 (spB b r)) 8 (spC b r) = nuC b t s r := tl_row hss.2.2.1 h012 h345
  rw [hrow] at hc
  have hix := ix_d (t := t) hb hsv hrv
  have hss' : SS (ups Mt 23 (nuC b t s r)) (M 2) (M 4) nv b ln (ix b t s r) := ss_23 hss (fun q hq => nuC_9 hq) (nuC_2 hb htv hsv hrv)
  have k := cons_step (M := ups Mt 23 (nuC b t s r)) (M1 := M1) (nv := nv) (b := b) (ln := ln) (n := ix b t s r) (bt := buZ (M 23) (M 2)) (by
    show SS (ups Mt 23 (nuC b t s r)) (Mt 2) (Mt 4) nv b ln (ix b t s r)
    rw [r2, r4]; exact hss') (by
    show nuC b t s r = nuO b (ix b t s r)
    rw [nuO_ix hb hsv hrv]) (by rw [hix.2.1]; exact hsn) (fun e => by rw [hix.2.2]; exact hl1 e) (fun e => by rw [hix.2.2]; exact hl2 e) (by
    show ∀ v : Nat, v < nv → ¬ earP (nuC b t s r) (Mt 2) (Mt 4) v
    rw [r2, r4]
    intro v hv q
    exact hear v hv ((ear_c (nu := M 23) (nu' := nuC b t s r) hM.1 hM.2.1 hM.2.2).mpr q)) (by
    show buZ (M 23) (M 2) = buZ (nuC b t s r) (Mt 2)
    rw [r2]
    exact buZ_c hM.1 hM.2.1 hM.2.2) hle hc (by show SzOk (Mt 2); rw [r2]; exact hs)
  obtain ⟨k1, k2, k3, k4⟩ := k
  have k4' : M1 23 = nuC b t s r := k4
  refine ⟨frS_tr (fr_23 hfr) k3, ?_, ?_, ?_, k2⟩
  · have k1' : SS M1 (Mt 2) (Mt 4) nv b ln (ix b t s r + 1) := k1
    rw [r2, r4] at k1'
    exact k1'
  · rw [k4']; exact ⟨rfl, rfl, rfl⟩
  · rw [k4']; exact ⟨rfl, rfl, rfl⟩
