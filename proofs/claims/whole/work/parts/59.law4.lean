/-! WHAT THE REFERENCE'S CALLS ASK -/
def MPre (M : Mem) (nv : Nat) : Prop := M 30 1 = (nv : Int) ∧ nv ≤ 4 ∧ SzOk (M 31) ∧ StOk (M 32) ∧ (∀ v : Nat, v < nv → 0 ≤ M 33 v ∧ M 33 v ≤ 7) ∧ (∀ v : Nat, v < nv → 0 ≤ M 34 v ∧ M 34 v < nv) ∧ (∀ v : Nat, v < nv → 0 ≤ M 35 v ∧ M 35 v < nv) ∧ (∀ q : Nat, R32 (M 36 q)) ∧ NuOk (M 37) ∧ (1 ≤ M 30 8 ∧ M 30 8 ≤ 8) ∧ (M 30 9 = 0 ∨ M 30 9 = 1) ∧ (∀ q : Nat, R32 (M 38 q)) ∧ (∀ q : Nat, R32 (M 39 q)) ∧ (∀ j : Nat, 4096 ≤ j → M 40 j = 0) ∧ (∀ j : Nat, 1024 ≤ j → M 41 j = 0) ∧ (∀ q : Nat, 9 ≤ q → M 37 q = 0) ∧ (0 ≤ M 30 1 ∧ M 30 1 ≤ 4)
theorem mpre {M : Mem} {nv np : Nat} (h : LInv M nv np) : MPre M nv := by
  obtain ⟨⟨hs, hnv, hn4, hnp, hcd, hst, hac, hlf, hrt, hed, har9, hvk, hVk, hld, hnu, hf0, h11, h21, h23, hkn, hpl, hl0, hb0, hb5, hth, hrn, har26, hb25⟩, hS, r1, r2, r3, r4, r5, r6, r7, r8, r9, r10, r11, r12, r13, r14⟩ := h
  unfold MPre
  rw [r1, r2, r3, r4, r5, r6, r7, r8, r9, r10, r11]
  exact ⟨hnv, hn4, hs, hst, hac, hlf, hrt, hed, hnu, hf0, hth, har26, r12, r13, r14, h11, by omega⟩
theorem mpre_fr {M M1 : Mem} {nv : Nat} (h : MPre M nv) (hf : ∀ k : Nat, 29 < k → M1 k = M k) : MPre M1 nv := by
  unfold MPre at *
  rw [hf 30 (by decide), hf 31 (by decide), hf 32 (by decide), hf 33 (by decide), hf 34 (by decide), hf 35 (by decide), hf 36 (by decide), hf 37 (by decide), hf 38 (by decide), hf 39 (by decide), hf 40 (by decide), hf 41 (by decide)]
  exact h
theorem ww_icmp_same {w : WLD} {k : KX} {cc : ByteArray} {own : String} {rm : Room} {pc : Nat} {lv : List (Nat × Value)} {rest : List Value} {M : Mem} (C : Cx w k cc own rm) {a b off : Int} (tgt : Nat) (d : decode cc pc = .ok (.if_icmp .eq off, 3)) (ht : (pc : Int) + off = (tgt : Int)) (h : a = b) (kk : WW w k tgt lv rest M) : WW w k pc lv (.int (iZ b) :: .int (iZ a) :: rest) M := fun H locs ls hP hS hl => lv_icmp_eq C.1 C.2.1 d ht (fun _ => kk H locs ls hP hS hl) (fun q => absurd (by rw [h]) q)
def sxl (xs : Nat → Int32) (n d : Nat) : Int := sx xs (n + d)
theorem ww_sarg {w : WLD} {k : KX} {own : String} {rm : Room} {pc : Nat} {lv : List (Nat × Value)} {rest : List Value} {M : Mem} {cc : ByteArray} (C : Cx w k cc own rm) {b L n : Nat} {xs : Nat → Int32} (X : Scr k b L xs) (d : Nat) (hn : n + d < L) (d3 : decode cc pc = .ok (.iadd, 1)) (d4 : decode cc (pc + 1) = .ok (.iaload, 1)) (kk : WW w k (pc + 1 + 1) lv (.int (iZ (sx xs (n + d))) :: rest) M) : WW w k pc lv (.int (iZ ((d : Nat) : Int)) :: .int (iZ ((n : Nat) : Int)) :: .ref b :: rest) M := by
  refine ww_iadd C d3 ?_
  exact ww_sld C X (n + d) (by omega) hn d4 kk
