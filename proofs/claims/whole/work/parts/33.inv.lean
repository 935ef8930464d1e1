/-! WHAT HOLDS OF THE CLASS BETWEEN TWO CALLS -/
def LdOk (st : Nat → Int) (nv : Nat) : Prop := ∀ v : Nat, v < nv → 0 < st (3 * v) ∨ (st (3 * v) = 0 ∧ (0 < st (3 * v + 1) ∨ (st (3 * v + 1) = 0 ∧ 0 < st (3 * v + 2))))
def VkOk (M : Mem) (nv : Nat) : Prop := M 1 10 = 1 → ∀ v p : Nat, v < nv → isP (M 2) p → M 9 (512 * v + p) = plA (M 2) (M 4) (M 5) (M 6) (M 7) (M 8) nv (fun _ => 0) 512 (512 * v + p)
def RnOk (M : Mem) (nv : Nat) : Prop := ∃ bt : Nat, M 25 3 = (bt : Int) ∧ M 12 4 = (bt : Int) ∧ SoOk (M 2) (beatZ (M 11) (M 2) (M 10 1)) bt (M 29) (M 28) ∧ ∀ b : Nat, b < bt → M 27 b = hsu (M 2) (M 4) (beatZ (M 11) (M 2) (M 10 1)) (b : Int) nv
def CInv (M : Mem) (nv np : Nat) : Prop :=
  SzOk (M 2) ∧ M 1 3 = (nv : Int) ∧ nv ≤ 4 ∧ M 1 2 = (np : Int) ∧ CdOk (M 2) (M 3) np ∧ StOk (M 4) ∧ (∀ v : Nat, v < nv → 0 ≤ M 5 v ∧ M 5 v ≤ 7) ∧ (∀ v : Nat, v < nv → 0 ≤ M 6 v ∧ M 6 v < nv) ∧ (∀ v : Nat, v < nv → 0 ≤ M 7 v ∧ M 7 v < nv) ∧ (∀ q : Nat, R32 (M 8 q)) ∧ (∀ q : Nat, R32 (M 9 q)) ∧ (M 1 10 = 0 ∨ M 1 10 = 1) ∧ VkOk M nv ∧ LdOk (M 4) nv ∧ NuOk (M 11) ∧ (1 ≤ M 10 1 ∧ M 10 1 ≤ 8) ∧ (∀ q : Nat, 9 ≤ q → M 11 q = 0) ∧ (∀ q : Nat, 9 ≤ q → M 21 q = 0) ∧ (∀ q : Nat, 9 ≤ q → M 23 q = 0) ∧ (M 12 3 = 0 ∨ M 12 3 = 1) ∧ (M 12 3 = 1 → PlOk (M 11) (M 2) (M 10 1) (M 13) (M 14) (M 15) (M 17) (M 12 4) (M 12 5) (M 12 6) (M 12 7)) ∧ (∀ j : Nat, M 16 j = 0) ∧ (∀ d : Nat, M 18 d = 0 ∨ M 18 d = 1) ∧ (∀ d : Nat, 512 ≤ d → M 18 d = 0) ∧ (M 25 0 = 0 ∨ M 25 0 = 1) ∧ (M 25 0 = 1 → M 12 3 = 1 ∧ RnOk M nv) ∧ (∀ q : Nat, R32 (M 26 q)) ∧ (0 ≤ M 25 3 ∧ M 25 3 ≤ 512)
/-- a call that may have placed the points, and no more -/
def setS (M M1 : Mem) (nv np : Nat) : Prop := CInv M1 nv np ∧ (∀ h : Nat, h < 12 ∨ 18 < h → M1 h = M h)
theorem setS_rf {M : Mem} {nv np : Nat} (h : CInv M nv np) : setS M M nv np := ⟨h, fun _ _ => rfl⟩
theorem pl_R {nu sz : Nat → Int} {f : Int} {be ce se ah : Nat → Int} {bts cls la ea : Int} (hn : NuOk nu) (hs : SzOk sz) (h1 : 1 ≤ f) (h2 : f ≤ 8) (h : PlOk nu sz f be ce se ah bts cls la ea) : (1 ≤ bts ∧ bts ≤ 512) ∧ (1 ≤ cls ∧ cls ≤ 512) ∧ (-1 ≤ la ∧ la < 512) ∧ (-1 ≤ ea ∧ ea < 512) ∧ ∀ p : Nat, isP sz p → be p = beatZ nu sz f p ∧ 0 ≤ be p ∧ be p < bts := by
  obtain ⟨a, b, c, d, e⟩ := h
  have hbb : ∀ p : Nat, isP sz p → 0 ≤ beatZ nu sz f p ∧ beatZ nu sz f p < 512 := fun p hp => beatZ_b hn hs h1 h2 hp
  have b1 := bea_b hs hbb c
  have d1 := dif_pos (sz := sz) (K := keyZ nu sz f) hs
  have d2 := dif_b sz (keyZ nu sz f) 512
  refine ⟨b1, by omega, ?_, ?_, fun p hp => ?_⟩
  · rcases e with ⟨e1, -⟩ | ⟨p, q, e1, e2, e3, e4, -⟩ <;> omega
  · rcases e with ⟨-, e1, -⟩ | ⟨p, q, e1, e2, e3, e4, -⟩
    · omega
    · have := e4.1; omega
  · have := c.1 p (isP_lt hs hp) hp
    have := hbb p hp
    have := (a p hp).1
    omega
theorem ds0_met {sz K B : Nat → Int} {la ea : Int} (h : metR sz K B 512 la ea) (hs : SzOk sz) : la ≠ -1 ↔ dsP sz K B 512 0 := by
  rcases h with ⟨a, b, c⟩ | ⟨p, q, a, b, c, d, e⟩
  · refine ⟨fun g => absurd a g, ?_⟩
    rintro ⟨p, q, r1, r2, r3, r4, r5, r6⟩
    refine absurd ⟨r2, r3, r4, r5, ?_⟩ (c p q r1)
    unfold aZ at r6
    split at r6 <;> omega
  · refine ⟨fun _ => ⟨p, q, c, d.1, d.2.1, d.2.2.1, d.2.2.2.1, ?_⟩, fun _ => by omega⟩
    rw [d.2.2.2.2]
    unfold aZ
    split <;> omega
theorem dsP_c {sz K K' B B' : Nat → Int} {b d : Nat} (hB : ∀ p : Nat, isP sz p → B p = B' p) (hK : ∀ p : Nat, isP sz p → K p = K' p) (h : dsP sz K B b d) : dsP sz K' B' b d := by
  obtain ⟨p, q, r1, r2, r3, r4, r5, r6⟩ := h
  exact ⟨p, q, r1, r2, r3, r4, by rw [← hK q r3, ← hK p r4]; exact r5, by rw [← hB q r3, ← hB p r4]; exact r6⟩
def reaR (nu sz st : Nat → Int) (nv : Nat) (M1 : Mem) (z : Int) : Prop := ∃ e f : Int, isFst (earP nu sz st) nv e ∧ isFst (farP nu sz st) nv f ∧ ((0 ≤ e ∧ z = 1) ∨ (e < 0 ∧ 0 ≤ f ∧ z = 2) ∨ (e < 0 ∧ f < 0 ∧ M1 12 3 = 1 ∧ M1 12 6 = -1 ∧ z = 0) ∨ (e < 0 ∧ f < 0 ∧ M1 12 3 = 1 ∧ M1 12 6 ≠ -1 ∧ z = 3))
theorem reaR_b {nu sz st : Nat → Int} {nv : Nat} {M1 : Mem} {z : Int} (h : reaR nu sz st nv M1 z) : 0 ≤ z ∧ z ≤ 3 := by
  obtain ⟨e, f, -, -, h⟩ := h
  omega
def culR (nu sz st : Nat → Int) (nv : Nat) (la r z : Int) : Prop := (r = 1 ∧ isFst (earP nu sz st) nv z) ∨ (r = 2 ∧ isFst (farP nu sz st) nv z) ∨ (r = 3 ∧ z = la) ∨ (¬ (1 ≤ r ∧ r ≤ 3) ∧ z = -1)
theorem apR_c {D D' : Nat → Prop} {z : Int} (h : ∀ d : Nat, D d ↔ D' d) (a : apR D z) : apR D' z := by
  obtain ⟨n, b, c, d, e⟩ := a
  exact ⟨n, b, c, fun m hm q => d m hm ((h _).mpr q), fun u h1 h2 => by obtain ⟨m, f, g⟩ := e u h1 h2; exact ⟨m, f, (h _).mp g⟩⟩
theorem inv_la {M : Mem} {nv np : Nat} (hI : CInv M nv np) (hk : M 12 3 = 1) : -1 ≤ M 12 6 ∧ M 12 6 < 512 := by
  obtain ⟨hs, hnv, hn4, hnp, hcd, hst, hac, hlf, hrt, hed, har9, hvk, hVk, hld, hnu, hf, h11, h21, h23, hkn, hpl, -⟩ := hI
  exact (pl_R hnu hs hf.1 hf.2 (hpl hk)).2.2.1
theorem set_pl {M M1 : Mem} {nv np : Nat} (hI : CInv M nv np) (hk : M 12 3 = 0) {be ce se ah ls : Nat → Int} {bts cls la ea : Int} (hp : PlOk (M 11) (M 2) (M 10 1) be ce se ah bts cls la ea) (hl : ∀ j : Nat, ls j = 0) (hm : M1 = ups (ups (ups (ups (ups (ups M 13 be) 14 ce) 15 se) 12 (up1 (up1 (up1 (up1 (up1 (M 12) 4 bts) 5 cls) 6 la) 7 ea) 3 1)) 17 ah) 16 ls) : setS M M1 nv np := by
  obtain ⟨hs, hnv, hn4, hnp, hcd, hst, hac, hlf, hrt, hed, har9, hvk, hVk, hld, hnu, hf, h11, h21, h23, hkn, hpl, hl0, hb0, hb5, hth, hrn, har26, hb25⟩ := hI
  have ht : M 25 0 = 0 := by
    rcases hth with e | e
    · exact e
    · have := (hrn e).1; omega
  subst hm
  refine ⟨⟨hs, hnv, hn4, hnp, hcd, hst, hac, hlf, hrt, hed, har9, hvk, hVk, hld, hnu, hf, h11, h21, h23, Or.inr rfl, fun _ => hp, hl, hb0, hb5, Or.inl ht, fun e => ?_, har26, hb25⟩, fun h hh => ?_⟩
  · exfalso
    have e' : M 25 0 = 1 := e
    omega
  · rw [ups_n (by omega), ups_n (by omega), ups_n (by omega), ups_n (by omega), ups_n (by omega), ups_n (by omega)]
theorem rea_1 {nu sz st : Nat → Int} {nv : Nat} {M1 : Mem} {e : Int} (h : isFst (earP nu sz st) nv e) (he : 0 ≤ e) : reaR nu sz st nv M1 1 := by
  obtain ⟨f, hf⟩ := isFst_ex (farP nu sz st) nv
  exact ⟨e, f, h, hf, Or.inl ⟨he, rfl⟩⟩
theorem fr_rows {M M1 : Mem} {nv np : Nat} (h : setS M M1 nv np) : M1 2 = M 2 ∧ M1 4 = M 4 ∧ M1 11 = M 11 ∧ M1 10 = M 10 := ⟨h.2 2 (by omega), h.2 4 (by omega), h.2 11 (by omega), h.2 10 (by omega)⟩
theorem why_k {M M1 : Mem} {nv np : Nat} {x z : Int} {e f : Int} (hse : setS M M1 nv np) (hk : M1 12 3 = 1) (he : isFst (earP (M 11) (M 2) (M 4)) nv e) (hf : isFst (farP (M 11) (M 2) (M 4)) nv f) (hz : z = whyF x e f (M1 12 6) (M1 12 7)) : whyR (M 11) (M 2) (M 4) (M 10 1) nv x z := by
  obtain ⟨r2, r4, r11, r10⟩ := fr_rows hse
  have hI := hse.1
  obtain ⟨hs, hnv, hn4, hnp, hcd, hst, hac, hlf, hrt, hed, har9, hvk, hVk, hld, hnu, hf0, h11, h21, h23, hkn, hpl, -⟩ := hI
  have hp := hpl hk
  rw [r2, r11, r10] at hp
  exact ⟨e, f, _, _, he, hf, hp.2.2.2.2, hz⟩
theorem why_e {nu sz st : Nat → Int} {fo x z e : Int} {nv : Nat} (he : isFst (earP nu sz st) nv e) (h0 : 0 ≤ e) (hz : ∀ f la ea : Int, z = whyF x e f la ea) : whyR nu sz st fo nv x z := by
  obtain ⟨f, hf⟩ := isFst_ex (farP nu sz st) nv
  obtain ⟨la, ea, hm⟩ := metR_ex (sz := sz) (K := keyZ nu sz fo) (B := beatZ nu sz fo) 512
  exact ⟨e, f, la, ea, he, hf, hm, hz f la ea⟩
theorem why_f {nu sz st : Nat → Int} {fo x z e f : Int} {nv : Nat} (he : isFst (earP nu sz st) nv e) (hf : isFst (farP nu sz st) nv f) (hz : ∀ la ea : Int, z = whyF x e f la ea) : whyR nu sz st fo nv x z := by
  obtain ⟨la, ea, hm⟩ := metR_ex (sz := sz) (K := keyZ nu sz fo) (B := beatZ nu sz fo) 512
  exact ⟨e, f, la, ea, he, hf, hm, hz la ea⟩
theorem why_0 {M M1 : Mem} {nv np : Nat} {x z : Int} (hI : CInv M nv np) (hre : reaR (M 11) (M 2) (M 4) nv M1 z) (hse : setS M M1 nv np) (hx : x = 0) : whyR (M 11) (M 2) (M 4) (M 10 1) nv x z := by
  obtain ⟨e, f, he, hf, h⟩ := hre
  subst hx
  rcases h with ⟨a, b⟩ | ⟨a, b, c⟩ | ⟨a, b, c, d, g⟩ | ⟨a, b, c, d, g⟩
  · exact why_e he a (fun f la ea => by unfold whyF; rw [if_pos rfl, if_pos a]; exact b)
  · exact why_f he hf (fun la ea => by unfold whyF; rw [if_pos rfl, if_neg (by omega), if_pos b]; exact c)
  · exact why_k hse c he hf (by unfold whyF; rw [if_pos rfl, if_neg (by omega), if_neg (by omega), if_pos d]; exact g)
  · exact why_k hse c he hf (by unfold whyF; rw [if_pos rfl, if_neg (by omega), if_neg (by omega), if_neg d]; exact g)
theorem why_1 {M M1 : Mem} {nv np : Nat} {x r z : Int} (hI : CInv M nv np) (hre : reaR (M 11) (M 2) (M 4) nv M1 r) (hse : setS M M1 nv np) (hx : x = 1) (hcu : culR (M1 11) (M1 2) (M1 4) nv (M1 12 6) r z) : whyR (M 11) (M 2) (M 4) (M 10 1) nv x z := by
  obtain ⟨r2, r4, r11, r10⟩ := fr_rows hse
  rw [r2, r4, r11] at hcu
  obtain ⟨e, f, he, hf, h⟩ := hre
  subst hx
  have n1 : ¬ (1 : Int) = 0 := by decide
  rcases h with ⟨a, b⟩ | ⟨a, b, c⟩ | ⟨a, b, c, d, g⟩ | ⟨a, b, c, d, g⟩
  · rcases hcu with ⟨u, v⟩ | ⟨u, v⟩ | ⟨u, v⟩ | ⟨u, v⟩ <;> try omega
    exact why_e he a (fun f la ea => by unfold whyF; rw [if_neg n1, if_pos rfl, if_pos a]; exact isFst_un v he)
  · rcases hcu with ⟨u, v⟩ | ⟨u, v⟩ | ⟨u, v⟩ | ⟨u, v⟩ <;> try omega
    exact why_f he hf (fun la ea => by unfold whyF; rw [if_neg n1, if_pos rfl, if_neg (by omega), if_pos b]; exact isFst_un v hf)
  · rcases hcu with ⟨u, v⟩ | ⟨u, v⟩ | ⟨u, v⟩ | ⟨u, v⟩ <;> try omega
    exact why_k hse c he hf (by unfold whyF; rw [if_neg n1, if_pos rfl, if_neg (by omega), if_neg (by omega), d]; exact v)
  · rcases hcu with ⟨u, v⟩ | ⟨u, v⟩ | ⟨u, v⟩ | ⟨u, v⟩ <;> try omega
    exact why_k hse c he hf (by unfold whyF; rw [if_neg n1, if_pos rfl, if_neg (by omega), if_neg (by omega)]; exact v)
theorem why_2 {M M1 : Mem} {nv np : Nat} {x r z : Int} (hI : CInv M nv np) (hre : reaR (M 11) (M 2) (M 4) nv M1 r) (hse : setS M M1 nv np) (hx : x = 2) (hz : (r ≠ 3 ∧ z = -1) ∨ (r = 3 ∧ z = M1 12 7)) : whyR (M 11) (M 2) (M 4) (M 10 1) nv x z := by
  obtain ⟨e, f, he, hf, h⟩ := hre
  subst hx
  have n0 : ¬ (2 : Int) = 0 := by decide
  have n1 : ¬ (2 : Int) = 1 := by decide
  rcases h with ⟨a, b⟩ | ⟨a, b, c⟩ | ⟨a, b, c, d, g⟩ | ⟨a, b, c, d, g⟩
  · exact why_e he a (fun f la ea => by unfold whyF; rw [if_neg n0, if_neg n1, if_pos rfl, if_pos a]; omega)
  · exact why_f he hf (fun la ea => by unfold whyF; rw [if_neg n0, if_neg n1, if_pos rfl, if_neg (by omega), if_pos b]; omega)
  · have hm : M1 12 7 = -1 := by
      obtain ⟨r2, r4, r11, r10⟩ := fr_rows hse
      obtain ⟨hs, hnv, hn4, hnp, hcd, hst, hac, hlf, hrt, hed, har9, hvk, hVk, hld, hnu, hf0, h11, h21, h23, hkn, hpl, -⟩ := hse.1
      exact met_m1 (hpl c).2.2.2.2 d
    exact why_k hse c he hf (by unfold whyF; rw [if_neg n0, if_neg n1, if_pos rfl, if_neg (by omega), if_neg (by omega)]; omega)
  · exact why_k hse c he hf (by unfold whyF; rw [if_neg n0, if_neg n1, if_pos rfl, if_neg (by omega), if_neg (by omega)]; omega)
theorem why_3 {M : Mem} {nv np : Nat} {x : Int} (hI : CInv M nv np) (hx : ¬ (0 ≤ x ∧ x ≤ 2)) : whyR (M 11) (M 2) (M 4) (M 10 1) nv x (-1) := by
  obtain ⟨e, he⟩ := isFst_ex (earP (M 11) (M 2) (M 4)) nv
  obtain ⟨f, hf⟩ := isFst_ex (farP (M 11) (M 2) (M 4)) nv
  exact why_f he hf (fun la ea => by unfold whyF; rw [if_neg (by omega), if_neg (by omega), if_neg (by omega)])
