/-! the answers of why and laid, in words that both keep to -/
def whyF (wh e f la ea : Int) : Int := if wh = 0 then (if 0 ≤ e then 1 else if 0 ≤ f then 2 else if la = -1 then 0 else 3) else if wh = 1 then (if 0 ≤ e then e else if 0 ≤ f then f else la) else if wh = 2 then (if 0 ≤ e then -1 else if 0 ≤ f then -1 else ea) else -1
def whyR (nu sz st : Nat → Int) (fo : Int) (nv : Nat) (wh z : Int) : Prop := ∃ e f la ea : Int, isFst (earP nu sz st) nv e ∧ isFst (farP nu sz st) nv f ∧ metR sz (keyZ nu sz fo) (beatZ nu sz fo) 512 la ea ∧ z = whyF wh e f la ea
theorem whyR_un {nu sz st : Nat → Int} {fo wh y z : Int} {nv : Nat} (h1 : whyR nu sz st fo nv wh y) (h2 : whyR nu sz st fo nv wh z) : y = z := by
  obtain ⟨e, f, la, ea, a, b, c, d⟩ := h1
  obtain ⟨e', f', la', ea', a', b', c', d'⟩ := h2
  rw [d, d', isFst_un a a', isFst_un b b', (metR_un c c').1, (metR_un c c').2]
theorem mzP_neg {nu : Nat → Int} {i j l : Int} (h : mzP nu i j l) : mzP nu (-i) (-j) (-l) := by
  obtain ⟨a, b, c, d⟩ := h
  refine ⟨by omega, ?_, ?_, ?_⟩
  · rw [Int.mul_neg, Int.mul_neg, Int.mul_neg]; omega
  · rw [Int.mul_neg, Int.mul_neg, Int.mul_neg]; omega
  · rw [Int.mul_neg, Int.mul_neg, Int.mul_neg]; omega
/-- two points with one place each way: their difference meets nothing -/
theorem sa_mz {nu sz : Nat → Int} {q p : Nat} (h0 : atZ nu sz 0 q = atZ nu sz 0 p) (h1 : atZ nu sz 1 q = atZ nu sz 1 p) (h2 : atZ nu sz 2 q = atZ nu sz 2 p) (hne : q ≠ p) (hq : q < 512) (hp : p < 512) : mzP nu (((p / 64 : Nat) : Int) - ((q / 64 : Nat) : Int)) (((p / 8 % 8 : Nat) : Int) - ((q / 8 % 8 : Nat) : Int)) (((p % 8 : Nat) : Int) - ((q % 8 : Nat) : Int)) := by
  unfold atZ dotP dotZ at h0 h1 h2
  refine ⟨by omega, ?_, ?_, ?_⟩
  · rw [Int.mul_sub, Int.mul_sub, Int.mul_sub]; simp only [Nat.mul_zero, Nat.zero_add] at h0; omega
  · rw [Int.mul_sub, Int.mul_sub, Int.mul_sub]; simp only [Nat.mul_one, Nat.reduceAdd] at h1; omega
  · rw [Int.mul_sub, Int.mul_sub, Int.mul_sub]; simp only [Nat.reduceMul, Nat.reduceAdd] at h2; omega
theorem mz_sa {nu sz : Nat → Int} {q p : Nat} (h : mzP nu (((p / 64 : Nat) : Int) - ((q / 64 : Nat) : Int)) (((p / 8 % 8 : Nat) : Int) - ((q / 8 % 8 : Nat) : Int)) (((p % 8 : Nat) : Int) - ((q % 8 : Nat) : Int))) : atZ nu sz 0 q = atZ nu sz 0 p ∧ atZ nu sz 1 q = atZ nu sz 1 p ∧ atZ nu sz 2 q = atZ nu sz 2 p := by
  obtain ⟨-, a, b, c⟩ := h
  rw [Int.mul_sub, Int.mul_sub, Int.mul_sub] at a b c
  unfold atZ dotP dotZ
  refine ⟨?_, ?_, ?_⟩
  · simp only [Nat.mul_zero, Nat.zero_add]; omega
  · simp only [Nat.mul_one, Nat.reduceAdd]; omega
  · simp only [Nat.reduceMul, Nat.reduceAdd]; omega
/-- the reference's way to ask: some difference, or some two points -/
theorem met_iff {nu sz : Nat → Int} (hs : SzOk sz) : metZ nu sz ↔ ∃ p q : Nat, q < p ∧ isP sz q ∧ isP sz p ∧ atZ nu sz 0 q = atZ nu sz 0 p ∧ atZ nu sz 1 q = atZ nu sz 1 p ∧ atZ nu sz 2 q = atZ nu sz 2 p := by
  constructor
  · rintro ⟨i, j, l, a1, a2, a3, a4, a5, a6, a7⟩
    -- the two points
    obtain ⟨x, hx⟩ : ∃ x : Nat, x = (max 0 (-j)).toNat := ⟨_, rfl⟩
    obtain ⟨y, hy⟩ : ∃ y : Nat, y = (max 0 (-l)).toNat := ⟨_, rfl⟩
    obtain ⟨x', hx'⟩ : ∃ x' : Nat, x' = (max 0 (-j) + j).toNat := ⟨_, rfl⟩
    obtain ⟨y', hy'⟩ : ∃ y' : Nat, y' = (max 0 (-l) + l).toNat := ⟨_, rfl⟩
    obtain ⟨u, hu⟩ : ∃ u : Nat, u = 8 * x + y := ⟨_, rfl⟩
    obtain ⟨v, hv⟩ : ∃ v : Nat, v = 64 * i.toNat + 8 * x' + y' := ⟨_, rfl⟩
    have bx : x < 8 ∧ y < 8 ∧ x' < 8 ∧ y' < 8 ∧ i.toNat < 8 := by omega
    have du : u / 64 = 0 ∧ u / 8 % 8 = x ∧ u % 8 = y := by omega
    have dv : v / 64 = i.toNat ∧ v / 8 % 8 = x' ∧ v % 8 = y' := by omega
    have pu : isP sz u := by
      refine ⟨?_, ?_, ?_⟩
      · rw [du.1]; omega
      · rw [du.2.1]; omega
      · rw [du.2.2]; omega
    have pv : isP sz v := by
      refine ⟨?_, ?_, ?_⟩
      · rw [dv.1]; omega
      · rw [dv.2.1]; omega
      · rw [dv.2.2]; omega
    have key : mzP nu (((v / 64 : Nat) : Int) - ((u / 64 : Nat) : Int)) (((v / 8 % 8 : Nat) : Int) - ((u / 8 % 8 : Nat) : Int)) (((v % 8 : Nat) : Int) - ((u % 8 : Nat) : Int)) := by
      rw [du.1, du.2.1, du.2.2, dv.1, dv.2.1, dv.2.2]
      have e1 : ((i.toNat : Nat) : Int) - ((0 : Nat) : Int) = i := by omega
      have e2 : ((x' : Nat) : Int) - ((x : Nat) : Int) = j := by omega
      have e3 : ((y' : Nat) : Int) - ((y : Nat) : Int) = l := by omega
      rw [e1, e2, e3]
      exact a7
    have g := mz_sa (sz := sz) key
    have hne : u ≠ v := by
      intro e
      have := a7.1
      omega
    rcases Nat.lt_or_gt_of_ne hne with r | r
    · exact ⟨v, u, r, pu, pv, g⟩
    · exact ⟨u, v, r, pv, pu, g.1.symm, g.2.1.symm, g.2.2.symm⟩
  · rintro ⟨p, q, a, b, c, d, e, f⟩
    have hq := isP_lt hs b
    have hp := isP_lt hs c
    have h := sa_mz d e f (by omega) hq hp
    exact ⟨_, _, _, by omega, by omega, by omega, by omega, by omega, by omega, h⟩
theorem met_la {nu sz : Nat → Int} {fo la ea : Int} (hn : NuOk nu) (hs : SzOk sz) (h1 : 1 ≤ fo) (h2 : fo ≤ 8) (h : metR sz (keyZ nu sz fo) (beatZ nu sz fo) 512 la ea) : la ≠ -1 ↔ metZ nu sz := by
  rw [met_iff hs]
  rcases h with ⟨a, b, c⟩ | ⟨p, q, a, b, c, d, e⟩
  · refine ⟨fun g => absurd a g, ?_⟩
    rintro ⟨p, q, r1, r2, r3, r4⟩
    exact absurd ((mt_sa hn hs h1 h2 r3).mpr ⟨r1, r2, r4⟩) (c p q (isP_lt hs r3))
  · refine ⟨fun _ => ?_, fun _ => by omega⟩
    have g := (mt_sa hn hs h1 h2 d.2.2.1).mp d
    exact ⟨p, q, g.1, g.2.1, d.2.2.1, g.2.2⟩
theorem metR_ex {sz K B : Nat → Int} : ∀ b : Nat, ∃ la ea : Int, metR sz K B b la ea := by
  intro b
  induction b with
  | zero => exact ⟨-1, -1, Or.inl ⟨rfl, rfl, fun p q h => absurd h (Nat.not_lt_zero _)⟩⟩
  | succ b ih =>
    obtain ⟨la, ea, h⟩ := ih
    rcases h with ⟨a, b1, c⟩ | ⟨p, q, a, b1, c, d, e⟩
    · by_cases g : ∃ q : Nat, mtP sz K B q b
      · obtain ⟨q, g⟩ := g
        exact ⟨b, q, Or.inr ⟨b, q, rfl, rfl, by omega, g, fun r s h => c r s h⟩⟩
      · refine ⟨-1, -1, Or.inl ⟨rfl, rfl, fun p q h m => ?_⟩⟩
        rcases Nat.lt_succ_iff_lt_or_eq.mp h with i | i
        · exact c p q i m
        · rw [i] at m; exact g ⟨q, m⟩
    · exact ⟨la, ea, Or.inr ⟨p, q, a, b1, by omega, d, e⟩⟩
/-- the search of why in the reference: the first point that has one like it ahead, and the first such -/
theorem met_fst {nu sz : Nat → Int} {fo : Int} {t : Nat} {z : Int} (hn : NuOk nu) (hs : SzOk sz) (h1 : 1 ≤ fo) (h2 : fo ≤ 8) (hp : isP sz t) (hno : ∀ u : Nat, u < t → isP sz u → ∀ q : Nat, q < u → ¬ saP nu sz q u) (hz : isFst (fun q => saP nu sz q t) t z) (hz0 : 0 ≤ z) : metR sz (keyZ nu sz fo) (beatZ nu sz fo) 512 (t : Int) z := by
  rcases hz with ⟨a, -⟩ | ⟨v, a, b, c, d⟩
  · omega
  · refine Or.inr ⟨t, v, rfl, a, isP_lt hs hp, (mt_sa hn hs h1 h2 hp).mpr ⟨b, c⟩, fun r s h m => ?_⟩
    have g := (mt_sa hn hs h1 h2 m.2.2.1).mp m
    exact hno r h m.2.2.1 s g.1 g.2
def lddR (nu sz : Nat → Int) (fo wh z : Int) : Prop := (wh = 0 ∧ beaR sz (beatZ nu sz fo) 512 z) ∨ (wh = 1 ∧ z = difK sz (keyZ nu sz fo) 512) ∨ (wh = 2 ∧ ∃ b : Int, beaR sz (beatZ nu sz fo) 512 b ∧ z = 1000 * (sz 0 * sz 1 * sz 2) / (b * difK sz (keyZ nu sz fo) 512)) ∨ (wh = 3 ∧ ((dsP sz (keyZ nu sz fo) (beatZ nu sz fo) 512 0 ∧ z = -1) ∨ (¬ dsP sz (keyZ nu sz fo) (beatZ nu sz fo) 512 0 ∧ apR (dsP sz (keyZ nu sz fo) (beatZ nu sz fo) 512) z))) ∨ (¬ (0 ≤ wh ∧ wh ≤ 3) ∧ z = -1)
theorem lddR_un {nu sz : Nat → Int} {fo wh y z : Int} (h1 : lddR nu sz fo wh y) (h2 : lddR nu sz fo wh z) : y = z := by
  rcases h1 with ⟨a, b⟩ | ⟨a, b⟩ | ⟨a, b⟩ | ⟨a, b⟩ | ⟨a, b⟩ <;> rcases h2 with ⟨c, d⟩ | ⟨c, d⟩ | ⟨c, d⟩ | ⟨c, d⟩ | ⟨c, d⟩ <;> try omega
  · exact beaR_un b d
  · obtain ⟨x, b1, b2⟩ := b
    obtain ⟨x', d1, d2⟩ := d
    rw [b2, d2, beaR_un b1 d1]
  · rcases b with ⟨b1, b2⟩ | ⟨b1, b2⟩ <;> rcases d with ⟨d1, d2⟩ | ⟨d1, d2⟩
    · omega
    · exact absurd b1 d1
    · exact absurd d1 b1
    · exact apR_un b2 d2
theorem dif_pos {sz K : Nat → Int} (hs : SzOk sz) : 1 ≤ difK sz K 512 := by
  have h : cnt (fun p => isP sz p ∧ ∀ q : Nat, q < p → isP sz q → K q ≠ K p) 0 < difK sz K 512 := cnt_lt (P := fun p => isP sz p ∧ ∀ q : Nat, q < p → isP sz q → K q ≠ K p) (by omega) ⟨isP_0 hs, fun q h => absurd h (Nat.not_lt_zero _)⟩
  have : cnt (fun p => isP sz p ∧ ∀ q : Nat, q < p → isP sz q → K q ≠ K p) 0 = 0 := rfl
  omega
theorem bea_b {sz B : Nat → Int} {z : Int} (hs : SzOk sz) (h0 : ∀ p : Nat, isP sz p → 0 ≤ B p ∧ B p < 512) (h : beaR sz B 512 z) : 1 ≤ z ∧ z ≤ 512 := by
  have a := h.1 0 (by omega) (isP_0 hs)
  have b := h0 0 (isP_0 hs)
  rcases h.2 with ⟨c, d⟩ | ⟨p, c, d, e⟩
  · exact absurd (isP_0 hs) (d 0 (by omega))
  · have := h0 p d
    omega
theorem mul3 {a b c : Int} (ha : 1 ≤ a ∧ a ≤ 8) (hb : 1 ≤ b ∧ b ≤ 8) (hc : 1 ≤ c ∧ c ≤ 8) : 1 ≤ a * b * c ∧ a * b * c ≤ 512 := by
  have h1 : 1 * 1 ≤ a * b := Int.mul_le_mul ha.1 hb.1 (by omega) (by omega)
  have h2 : a * b ≤ 8 * 8 := Int.mul_le_mul ha.2 hb.2 (by omega) (by omega)
  have h3 : 1 * 1 ≤ (a * b) * c := Int.mul_le_mul (by omega) hc.1 (by omega) (by omega)
  have h4 : (a * b) * c ≤ 64 * 8 := Int.mul_le_mul (by omega) hc.2 (by omega) (by omega)
  omega
theorem isFst_ex (P : Nat → Prop) : ∀ n : Nat, ∃ z : Int, isFst P n z := by
  intro n
  induction n with
  | zero => exact ⟨-1, Or.inl ⟨rfl, fun v h => absurd h (Nat.not_lt_zero _)⟩⟩
  | succ n ih =>
    obtain ⟨z, h⟩ := ih
    rcases h with ⟨a, b⟩ | ⟨v, a, b, c, d⟩
    · by_cases p : P n
      · exact ⟨n, Or.inr ⟨n, rfl, by omega, p, b⟩⟩
      · refine ⟨-1, Or.inl ⟨rfl, fun v hv => ?_⟩⟩
        rcases Nat.lt_succ_iff_lt_or_eq.mp hv with q | q
        · exact b v q
        · rw [q]; exact p
    · exact ⟨z, Or.inr ⟨v, a, by omega, c, d⟩⟩
theorem met_m1 {sz K B : Nat → Int} {b : Nat} {la ea : Int} (h : metR sz K B b la ea) (e : la = -1) : ea = -1 := by
  rcases h with ⟨a, c, -⟩ | ⟨p, q, a, -⟩
  · exact c
  · omega
theorem pt_isP {sz : Nat → Int} {i j l : Int} (hs : SzOk sz) (h : (0 ≤ i ∧ i < sz 0) ∧ (0 ≤ j ∧ j < sz 1) ∧ (0 ≤ l ∧ l < sz 2)) : isP sz (64 * i + 8 * j + l).toNat := by
  have e1 : (64 * i + 8 * j + l).toNat / 64 = i.toNat := by omega
  have e2 : (64 * i + 8 * j + l).toNat / 8 % 8 = j.toNat := by omega
  have e3 : (64 * i + 8 * j + l).toNat % 8 = l.toNat := by omega
  refine ⟨?_, ?_, ?_⟩
  · rw [e1]; omega
  · rw [e2]; omega
  · rw [e3]; omega
theorem step_isP {sz st : Nat → Int} {v p : Nat} {sg : Int} (hs : SzOk sz) (h : stepZ sz st v p sg ≠ -1) : isP sz (stepZ sz st v p sg).toNat := by
  unfold stepZ codeZ at h ⊢
  split
  · rename_i g
    exact pt_isP hs g
  · rename_i g
    rw [if_neg g] at h
    exact absurd rfl h
def wheZ (nu sz : Nat → Int) (fo i j l x : Int) : Int := if (0 ≤ i ∧ i < sz 0) ∧ (0 ≤ j ∧ j < sz 1) ∧ (0 ≤ l ∧ l < sz 2) then (if x = 0 then beatZ nu sz fo (64 * i + 8 * j + l).toNat else if x = 1 then cellZ nu sz fo (64 * i + 8 * j + l).toNat else if x = 2 then atZ nu sz 2 (64 * i + 8 * j + l).toNat else -1) else -1
def nedZ (nu sz st : Nat → Int) (nv v x : Int) : Int := if 0 ≤ v ∧ v < nv then (if x = 0 then stepB nu st 0 v.toNat else if x = 1 then wayZ nu st v.toNat else if x = 2 then (if needP sz st v.toNat then 1 else 0) else -1000) else -1000
def aboZ (nv np rn fo : Int) (sz : Nat → Int) (x : Int) : Int := if x = 0 then nv else if x = 1 then np else if x = 2 then rn else if x = 3 then fo else if 10 ≤ x ∧ x ≤ 12 then sz (x - 10).toNat else -1
