/-! ROWS OVER ONE WORLD: all 44 cells of the class and of the reference, contents as integers -/
abbrev Mem : Type := Nat → Nat → Int
def iZ (z : Int) : Int32 := Int32.ofInt z
def ups (M : Mem) (h : Nat) (f : Nat → Int) : Mem := fun h' => if h' = h then f else M h'
def up1 (f : Nat → Int) (k : Nat) (z : Int) : Nat → Int := fun k' => if k' = k then z else f k'
def vi (f : Nat → Int) (k : Nat) : Value := .int (iZ (f k))
def rowI (cI : ClassId) (n : Nat) (f : Nat → Int) : va_E := .inl (cI, n, .inl (fun k => iZ (f k)))
def cellOf (cI cZ : ClassId) (ad : Nat → Nat) (h : Nat) (f : Nat → Int) : va_E := match h with
  | 0 => .inr (5, [.ref (ad 1), .ref (ad 10), .ref (ad 12), .ref (ad 19), .ref (ad 25)])
  | 1 => .inr (4, [.ref (ad 2), .ref (ad 3), vi f 2, vi f 3, .ref (ad 4), .ref (ad 5), .ref (ad 6), .ref (ad 7), .ref (ad 8), .ref (ad 9), vi f 10])
  | 2 => rowI cI 3 f
  | 3 => rowI cI 512 f
  | 4 => rowI cI 12 f
  | 5 => rowI cI 4 f
  | 6 => rowI cI 4 f
  | 7 => rowI cI 4 f
  | 8 => rowI cI 2048 f
  | 9 => rowI cI 2048 f
  | 10 => .inr (1, [.ref (ad 11), vi f 1])
  | 11 => rowI cI 9 f
  | 12 => .inr (0, [.ref (ad 13), .ref (ad 14), .ref (ad 15), vi f 3, vi f 4, vi f 5, vi f 6, vi f 7, .ref (ad 16), .ref (ad 17), .ref (ad 18)])
  | 13 => rowI cI 512 f
  | 14 => rowI cI 512 f
  | 15 => rowI cI 512 f
  | 16 => rowI cI 4096 f
  | 17 => rowI cI 512 f
  | 18 => rowI cI 512 f
  | 19 => .inr (3, [.ref (ad 20), vi f 1, vi f 2, vi f 3, .ref (ad 22), .ref (ad 24)])
  | 20 => .inr (1, [.ref (ad 21), vi f 1])
  | 21 => rowI cI 9 f
  | 22 => .inr (1, [.ref (ad 23), vi f 1])
  | 23 => rowI cI 9 f
  | 24 => rowI cI 3 f
  | 25 => .inr (2, [vi f 0, .ref (ad 26), .ref (ad 27), vi f 3, .ref (ad 28), .ref (ad 29)])
  | 26 => rowI cI 2048 f
  | 27 => rowI cI 513 f
  | 28 => rowI cI 512 f
  | 29 => rowI cI 513 f
  | 30 => .inr (6, [.ref (ad 31), vi f 1, .ref (ad 32), .ref (ad 33), .ref (ad 34), .ref (ad 35), .ref (ad 36), .ref (ad 37), vi f 8, vi f 9, .ref (ad 38), .ref (ad 39), .ref (ad 40), .ref (ad 41), .ref (ad 42), .ref (ad 43)])
  | 31 => rowI cI 3 f
  | 32 => rowI cI 12 f
  | 33 => rowI cI 4 f
  | 34 => rowI cI 4 f
  | 35 => rowI cI 4 f
  | 36 => rowI cI 2048 f
  | 37 => rowI cI 9 f
  | 38 => rowI cI 2048 f
  | 39 => rowI cI 2048 f
  | 40 => rowI cZ 4096 f
  | 41 => rowI cZ 1024 f
  | 42 => rowI cI 9 f
  | _ => rowI cI 9 f
def wd (cI cZ : ClassId) (ad : Nat → Nat) (M : Mem) : va_W := (List.range 44).map (fun h => (ad h, cellOf cI cZ ad h (M h)))
theorem wd_get {cI cZ : ClassId} {ad : Nat → Nat} {M : Mem} {h : Nat} (hh : h < 44) : (wd cI cZ ad M)[h]? = some (ad h, cellOf cI cZ ad h (M h)) := by
  unfold wd
  rw [List.getElem?_map, List.getElem?_range hh]
  rfl
theorem wd_len {cI cZ : ClassId} {ad : Nat → Nat} {M : Mem} : (wd cI cZ ad M).length = 44 := by unfold wd; rw [List.length_map, List.length_range]
theorem wd_lt {cI cZ : ClassId} {ad : Nat → Nat} {M : Mem} {h : Nat} {q : Nat × va_E} (hq : (wd cI cZ ad M)[h]? = some q) : h < 44 ∧ q = (ad h, cellOf cI cZ ad h (M h)) := by
  have h1 : h < 44 := by
    have := (List.getElem?_eq_some_iff.mp hq).1
    rw [wd_len] at this
    exact this
  refine ⟨h1, ?_⟩
  rw [wd_get h1] at hq
  exact (Option.some.inj hq).symm
theorem wd_set {cI cZ : ClassId} {ad : Nat → Nat} {M : Mem} {h : Nat} {f : Nat → Int} (hh : h < 44) : (wd cI cZ ad M).set h (ad h, cellOf cI cZ ad h f) = wd cI cZ ad (ups M h f) := by
  refine List.ext_getElem? (fun k => ?_)
  rw [List.getElem?_set]
  by_cases hk : h = k
  · subst hk
    rw [if_pos rfl, if_pos (by rw [wd_len]; exact hh), wd_get hh]
    unfold ups
    rw [if_pos rfl]
  · rw [if_neg hk]
    by_cases h2 : k < 44
    · rw [wd_get h2, wd_get h2]
      unfold ups
      rw [if_neg (fun q => hk q.symm)]
    · rw [List.getElem?_eq_none (by rw [wd_len]; omega), List.getElem?_eq_none (by rw [wd_len]; omega)]
/-- the world: launch, class numbers, the two array classes, the addresses -/
abbrev WLD : Type := Launch × va_G × ClassId × ClassId × (Nat → Nat)
abbrev wl (w : WLD) : Launch := w.1
abbrev wD (w : WLD) : va_G := w.2.1
abbrev wI (w : WLD) : ClassId := w.2.2.1
abbrev wZ (w : WLD) : ClassId := w.2.2.2.1
abbrev wa (w : WLD) : Nat → Nat := w.2.2.2.2
/-- where a walk stands -/
abbrev KX : Type := Program × Env × Room × State × MethodId × Array Value × List Frame × Method × Code × Nat × Nat × (State → Prop) × (Nat → Prop) × Nat
abbrev kp (k : KX) : Program := k.1
abbrev ke (k : KX) : Env := k.2.1
abbrev kR (k : KX) : Room := k.2.2.1
abbrev ks (k : KX) : State := k.2.2.2.1
abbrev km (k : KX) : MethodId := k.2.2.2.2.1
abbrev ka (k : KX) : Array Value := k.2.2.2.2.2.1
abbrev kb (k : KX) : List Frame := k.2.2.2.2.2.2.1
abbrev kt (k : KX) : Method := k.2.2.2.2.2.2.2.1
abbrev kc (k : KX) : Code := k.2.2.2.2.2.2.2.2.1
abbrev kn (k : KX) : Nat := k.2.2.2.2.2.2.2.2.2.1
abbrev kz (k : KX) : Nat := k.2.2.2.2.2.2.2.2.2.2.1
abbrev kQ (k : KX) : State → Prop := k.2.2.2.2.2.2.2.2.2.2.2.1
abbrev kA (k : KX) : Nat → Prop := k.2.2.2.2.2.2.2.2.2.2.2.2.1
abbrev kL (k : KX) : Nat := k.2.2.2.2.2.2.2.2.2.2.2.2.2
abbrev tyZ (w : WLD) : List (ClassId × FieldType) := [(wI w, .int), (wZ w, .boolean)]
abbrev BB (w : WLD) (M : Mem) (t : State) : Prop := va_P (wD w) vwCl (wd (wI w) (wZ w) (wa w) M) t.heap ∧ va_K (wD w) vwCl (tyZ w) t ∧ va_D (fun _ => True) (wd (wI w) (wZ w) (wa w) M)
def Cx (w : WLD) (k : KX) (cc : ByteArray) (own : String) (rm : Room) : Prop :=
  (kp k).tables.exec = Jvm.exec ∧ (kc k).code = cc ∧ (kc k).maxLocals = kL k ∧ (ks k).vm.findClass own = some (km k).cls ∧ (∀ x ∈ wsL_law, x.before (ka k) (ks k) = true) ∧ va_K (wD w) vwCl (tyZ w) (ks k) ∧ (∀ q, (ks k).heap.size ≤ q → kA k q) ∧ (∀ M : Mem, va_D (kA k) (wd (wI w) (wZ w) (wa w) M)) ∧ kR k = rm ∧ kn k ≤ rm.cells ∧ kz k ≤ rm.slots
def WW (w : WLD) (k : KX) (pc : Nat) (lv : List (Nat × Value)) (st : List Value) (M : Mem) : Prop :=
  ∀ (H : Heap) (locs : List Loc) (ls : Array Slot), va_P (wD w) vwCl (wd (wI w) (wZ w) (wa w) M) H → va_S (kA k) (ks k).heap H locs → lv_has ls (kL k) lv → W (kp k) (wl w) (ke k) (kR k) (ks k) (km k) (ka k) (kb k) (kt k) (kc k) H locs (kn k) (kz k) (kQ k) (F0 (km k) pc ls st)
theorem iZ_add (a b : Int) : iZ a + iZ b = iZ (a + b) := by unfold iZ; exact (Int32.ofInt_add a b).symm
theorem iZ_mul (a b : Int) : iZ a * iZ b = iZ (a * b) := by unfold iZ; exact (Int32.ofInt_mul a b).symm
theorem iZ_neg (a : Int) : - iZ a = iZ (- a) := by unfold iZ; exact (Int32.ofInt_neg a).symm
theorem iZ_sub (a b : Int) : iZ a - iZ b = iZ (a - b) := by unfold iZ; exact (Int32.ofInt_sub a b).symm
abbrev R32 (a : Int) : Prop := -2147483648 ≤ a ∧ a < 2147483648
theorem iZ_toInt {a : Int} (h : R32 a) : (iZ a).toInt = a := by
  unfold iZ
  exact Int32.toInt_ofInt_of_le (by show -2147483648 ≤ a; exact h.1) (by show a < 2147483648; exact h.2)
theorem toInt_R32 (x : Int32) : R32 x.toInt := ⟨x.le_toInt, x.toInt_lt⟩
theorem iZ_of (x : Int32) : iZ x.toInt = x := by unfold iZ; exact Int32.ofInt_toInt x
theorem iZ_inj {a b : Int} (ha : R32 a) (hb : R32 b) : iZ a = iZ b ↔ a = b := ⟨fun h => by rw [← iZ_toInt ha, ← iZ_toInt hb, h], fun h => by rw [h]⟩
theorem iZ_lt {a b : Int} (ha : R32 a) (hb : R32 b) : iZ a < iZ b ↔ a < b := by rw [Int32.lt_iff_toInt_lt, iZ_toInt ha, iZ_toInt hb]
theorem iZ_le {a b : Int} (ha : R32 a) (hb : R32 b) : iZ a ≤ iZ b ↔ a ≤ b := by rw [Int32.le_iff_toInt_le, iZ_toInt ha, iZ_toInt hb]
theorem iZ_0 : iZ 0 = 0 := by decide
theorem R32_0 : R32 0 := by decide
theorem iZ_nat {n : Nat} : iZ (n : Int) = nI n := by unfold iZ nI; rfl
theorem iZ_in {z : Int} {n N : Nat} (hz : z = (n : Int)) (hn : n < N) (hN : N < 2 ^ 31) : vp_in (iZ z) N ∧ (iZ z).toNatClampNeg = n := by
  subst hz
  rw [iZ_nat]
  exact ⟨vp_in_nI hn hN, nI_clamp (by omega)⟩
section WWR
variable {w : WLD} {k : KX} {cc : ByteArray} {own : String} {rm : Room} {pc : Nat} {lv : List (Nat × Value)} {rest : List Value} {M : Mem}
theorem ww_eq {pc' : Nat} {lv' : List (Nat × Value)} {st st' : List Value} {M' : Mem} (h1 : pc' = pc) (h2 : lv' = lv) (h3 : st' = st) (h4 : M' = M) (h : WW w k pc' lv' st' M') : WW w k pc lv st M := by
  subst h1; subst h2; subst h3; subst h4; exact h
theorem ww_sub {lv' : List (Nat × Value)} {st : List Value} (is : List Nat) (h : lv_pick lv is = lv') (kk : WW w k pc lv' st M) : WW w k pc lv st M := fun H locs ls hP hS hl => kk H locs ls hP hS (lv_sub hl is h)
theorem ww_iconst (C : Cx w k cc own rm) {n : Int} (d : decode cc pc = .ok (.iconst n, 1)) (kk : WW w k (pc + 1) lv (.int (iZ n) :: rest) M) : WW w k pc lv rest M := fun H locs ls hP hS hl => lv_iconst C.1 C.2.1 d rfl (kk H locs ls hP hS hl)
theorem ww_bipush (C : Cx w k cc own rm) {n : Int} (d : decode cc pc = .ok (.bipush n, 2)) (hv : (Int8.ofInt n).toInt32 = iZ n) (kk : WW w k (pc + 2) lv (.int (iZ n) :: rest) M) : WW w k pc lv rest M := fun H locs ls hP hS hl => lv_bipush C.1 C.2.1 d hv (kk H locs ls hP hS hl)
theorem ww_sipush (C : Cx w k cc own rm) {n : Int} (d : decode cc pc = .ok (.sipush n, 3)) (hv : (Int16.ofInt n).toInt32 = iZ n) (kk : WW w k (pc + 3) lv (.int (iZ n) :: rest) M) : WW w k pc lv rest M := fun H locs ls hP hS hl => lv_sipush C.1 C.2.1 d hv (kk H locs ls hP hS hl)
theorem ww_iload_n (C : Cx w k cc own rm) {i : Fin 4} {x : Int32} (d : decode cc pc = .ok (.iload_n i, 1)) (j : Nat) (h : lv[j]? = some ((i : Nat), .int x)) (kk : WW w k (pc + 1) lv (.int x :: rest) M) : WW w k pc lv rest M := fun H locs ls hP hS hl => lv_iload_n C.1 C.2.1 d rfl (lv_at hl j h) (kk H locs ls hP hS hl)
theorem ww_iload (C : Cx w k cc own rm) {i : Nat} {x : Int32} (d : decode cc pc = .ok (.iload i, 2)) (j : Nat) (h : lv[j]? = some (i, .int x)) (kk : WW w k (pc + 2) lv (.int x :: rest) M) : WW w k pc lv rest M := fun H locs ls hP hS hl => lv_iload C.1 C.2.1 d (lv_at hl j h) (kk H locs ls hP hS hl)
theorem ww_aload_n (C : Cx w k cc own rm) {i : Fin 4} {x : Nat} (d : decode cc pc = .ok (.aload_n i, 1)) (j : Nat) (h : lv[j]? = some ((i : Nat), .ref x)) (kk : WW w k (pc + 1) lv (.ref x :: rest) M) : WW w k pc lv rest M := fun H locs ls hP hS hl => lv_aload_n C.1 C.2.1 d rfl (lv_at hl j h) (kk H locs ls hP hS hl)
theorem ww_aload (C : Cx w k cc own rm) {i : Nat} {x : Nat} (d : decode cc pc = .ok (.aload i, 2)) (j : Nat) (h : lv[j]? = some (i, .ref x)) (kk : WW w k (pc + 2) lv (.ref x :: rest) M) : WW w k pc lv rest M := fun H locs ls hP hS hl => lv_aload C.1 C.2.1 d (lv_at hl j h) (kk H locs ls hP hS hl)
abbrev drp (lv : List (Nat × Value)) (i : Nat) : List (Nat × Value) := lv.filter (fun q => !(q.1 == i) && !(q.1 + 1 == i && q.2.category == 2))
theorem ww_istore_n (C : Cx w k cc own rm) {i : Fin 4} {x : Int32} {lv' : List (Nat × Value)} (d : decode cc pc = .ok (.istore_n i, 1)) (hn : (i : Nat) < kL k) (h : ((i : Nat), Value.int x) :: drp lv i = lv') (kk : WW w k (pc + 1) lv' rest M) : WW w k pc lv (.int x :: rest) M := fun H locs ls hP hS hl => lv_istore_n C.1 C.2.1 d rfl hl hn h (fun ls hl => kk H locs ls hP hS hl)
theorem ww_istore (C : Cx w k cc own rm) {i : Nat} {x : Int32} {lv' : List (Nat × Value)} (d : decode cc pc = .ok (.istore i, 2)) (hn : i < kL k) (h : (i, Value.int x) :: drp lv i = lv') (kk : WW w k (pc + 2) lv' rest M) : WW w k pc lv (.int x :: rest) M := fun H locs ls hP hS hl => lv_istore C.1 C.2.1 d hl hn h (fun ls hl => kk H locs ls hP hS hl)
theorem ww_astore_n (C : Cx w k cc own rm) {i : Fin 4} {x : Nat} {lv' : List (Nat × Value)} (d : decode cc pc = .ok (.astore_n i, 1)) (hn : (i : Nat) < kL k) (h : ((i : Nat), Value.ref x) :: drp lv i = lv') (kk : WW w k (pc + 1) lv' rest M) : WW w k pc lv (.ref x :: rest) M := fun H locs ls hP hS hl => lv_astore_n C.1 C.2.1 d rfl hl hn h (fun ls hl => kk H locs ls hP hS hl)
theorem ww_iinc (C : Cx w k cc own rm) {i : Nat} {n a : Int} {lv' : List (Nat × Value)} (d : decode cc pc = .ok (.iinc i n, 3)) (j : Nat) (hj : lv[j]? = some (i, .int (iZ a))) (hn : i < kL k) (h : (i, Value.int (iZ (a + n))) :: drp lv i = lv') (kk : WW w k (pc + 3) lv' rest M) : WW w k pc lv rest M := fun H locs ls hP hS hl => lv_iinc (v := iZ (a + n)) C.1 C.2.1 d hl hj (iZ_add a n) hn h (fun ls hl => kk H locs ls hP hS hl)
theorem ww_iadd (C : Cx w k cc own rm) {a b : Int} (d : decode cc pc = .ok (.iadd, 1)) (kk : WW w k (pc + 1) lv (.int (iZ (a + b)) :: rest) M) : WW w k pc lv (.int (iZ b) :: .int (iZ a) :: rest) M := fun H locs ls hP hS hl => lv_iadd C.1 C.2.1 d (by rw [iZ_add]; exact kk H locs ls hP hS hl)
theorem ww_isub (C : Cx w k cc own rm) {a b : Int} (d : decode cc pc = .ok (.isub, 1)) (kk : WW w k (pc + 1) lv (.int (iZ (a - b)) :: rest) M) : WW w k pc lv (.int (iZ b) :: .int (iZ a) :: rest) M := fun H locs ls hP hS hl => lv_isub C.1 C.2.1 d (by rw [iZ_sub]; exact kk H locs ls hP hS hl)
theorem ww_imul (C : Cx w k cc own rm) {a b : Int} (d : decode cc pc = .ok (.imul, 1)) (kk : WW w k (pc + 1) lv (.int (iZ (a * b)) :: rest) M) : WW w k pc lv (.int (iZ b) :: .int (iZ a) :: rest) M := fun H locs ls hP hS hl => lv_imul C.1 C.2.1 d (by rw [iZ_mul]; exact kk H locs ls hP hS hl)
theorem ww_ineg (C : Cx w k cc own rm) {a : Int} (d : decode cc pc = .ok (.ineg, 1)) (kk : WW w k (pc + 1) lv (.int (iZ (-a)) :: rest) M) : WW w k pc lv (.int (iZ a) :: rest) M := fun H locs ls hP hS hl => lv_ineg C.1 C.2.1 d (by rw [iZ_neg]; exact kk H locs ls hP hS hl)
theorem ww_ixor (C : Cx w k cc own rm) {a b : Int} (d : decode cc pc = .ok (.ixor, 1)) (kk : WW w k (pc + 1) lv (.int (iZ (iZ a ^^^ iZ b).toInt) :: rest) M) : WW w k pc lv (.int (iZ b) :: .int (iZ a) :: rest) M := fun H locs ls hP hS hl => lv_ixor C.1 C.2.1 d (by rw [iZ_of] at kk; exact kk H locs ls hP hS hl)
theorem iZ_div {a b : Int} (ha : R32 a) (hb : R32 b) (h0 : 0 < b) : iZ a / iZ b = iZ (a.tdiv b) := by
  have h1 : iZ b ≠ -1 := fun h => by
    have h2 := congrArg Int32.toInt h
    rw [iZ_toInt hb] at h2
    have h3 : (-1 : Int32).toInt = -1 := by decide
    omega
  have h2 := Int32.toInt_div_of_ne_right (iZ a) (iZ b) h1
  rw [iZ_toInt ha, iZ_toInt hb] at h2
  rw [← h2, iZ_of]
theorem iZ_rem {a b : Int} (ha : R32 a) (hb : R32 b) (h0 : 0 < b) : iZ a - iZ a / iZ b * iZ b = iZ (a.tmod b) := by
  rw [iZ_div ha hb h0, iZ_mul, iZ_sub]
  congr 1
  have := Int.mul_tdiv_add_tmod a b
  rw [Int.mul_comm] at this
  omega
theorem iZ_ne0 {b : Int} (hb : R32 b) (h0 : 0 < b) : ¬ iZ b = 0 := fun h => by
  rw [← iZ_0, iZ_inj hb R32_0] at h
  omega
theorem ww_idiv (C : Cx w k cc own rm) {a b : Int} (d : decode cc pc = .ok (.idiv, 1)) (ha : R32 a) (hb : R32 b) (h0 : 0 < b) (kk : WW w k (pc + 1) lv (.int (iZ (a.tdiv b)) :: rest) M) : WW w k pc lv (.int (iZ b) :: .int (iZ a) :: rest) M := fun H locs ls hP hS hl => lv_idiv C.1 C.2.1 d (iZ_ne0 hb h0) (by rw [iZ_div ha hb h0]; exact kk H locs ls hP hS hl)
theorem ww_irem (C : Cx w k cc own rm) {a b : Int} (d : decode cc pc = .ok (.irem, 1)) (ha : R32 a) (hb : R32 b) (h0 : 0 < b) (kk : WW w k (pc + 1) lv (.int (iZ (a.tmod b)) :: rest) M) : WW w k pc lv (.int (iZ b) :: .int (iZ a) :: rest) M := fun H locs ls hP hS hl => lv_irem C.1 C.2.1 d (iZ_ne0 hb h0) (by rw [iZ_rem ha hb h0]; exact kk H locs ls hP hS hl)
theorem ww_idivN (C : Cx w k cc own rm) {a b : Int} (d : decode cc pc = .ok (.idiv, 1)) (ha : 0 ≤ a ∧ a < 2147483648) (hb : 0 < b ∧ b < 2147483648) (kk : WW w k (pc + 1) lv (.int (iZ (a / b)) :: rest) M) : WW w k pc lv (.int (iZ b) :: .int (iZ a) :: rest) M := ww_idiv C d ⟨by omega, ha.2⟩ ⟨by omega, hb.2⟩ hb.1 (by rw [Int.tdiv_eq_ediv_of_nonneg ha.1]; exact kk)
theorem ww_iremN (C : Cx w k cc own rm) {a b : Int} (d : decode cc pc = .ok (.irem, 1)) (ha : 0 ≤ a ∧ a < 2147483648) (hb : 0 < b ∧ b < 2147483648) (kk : WW w k (pc + 1) lv (.int (iZ (a % b)) :: rest) M) : WW w k pc lv (.int (iZ b) :: .int (iZ a) :: rest) M := ww_irem C d ⟨by omega, ha.2⟩ ⟨by omega, hb.2⟩ hb.1 (by rw [Int.tmod_eq_emod_of_nonneg ha.1]; exact kk)
theorem iZ_shr6 {n : Nat} (h : n < 2 ^ 31) : iZ (n : Int) >>> (iZ 6 &&& 31) = iZ ((n / 64 : Nat) : Int) := by
  rw [iZ_nat, iZ_nat]
  exact pk_shrN h _ 6 (by decide)
theorem iZ_shr3 {n : Nat} (h : n < 2 ^ 31) : iZ (n : Int) >>> (iZ 3 &&& 31) = iZ ((n / 8 : Nat) : Int) := by
  rw [iZ_nat, iZ_nat]
  exact pk_shrN h _ 3 (by decide)
theorem iZ_and7 {n : Nat} (h : n < 2 ^ 31) : iZ (n : Int) &&& iZ 7 = iZ ((n % 8 : Nat) : Int) := by
  rw [iZ_nat, iZ_nat]
  exact pk_andN (by omega) 3 (by decide)
theorem ww_ishr6 (C : Cx w k cc own rm) {a : Int} (d : decode cc pc = .ok (.ishr, 1)) (n : Nat) (ha : a = (n : Int)) (hn : n < 2147483648) (kk : WW w k (pc + 1) lv (.int (iZ ((n / 64 : Nat) : Int)) :: rest) M) : WW w k pc lv (.int (iZ 6) :: .int (iZ a) :: rest) M := fun H locs ls hP hS hl => lv_ishr C.1 C.2.1 d (by subst ha; rw [iZ_shr6 hn]; exact kk H locs ls hP hS hl)
theorem ww_ishr3 (C : Cx w k cc own rm) {a : Int} (d : decode cc pc = .ok (.ishr, 1)) (n : Nat) (ha : a = (n : Int)) (hn : n < 2147483648) (kk : WW w k (pc + 1) lv (.int (iZ ((n / 8 : Nat) : Int)) :: rest) M) : WW w k pc lv (.int (iZ 3) :: .int (iZ a) :: rest) M := fun H locs ls hP hS hl => lv_ishr C.1 C.2.1 d (by subst ha; rw [iZ_shr3 hn]; exact kk H locs ls hP hS hl)
theorem ww_iand7 (C : Cx w k cc own rm) {a : Int} (d : decode cc pc = .ok (.iand, 1)) (n : Nat) (ha : a = (n : Int)) (hn : n < 2147483648) (kk : WW w k (pc + 1) lv (.int (iZ ((n % 8 : Nat) : Int)) :: rest) M) : WW w k pc lv (.int (iZ 7) :: .int (iZ a) :: rest) M := fun H locs ls hP hS hl => lv_iand C.1 C.2.1 d (by subst ha; rw [iZ_and7 hn]; exact kk H locs ls hP hS hl)
theorem ww_dup (C : Cx w k cc own rm) {v : Value} (d : decode cc pc = .ok (.dup, 1)) (hv : v.category = 1) (kk : WW w k (pc + 1) lv (v :: v :: rest) M) : WW w k pc lv (v :: rest) M := fun H locs ls hP hS hl => lv_dup C.1 C.2.1 d hv (kk H locs ls hP hS hl)
theorem ww_dup2 (C : Cx w k cc own rm) {v u : Value} (d : decode cc pc = .ok (.dup2, 1)) (hv : v.category = 1) (hu : u.category = 1) (kk : WW w k (pc + 1) lv (v :: u :: v :: u :: rest) M) : WW w k pc lv (v :: u :: rest) M := fun H locs ls hP hS hl => lv_dup2_11 C.1 C.2.1 d hv hu (kk H locs ls hP hS hl)
theorem ww_dup_x1 (C : Cx w k cc own rm) {v u : Value} (d : decode cc pc = .ok (.dup_x1, 1)) (hv : v.category = 1) (hu : u.category = 1) (kk : WW w k (pc + 1) lv (v :: u :: v :: rest) M) : WW w k pc lv (v :: u :: rest) M := fun H locs ls hP hS hl => lv_dup_x1 C.1 C.2.1 d hv hu (kk H locs ls hP hS hl)
theorem ww_goto (C : Cx w k cc own rm) {off : Int} (tgt : Nat) (d : decode cc pc = .ok (.goto off, 3)) (ht : (pc : Int) + off = (tgt : Int)) (kk : WW w k tgt lv rest M) : WW w k pc lv rest M := fun H locs ls hP hS hl => lv_goto C.1 C.2.1 d ht (kk H locs ls hP hS hl)
theorem ww_icmp_eq (C : Cx w k cc own rm) {a b off : Int} (tgt : Nat) (d : decode cc pc = .ok (.if_icmp .eq off, 3)) (ht : (pc : Int) + off = (tgt : Int)) (ha : R32 a) (hb : R32 b) (kt : a = b → WW w k tgt lv rest M) (kf : ¬ (a = b) → WW w k (pc + 3) lv rest M) : WW w k pc lv (.int (iZ b) :: .int (iZ a) :: rest) M := fun H locs ls hP hS hl => lv_icmp_eq C.1 C.2.1 d ht (fun h => kt ((iZ_inj ha hb).mp h) H locs ls hP hS hl) (fun h => kf (fun q => h ((iZ_inj ha hb).mpr q)) H locs ls hP hS hl)
theorem ww_icmp_ne (C : Cx w k cc own rm) {a b off : Int} (tgt : Nat) (d : decode cc pc = .ok (.if_icmp .ne off, 3)) (ht : (pc : Int) + off = (tgt : Int)) (ha : R32 a) (hb : R32 b) (kt : ¬ a = b → WW w k tgt lv rest M) (kf : a = b → WW w k (pc + 3) lv rest M) : WW w k pc lv (.int (iZ b) :: .int (iZ a) :: rest) M := fun H locs ls hP hS hl => lv_icmp_ne C.1 C.2.1 d ht (fun h => kt ((not_congr (iZ_inj ha hb)).mp h) H locs ls hP hS hl) (fun h => kf ((iZ_inj ha hb).mp h) H locs ls hP hS hl)
theorem ww_icmp_lt (C : Cx w k cc own rm) {a b off : Int} (tgt : Nat) (d : decode cc pc = .ok (.if_icmp .lt off, 3)) (ht : (pc : Int) + off = (tgt : Int)) (ha : R32 a) (hb : R32 b) (kt : a < b → WW w k tgt lv rest M) (kf : ¬ (a < b) → WW w k (pc + 3) lv rest M) : WW w k pc lv (.int (iZ b) :: .int (iZ a) :: rest) M := fun H locs ls hP hS hl => lv_icmp_lt C.1 C.2.1 d ht (fun h => kt ((iZ_lt ha hb).mp h) H locs ls hP hS hl) (fun h => kf (fun q => h ((iZ_lt ha hb).mpr q)) H locs ls hP hS hl)
theorem ww_icmp_ge (C : Cx w k cc own rm) {a b off : Int} (tgt : Nat) (d : decode cc pc = .ok (.if_icmp .ge off, 3)) (ht : (pc : Int) + off = (tgt : Int)) (ha : R32 a) (hb : R32 b) (kt : b ≤ a → WW w k tgt lv rest M) (kf : ¬ (b ≤ a) → WW w k (pc + 3) lv rest M) : WW w k pc lv (.int (iZ b) :: .int (iZ a) :: rest) M := fun H locs ls hP hS hl => lv_icmp_ge C.1 C.2.1 d ht (fun h => kt ((iZ_le hb ha).mp h) H locs ls hP hS hl) (fun h => kf (fun q => h ((iZ_le hb ha).mpr q)) H locs ls hP hS hl)
theorem ww_icmp_gt (C : Cx w k cc own rm) {a b off : Int} (tgt : Nat) (d : decode cc pc = .ok (.if_icmp .gt off, 3)) (ht : (pc : Int) + off = (tgt : Int)) (ha : R32 a) (hb : R32 b) (kt : b < a → WW w k tgt lv rest M) (kf : ¬ (b < a) → WW w k (pc + 3) lv rest M) : WW w k pc lv (.int (iZ b) :: .int (iZ a) :: rest) M := fun H locs ls hP hS hl => lv_icmp_gt C.1 C.2.1 d ht (fun h => kt ((iZ_lt hb ha).mp h) H locs ls hP hS hl) (fun h => kf (fun q => h ((iZ_lt hb ha).mpr q)) H locs ls hP hS hl)
theorem ww_icmp_le (C : Cx w k cc own rm) {a b off : Int} (tgt : Nat) (d : decode cc pc = .ok (.if_icmp .le off, 3)) (ht : (pc : Int) + off = (tgt : Int)) (ha : R32 a) (hb : R32 b) (kt : a ≤ b → WW w k tgt lv rest M) (kf : ¬ (a ≤ b) → WW w k (pc + 3) lv rest M) : WW w k pc lv (.int (iZ b) :: .int (iZ a) :: rest) M := fun H locs ls hP hS hl => lv_icmp_le C.1 C.2.1 d ht (fun h => kt ((iZ_le ha hb).mp h) H locs ls hP hS hl) (fun h => kf (fun q => h ((iZ_le ha hb).mpr q)) H locs ls hP hS hl)
theorem ww_if_eq (C : Cx w k cc own rm) {a off : Int} (tgt : Nat) (d : decode cc pc = .ok (.ifCond .eq off, 3)) (ht : (pc : Int) + off = (tgt : Int)) (ha : R32 a) (kt : a = 0 → WW w k tgt lv rest M) (kf : ¬ (a = 0) → WW w k (pc + 3) lv rest M) : WW w k pc lv (.int (iZ a) :: rest) M := fun H locs ls hP hS hl => lv_if_eq C.1 C.2.1 d ht (fun h => kt ((iZ_inj ha R32_0).mp h) H locs ls hP hS hl) (fun h => kf (fun q => h ((iZ_inj ha R32_0).mpr q)) H locs ls hP hS hl)
theorem ww_if_ne (C : Cx w k cc own rm) {a off : Int} (tgt : Nat) (d : decode cc pc = .ok (.ifCond .ne off, 3)) (ht : (pc : Int) + off = (tgt : Int)) (ha : R32 a) (kt : ¬ a = 0 → WW w k tgt lv rest M) (kf : a = 0 → WW w k (pc + 3) lv rest M) : WW w k pc lv (.int (iZ a) :: rest) M := fun H locs ls hP hS hl => lv_if_ne C.1 C.2.1 d ht (fun h => kt ((not_congr (iZ_inj ha R32_0)).mp h) H locs ls hP hS hl) (fun h => kf ((iZ_inj ha R32_0).mp h) H locs ls hP hS hl)
theorem ww_if_lt (C : Cx w k cc own rm) {a off : Int} (tgt : Nat) (d : decode cc pc = .ok (.ifCond .lt off, 3)) (ht : (pc : Int) + off = (tgt : Int)) (ha : R32 a) (kt : a < 0 → WW w k tgt lv rest M) (kf : ¬ (a < 0) → WW w k (pc + 3) lv rest M) : WW w k pc lv (.int (iZ a) :: rest) M := fun H locs ls hP hS hl => lv_if_lt C.1 C.2.1 d ht (fun h => kt ((iZ_lt ha R32_0).mp h) H locs ls hP hS hl) (fun h => kf (fun q => h ((iZ_lt ha R32_0).mpr q)) H locs ls hP hS hl)
theorem ww_if_ge (C : Cx w k cc own rm) {a off : Int} (tgt : Nat) (d : decode cc pc = .ok (.ifCond .ge off, 3)) (ht : (pc : Int) + off = (tgt : Int)) (ha : R32 a) (kt : 0 ≤ a → WW w k tgt lv rest M) (kf : ¬ (0 ≤ a) → WW w k (pc + 3) lv rest M) : WW w k pc lv (.int (iZ a) :: rest) M := fun H locs ls hP hS hl => lv_if_ge C.1 C.2.1 d ht (fun h => kt ((iZ_le R32_0 ha).mp h) H locs ls hP hS hl) (fun h => kf (fun q => h ((iZ_le R32_0 ha).mpr q)) H locs ls hP hS hl)
theorem ww_if_gt (C : Cx w k cc own rm) {a off : Int} (tgt : Nat) (d : decode cc pc = .ok (.ifCond .gt off, 3)) (ht : (pc : Int) + off = (tgt : Int)) (ha : R32 a) (kt : 0 < a → WW w k tgt lv rest M) (kf : ¬ (0 < a) → WW w k (pc + 3) lv rest M) : WW w k pc lv (.int (iZ a) :: rest) M := fun H locs ls hP hS hl => lv_if_gt C.1 C.2.1 d ht (fun h => kt ((iZ_lt R32_0 ha).mp h) H locs ls hP hS hl) (fun h => kf (fun q => h ((iZ_lt R32_0 ha).mpr q)) H locs ls hP hS hl)
theorem ww_if_le (C : Cx w k cc own rm) {a off : Int} (tgt : Nat) (d : decode cc pc = .ok (.ifCond .le off, 3)) (ht : (pc : Int) + off = (tgt : Int)) (ha : R32 a) (kt : a ≤ 0 → WW w k tgt lv rest M) (kf : ¬ (a ≤ 0) → WW w k (pc + 3) lv rest M) : WW w k pc lv (.int (iZ a) :: rest) M := fun H locs ls hP hS hl => lv_if_le C.1 C.2.1 d ht (fun h => kt ((iZ_le ha R32_0).mp h) H locs ls hP hS hl) (fun h => kf (fun q => h ((iZ_le ha R32_0).mpr q)) H locs ls hP hS hl)
/-- an int field, or a field that holds a cell -/
theorem ww_get (C : Cx w k cc own rm) (h : Nat) (hh : h < 44) (ci : Nat) {fs : List Value} {CN : String} {T : u_T} {N index f : Nat} {v : Value} (he : cellOf (wI w) (wZ w) (wa w) h (M h) = .inr (ci, fs)) (hc : vwCl[ci]? = some (CN, T, N)) (hin : ∀ x ∈ u_ws CN T N, x ∈ wsL_law) (hf : f < N) (hl : Cond.fieldLink own index (T f).1 (T f).2.1 (T f).2.2.1 ∈ wsL_law) (hv : fs[f]? = some v) (d : decode cc pc = .ok (.getfield index, 3))
    (kk : WW w k (pc + 3) lv (v :: rest) M) : WW w k pc lv (.ref (wa w h) :: rest) M := fun H locs ls hP hS hl2 =>
  va_get (D := wD w) (ci := ci) (v := v) (C := CN) (T := T) (N := N) C.1 C.2.1 C.2.2.2.2.1 hin C.2.2.2.1 C.2.2.2.2.2.1 hP h (by rw [wd_get hh, he]) hc f hf (C.2.2.2.2.1 _ hl) (fun _ h9 => h9) hv d (kk H locs ls hP hS hl2)
theorem ww_put (C : Cx w k cc own rm) (h : Nat) (hh : h < 44) (ci : Nat) {fs : List Value} {CN : String} {T : u_T} {N index f : Nat} {z : Int} {ty : FieldType} (he : cellOf (wI w) (wZ w) (wa w) h (M h) = .inr (ci, fs)) (he2 : cellOf (wI w) (wZ w) (wa w) h (up1 (M h) f z) = .inr (ci, fs.set f (.int (iZ z)))) (hc : vwCl[ci]? = some (CN, T, N)) (hin : ∀ x ∈ u_ws CN T N, x ∈ wsL_law) (ty0 : Nat → FieldType) (hty : ∀ k, k < N → parseFieldDescriptor (T k).2.2.1 = some (ty0 k)) (hnm : ∀ a, a < N → ∀ b, b < N → a ≠ b → (T a).2.1 ≠ (T b).2.1) (hf : f < N) (hl : Cond.fieldLink own index (T f).1 (T f).2.1 (T f).2.2.1 ∈ wsL_law) (hfin : (T f).2.2.2 = false) (hd : parseFieldDescriptor (T f).2.2.1 = some ty) (hn : narrow ty (.int (iZ z)) = .int (iZ z)) (hfit : fits ty (.int (iZ z)) = true) (hlen : f < fs.length) (d : decode cc pc = .ok (.putfield index, 3))
    (kk : WW w k (pc + 3) lv rest (ups M h (up1 (M h) f z))) : WW w k pc lv (.int (iZ z) :: .ref (wa w h) :: rest) M := fun H locs ls hP hS hl2 =>
  va_put (D := wD w) (ci := ci) (v := .int (iZ z)) (ty := ty) (C := CN) (T := T) (N := N) C.1 C.2.1 C.2.2.2.2.1 hin ty0 hty hnm C.2.2.2.1 C.2.2.2.2.2.1 hP (C.2.2.2.2.2.2.2.1 M) hS h (by rw [wd_get hh, he]) hc f hf (C.2.2.2.2.1 _ hl) (fun _ h9 => h9) hfin hd hn hfit hlen d (fun H1 locs1 hP1 _ hS1 => kk H1 locs1 ls (by rw [← he2, wd_set hh] at hP1; exact hP1) hS1 hl2)
theorem ww_iald (C : Cx w k cc own rm) (h : Nat) (hh : h < 44) {N : Nat} {i : Int} (n : Nat) {z : Int} (he : cellOf (wI w) (wZ w) (wa w) h (M h) = rowI (wI w) N (M h)) (hN : N < 2 ^ 31) (hi : i = (n : Int)) (hn : n < N) (hz : M h n = z) (d : decode cc pc = .ok (.iaload, 1))
    (kk : WW w k (pc + 1) lv (.int (iZ z) :: rest) M) : WW w k pc lv (.int (iZ i) :: .ref (wa w h) :: rest) M := fun H locs ls hP hS hl2 =>
  va_iald (D := wD w) C.1 C.2.1 C.2.2.2.2.2.1 hP h 0 (cA := wI w) (n := N) (f := fun k => iZ (M h k)) (by rw [wd_get hh, he]; rfl) rfl (iZ_in hi hn hN).1 d (by rw [(iZ_in hi hn hN).2, hz]; exact kk H locs ls hP hS hl2)
theorem upd_iZ (f : Nat → Int) (n : Nat) (z : Int) : upd (fun k => iZ (f k)) n (iZ z) = fun k => iZ (up1 f n z k) := by
  funext j
  unfold upd up1
  by_cases h : j = n
  · rw [if_pos h, if_pos h]
  · rw [if_neg h, if_neg h]
theorem ww_iast (C : Cx w k cc own rm) (h : Nat) (hh : h < 44) {N : Nat} {i : Int} (n : Nat) {z : Int} (he : ∀ f : Nat → Int, cellOf (wI w) (wZ w) (wa w) h f = rowI (wI w) N f) (hN : N < 2 ^ 31) (hi : i = (n : Int)) (hn : n < N) (d : decode cc pc = .ok (.iastore, 1))
    (kk : WW w k (pc + 1) lv rest (ups M h (up1 (M h) n z))) : WW w k pc lv (.int (iZ z) :: .int (iZ i) :: .ref (wa w h) :: rest) M := fun H locs ls hP hS hl2 =>
  va_iast (D := wD w) C.1 C.2.1 C.2.2.2.2.2.1 hP (C.2.2.2.2.2.2.2.1 M) hS h 0 (cA := wI w) (n := N) (f := fun k => iZ (M h k)) (by rw [wd_get hh, he]; rfl) rfl (iZ_in hi hn hN).1 d (fun H1 locs1 hP1 _ hS1 => kk H1 locs1 ls (by
    rw [(iZ_in hi hn hN).2, upd_iZ] at hP1
    have e : (wa w h, Sum.inl (wI w, N, Sum.inl (fun k => iZ (up1 (M h) n z k)))) = (wa w h, cellOf (wI w) (wZ w) (wa w) h (up1 (M h) n z)) := by rw [he]; rfl
    rw [e, wd_set hh] at hP1
    exact hP1) hS1 hl2)
theorem ww_zald (C : Cx w k cc own rm) (h : Nat) (hh : h < 44) {N : Nat} {i : Int} (n : Nat) {z : Int} (he : cellOf (wI w) (wZ w) (wa w) h (M h) = rowI (wZ w) N (M h)) (hN : N < 2 ^ 31) (hi : i = (n : Int)) (hn : n < N) (hz : M h n = z) (d : decode cc pc = .ok (.baload, 1))
    (kk : WW w k (pc + 1) lv (.int (iZ z) :: rest) M) : WW w k pc lv (.int (iZ i) :: .ref (wa w h) :: rest) M := fun H locs ls hP hS hl2 =>
  va_zald (D := wD w) C.1 C.2.1 C.2.2.2.2.2.1 hP h 1 (cA := wZ w) (n := N) (f := fun k => iZ (M h k)) (by rw [wd_get hh, he]; rfl) rfl (iZ_in hi hn hN).1 d (by rw [(iZ_in hi hn hN).2, hz]; exact kk H locs ls hP hS hl2)
theorem ww_zast (C : Cx w k cc own rm) (h : Nat) (hh : h < 44) {N : Nat} {i : Int} (n : Nat) {z : Int} (he : ∀ f : Nat → Int, cellOf (wI w) (wZ w) (wa w) h f = rowI (wZ w) N f) (hN : N < 2 ^ 31) (hi : i = (n : Int)) (hn : n < N) (hz : z = 0 ∨ z = 1) (d : decode cc pc = .ok (.bastore, 1))
    (kk : WW w k (pc + 1) lv rest (ups M h (up1 (M h) n z))) : WW w k pc lv (.int (iZ z) :: .int (iZ i) :: .ref (wa w h) :: rest) M := fun H locs ls hP hS hl2 =>
  va_zast (D := wD w) C.1 C.2.1 C.2.2.2.2.2.1 hP (C.2.2.2.2.2.2.2.1 M) hS h 1 (cA := wZ w) (n := N) (f := fun k => iZ (M h k)) (by rw [wd_get hh, he]; rfl) rfl (iZ_in hi hn hN).1 d (fun H1 locs1 hP1 _ hS1 => kk H1 locs1 ls (by
    have ez : vp_nar .boolean (iZ z) = iZ z := by rcases hz with rfl | rfl <;> decide
    rw [(iZ_in hi hn hN).2, ez, upd_iZ] at hP1
    have e : (wa w h, Sum.inl (wZ w, N, Sum.inl (fun k => iZ (up1 (M h) n z k)))) = (wa w h, cellOf (wI w) (wZ w) (wa w) h (up1 (M h) n z)) := by rw [he]; rfl
    rw [e, wd_set hh] at hP1
    exact hP1) hS1 hl2)
theorem ww_max (C : Cx w k cc own rm) {index : Nat} {a b : Int} (hl : Cond.methodLink own index Lib.Math.max.name ∈ wsL_law) (ha : R32 a) (hb : R32 b) (hR : 1 ≤ rm.frames ∧ 21 ≤ rm.locals) (hr : (rest.map fun v => v.category).sum ≤ 8) (d : decode cc pc = .ok (.invokestatic index, 3))
    (kk : WW w k (pc + 3) lv (.int (iZ (max a b)) :: rest) M) : WW w k pc lv (.int (iZ b) :: .int (iZ a) :: rest) M := fun H locs ls hP hS hl2 =>
  va_mmax C.1 C.2.1 (C.2.2.1.trans hl2.1.symm) C.2.2.2.1 (C.2.2.2.2.1 _ hl) (C.2.2.2.2.1 _ st_Lib_Math_max_name) (C.2.2.2.2.1 _ it__java_lang_Math_) (C.2.2.2.2.1 _ co_Lib_Math_max_name) (by rw [C.2.2.2.2.2.2.2.2.1]; exact hR.1) (by rw [C.2.2.2.2.2.2.2.2.1]; omega) (by rw [C.2.2.2.2.2.2.2.2.1]; exact C.2.2.2.2.2.2.2.2.2.1) (by rw [C.2.2.2.2.2.2.2.2.1]; exact C.2.2.2.2.2.2.2.2.2.2) d (by
    have e : (if iZ a < iZ b then iZ b else iZ a) = iZ (max a b) := by
      by_cases h : a < b
      · rw [if_pos ((iZ_lt ha hb).mpr h), Int.max_eq_right (by omega)]
      · rw [if_neg (fun q => h ((iZ_lt ha hb).mp q)), Int.max_eq_left (by omega)]
    rw [e]
    exact kk H locs ls hP hS hl2)
theorem ww_min (C : Cx w k cc own rm) {index : Nat} {a b : Int} (hl : Cond.methodLink own index Lib.Math.min.name ∈ wsL_law) (ha : R32 a) (hb : R32 b) (hR : 1 ≤ rm.frames ∧ 21 ≤ rm.locals) (hr : (rest.map fun v => v.category).sum ≤ 8) (d : decode cc pc = .ok (.invokestatic index, 3))
    (kk : WW w k (pc + 3) lv (.int (iZ (min a b)) :: rest) M) : WW w k pc lv (.int (iZ b) :: .int (iZ a) :: rest) M := fun H locs ls hP hS hl2 =>
  va_mmin C.1 C.2.1 (C.2.2.1.trans hl2.1.symm) C.2.2.2.1 (C.2.2.2.2.1 _ hl) (C.2.2.2.2.1 _ st_Lib_Math_min_name) (C.2.2.2.2.1 _ it__java_lang_Math_) (C.2.2.2.2.1 _ co_Lib_Math_min_name) (by rw [C.2.2.2.2.2.2.2.2.1]; exact hR.1) (by rw [C.2.2.2.2.2.2.2.2.1]; omega) (by rw [C.2.2.2.2.2.2.2.2.1]; exact C.2.2.2.2.2.2.2.2.2.1) (by rw [C.2.2.2.2.2.2.2.2.1]; exact C.2.2.2.2.2.2.2.2.2.2) d (by
    have e : (if iZ b < iZ a then iZ b else iZ a) = iZ (min a b) := by
      by_cases h : b < a
      · rw [if_pos ((iZ_lt hb ha).mpr h), Int.min_eq_right (by omega)]
      · rw [if_neg (fun q => h ((iZ_lt hb ha).mp q)), Int.min_eq_left (by omega)]
    rw [e]
    exact kk H locs ls hP hS hl2)
/-- the size of a number, as an integer -/
def aZ (a : Int) : Int := if 0 ≤ a then a else - a
theorem ww_abs (C : Cx w k cc own rm) {index : Nat} {a : Int} (hl : Cond.methodLink own index Lib.Math.abs.name ∈ wsL_law) (ha : R32 a) (hR : 1 ≤ rm.frames ∧ 21 ≤ rm.locals) (hr : (rest.map fun v => v.category).sum ≤ 8) (d : decode cc pc = .ok (.invokestatic index, 3))
    (kk : WW w k (pc + 3) lv (.int (iZ (aZ a)) :: rest) M) : WW w k pc lv (.int (iZ a) :: rest) M := fun H locs ls hP hS hl2 =>
  va_mabs C.1 C.2.1 (C.2.2.1.trans hl2.1.symm) C.2.2.2.1 (C.2.2.2.2.1 _ hl) (C.2.2.2.2.1 _ st_Lib_Math_abs_name) (C.2.2.2.2.1 _ it__java_lang_Math_) (C.2.2.2.2.1 _ co_Lib_Math_abs_name) (by rw [C.2.2.2.2.2.2.2.2.1]; exact hR.1) (by rw [C.2.2.2.2.2.2.2.2.1]; omega) (by rw [C.2.2.2.2.2.2.2.2.1]; exact C.2.2.2.2.2.2.2.2.2.1) (by rw [C.2.2.2.2.2.2.2.2.1]; exact C.2.2.2.2.2.2.2.2.2.2) d (by
    have e : (if 0 ≤ iZ a then iZ a else 0 - iZ a) = iZ (aZ a) := by
      unfold aZ
      rw [← iZ_0]
      by_cases h : 0 ≤ a
      · rw [if_pos ((iZ_le R32_0 ha).mpr h), if_pos h]
      · rw [if_neg (fun q => h ((iZ_le R32_0 ha).mp q)), if_neg h, iZ_sub]
        congr 1
        omega
    rw [e]
    exact kk H locs ls hP hS hl2)
end WWR
