/-! ROWS OF A CONSTRUCTOR: the world is a list that grows -/
abbrev GN : Type := Launch × va_G × ClassId × ClassId
abbrev gL (g : GN) : Launch := g.1
abbrev gD (g : GN) : va_G := g.2.1
abbrev gI (g : GN) : ClassId := g.2.2.1
abbrev gZ (g : GN) : ClassId := g.2.2.2
abbrev gT (g : GN) : List (ClassId × FieldType) := [(gI g, .int), (gZ g, .boolean)]
def Cn (g : GN) (k : KX) (cc : ByteArray) (own : String) (rm : Room) : Prop :=
  (kp k).tables.exec = Jvm.exec ∧ (kc k).code = cc ∧ (kc k).maxLocals = kL k ∧ (ks k).vm.findClass own = some (km k).cls ∧ (∀ x ∈ wsL_law, x.before (ka k) (ks k) = true) ∧ va_K (gD g) vwCl (gT g) (ks k) ∧ (∀ q, (ks k).heap.size ≤ q → kA k q) ∧ kR k = rm
def WN (g : GN) (k : KX) (pc : Nat) (lv : List (Nat × Value)) (st : List Value) (ws : va_W) (nc ns : Nat) : Prop :=
  ∀ (H : Heap) (locs : List Loc) (ls : Array Slot), va_P (gD g) vwCl ws H → va_D (kA k) ws → va_S (kA k) (ks k).heap H locs → lv_has ls (kL k) lv → W (kp k) (gL g) (ke k) (kR k) (ks k) (km k) (ka k) (kb k) (kt k) (kc k) H locs nc ns (kQ k) (F0 (km k) pc ls st)
section WNR
variable {g : GN} {k : KX} {cc : ByteArray} {own : String} {rm : Room} {pc : Nat} {lv : List (Nat × Value)} {rest st : List Value} {ws : va_W} {nc ns : Nat}
theorem wn_iconst (C : Cn g k cc own rm) {n : Int} (d : decode cc pc = .ok (.iconst n, 1)) (kk : WN g k (pc + 1) lv (.int (iZ n) :: rest) ws nc ns) : WN g k pc lv rest ws nc ns := fun H locs ls hP hD hS hl => lv_iconst C.1 C.2.1 d rfl (kk H locs ls hP hD hS hl)
theorem wn_bipush (C : Cn g k cc own rm) {n : Int} (d : decode cc pc = .ok (.bipush n, 2)) (hv : (Int8.ofInt n).toInt32 = iZ n) (kk : WN g k (pc + 2) lv (.int (iZ n) :: rest) ws nc ns) : WN g k pc lv rest ws nc ns := fun H locs ls hP hD hS hl => lv_bipush C.1 C.2.1 d hv (kk H locs ls hP hD hS hl)
theorem wn_sipush (C : Cn g k cc own rm) {n : Int} (d : decode cc pc = .ok (.sipush n, 3)) (hv : (Int16.ofInt n).toInt32 = iZ n) (kk : WN g k (pc + 3) lv (.int (iZ n) :: rest) ws nc ns) : WN g k pc lv rest ws nc ns := fun H locs ls hP hD hS hl => lv_sipush C.1 C.2.1 d hv (kk H locs ls hP hD hS hl)
theorem wn_aload_n (C : Cn g k cc own rm) {i : Fin 4} {x : Nat} (d : decode cc pc = .ok (.aload_n i, 1)) (j : Nat) (h : lv[j]? = some ((i : Nat), .ref x)) (kk : WN g k (pc + 1) lv (.ref x :: rest) ws nc ns) : WN g k pc lv rest ws nc ns := fun H locs ls hP hD hS hl => lv_aload_n C.1 C.2.1 d rfl (lv_at hl j h) (kk H locs ls hP hD hS hl)
theorem wn_dup (C : Cn g k cc own rm) {v : Value} (d : decode cc pc = .ok (.dup, 1)) (hv : v.category = 1) (kk : WN g k (pc + 1) lv (v :: v :: rest) ws nc ns) : WN g k pc lv (v :: rest) ws nc ns := fun H locs ls hP hD hS hl => lv_dup C.1 C.2.1 d hv (kk H locs ls hP hD hS hl)
theorem wn_newI (C : Cn g k cc own rm) {n : Int} (N : Nat) (hn : n = (N : Int)) (hN : N < 65536) (harr : Cond.arrayClass .int ∈ wsL_law) (d : decode cc pc = .ok (.newarray .int, 2)) (hc : nc + 1 ≤ rm.cells) (hs : ns + N ≤ rm.slots)
    (kk : ∀ q : Nat, WN g k (pc + 2) lv (.ref q :: st) (ws ++ [(q, rowI (gI g) N z0)]) (nc + 1) (ns + N)) : WN g k pc lv (.int (iZ n) :: st) ws nc ns := fun H locs ls hP hD hS hl => by
  obtain ⟨hx, hb, hml, hown, hts, hK, hA, hR⟩ := C
  have hi := iZ_in (N := N + 1) hn (by omega) (by omega)
  refine va_newa (D := gD g) (atype := .int) (ty := .int) hx hb (hts _ harr) rfl hK hP hD hS hA (a0 := (N, .inl (fun _ => 0))) (N' := N) (fun cA => rfl) (fun h => hi.1 (Or.inl h)) hi.2 (by show N * 4 ≤ 536870912; omega) (by rw [hR]; exact hc) (by rw [hR]; exact hs) d (fun q cA H1 hK1 hP1 hD1 hS1 => ?_)
  have e1 : (ks k).vm.findClass ("[" ++ FieldType.int.toString) = some cA := (hK1.2 2 (cA, .int) rfl).2
  have e2 : (ks k).vm.findClass ("[" ++ FieldType.int.toString) = some (gI g) := (hK.2 0 (gI g, .int) rfl).2
  have e3 : cA = gI g := Option.some.inj (e1.symm.trans e2)
  subst e3
  exact kk q H1 locs ls hP1 hD1 hS1 hl
theorem wn_newZ (C : Cn g k cc own rm) {n : Int} (N : Nat) (hn : n = (N : Int)) (hN : N < 65536) (harr : Cond.arrayClass .boolean ∈ wsL_law) (d : decode cc pc = .ok (.newarray .boolean, 2)) (hc : nc + 1 ≤ rm.cells) (hs : ns + N ≤ rm.slots)
    (kk : ∀ q : Nat, WN g k (pc + 2) lv (.ref q :: st) (ws ++ [(q, rowI (gZ g) N z0)]) (nc + 1) (ns + N)) : WN g k pc lv (.int (iZ n) :: st) ws nc ns := fun H locs ls hP hD hS hl => by
  obtain ⟨hx, hb, hml, hown, hts, hK, hA, hR⟩ := C
  have hi := iZ_in (N := N + 1) hn (by omega) (by omega)
  refine va_newa (D := gD g) (atype := .boolean) (ty := .boolean) hx hb (hts _ harr) rfl hK hP hD hS hA (a0 := (N, .inl (fun _ => 0))) (N' := N) (fun cA => rfl) (fun h => hi.1 (Or.inl h)) hi.2 (by show N * 1 ≤ 536870912; omega) (by rw [hR]; exact hc) (by rw [hR]; exact hs) d (fun q cA H1 hK1 hP1 hD1 hS1 => ?_)
  have e1 : (ks k).vm.findClass ("[" ++ FieldType.boolean.toString) = some cA := (hK1.2 2 (cA, .boolean) rfl).2
  have e2 : (ks k).vm.findClass ("[" ++ FieldType.boolean.toString) = some (gZ g) := (hK.2 1 (gZ g, .boolean) rfl).2
  have e3 : cA = gZ g := Option.some.inj (e1.symm.trans e2)
  subst e3
  exact kk q H1 locs ls hP1 hD1 hS1 hl
end WNR
