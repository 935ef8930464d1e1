/-! ROWS OF A CONSTRUCTOR: object's init, new, calls of inits; contracts of inits -/
/-- the links to the private inits of a nest -/
def NW (U : State) : Prop := va_Nw (.methodLinkNest RX5 11 yX4_init RX5) U ∧ va_Nw (.methodLinkNest RX5 18 yX1_init RX5) U ∧ va_Nw (.methodLinkNest RX5 25 yX0_init RX5) U ∧ va_Nw (.methodLinkNest RX5 32 yX3_init RX5) U ∧ va_Nw (.methodLinkNest RX5 39 yX2_init RX5) U ∧ va_Nw (.methodLinkNest RX3 11 yX1_init RX5) U
theorem NW.warm {s U : State} (hW : s.WarmedH U.vm) (h : NW s) : NW U := ⟨va_Nw.warmM hW h.1, va_Nw.warmM hW h.2.1, va_Nw.warmM hW h.2.2.1, va_Nw.warmM hW h.2.2.2.1, va_Nw.warmM hW h.2.2.2.2.1, va_Nw.warmM hW h.2.2.2.2.2⟩
theorem NW.same {s U : State} (hW : s.vm = U.vm) (h : NW s) : NW U := ⟨va_Nw.same rfl hW h.1, va_Nw.same rfl hW h.2.1, va_Nw.same rfl hW h.2.2.1, va_Nw.same rfl hW h.2.2.2.1, va_Nw.same rfl hW h.2.2.2.2.1, va_Nw.same rfl hW h.2.2.2.2.2⟩
/-- the world of an init at its start: its own object -/
abbrev w1c (a ci : Nat) (fs : List Value) : va_W := [(a, .inr (ci, fs))]
def CtN (g : GN) (y : MethodName) (cc : ByteArray) (rm : Room) (ci : Nat) (fs : List Value) (B : Nat → va_W → Prop) : Prop :=
  ∀ a sz : Nat, Met (gL g) y (wsC y cc 1 none) rm (va_Pc [.ref a] (fun U => U.heap.size = sz ∧ va_P (gD g) vwCl (w1c a ci fs) U.heap ∧ va_K (gD g) vwCl (gT g) U ∧ NW U)) (va_Qv (fun (u : va_W) => B a u) (fun u t => va_P (gD g) vwCl u t.heap ∧ va_D (va_A (w1c a ci fs) sz) u) (va_A (w1c a ci fs) sz)) rm.cells rm.slots (va_A (w1c a ci fs) sz)
def RtN (g : GN) (k : KX) (cc : ByteArray) (rm : Room) (B : va_W → Prop) : Prop := ∀ (pc : Nat) (lv : List (Nat × Value)) (u : va_W), decode cc pc = .ok (.return_, 1) → B u → WN g k pc lv [] u rm.cells rm.slots
theorem CtN.of {g : GN} {y : MethodName} {cc : ByteArray} {rm : Room} {ci : Nat} {fs : List Value} {B : Nat → va_W → Prop} (hy : plainName y.cls = true) (hy1 : y.name = "<init>")
    (body : ∀ (k : KX) (a : Nat), kL k = 1 → Cn g k cc y.cls rm → NW (ks k) → (kt k).name = "<init>" → RtN g k cc rm (B a) → WN g k 0 [(0, .ref a)] [] (w1c a ci fs) 0 0) : CtN g y cc rm ci fs B := by
  intro a sz
  refine Met.ofW (cc := cc) (maxL := 1) (ret := none) hy rfl ?_
  intro p e s m args below meth c s₁ B0 hml hv
  obtain ⟨rfl, hsz, hP, hK, hN⟩ := hv
  have hx := B0.exec
  have hb := B0.bytes
  have hr := B0.returns
  have hts := atoms_spec (ws := wsC y cc 1 none) B0.pre
  have hown : s.vm.findClass y.cls = some m.cls := findClass_of_methodNamed B0.named
  have hlocks := B0.notSynchronized
  have hin : meth.name = "<init>" := (name_of_methodNamed B0.named B0.method).1.trans hy1
  subst hsz
  have hD : va_D (va_A (w1c a ci fs) s.heap.size) (w1c a ci fs) := ⟨fun i j p q hi hj _ => by
    have h1 := (List.getElem?_eq_some_iff.mp hi).1
    have h2 := (List.getElem?_eq_some_iff.mp hj).1
    have h1 : i < 1 := h1
    have h2 : j < 1 := h2
    omega, fun k q hk => va_A.in hk⟩
  generalize hAe : va_A (w1c a ci fs) s.heap.size = A at hD ⊢
  have hA : ∀ q : Nat, s.heap.size ≤ q → A q := fun q h => by rw [← hAe]; exact Or.inr h
  have hl := lv_entry [.ref a] (n := 1) (Nat.le_of_ble_eq_true rfl)
  rw [lg_entry_eq]
  generalize (lg_sl [.ref a] ++ List.replicate (1 - (lg_sl [.ref a]).length) Slot.unset).toArray = ls at hl ⊢
  refine body (p, e, rm, s, m, _, below, meth, c, 0, 0, _, A, 1) a rfl ⟨hx, hb, hml, hown, fun x hx => hts x (List.mem_cons_of_mem _ hx), hK, hA, rfl⟩ hN hin ?_ s.heap [] ls hP hD va_S.rf hl
  intro pc lv u d hp H locs ls hP hD hS hl
  exact W.vret hx hb hr (fun t ht hW => ⟨⟨u, rfl, hp, by rw [ht]; exact hP, hD⟩, hS.F ht⟩) hS.2.2 d hlocks
section WNR3
variable {g : GN} {k : KX} {cc : ByteArray} {own : String} {rm : Room} {pc : Nat} {lv : List (Nat × Value)} {rest st : List Value} {ws : va_W} {nc ns : Nat}
theorem wn_objInit (C : Cn g k cc own rm) {a idx : Nat} (hl : Cond.methodLink own idx objectInit ∈ wsL_law) (hf : 1 ≤ rm.frames) (hlo : 12 ≤ rm.locals) (d : decode cc pc = .ok (.invokespecial idx, 3)) (kk : WN g k (pc + 3) lv [] ws nc ns) : WN g k pc lv [.ref a] ws nc ns := fun H locs ls hP hD hS hl2 => by
  obtain ⟨hx, hb, hml, hown, hts, hK, hA, hR⟩ := C
  exact W.objInit hx hb hown (hts _ hl) (hts _ im_objectInit) (hts _ co_objectInit) rfl (by rw [hml]; exact hl2.1) rfl d (by rw [hR]; exact hf) (by rw [hR]; exact hlo) (kk H locs ls hP hD hS hl2)
theorem wn_new (C : Cn g k cc own rm) (ci : Nat) {CN : String} {T : u_T} {N index : Nat} (fs : List Value) (hc : vwCl[ci]? = some (CN, T, N)) (hin : ∀ x ∈ u_ws CN T N, x ∈ wsL_law) (ty0 : Nat → FieldType) (hty : ∀ k, k < N → parseFieldDescriptor (T k).2.2.1 = some (ty0 k)) (hl : Cond.classLink own index CN ∈ wsL_law) (hinst : Cond.instantiable CN N ∈ wsL_law) (hini : Cond.initialized CN ∈ wsL_law) (hfs : ∀ j, j < N → defaultValue (ty0 j) = vp_V fs j) (hcells : nc + 1 ≤ rm.cells) (hslots : ns + N ≤ rm.slots) (d : decode cc pc = .ok (.new index, 3))
    (kk : ∀ q : Nat, WN g k (pc + 3) lv (.ref q :: rest) (ws ++ [(q, .inr (ci, fs))]) (nc + 1) (ns + N)) : WN g k pc lv rest ws nc ns := fun H locs ls hP hD hS hl2 => by
  obtain ⟨hx, hb, hml, hown, hts, hK, hA, hR⟩ := C
  exact va_new (D := gD g) (ci := ci) (fs := fs) (C := CN) (T := T) (N := N) hx hb hts hin ty0 hty hown (hts _ hl) (hts _ hinst) (hts _ hini) hK hP hD hS hA hc hfs (by rw [hR]; exact hcells) (by rw [hR]; exact hslots) d (fun q H1 hP1 hD1 hS1 => kk q H1 locs ls hP1 hD1 hS1 hl2)
/-- what a call of an init needs of the tables -/
def MFn (y : MethodName) (cc : ByteArray) : Prop := Cond.instanceMethod y ∈ wsL_law ∧ Cond.initialized y.cls ∈ wsL_law ∧ Cond.code y cc 1 none ∈ wsL_law ∧ y.name = "<init>" ∧ (y.cls ≠ "java/lang/invoke/MethodHandle" ∧ y.cls ≠ "java/lang/invoke/VarHandle" ∧ (parseMethodDescriptor y.desc).map (fun d => d.parameters.length) = some 0)
theorem wn_callI (C : Cn g k cc own rm) (N : NW (ks k)) {y : MethodName} {c2 : ByteArray} {rm2 : Room} {ci a index : Nat} {fs : List Value} {B : Nat → va_W → Prop} (ct : CtN g y c2 rm2 ci fs B) (mf : MFn y c2) (hl : Cond.methodLink own index y ∈ wsL_law) (wr : va_W) (n : Nat) (isR : List Nat) (hw : ws[n]? = some (a, .inr (ci, fs))) (hR0 : isR.map (fun i => ws[i]?) = wr.map some) (hn : va_nd isR = true) (hdis : ∀ i ∈ isR, i ∉ [n]) (hrm : rm2.frames + 1 ≤ rm.frames ∧ 8 + (1 + 11) + rm2.locals ≤ rm.locals) (hcs : nc + rm2.cells ≤ rm.cells ∧ ns + rm2.slots ≤ rm.slots) (hr : (rest.map fun v => v.category).sum ≤ 8) (d : decode cc pc = .ok (.invokespecial index, 3))
    (kk : ∀ w1 : va_W, B a w1 → WN g k (pc + 3) lv rest (wr ++ w1) (nc + rm2.cells) (ns + rm2.slots)) : WN g k pc lv (.ref a :: rest) ws nc ns := fun H locs ls hP hD hS hl2 => by
  obtain ⟨hx, hb, hml, hown, hts, hK, hA, hR⟩ := C
  have hC0 : [n].map (fun i => ws[i]?) = (w1c a ci fs).map some := by show [ws[n]?] = _; rw [hw]; rfl
  have hPc := hP.sub (ws' := w1c a ci fs) [n] (by rw [List.filterMap_cons, hw]; rfl)
  have hFc := va_free (wc := w1c a ci fs) hD hS hA [n] hC0
  refine va_callv (va_runI (As := []) (rest := rest) ⟨hx, hb, hml, hown, hts⟩ (ct a H.size) (cwI 0 hts (goodIn_c mf.2.2.1) rfl rfl rfl (hts _ mf.2.1) (hts _ hl) (hts _ mf.1) mf.2.2.2.1 mf.2.2.2.2 ⟨by rw [hR]; exact hrm.1, by rw [hR]; exact hrm.2⟩) ⟨fun a U g mk q => ?_, fun U hU hW => ⟨rfl, by rw [hU], by rw [hU]; exact hPc, va_K.moved hW.alike hK, N.warm hW⟩⟩ rfl rfl hl2.1 rfl (lv_room hr) d ⟨by rw [hR]; exact hcs.1, by rw [hR]; exact hcs.2⟩) hS (fun q _ h => hFc q h) hFc (fun u t H1 locs1 ht hvm hw1 hB hz1 hk1 hS1 => ?_)
  · obtain ⟨q0, q1, qP, qK, qN⟩ := q
    exact ⟨q0, q1, qP, va_K.moved (u := U) (U := U.calling g mk a) (Vm.Alike.refl U.vm) qK, qN.same rfl⟩
  · obtain ⟨hP1, hD1⟩ := hB
    rw [ht] at hP1
    obtain ⟨hP2, hD2⟩ := va_join (wr := wr) (w1 := u) hP hD [n] isR hC0 hR0 hn hdis hk1 hFc hP1 hD1
    exact kk u hw1 H1 locs1 ls hP2 hD2 hS1 hl2
theorem wn_callIN (C : Cn g k cc own rm) (N : NW (ks k)) {y : MethodName} {c2 : ByteArray} {rm2 : Room} {ci a index : Nat} {fs : List Value} {B : Nat → va_W → Prop} (ct : CtN g y c2 rm2 ci fs B) (mf : MFn y c2) (hl : va_Nw (.methodLinkNest own index y RX5) (ks k)) (wr : va_W) (n : Nat) (isR : List Nat) (hw : ws[n]? = some (a, .inr (ci, fs))) (hR0 : isR.map (fun i => ws[i]?) = wr.map some) (hn : va_nd isR = true) (hdis : ∀ i ∈ isR, i ∉ [n]) (hrm : rm2.frames + 1 ≤ rm.frames ∧ 8 + (1 + 11) + rm2.locals ≤ rm.locals) (hcs : nc + rm2.cells ≤ rm.cells ∧ ns + rm2.slots ≤ rm.slots) (hr : (rest.map fun v => v.category).sum ≤ 8) (d : decode cc pc = .ok (.invokespecial index, 3))
    (kk : ∀ w1 : va_W, B a w1 → WN g k (pc + 3) lv rest (wr ++ w1) (nc + rm2.cells) (ns + rm2.slots)) : WN g k pc lv (.ref a :: rest) ws nc ns := fun H locs ls hP hD hS hl2 => by
  obtain ⟨hx, hb, hml, hown, hts, hK, hA, hR⟩ := C
  have hC0 : [n].map (fun i => ws[i]?) = (w1c a ci fs).map some := by show [ws[n]?] = _; rw [hw]; rfl
  have hPc := hP.sub (ws' := w1c a ci fs) [n] (by rw [List.filterMap_cons, hw]; rfl)
  have hFc := va_free (wc := w1c a ci fs) hD hS hA [n] hC0
  refine va_callv (va_runIN (As := []) (rest := rest) ⟨hx, hb, hml, hown, hts⟩ (ct a H.size) ⟨va_cnB 0 hts (goodIn_c mf.2.2.1) rfl rfl rfl hl (hts _ mf.2.1) mf.2.2.2.2 ⟨by rw [hR]; exact hrm.1, by rw [hR]; exact hrm.2⟩, mf.2.2.2.1, hts _ mf.1⟩ ⟨fun a U g mk q => ?_, fun U hU hW => ⟨rfl, by rw [hU], by rw [hU]; exact hPc, va_K.moved hW.alike hK, N.warm hW⟩⟩ rfl rfl hl2.1 rfl (lv_room hr) d ⟨by rw [hR]; exact hcs.1, by rw [hR]; exact hcs.2⟩) hS (fun q _ h => hFc q h) hFc (fun u t H1 locs1 ht hvm hw1 hB hz1 hk1 hS1 => ?_)
  · obtain ⟨q0, q1, qP, qK, qN⟩ := q
    exact ⟨q0, q1, qP, va_K.moved (u := U) (U := U.calling g mk a) (Vm.Alike.refl U.vm) qK, qN.same rfl⟩
  · obtain ⟨hP1, hD1⟩ := hB
    rw [ht] at hP1
    obtain ⟨hP2, hD2⟩ := va_join (wr := wr) (w1 := u) hP hD [n] isR hC0 hR0 hn hdis hk1 hFc hP1 hD1
    exact kk u hw1 H1 locs1 ls hP2 hD2 hS1 hl2
end WNR3
