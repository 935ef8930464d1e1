/-! CONTRACTS over the one world, and the rows of a call and of a return -/
abbrev wsC (y : MethodName) (cc : ByteArray) (n : Nat) (ret : Option FieldType) : List Cond := Cond.code y cc n ret :: wsL_law
abbrev wdW (w : WLD) (M : Mem) : va_W := wd (wI w) (wZ w) (wa w) M
def CtI (w : WLD) (y : MethodName) (cc : ByteArray) (n : Nat) (ret : Option FieldType) (rm : Room) (av : List Value) (M : Mem) (post : Int → Mem → Prop) : Prop :=
  ∀ sz : Nat, Met (wl w) y (wsC y cc n ret) rm (va_Pc av (fun U => U.heap.size = sz ∧ BB w M U)) (va_Qi (fun (r : Int32) (u : Mem) => ∃ z : Int, r = iZ z ∧ post z u) (BB w) (va_A (wdW w M) sz)) 0 0 (va_A (wdW w M) sz)
def CtV (w : WLD) (y : MethodName) (cc : ByteArray) (n : Nat) (rm : Room) (av : List Value) (M : Mem) (post : Mem → Prop) : Prop :=
  ∀ sz : Nat, Met (wl w) y (wsC y cc n none) rm (va_Pc av (fun U => U.heap.size = sz ∧ BB w M U)) (va_Qv (fun (u : Mem) => post u) (BB w) (va_A (wdW w M) sz)) 0 0 (va_A (wdW w M) sz)
theorem wd_D {cI cZ : ClassId} {ad : Nat → Nat} {M M' : Mem} {A : Nat → Prop} (h : va_D A (wd cI cZ ad M)) : va_D A (wd cI cZ ad M') := by
  refine ⟨fun i j p q hi hj he => ?_, fun k q hk => ?_⟩
  · obtain ⟨hi1, rfl⟩ := wd_lt hi
    obtain ⟨hj1, rfl⟩ := wd_lt hj
    exact h.1 i j _ _ (wd_get hi1) (wd_get hj1) he
  · obtain ⟨h1, rfl⟩ := wd_lt hk
    exact h.2 k (ad k, cellOf cI cZ ad k (M k)) (wd_get h1)
def RtI (w : WLD) (k : KX) (cc : ByteArray) (post : Int → Mem → Prop) : Prop := ∀ (pc : Nat) (lv : List (Nat × Value)) (z : Int) (M : Mem), decode cc pc = .ok (.ireturn, 1) → post z M → WW w k pc lv [.int (iZ z)] M
def RtV (w : WLD) (k : KX) (cc : ByteArray) (post : Mem → Prop) : Prop := ∀ (pc : Nat) (lv : List (Nat × Value)) (M : Mem), decode cc pc = .ok (.return_, 1) → post M → WW w k pc lv [] M
theorem CtI.of {w : WLD} {y : MethodName} {cc : ByteArray} {n : Nat} {rm : Room} {av : List Value} {M : Mem} {post : Int → Mem → Prop} (hy : plainName y.cls = true) (hn : (lg_sl av).length ≤ n) (hrc : rm.cells = 0) (hrs : rm.slots = 0)
    (body : ∀ k : KX, kL k = n → Cx w k cc y.cls rm → RtI w k cc post → WW w k 0 (lv_args 0 av) [] M) : CtI w y cc n (some .int) rm av M post := by
  intro sz
  refine Met.ofW (cc := cc) (maxL := n) (ret := some .int) hy rfl ?_
  intro p e s m args below meth c s₁ B hml hv
  obtain ⟨rfl, hsz, hP, hK, hD0⟩ := hv
  have hx := B.exec
  have hb := B.bytes
  have hr := B.returns
  have hts := atoms_spec (ws := wsC y cc n (some .int)) B.pre
  have hown : s.vm.findClass y.cls = some m.cls := findClass_of_methodNamed B.named
  have hlocks := B.notSynchronized
  subst hsz
  have hD := hD0.self (sz := s.heap.size)
  generalize hAe : va_A (wdW w M) s.heap.size = A at hD ⊢
  have hA : ∀ q : Nat, s.heap.size ≤ q → A q := fun q h => by rw [← hAe]; exact Or.inr h
  have hl := lv_entry av (n := n) hn
  rw [lg_entry_eq]
  generalize (lg_sl av ++ List.replicate (n - (lg_sl av).length) Slot.unset).toArray = ls at hl ⊢
  refine body (p, e, rm, s, m, _, below, meth, c, 0, 0, _, A, n) rfl ⟨hx, hb, hml, hown, fun x hx => hts x (List.mem_cons_of_mem _ hx), hK, hA, fun M' => wd_D hD, rfl, by rw [hrc]; exact Nat.le_refl 0, by rw [hrs]; exact Nat.le_refl 0⟩ ?_ s.heap [] ls hP va_S.rf hl
  intro pc lv z M' d hp H locs ls hP hS hl
  exact W.iret (v := iZ z) hx hb hr (fun t ht hW => ⟨⟨iZ z, M', rfl, ⟨z, rfl, hp⟩, by rw [ht]; exact hP, va_K.moved hW.alike hK, (wd_D hD).weaken (fun _ _ _ _ => trivial)⟩, hS.F ht⟩) hS.2.2 d hlocks
theorem CtI.ofZ {w : WLD} {y : MethodName} {cc : ByteArray} {n : Nat} {rm : Room} {av : List Value} {M : Mem} {post : Int → Mem → Prop} (hy : plainName y.cls = true) (hn : (lg_sl av).length ≤ n) (hrc : rm.cells = 0) (hrs : rm.slots = 0) (hz : ∀ z M', post z M' → z = 0 ∨ z = 1)
    (body : ∀ k : KX, kL k = n → Cx w k cc y.cls rm → RtI w k cc post → WW w k 0 (lv_args 0 av) [] M) : CtI w y cc n (some .boolean) rm av M post := by
  intro sz
  refine Met.ofW (cc := cc) (maxL := n) (ret := some .boolean) hy rfl ?_
  intro p e s m args below meth c s₁ B hml hv
  obtain ⟨rfl, hsz, hP, hK, hD0⟩ := hv
  have hx := B.exec
  have hb := B.bytes
  have hr := B.returns
  have hts := atoms_spec (ws := wsC y cc n (some .boolean)) B.pre
  have hown : s.vm.findClass y.cls = some m.cls := findClass_of_methodNamed B.named
  have hlocks := B.notSynchronized
  subst hsz
  have hD := hD0.self (sz := s.heap.size)
  generalize hAe : va_A (wdW w M) s.heap.size = A at hD ⊢
  have hA : ∀ q : Nat, s.heap.size ≤ q → A q := fun q h => by rw [← hAe]; exact Or.inr h
  have hl := lv_entry av (n := n) hn
  rw [lg_entry_eq]
  generalize (lg_sl av ++ List.replicate (n - (lg_sl av).length) Slot.unset).toArray = ls at hl ⊢
  refine body (p, e, rm, s, m, _, below, meth, c, 0, 0, _, A, n) rfl ⟨hx, hb, hml, hown, fun x hx => hts x (List.mem_cons_of_mem _ hx), hK, hA, fun M' => wd_D hD, rfl, by rw [hrc]; exact Nat.le_refl 0, by rw [hrs]; exact Nat.le_refl 0⟩ ?_ s.heap [] ls hP va_S.rf hl
  intro pc lv z M' d hp H locs ls hP hS hl
  have hnar : narrow .boolean (.int (iZ z)) = .int (iZ z) := by rcases hz z M' hp with rfl | rfl <;> decide
  exact W.zret (v := iZ z) hx hb hr hnar (fun t ht hW => ⟨⟨iZ z, M', rfl, ⟨z, rfl, hp⟩, by rw [ht]; exact hP, va_K.moved hW.alike hK, (wd_D hD).weaken (fun _ _ _ _ => trivial)⟩, hS.F ht⟩) hS.2.2 d hlocks
theorem CtV.of {w : WLD} {y : MethodName} {cc : ByteArray} {n : Nat} {rm : Room} {av : List Value} {M : Mem} {post : Mem → Prop} (hy : plainName y.cls = true) (hn : (lg_sl av).length ≤ n) (hrc : rm.cells = 0) (hrs : rm.slots = 0)
    (body : ∀ k : KX, kL k = n → Cx w k cc y.cls rm → RtV w k cc post → WW w k 0 (lv_args 0 av) [] M) : CtV w y cc n rm av M post := by
  intro sz
  refine Met.ofW (cc := cc) (maxL := n) (ret := none) hy rfl ?_
  intro p e s m args below meth c s₁ B hml hv
  obtain ⟨rfl, hsz, hP, hK, hD0⟩ := hv
  have hx := B.exec
  have hb := B.bytes
  have hr := B.returns
  have hts := atoms_spec (ws := wsC y cc n none) B.pre
  have hown : s.vm.findClass y.cls = some m.cls := findClass_of_methodNamed B.named
  have hlocks := B.notSynchronized
  subst hsz
  have hD := hD0.self (sz := s.heap.size)
  generalize hAe : va_A (wdW w M) s.heap.size = A at hD ⊢
  have hA : ∀ q : Nat, s.heap.size ≤ q → A q := fun q h => by rw [← hAe]; exact Or.inr h
  have hl := lv_entry av (n := n) hn
  rw [lg_entry_eq]
  generalize (lg_sl av ++ List.replicate (n - (lg_sl av).length) Slot.unset).toArray = ls at hl ⊢
  refine body (p, e, rm, s, m, _, below, meth, c, 0, 0, _, A, n) rfl ⟨hx, hb, hml, hown, fun x hx => hts x (List.mem_cons_of_mem _ hx), hK, hA, fun M' => wd_D hD, rfl, by rw [hrc]; exact Nat.le_refl 0, by rw [hrs]; exact Nat.le_refl 0⟩ ?_ s.heap [] ls hP va_S.rf hl
  intro pc lv M' d hp H locs ls hP hS hl
  exact W.vret hx hb hr (fun t ht hW => ⟨⟨M', rfl, hp, by rw [ht]; exact hP, va_K.moved hW.alike hK, (wd_D hD).weaken (fun _ _ _ _ => trivial)⟩, hS.F ht⟩) hS.2.2 d hlocks
/-- what a call of an instance method, of a static method, needs of the tables -/
def MFv (y : MethodName) (CN : String) (cc : ByteArray) (n : Nat) (ret : Option FieldType) (np : Nat) : Prop := Cond.instanceMethod y ∈ wsL_law ∧ Cond.selects CN y y ∈ wsL_law ∧ Cond.initialized CN ∈ wsL_law ∧ Cond.code y cc n ret ∈ wsL_law ∧ (y.cls = CN ∧ y.cls ≠ "java/lang/invoke/MethodHandle" ∧ y.cls ≠ "java/lang/invoke/VarHandle" ∧ (parseMethodDescriptor y.desc).map (fun d => d.parameters.length) = some np)
def MFs (y : MethodName) (cc : ByteArray) (n : Nat) (ret : Option FieldType) (np : Nat) : Prop := Cond.static y ∈ wsL_law ∧ Cond.initialized y.cls ∈ wsL_law ∧ Cond.code y cc n ret ∈ wsL_law ∧ (y.cls ≠ "java/lang/invoke/MethodHandle" ∧ y.cls ≠ "java/lang/invoke/VarHandle" ∧ (parseMethodDescriptor y.desc).map (fun d => d.parameters.length) = some np)
theorem goodIn_c {y : MethodName} {cc : ByteArray} {n : Nat} {ret : Option FieldType} (h : Cond.code y cc n ret ∈ wsL_law) : GoodIn wsL_law (wsC y cc n ret) := by
  intro x hx
  rcases List.mem_cons.mp hx with rfl | hx
  · exact ⟨h, (wsL_all _ h).2⟩
  · exact ⟨hx, (wsL_all _ hx).2⟩
theorem goodIn_m {ws : List Cond} (h : ∀ x ∈ ws, x ∈ wsL_law) : GoodIn wsL_law ws := fun x hx => ⟨h x hx, (wsL_all x (h x hx)).2⟩
section WWC
variable {w : WLD} {k : KX} {cc : ByteArray} {own : String} {rm : Room} {pc : Nat} {lv : List (Nat × Value)} {st rest : List Value} {M : Mem}
theorem ww_callV (C : Cx w k cc own rm) {y : MethodName} {CN : String} {c2 : ByteArray} {n2 np : Nat} {ret2 : Option FieldType} {rm2 : Room} {As : List Value} {post : Int → Mem → Prop} (h : Nat) (hh : h < 44) {index ci : Nat} {fs : List Value} {T : u_T} {N : Nat} (ct : CtI w y c2 n2 ret2 rm2 (.ref (wa w h) :: As) M post) (mf : MFv y CN c2 n2 ret2 np) (hl : Cond.methodLink own index y ∈ wsL_law) (he : cellOf (wI w) (wZ w) (wa w) h (M h) = .inr (ci, fs)) (hc : vwCl[ci]? = some (CN, T, N)) (hrm : rm2.cells = 0 ∧ rm2.slots = 0 ∧ rm2.frames + 1 ≤ rm.frames ∧ 8 + (n2 + 11) + rm2.locals ≤ rm.locals) (hn : As.length = np) (hst : st = As.reverse ++ .ref (wa w h) :: rest) (hr : (rest.map fun v => v.category).sum ≤ 8) (d : decode cc pc = .ok (.invokevirtual index, 3))
    (kk : ∀ (z : Int) (M1 : Mem), post z M1 → WW w k (pc + 3) lv (.int (iZ z) :: rest) M1) : WW w k pc lv st M := by
  intro H locs ls hP hS hl2
  obtain ⟨hx, hb, hml, hown, hts, hK, hA, hD, hR, hkc, hks⟩ := C
  have hFc : ∀ q, va_A (wdW w M) H.size q → kA k q := by
    rintro q (⟨j, e, hj⟩ | hq)
    · exact (hD M).2 j _ hj
    · exact hA q (Nat.le_trans hS.1 hq)
  refine va_calli (va_runV (As := As) (rest := rest) (b := wa w h) ⟨hx, hb, hml, hown, hts⟩ (ct H.size) (cwV np hts (goodIn_m (fun x hx => ?_)) rfl hrm.1 hrm.2.1 mf.2.2.2.2 ⟨by rw [hR]; exact hrm.2.2.1, by rw [hR]; exact hrm.2.2.2⟩) ⟨fun a U g mk q => ?_, va_recv hK hP hc (q0 := h) (by rw [wd_get hh, he]), fun U hU hW => ⟨rfl, by rw [hU], by rw [hU]; exact hP, va_K.moved hW.alike hK, (hD M).weaken (fun _ _ _ _ => trivial)⟩⟩ rfl hn hl2.1 hst (lv_room hr) d ⟨by rw [hR]; exact hkc, by rw [hR]; exact hks⟩) hS (fun q _ h => hFc q h) hFc (fun r u t H1 locs1 ht hvm hw hB hz1 hk1 hS1 => ?_)
  · rcases List.mem_append.mp hx with h9 | h9
    · simp only [List.mem_cons, List.not_mem_nil, or_false] at h9
      rcases h9 with rfl | rfl | rfl | rfl
      · exact hl
      · exact mf.1
      · exact mf.2.1
      · exact mf.2.2.1
    · rcases List.mem_cons.mp h9 with rfl | h9
      · exact mf.2.2.2.1
      · exact h9
  · obtain ⟨q0, q1, qP, qK, qD⟩ := q
    exact ⟨q0, q1, qP, va_K.moved (u := U) (U := U.calling g mk a) (Vm.Alike.refl U.vm) qK, qD⟩
  · obtain ⟨z, rfl, hp⟩ := hw
    obtain ⟨hP1, hK1, hD1⟩ := hB
    rw [ht] at hP1
    exact kk z u hp H1 locs1 ls hP1 hS1 hl2
theorem ww_callVV (C : Cx w k cc own rm) {y : MethodName} {CN : String} {c2 : ByteArray} {n2 np : Nat} {rm2 : Room} {As : List Value} {post : Mem → Prop} (h : Nat) (hh : h < 44) {index ci : Nat} {fs : List Value} {T : u_T} {N : Nat} (ct : CtV w y c2 n2 rm2 (.ref (wa w h) :: As) M post) (mf : MFv y CN c2 n2 none np) (hl : Cond.methodLink own index y ∈ wsL_law) (he : cellOf (wI w) (wZ w) (wa w) h (M h) = .inr (ci, fs)) (hc : vwCl[ci]? = some (CN, T, N)) (hrm : rm2.cells = 0 ∧ rm2.slots = 0 ∧ rm2.frames + 1 ≤ rm.frames ∧ 8 + (n2 + 11) + rm2.locals ≤ rm.locals) (hn : As.length = np) (hst : st = As.reverse ++ .ref (wa w h) :: rest) (hr : (rest.map fun v => v.category).sum ≤ 8) (d : decode cc pc = .ok (.invokevirtual index, 3))
    (kk : ∀ (M1 : Mem), post M1 → WW w k (pc + 3) lv rest M1) : WW w k pc lv st M := by
  intro H locs ls hP hS hl2
  obtain ⟨hx, hb, hml, hown, hts, hK, hA, hD, hR, hkc, hks⟩ := C
  have hFc : ∀ q, va_A (wdW w M) H.size q → kA k q := by
    rintro q (⟨j, e, hj⟩ | hq)
    · exact (hD M).2 j _ hj
    · exact hA q (Nat.le_trans hS.1 hq)
  refine va_callv (va_runV (As := As) (rest := rest) (b := wa w h) ⟨hx, hb, hml, hown, hts⟩ (ct H.size) (cwV np hts (goodIn_m (fun x hx => ?_)) rfl hrm.1 hrm.2.1 mf.2.2.2.2 ⟨by rw [hR]; exact hrm.2.2.1, by rw [hR]; exact hrm.2.2.2⟩) ⟨fun a U g mk q => ?_, va_recv hK hP hc (q0 := h) (by rw [wd_get hh, he]), fun U hU hW => ⟨rfl, by rw [hU], by rw [hU]; exact hP, va_K.moved hW.alike hK, (hD M).weaken (fun _ _ _ _ => trivial)⟩⟩ rfl hn hl2.1 hst (lv_room hr) d ⟨by rw [hR]; exact hkc, by rw [hR]; exact hks⟩) hS (fun q _ h => hFc q h) hFc (fun u t H1 locs1 ht hvm hw hB hz1 hk1 hS1 => ?_)
  · rcases List.mem_append.mp hx with h9 | h9
    · simp only [List.mem_cons, List.not_mem_nil, or_false] at h9
      rcases h9 with rfl | rfl | rfl | rfl
      · exact hl
      · exact mf.1
      · exact mf.2.1
      · exact mf.2.2.1
    · rcases List.mem_cons.mp h9 with rfl | h9
      · exact mf.2.2.2.1
      · exact h9
  · obtain ⟨q0, q1, qP, qK, qD⟩ := q
    exact ⟨q0, q1, qP, va_K.moved (u := U) (U := U.calling g mk a) (Vm.Alike.refl U.vm) qK, qD⟩
  · obtain ⟨hP1, hK1, hD1⟩ := hB
    rw [ht] at hP1
    exact kk u hw H1 locs1 ls hP1 hS1 hl2
theorem ww_callS (C : Cx w k cc own rm) {y : MethodName} {c2 : ByteArray} {n2 np : Nat} {ret2 : Option FieldType} {rm2 : Room} {As : List Value} {post : Int → Mem → Prop} {index : Nat} (ct : CtI w y c2 n2 ret2 rm2 As M post) (mf : MFs y c2 n2 ret2 np) (hl : Cond.methodLink own index y ∈ wsL_law) (hrm : rm2.cells = 0 ∧ rm2.slots = 0 ∧ rm2.frames + 1 ≤ rm.frames ∧ 8 + (n2 + 11) + rm2.locals ≤ rm.locals) (hn : As.length = np) (hst : st = As.reverse ++ rest) (hr : (rest.map fun v => v.category).sum ≤ 8) (d : decode cc pc = .ok (.invokestatic index, 3))
    (kk : ∀ (z : Int) (M1 : Mem), post z M1 → WW w k (pc + 3) lv (.int (iZ z) :: rest) M1) : WW w k pc lv st M := by
  intro H locs ls hP hS hl2
  obtain ⟨hx, hb, hml, hown, hts, hK, hA, hD, hR, hkc, hks⟩ := C
  have hFc : ∀ q, va_A (wdW w M) H.size q → kA k q := by
    rintro q (⟨j, e, hj⟩ | hq)
    · exact (hD M).2 j _ hj
    · exact hA q (Nat.le_trans hS.1 hq)
  refine va_calli (va_runS (As := As) (rest := rest) ⟨hx, hb, hml, hown, hts⟩ (ct H.size) (va_cwS np hts (goodIn_m (fun x hx => ?_)) rfl hrm.1 hrm.2.1 mf.2.2.2 ⟨by rw [hR]; exact hrm.2.2.1, by rw [hR]; exact hrm.2.2.2⟩) ⟨fun a U g mk q => ?_, fun U hU hW => ⟨rfl, by rw [hU], by rw [hU]; exact hP, va_K.moved hW.alike hK, (hD M).weaken (fun _ _ _ _ => trivial)⟩⟩ rfl hn hl2.1 hst (lv_room hr) d ⟨by rw [hR]; exact hkc, by rw [hR]; exact hks⟩) hS (fun q _ h => hFc q h) hFc (fun r u t H1 locs1 ht hvm hw hB hz1 hk1 hS1 => ?_)
  · rcases List.mem_append.mp hx with h9 | h9
    · simp only [List.mem_cons, List.not_mem_nil, or_false] at h9
      rcases h9 with rfl | rfl | rfl
      · exact hl
      · exact mf.1
      · exact mf.2.1
    · rcases List.mem_cons.mp h9 with rfl | h9
      · exact mf.2.2.1
      · exact h9
  · obtain ⟨q0, q1, qP, qK, qD⟩ := q
    exact ⟨q0, q1, qP, va_K.moved (u := U) (U := U.calling g mk a) (Vm.Alike.refl U.vm) qK, qD⟩
  · obtain ⟨z, rfl, hp⟩ := hw
    obtain ⟨hP1, hK1, hD1⟩ := hB
    rw [ht] at hP1
    exact kk z u hp H1 locs1 ls hP1 hS1 hl2
end WWC
