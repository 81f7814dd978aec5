section CK
variable {p : Program} {l : Launch} {e : Env} {R : Room} {s : State} {m : MethodId} {args : Array Value} {below : List Frame} {meth : Method} {c : Code} {H : Heap} {locs : List Loc} {cells slots : Nat} {Q : State → Prop}
variable {pc : Nat} {ls : Array Slot} {rest : List Value}
/-- one look at an entry whose class is a link -/
theorem ck_look {T : State} (X : Stand p l e R s m args below meth c T locs cells slots) {own C : String} {ct x : Nat} {cell : Cell} {cT : ClassId} (hown : s.vm.findClass own = some m.cls) (hlink : (Cond.classLink own ct C).before args s = true) (hC : s.vm.findClass C = some cT) (hcell : T.heap[x]? = some cell) (hst : cell.vm.isStatics = false) (hks : ∃ k, s.vm.classes[cell.cls]? = some k) :
    ∃ vm', Stand p l e R s m args below meth c (T.setVm vm') locs cells slots ∧ ∀ (g : JFrame), g.method = m → ∀ (y : ExceptionTableEntry) (t : List ExceptionTableEntry), y.catchType = ct → ct ≠ 0 → covers y g.pc = true → ∀ (U : State), U.vm = T.vm → U.heap = T.heap → ∀ (Q : Handler → Jvm.Pre) (E : Jvm.CtlPost) (d : Bool) (acts : List Action),
      (Sem.wp (findHandler.go g x (y :: t)) Q E e d acts U ↔ if s.vm.assignable cell.cls cT = true then Q (.found y.handlerPc) d acts (U.setVm vm') else Sem.wp (findHandler.go g x t) Q E e d acts (U.setVm vm')) := by
  have hpl : e.platform.magicAccessors = ({} : Platform).magicAccessors := by rw [X.admits.platform]
  obtain ⟨c', hc', hcl⟩ := Cond.classLink_spec hown hlink e.platform hpl
  cases hC.symm.trans hc'
  obtain ⟨dk, _, _, kt, hd, _, _, _, _, hkt, _, hopen⟩ := hcl.here
  have hcl₀ := X.warmed.classLinks hcl
  have hW' : s.WarmedH (T.vm.noted m.cls ct (.cls cT)) := X.warmed.noted hd hopen (State.rightAt_cls hcl)
  obtain ⟨ks, hks⟩ := hks
  obtain ⟨ks', hks', -⟩ := hW'.alike.2.2 _ _ hks
  obtain ⟨kt', hkt', -⟩ := hW'.alike.2.2 _ _ hkt
  refine ⟨_, X.noted hW', ?_⟩
  intro g hg y t hy h0 hx U hvm hhp Q E d acts
  subst hg
  subst hy
  rw [← hvm] at hcl₀ hks' hkt'
  have hg1 := resolveClass_links e.toSetting hcl₀
  rw [ck_go (s := U) hx h0 hg1 hcl₀.ready (by rw [Vm.size_noted]; exact Nat.le_refl _)]
  rw [_root_.Jvm.W.findHandler_go_class (s := U.setVm (U.vm.noted g.method.cls y.catchType (.cls cT))) hx h0 hcl₀.ready (cell := cell) (by show U.heap[x]? = _; rw [hhp]; exact hcell) (VmData.noStatics_of hst) ⟨ks', hks'⟩ ⟨kt', hkt'⟩]
  have hasg : (U.setVm (U.vm.noted g.method.cls y.catchType (.cls cT))).vm.assignable cell.cls cT = s.vm.assignable cell.cls cT := by
    show (U.vm.noted g.method.cls y.catchType (.cls cT)).assignable cell.cls cT = _
    rw [hvm]; exact hW'.alike.assignable _ _
  rw [hasg, hvm]
theorem ck_tab {a1 b1 h1 ct1 : Nat} {more : List (Nat × Nat × Nat × Nat)} {L : List ExceptionTableEntry} (h : L.map (fun h => (h.startPc, h.endPc, h.handlerPc, h.catchType)) = (a1, b1, h1, ct1) :: more) : ∃ y t, L = y :: t ∧ y.startPc = a1 ∧ y.endPc = b1 ∧ y.handlerPc = h1 ∧ y.catchType = ct1 ∧ t.map (fun h => (h.startPc, h.endPc, h.handlerPc, h.catchType)) = more := by
  cases L with
  | nil => cases h
  | cons y t =>
    rw [List.map_cons] at h
    injection h with h1 h2
    injection h1 with e1 h1
    injection h1 with e2 h1
    injection h1 with e3 e4
    exact ⟨y, t, rfl, e1, e2, e3, e4, h2⟩
theorem ck_cov {y : ExceptionTableEntry} {a1 b1 pc : Nat} (e1 : y.startPc = a1) (e2 : y.endPc = b1) (h1 : a1 ≤ pc) (h2 : pc < b1) : covers y pc = true := by
  simp only [covers, e1, e2, h1, h2, decide_true, Bool.and_self]
theorem ck_self (vm : Vm) (a : ClassId) : vm.assignable a a = true := by
  show vm.assignableAux (255 + 1) a a = true
  rw [Vm.assignableAux]; simp
/-- caught by the first entry -/
theorem ck_1 {own C : String} {a1 b1 h1 ct1 x : Nat} {more : List (Nat × Nat × Nat × Nat)} {cell : Cell} (hown : s.vm.findClass own = some m.cls) (ht : c.exceptionTable.toList.map (fun h => (h.startPc, h.endPc, h.handlerPc, h.catchType)) = (a1, b1, h1, ct1) :: more) (p1 : a1 ≤ pc) (p2 : pc < b1) (h0 : ct1 ≠ 0) (hlink : (Cond.classLink own ct1 C).before args s = true)
    (hcell : H[x]? = some cell) (hst : cell.vm.isStatics = false) (hC : s.vm.findClass C = some cell.cls) (kk : W p l e R s m args below meth c H locs cells slots Q (F0 m h1 ls [.ref x])) : th_W p l e R s m args below meth c H locs cells slots Q (F0 m pc ls rest) x := by
  intro T hT X
  obtain ⟨vm', X', hl⟩ := ck_look X hown hlink hC (by rw [hT]; exact hcell) hst (Vm.classAt_of_findClass hC)
  obtain ⟨t, st, q⟩ := kk (T.setVm vm') hT X'
  obtain ⟨y, tl, hL, e1, e2, e3, e4, -⟩ := ck_tab ht
  refine ⟨t, ck_caught (g := F0 m pc ls rest) (vm' := vm') (pc := h1) X.here ?_ st, q⟩
  intro Q E d acts
  rw [_root_.Jvm.W.findHandler_eq (meth := meth) (code := c) (by show ((T.setTop _).pushFrame _).vm.method? m = _; rw [Stand.throwing_vm]; exact X.method') X.code, hL, hl (F0 m pc ls rest) rfl y tl e4 h0 (ck_cov e1 e2 p1 p2) _ (Stand.throwing_vm _ _ _) (Stand.throwing_heap _ _ _), if_pos (ck_self _ _), e3]
/-- passed by the first entry, caught by the second -/
theorem ck_2 {own C C1 : String} {a1 b1 h1 ct1 a2 b2 h2 ct2 x : Nat} {more : List (Nat × Nat × Nat × Nat)} {cell : Cell} {c1 : ClassId} (hown : s.vm.findClass own = some m.cls) (ht : c.exceptionTable.toList.map (fun h => (h.startPc, h.endPc, h.handlerPc, h.catchType)) = (a1, b1, h1, ct1) :: (a2, b2, h2, ct2) :: more) (p1 : a1 ≤ pc) (p2 : pc < b1) (p3 : a2 ≤ pc) (p4 : pc < b2) (h0 : ct1 ≠ 0) (h0' : ct2 ≠ 0) (hlink1 : (Cond.classLink own ct1 C1).before args s = true) (hlink : (Cond.classLink own ct2 C).before args s = true)
    (hcell : H[x]? = some cell) (hst : cell.vm.isStatics = false) (hC : s.vm.findClass C = some cell.cls) (hC1 : s.vm.findClass C1 = some c1) (hno : s.vm.assignable cell.cls c1 = false) (kk : W p l e R s m args below meth c H locs cells slots Q (F0 m h2 ls [.ref x])) : th_W p l e R s m args below meth c H locs cells slots Q (F0 m pc ls rest) x := by
  intro T hT X
  obtain ⟨vm1, X1, hl1⟩ := ck_look X hown hlink1 hC1 (by rw [hT]; exact hcell) hst (Vm.classAt_of_findClass hC)
  obtain ⟨vm2, X2, hl2⟩ := ck_look X1 hown hlink hC (cell := cell) (x := x) (by show T.heap[x]? = _; rw [hT]; exact hcell) hst (Vm.classAt_of_findClass hC)
  obtain ⟨t, st, q⟩ := kk ((T.setVm vm1).setVm vm2) hT X2
  obtain ⟨y, tl, hL, e1, e2, e3, e4, ht2⟩ := ck_tab ht
  obtain ⟨z, tl2, hL2, f1, f2, f3, f4, -⟩ := ck_tab ht2
  refine ⟨t, ck_caught (g := F0 m pc ls rest) (vm' := vm2) (pc := h2) X.here ?_ st, q⟩
  intro Q E d acts
  rw [_root_.Jvm.W.findHandler_eq (meth := meth) (code := c) (by show ((T.setTop _).pushFrame _).vm.method? m = _; rw [Stand.throwing_vm]; exact X.method') X.code, hL, hl1 (F0 m pc ls rest) rfl y tl e4 h0 (ck_cov e1 e2 p1 p2) _ (Stand.throwing_vm _ _ _) (Stand.throwing_heap _ _ _), if_neg (by rw [hno]; decide), hL2,
    hl2 (F0 m pc ls rest) rfl z tl2 f4 h0' (ck_cov f1 f2 p3 p4) (((T.setTop (F0 m pc ls rest)).pushFrame (.throwing x)).setVm vm1) rfl (Stand.throwing_heap T (F0 m pc ls rest) x), if_pos (ck_self _ _), f3]
  exact Iff.rfl
end CK
