/-! the start s0, states behind it, contracts over worlds -/
def gl (s0 U : State) : Prop := s0.WarmedH U.vm ∧ s0.heap.size ≤ U.heap.size ∧ ∀ q : Nat, q < s0.heap.size → U.heap[q]? = s0.heap[q]?
def ty0 (cA : Nat → ClassId) : List (ClassId × FieldType) := [(cA 0, .int), (cA 1, .long), (cA 2, .boolean), (cA 3, .object R_B)]
def strs : List (Nat × String) := [(223, "no such board"), (215, "lengths and places are 0 to 65536"), (71, "boards are 0 to 4, rows 0 to 8"), (225, "no such copy"), (130, "a copy tells 0 to 5"), (219, "no such side"), (221, "only 0 and 1 are told"), (152, "a part is in the tab's way"), (158, "no such score"), (166, "a part has a radius"), (188, "no such corner of the way"), (203, "0 to 200 are wanted")]
def thS (s0 : State) : Prop := (Cond.isRef (.static "java/lang/Throwable" "UNASSIGNED_STACK" "[Ljava/lang/StackTraceElement;")).before #[] s0 = true ∧ (Cond.isRef (.static "java/lang/Throwable" "SUPPRESSED_SENTINEL" "Ljava/util/List;")).before #[] s0 = true
/-- what is known of the start: words, classes, the launch, texts, statics -/
def zE (l : Launch) (s0 : State) (D : va_G) (cA sa : Nat → Nat) : Prop := zt s0 ∧ va_K D ncl (ty0 cA) s0 ∧ l.stackTraces = false ∧ (∀ q ∈ strs, vk_R "PanelForms" q.1 q.2 (sa q.1) s0) ∧ thS s0
theorem gl_self (s0 : State) (h : s0.WarmedH s0.vm) : gl s0 s0 := ⟨h, Nat.le_refl _, fun _ _ => rfl⟩
theorem gl_on {s0 s U : State} {A : Nat → Prop} {H : Heap} {locs : List Loc} (h : gl s0 s) (hA : ∀ q, A q → s0.heap.size ≤ q) (hS : va_S A s.heap H locs) (hU : U.heap = H) (hW : s.WarmedH U.vm) : gl s0 U :=
  ⟨State.WarmedH.trans h.1 hW, by rw [hU]; exact Nat.le_trans h.2.1 hS.1, fun q hq => by rw [hU, hS.2.1 q (Nat.lt_of_lt_of_le hq h.2.1) (fun z => absurd (hA q z) (Nat.not_le.mpr hq))]; exact h.2.2 q hq⟩
def wP (s0 : State) (D : va_G) (av : List Value) (ws : va_W) (sz : Nat) : Array Value → State → Prop := va_Pc av (fun U => gl s0 U ∧ U.heap.size = sz ∧ va_P D ncl ws U.heap ∧ va_D (fun q => s0.heap.size ≤ q) ws)
theorem wP_blind {s0 : State} {D : va_G} {av : List Value} {ws : va_W} {sz : Nat} : FrameBlind (wP s0 D av ws sz) := fun _ _ _ _ h => ⟨h.1, ⟨h.2.1.1, h.2.1.2.1, h.2.1.2.2⟩, h.2.2.1, h.2.2.2.1, h.2.2.2.2⟩
def wB (D : va_G) (A : Nat → Prop) {S : Type} (wf : S → va_W) : S → State → Prop := fun u t => va_P D ncl (wf u) t.heap ∧ va_D A (wf u)
theorem mp_fm {α : Type} {ws ws' : List α} (is : List Nat) (h : is.map (fun i => ws[i]?) = ws'.map some) : is.filterMap (fun i => ws[i]?) = ws' := by
  have e : is.filterMap (fun i => ws[i]?) = (is.map (fun i => ws[i]?)).filterMap id := by simp [List.filterMap_map]
  rw [e, h, List.filterMap_map]
  simp
theorem va_A_lo {ws : va_W} {sz lo : Nat} (hD : va_D (fun q => lo ≤ q) ws) (h : lo ≤ sz) : ∀ q, va_A ws sz q → lo ≤ q := by
  intro q hq
  rcases hq with ⟨k, e, hk⟩ | hq
  · exact hD.2 k _ hk
  · exact Nat.le_trans h hq
section WM
variable {l : Launch} {s0 : State} {D : va_G} {cA sa : Nat → Nat}
theorem wMet (Z : zE l s0 D cA sa) {y : MethodName} {cc : ByteArray} {maxL : Nat} {ret : Option FieldType} {rm : Room} {av : List Value} {ws : va_W} {sz : Nat} {Qc : Array Value → State → Outcome → State → Prop} {mc ms : Nat} (hy : plainName y.cls = true) (hlen : (lg_sl av).length ≤ maxL)
    (body : ∀ p e s m below meth c, p.tables.exec = Jvm.exec → c.code = cc → meth.sig.returnType = ret → c.maxLocals = maxL → s.vm.findClass y.cls = some m.cls → meth.locks = false → meth.name = y.name → gl s0 s → va_K D ncl (ty0 cA) s → s.heap.size = sz →
      va_P D ncl ws s.heap → va_D (va_A ws s.heap.size) ws → (∀ q, s.heap.size ≤ q → va_A ws s.heap.size q) → (∀ q, va_A ws s.heap.size q → s0.heap.size ≤ q) → va_S (va_A ws s.heap.size) s.heap s.heap [] → ∀ ls, lv_has ls maxL (lv_args 0 av) →
      W p l e rm s m av.toArray below meth c s.heap [] 0 0 (MQ below Qc av.toArray s mc ms (va_A ws s.heap.size)) (F0 m 0 ls [])) :
    Met l y [.code y cc maxL ret] rm (wP s0 D av ws sz) Qc mc ms (va_A ws sz) := by
  refine Met.ofW (cc := cc) (maxL := maxL) (ret := ret) hy rfl ?_
  intro p e s m args below meth c s₁ B hml hv
  obtain ⟨rfl, hg, hsz, hP, hD0⟩ := hv
  have hD := hD0.self (sz := s.heap.size)
  have hlo := va_A_lo (sz := s.heap.size) hD0 hg.2.1
  have hl := lv_entry av hlen
  rw [lg_entry_eq]
  subst hsz
  exact body p e s m below meth c B.exec B.bytes B.returns hml (findClass_of_methodNamed B.named) B.notSynchronized (name_of_methodNamed B.named B.method).1 hg (va_K.moved hg.1.alike Z.2.1) rfl hP hD (fun q h => Or.inr h) hlo va_S.rf _ hl
theorem wMetT (Z : zE l s0 D cA sa) {y : MethodName} {cc : ByteArray} {maxL : Nat} {ret : Option FieldType} {rm : Room} {av : List Value} {ws : va_W} {sz : Nat} {Qc : Array Value → State → Outcome → State → Prop} {mc ms : Nat} (hy : plainName y.cls = true) (hlen : (lg_sl av).length ≤ maxL)
    (body : ∀ p e s m below meth c, p.tables.exec = Jvm.exec → c.code = cc → meth.sig.returnType = ret → c.maxLocals = maxL → s.vm.findClass y.cls = some m.cls → meth.locks = false → c.exceptionTable.isEmpty = true → gl s0 s → va_K D ncl (ty0 cA) s → s.heap.size = sz →
      va_P D ncl ws s.heap → va_D (va_A ws s.heap.size) ws → (∀ q, s.heap.size ≤ q → va_A ws s.heap.size q) → (∀ q, va_A ws s.heap.size q → s0.heap.size ≤ q) → va_S (va_A ws s.heap.size) s.heap s.heap [] → ∀ ls, lv_has ls maxL (lv_args 0 av) →
      W p l e rm s m av.toArray below meth c s.heap [] 0 0 (th_MQ below Qc av.toArray s mc ms (va_A ws s.heap.size)) (F0 m 0 ls [])) :
    th_Met l y [.code y cc maxL ret] rm (wP s0 D av ws sz) Qc mc ms (va_A ws sz) := by
  refine th_Met.ofW (cc := cc) (maxL := maxL) (ret := ret) hy rfl ?_
  intro p e s m args below meth c s₁ B hml hem hv
  obtain ⟨rfl, hg, hsz, hP, hD0⟩ := hv
  have hD := hD0.self (sz := s.heap.size)
  have hlo := va_A_lo (sz := s.heap.size) hD0 hg.2.1
  have hl := lv_entry av hlen
  rw [lg_entry_eq]
  subst hsz
  exact body p e s m below meth c B.exec B.bytes B.returns hml (findClass_of_methodNamed B.named) B.notSynchronized hem hg (va_K.moved hg.1.alike Z.2.1) rfl hP hD (fun q h => Or.inr h) hlo va_S.rf _ hl
end WM
section WR
variable {p : Program} {l : Launch} {e : Env} {R : Room} {s : State} {m : MethodId} {args : Array Value} {below : List Frame} {meth : Method} {c : Code} {H : Heap} {locs : List Loc} {cells slots : Nat} {Q : State → Prop}
variable {D : va_G} {A : Nat → Prop} {ws' : va_W} {S : Type} {wf : S → va_W} {cc : ByteArray} {pc : Nat} {ls : Array Slot}
theorem w_iret {post : Int32 → S → Prop} {v : Int32} (hx : p.tables.exec = Jvm.exec) (hb : c.code = cc) (hr : meth.sig.returnType = some .int) (hlk : meth.locks = false) (hP : va_P D ncl ws' H) (hD : va_D A ws') (hS : va_S A s.heap H locs) (u : S) (hw : wf u = ws') (hp : post v u) (hdg : decode cc pc = .ok (.ireturn, 1)) :
    W p l e R s m args below meth c H locs cells slots (MQ below (va_Qi post (wB D A wf) A) args s cells slots A) (F0 m pc ls [.int v]) :=
  W.iret hx hb hr (fun t ht hW => ⟨⟨v, u, rfl, hp, by rw [ht, hw]; exact hP, by rw [hw]; exact hD⟩, hS.F ht⟩) hS.2.2 hdg hlk
theorem w_zret {post : Int32 → S → Prop} {v : Int32} (hx : p.tables.exec = Jvm.exec) (hb : c.code = cc) (hr : meth.sig.returnType = some .boolean) (hn : narrow .boolean (.int v) = .int v) (hlk : meth.locks = false) (hP : va_P D ncl ws' H) (hD : va_D A ws') (hS : va_S A s.heap H locs) (u : S) (hw : wf u = ws') (hp : post v u) (hdg : decode cc pc = .ok (.ireturn, 1)) :
    W p l e R s m args below meth c H locs cells slots (MQ below (va_Qi post (wB D A wf) A) args s cells slots A) (F0 m pc ls [.int v]) :=
  W.zret hx hb hr hn (fun t ht hW => ⟨⟨v, u, rfl, hp, by rw [ht, hw]; exact hP, by rw [hw]; exact hD⟩, hS.F ht⟩) hS.2.2 hdg hlk
theorem w_lret {post : Int64 → S → Prop} {v : Int64} (hx : p.tables.exec = Jvm.exec) (hb : c.code = cc) (hr : meth.sig.returnType = some .long) (hlk : meth.locks = false) (hP : va_P D ncl ws' H) (hD : va_D A ws') (hS : va_S A s.heap H locs) (u : S) (hw : wf u = ws') (hp : post v u) (hdg : decode cc pc = .ok (.lreturn, 1)) :
    W p l e R s m args below meth c H locs cells slots (MQ below (va_Ql post (wB D A wf) A) args s cells slots A) (F0 m pc ls [.long v]) :=
  W.lret hx hb hr (fun t ht hW => ⟨⟨v, u, rfl, hp, by rw [ht, hw]; exact hP, by rw [hw]; exact hD⟩, hS.F ht⟩) hS.2.2 hdg hlk
theorem w_vret {post : S → Prop} (hx : p.tables.exec = Jvm.exec) (hb : c.code = cc) (hr : meth.sig.returnType = none) (hlk : meth.locks = false) (hP : va_P D ncl ws' H) (hD : va_D A ws') (hS : va_S A s.heap H locs) (u : S) (hw : wf u = ws') (hp : post u) (hdg : decode cc pc = .ok (.return_, 1)) :
    W p l e R s m args below meth c H locs cells slots (MQ below (va_Qv post (wB D A wf) A) args s cells slots A) (F0 m pc ls []) :=
  W.vret hx hb hr (fun t ht hW => ⟨⟨u, rfl, hp, by rw [ht, hw]; exact hP, by rw [hw]; exact hD⟩, hS.F ht⟩) hS.2.2 hdg hlk
end WR
