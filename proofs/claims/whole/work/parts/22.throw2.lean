/-! 'throw new C("..")', whole; methods that change nothing that is there -/
def th_names : List String := ["java/lang/RuntimeException", "java/lang/Exception"]
theorem ls_keep {l : Launch} {s0 : State} {D : va_G} {cA sa : Nat → Nat} (Z : zE l s0 D cA sa) {s : State} {args : Array Value} {C n d : String} (hm : Cond.laysStatic C n d ∈ lw_tbl) (hg : gl s0 s) : (Cond.laysStatic C n d).before args s = true := by
  obtain ⟨a1, hl⟩ := Z.1 _ hm
  obtain ⟨c, k, i, f, a, cell, q1, q2, q3, q4, q5, q6, q7, q8, q9⟩ := Cond.laysStatic_spec hl
  obtain ⟨k', hi', he⟩ := State.fieldFound?_setVm hg.1.alike q2
  have q1' : s.vm.findClass C = some c := by rw [hg.1.alike.findClass]; exact q1
  have q4' : k'.statics = some a := by rw [he]; exact q4
  have q9' : k'.staticTypes[f.slot]? = some f.type := by rw [he]; exact q9
  have q5' : s.heap[a]? = some cell := by rw [hg.2.2 a (Array.getElem?_eq_some_iff.mp q5).1]; exact q5
  simp [Cond.before, Cond.holds, Cond.value, q1', show s.fieldFound? C n d = some (c, k', i, f) from hi', q4', q5', q3, q6, q7, q8, q9']
theorem st_ref {l : Launch} {s0 : State} {D : va_G} {cA sa : Nat → Nat} (Z : zE l s0 D cA sa) {s : State} {args : Array Value} {C n d : String} (i1 i2 : Nat) (h1 : tables_1[i1]? = some (.laysStatic C n d)) (h2 : tables_1[i2]? = some (.initialized C)) (h0 : (Cond.isRef (.static C n d)).before #[] s0 = true) (hg : gl s0 s) : (Cond.isRef (.static C n d)).before args s = true := by
  obtain ⟨a1, hl⟩ := Z.1 _ (tb_in i1 h1)
  obtain ⟨a2, hi⟩ := Z.1 _ (tb_in i2 h2)
  have hi' : (Cond.initialized C).before a1 s0 = true := va_tabs rfl rfl hi
  cases hv : (Term.static C n d).eval #[] s0 none [] s0 with
  | none => simp [Cond.before, Cond.holds, Cond.value, hv] at h0
  | some v =>
    obtain ⟨cf, kf, fi, f, a, cell, q1, q2, q3, q4, q5, q6, q7, q8⟩ := va_Z.moved hg.1.alike (va_Zof (args := a1) (A := fun q => s0.heap.size ≤ q) hl hi' (show (Term.static C n d).eval a1 s0 none [] s0 = some v from hv) (fun a h => Nat.not_le.mpr h))
    have q5' : s.heap[a]? = some cell := by rw [hg.2.2 a (Nat.not_le.mp q8)]; exact q5
    have hv' : (Term.static C n d).eval args s none [] s = some v := by simp [Term.eval, State.fieldNamed?, q1, q2, q4, q5', q6, q7]
    simp only [Cond.before, Cond.holds, Cond.value, hv] at h0
    simp only [Cond.before, Cond.holds, Cond.value, hv']
    exact h0
def ow_isref (w : Cond) : Bool := decide (w = .isRef (.static "java/lang/Throwable" "UNASSIGNED_STACK" "[Ljava/lang/StackTraceElement;")) || decide (w = .isRef (.static "java/lang/Throwable" "SUPPRESSED_SENTINEL" "Ljava/util/List;"))
def ow_lays (w : Cond) : Bool := decide (w = .laysStatic "java/lang/Throwable" "UNASSIGNED_STACK" "[Ljava/lang/StackTraceElement;") || decide (w = .laysStatic "java/lang/Throwable" "SUPPRESSED_SENTINEL" "Ljava/util/List;")
def ow_dk : Cond → Bool
  | .declares _ => true
  | .castable _ _ => true
  | _ => false
theorem kw_dk {s0 : State} (Z : zt s0) {w : Cond} (hm : w ∈ lw_tbl) (hd : ow_dk w = true) : kw s0 w := by
  intro U a hW
  obtain ⟨a0, h⟩ := Z w hm
  cases w with
  | declares x => exact va_tabs (u := s0.setVm U.vm) rfl rfl (Cond.before_warmed hW (.declares x) trivial h)
  | castable x y => exact va_tabs (u := s0.setVm U.vm) rfl rfl (Cond.before_warmed hW (.castable x y) trivial h)
  | _ => cases hd
theorem ow_all {l : Launch} {s0 : State} {D : va_G} {cA sa : Nat → Nat} (Z : zE l s0 D cA sa) {s : State} {args : Array Value} (hg : gl s0 s) {ic : Nat} {C : String} (h : (Bundle.ownAtoms "PanelForms" ic C th_names).all (fun w => ow_isref w || (ow_lays w || (decide (w ∈ lw_tbl) && (goodWord w || ow_dk w)))) = true) : ∀ w ∈ Bundle.ownAtoms "PanelForms" ic C th_names, w.before args s = true := by
  intro w hw
  have h1 := List.all_eq_true.mp h w hw
  rw [Bool.or_eq_true, Bool.or_eq_true, Bool.and_eq_true, Bool.or_eq_true, decide_eq_true_eq] at h1
  rcases h1 with h1 | h1 | ⟨h1, h2 | h2⟩
  · unfold ow_isref at h1
    rw [Bool.or_eq_true, decide_eq_true_eq, decide_eq_true_eq] at h1
    rcases h1 with rfl | rfl
    · exact st_ref Z 303 7 (by decide +kernel) (by decide +kernel) Z.2.2.2.2.1 hg
    · exact st_ref Z 305 7 (by decide +kernel) (by decide +kernel) Z.2.2.2.2.2 hg
  · unfold ow_lays at h1
    rw [Bool.or_eq_true, decide_eq_true_eq, decide_eq_true_eq] at h1
    rcases h1 with rfl | rfl
    · exact ls_keep Z (tb_in 303 (by decide +kernel)) hg
    · exact ls_keep Z (tb_in 305 (by decide +kernel)) hg
  · exact kw_g Z.1 h1 h2 s args hg.1
  · exact kw_dk Z.1 h1 h2 s args hg.1
set_option maxRecDepth 100000 in
theorem ow_73 {l : Launch} {s0 : State} {D : va_G} {cA sa : Nat → Nat} (Z : zE l s0 D cA sa) {s : State} {args : Array Value} (hg : gl s0 s) : ∀ w ∈ Bundle.ownAtoms "PanelForms" 73 "java/lang/IllegalArgumentException" th_names, w.before args s = true := ow_all Z hg (by decide +kernel)
set_option maxRecDepth 100000 in
theorem ow_132 {l : Launch} {s0 : State} {D : va_G} {cA sa : Nat → Nat} (Z : zE l s0 D cA sa) {s : State} {args : Array Value} (hg : gl s0 s) : ∀ w ∈ Bundle.ownAtoms "PanelForms" 132 "java/lang/IndexOutOfBoundsException" th_names, w.before args s = true := ow_all Z hg (by decide +kernel)
set_option maxRecDepth 100000 in
theorem ow_154 {l : Launch} {s0 : State} {D : va_G} {cA sa : Nat → Nat} (Z : zE l s0 D cA sa) {s : State} {args : Array Value} (hg : gl s0 s) : ∀ w ∈ Bundle.ownAtoms "PanelForms" 154 "java/lang/IllegalStateException" th_names, w.before args s = true := ow_all Z hg (by decide +kernel)
section WT
variable {p : Program} {l : Launch} {e : Env} {R : Room} {s : State} {m : MethodId} {args : Array Value} {below : List Frame} {meth : Method} {c : Code} {H : Heap} {locs : List Loc} {cells slots : Nat}
/-- new, dup, ldc, the constructor, athrow: the method is left with a new C; what was there is as it was -/
theorem w_throw {Qc : Array Value → State → Outcome → State → Prop} {cc : ByteArray} {pc nL : Nat} {ls : Array Slot} {st : List Value} {own C tx : String} {i1 i2 i3 xa : Nat} (hx : p.tables.exec = Jvm.exec) (hb : c.code = cc) (hml : c.maxLocals = nL) (hls : ls.size = nL) (hown : s.vm.findClass own = some m.cls) (hlk : meth.locks = false) (hem : c.exceptionTable.isEmpty = true) (htr : l.stackTraces = false) (hS : va_S (fun q => s.heap.size ≤ q) s.heap H locs)
    (k1 : (Cond.classLink own i1 C).before args s = true) (k2 : (Cond.instantiable C 6).before args s = true) (k3 : (Cond.initialized C).before args s = true) (hZ : vk_R own i2 tx xa s) (hat : ∀ w ∈ Bundle.ownAtoms own i3 C th_names, w.before args s = true) (hfit : Bundle.fit C = true)
    (d0 : decode cc pc = .ok (.new i1, 3)) (d3 : decode cc (pc + 3) = .ok (.dup, 1)) (d4 : decode cc (pc + 4) = .ok (.ldc i2, 2)) (d6 : decode cc (pc + 6) = .ok (.invokespecial i3, 3)) (d9 : decode cc (pc + 9) = .ok (.athrow, 1)) (hc : cells + 1 ≤ R.cells) (hs : slots + 6 ≤ R.slots) (hRf : 6 ≤ R.frames) (hRl : (st.map fun v => v.category).sum + 90 ≤ R.locals)
    (hq : ∀ (x : Nat) (t : State), s.WarmedH t.vm → th_X C x s.heap t → Qc args s (.threw x) t) : W p l e R s m args below meth c H locs cells slots (th_MQ below Qc args s (cells + 1) (slots + 6) (fun q => s.heap.size ≤ q)) (F0 m pc ls st) := by
  refine va_forget (fun q hq => hS.2.2 q hq) ?_
  refine W.newc hx hb hown k1 k2 k3 rfl d0 hc hs (fun cC kC hfc hkc _ _ => ?_)
  refine W.eq (g2 := F0 m (pc + 3) ls (.ref H.size :: st)) rfl ?_
  refine lv_dup hx hb d3 rfl ?_
  refine va_ldcS hx hb hown hZ d4 ?_
  refine th_throwS (names := th_names) (cX := cC) (kX := kC) hx hb (hml.trans hls.symm) htr hown hfit (by decide) hat hfc hkc ?_ hS.1 rfl hem hlk d6 d9 (by show 2 + 3 < R.frames; omega) ?_ (fun t hW hX => hq _ t hW hX)
  · rw [Array.getElem?_push_size]
  · show 1 + (st.map fun v => v.category).sum + (13 * (2 + 1) + 42) ≤ R.locals
    omega
end WT
section WM2
variable {l : Launch} {s0 : State} {D : va_G} {cA sa : Nat → Nat}
/-- a method that may throw and that changes nothing that is there -/
theorem wMetR (Z : zE l s0 D cA sa) {y : MethodName} {cc : ByteArray} {maxL : Nat} {ret : Option FieldType} {rm : Room} {av : List Value} {ws : va_W} {sz : Nat} {Qc : Array Value → State → Outcome → State → Prop} {mc ms : Nat} (hy : plainName y.cls = true) (hlen : (lg_sl av).length ≤ maxL)
    (body : ∀ p e s m below meth c, p.tables.exec = Jvm.exec → c.code = cc → meth.sig.returnType = ret → c.maxLocals = maxL → s.vm.findClass y.cls = some m.cls → meth.locks = false → c.exceptionTable.isEmpty = true → gl s0 s → va_K D ncl (ty0 cA) s → s.heap.size = sz →
      va_P D ncl ws s.heap → va_P D ncl [] s.heap → va_D (fun q => s.heap.size ≤ q) [] → (∀ q, s.heap.size ≤ q → s.heap.size ≤ q) → (∀ q, s.heap.size ≤ q → s0.heap.size ≤ q) → va_S (fun q => s.heap.size ≤ q) s.heap s.heap [] → ∀ ls, lv_has ls maxL (lv_args 0 av) →
      W p l e rm s m av.toArray below meth c s.heap [] 0 0 (th_MQ below Qc av.toArray s mc ms (fun q => s.heap.size ≤ q)) (F0 m 0 ls [])) :
    th_Met l y [.code y cc maxL ret] rm (wP s0 D av ws sz) Qc mc ms (fun q => sz ≤ q) := by
  refine th_Met.ofW (cc := cc) (maxL := maxL) (ret := ret) hy rfl ?_
  intro p e s m args below meth c s₁ B hml hem hv
  obtain ⟨rfl, hg, hsz, hP, hD0⟩ := hv
  have hl := lv_entry av hlen
  rw [lg_entry_eq]
  subst hsz
  exact body p e s m below meth c B.exec B.bytes B.returns hml (findClass_of_methodNamed B.named) B.notSynchronized hem hg (va_K.moved hg.1.alike Z.2.1) rfl hP (fun k q h => by simp at h) ⟨fun i j p q h => by simp at h, fun k q h => by simp at h⟩ (fun q h => h) (fun q h => Nat.le_trans hg.2.1 h) va_S.rf _ hl
end WM2
