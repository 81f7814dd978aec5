/-! contracts of methods with a table of handlers -/
abbrev hTab (c : Code) : List (Nat × Nat × Nat × Nat) := c.exceptionTable.toList.map (fun h => (h.startPc, h.endPc, h.handlerPc, h.catchType))
theorem th_Met.ofWW {l : Launch} {y : MethodName} {ws ws' : List Cond} {rm : Room} {Pc : Array Value → State → Prop} {Qc : Array Value → State → Outcome → State → Prop} {mc ms : Nat} {free : Addr → Prop} {cc : ByteArray} {maxL : Nat} {ret : Option FieldType} {hh : List (Nat × Nat × Nat × Nat)}
    (hy : plainName y.cls = true) (hw : ws = Cond.codeWith y cc maxL ret hh :: ws')
    (body : ∀ p e s m args below meth c s₁, BodyLoose p l y (headSpec ws rm) cc maxL ret e s m args below meth c s₁ → c.maxLocals = maxL → hTab c = hh → Pc args s →
      W p l e (headSpec ws rm).room s m args below meth c s.heap [] 0 0 (th_MQ below Qc args s mc ms free) (entryFrame m args maxL)) : th_Met l y ws rm Pc Qc mc ms free := by
  refine MetFree.of_bodyS (code := cc) (maxLocals := maxL) (ret := ret) hy ?_ ?_
  · intro args s m h hn
    obtain ⟨m', meth, c, h1, h2, h3, h4, h5, h6, h7, h8, h9⟩ := Cond.codeWith_spec (atoms_spec (ws := ws) h _ (by rw [hw]; exact List.mem_cons_self))
    cases h1.symm.trans hn
    exact ⟨meth, c, h2, h3, h4, h5, h7, h8⟩
  · intro p e s m args below meth c s₁ B hml hP _
    have hh0 : s₁.heap = s.heap := by rw [B.state]; rfl
    have hem : hTab c = hh := by
      obtain ⟨m', meth', c', h1, h2, h3, h4, h5, h6, -⟩ := Cond.codeWith_spec (atoms_spec (ws := ws) B.pre _ (by rw [hw]; exact List.mem_cons_self))
      cases h1.symm.trans B.named
      cases h2.symm.trans B.method
      have hX := Stand.of_body B
      cases h3.symm.trans hX.code
      exact h6
    obtain ⟨t, a1, o, b1, b2, b3⟩ := body p e s m args below meth c s₁ B hml hem hP s₁ hh0 (Stand.of_body B)
    exact ⟨t, o, a1, b1, b2, ⟨b3.1, b3.2⟩⟩
section WW
variable {l : Launch} {s0 : State} {D : va_G} {cA sa : Nat → Nat}
theorem wMetW (Z : zE l s0 D cA sa) {y : MethodName} {cc : ByteArray} {maxL : Nat} {ret : Option FieldType} {hh : List (Nat × Nat × Nat × Nat)} {rm : Room} {av : List Value} {ws : va_W} {sz : Nat} {Qc : Array Value → State → Outcome → State → Prop} {mc ms : Nat} (hy : plainName y.cls = true) (hlen : (lg_sl av).length ≤ maxL)
    (body : ∀ p e s m below meth c, p.tables.exec = Jvm.exec → c.code = cc → meth.sig.returnType = ret → c.maxLocals = maxL → s.vm.findClass y.cls = some m.cls → meth.locks = false → hTab c = hh → gl s0 s → va_K D ncl (ty0 cA) s → s.heap.size = sz →
      va_P D ncl ws s.heap → va_D (va_A ws s.heap.size) ws → (∀ q, s.heap.size ≤ q → va_A ws s.heap.size q) → (∀ q, va_A ws s.heap.size q → s0.heap.size ≤ q) → va_S (va_A ws s.heap.size) s.heap s.heap [] → ∀ ls, lv_has ls maxL (lv_args 0 av) →
      W p l e rm s m av.toArray below meth c s.heap [] 0 0 (th_MQ below Qc av.toArray s mc ms (va_A ws s.heap.size)) (F0 m 0 ls [])) :
    th_Met l y [.codeWith y cc maxL ret hh] rm (wP s0 D av ws sz) Qc mc ms (va_A ws sz) := by
  refine th_Met.ofWW (cc := cc) (maxL := maxL) (ret := ret) hy rfl ?_
  intro p e s m args below meth c s₁ B hml hem hv
  obtain ⟨rfl, hg, hsz, hP, hD0⟩ := hv
  have hD := hD0.self (sz := s.heap.size)
  have hlo := va_A_lo (sz := s.heap.size) hD0 hg.2.1
  have hl := lv_entry av hlen
  rw [lg_entry_eq]
  subst hsz
  exact body p e s m below meth c B.exec B.bytes B.returns hml (findClass_of_methodNamed B.named) B.notSynchronized hem hg (va_K.moved hg.1.alike Z.2.1) rfl hP hD (fun q h => Or.inr h) hlo va_S.rf _ hl
end WW
/-- two classes of which one is not the other's heir -/
def nCs (s0 : State) (A B : String) : Prop := ∃ a b, s0.vm.findClass A = some a ∧ s0.vm.findClass B = some b ∧ s0.vm.assignable a b = false
def zN (s0 : State) : Prop := nCs s0 "java/lang/IllegalArgumentException" "java/lang/IndexOutOfBoundsException" ∧ nCs s0 "java/lang/IllegalStateException" "java/lang/IndexOutOfBoundsException"
theorem nCs.at {s0 s : State} {A B : String} {a : ClassId} (h : nCs s0 A B) (hg : gl s0 s) (ha : s.vm.findClass A = some a) : ∃ b, s.vm.findClass B = some b ∧ s.vm.assignable a b = false := by
  obtain ⟨a', b, h1, h2, h3⟩ := h
  rw [hg.1.alike.findClass] at ha
  cases h1.symm.trans ha
  exact ⟨b, by rw [hg.1.alike.findClass]; exact h2, by rw [hg.1.alike.assignable]; exact h3⟩
section WE
variable {p : Program} {l : Launch} {e : Env} {R : Room} {s : State} {m : MethodId} {args : Array Value} {below : List Frame} {meth : Method} {c : Code} {H : Heap} {locs : List Loc} {cells slots : Nat} {Q : State → Prop}
variable {D : va_G} {A : Nat → Prop} {ws wc wr : va_W} {pc : Nat} {ls : Array Slot} {rest st0 : List Value} {a : Array Value} {mc ms : Nat} {S : Type} {wf : S → va_W} {Th : Nat → Heap → State → Prop}
theorem wt_calli {post : Int32 → S → Prop} (hr : th_Run p l e R s m args below meth c H locs cells slots mc ms (F0 m pc ls st0) rest (th_Qi post (wB D (va_A wc H.size) wf) (va_A wc H.size) Th a) (va_A wc H.size)) (hP : va_P D ncl ws H) (hD : va_D A ws) (hS : va_S A s.heap H locs) (hA : ∀ q, s.heap.size ≤ q → A q)
    (isC isR : List Nat) (hC : isC.map (fun i => ws[i]?) = wc.map some) (hRr : isR.map (fun i => ws[i]?) = wr.map some) (hnr : va_nd isR = true) (hdis : ∀ i ∈ isR, i ∉ isC) (wn : S → va_W) (pm : List Nat) (hpn : va_nd pm = true) (hpm : ∀ u, pm.map (fun i => (wr ++ wf u)[i]?) = (wn u).map some)
    (kk : ∀ (r : Int32) (u : S) (H1 : Heap) (locs1 : List Loc), post r u → va_P D ncl (wn u) H1 → va_D A (wn u) → va_S A s.heap H1 locs1 → W p l e R s m args below meth c H1 locs1 (cells + mc) (slots + ms) Q (F0 m (pc + 3) ls (.int r :: rest)))
    (kt : ∀ (x : Nat) (t : State) (locs1 : List Loc), s.vm.Alike t.vm → Th x H t → va_S A s.heap t.heap locs1 → th_W p l e R s m args below meth c t.heap locs1 (cells + mc) (slots + ms) Q (F0 m pc ls rest) x) : W p l e R s m args below meth c H locs cells slots Q (F0 m pc ls st0) := by
  have hF := va_free (wc := wc) hD hS hA isC hC
  refine th_calli hr hS (fun q _ h => hF q h) hF (fun r u t H1 locs1 ht hvm hp hB hz hk hS1 => ?_) kt
  obtain ⟨h1, h2⟩ := w_back hP hD hF isC isR hC hRr hnr hdis wn pm hpn hpm ht hB hk
  exact kk r u H1 locs1 hp h1 h2 hS1
theorem wt_calll {post : Int64 → S → Prop} (hr : th_Run p l e R s m args below meth c H locs cells slots mc ms (F0 m pc ls st0) rest (th_Ql post (wB D (va_A wc H.size) wf) (va_A wc H.size) Th a) (va_A wc H.size)) (hP : va_P D ncl ws H) (hD : va_D A ws) (hS : va_S A s.heap H locs) (hA : ∀ q, s.heap.size ≤ q → A q)
    (isC isR : List Nat) (hC : isC.map (fun i => ws[i]?) = wc.map some) (hRr : isR.map (fun i => ws[i]?) = wr.map some) (hnr : va_nd isR = true) (hdis : ∀ i ∈ isR, i ∉ isC) (wn : S → va_W) (pm : List Nat) (hpn : va_nd pm = true) (hpm : ∀ u, pm.map (fun i => (wr ++ wf u)[i]?) = (wn u).map some)
    (kk : ∀ (r : Int64) (u : S) (H1 : Heap) (locs1 : List Loc), post r u → va_P D ncl (wn u) H1 → va_D A (wn u) → va_S A s.heap H1 locs1 → W p l e R s m args below meth c H1 locs1 (cells + mc) (slots + ms) Q (F0 m (pc + 3) ls (.long r :: rest)))
    (kt : ∀ (x : Nat) (t : State) (locs1 : List Loc), s.vm.Alike t.vm → Th x H t → va_S A s.heap t.heap locs1 → th_W p l e R s m args below meth c t.heap locs1 (cells + mc) (slots + ms) Q (F0 m pc ls rest) x) : W p l e R s m args below meth c H locs cells slots Q (F0 m pc ls st0) := by
  have hF := va_free (wc := wc) hD hS hA isC hC
  refine th_calll hr hS (fun q _ h => hF q h) hF (fun r u t H1 locs1 ht hvm hp hB hz hk hS1 => ?_) kt
  obtain ⟨h1, h2⟩ := w_back hP hD hF isC isR hC hRr hnr hdis wn pm hpn hpm ht hB hk
  exact kk r u H1 locs1 hp h1 h2 hS1
end WE
