/-! methods that only read: nothing that is there changes -/
theorem wMetRd {l : Launch} {s0 : State} {D : va_G} {cA sa : Nat → Nat} (Z : zE l s0 D cA sa) {y : MethodName} {cc : ByteArray} {maxL : Nat} {ret : Option FieldType} {rm : Room} {av : List Value} {ws : va_W} {sz : Nat} {Qc : Array Value → State → Outcome → State → Prop} {mc ms : Nat} (hy : plainName y.cls = true) (hlen : (lg_sl av).length ≤ maxL)
    (body : ∀ p e s m below meth c, p.tables.exec = Jvm.exec → c.code = cc → meth.sig.returnType = ret → c.maxLocals = maxL → s.vm.findClass y.cls = some m.cls → meth.locks = false → gl s0 s → va_K D ncl (ty0 cA) s → s.heap.size = sz →
      va_P D ncl ws s.heap → va_D (fun q => s0.heap.size ≤ q) ws → (∀ q, s.heap.size ≤ q → s0.heap.size ≤ q) → va_S (fun q => s.heap.size ≤ q) s.heap s.heap [] → ∀ ls, lv_has ls maxL (lv_args 0 av) →
      W p l e rm s m av.toArray below meth c s.heap [] 0 0 (MQ below Qc av.toArray s mc ms (fun q => s.heap.size ≤ q)) (F0 m 0 ls [])) :
    Met l y [.code y cc maxL ret] rm (wP s0 D av ws sz) Qc mc ms (fun q => sz ≤ q) := by
  refine Met.ofW (cc := cc) (maxL := maxL) (ret := ret) hy rfl ?_
  intro p e s m args below meth c s₁ B hml hv
  obtain ⟨rfl, hg, hsz, hP, hD0⟩ := hv
  have hl := lv_entry av hlen
  rw [lg_entry_eq]
  subst hsz
  exact body p e s m below meth c B.exec B.bytes B.returns hml (findClass_of_methodNamed B.named) B.notSynchronized hg (va_K.moved hg.1.alike Z.2.1) rfl hP hD0 (fun q h => Nat.le_trans hg.2.1 h) va_S.rf _ hl
section WRD
variable {p : Program} {l : Launch} {e : Env} {R : Room} {s : State} {m : MethodId} {args : Array Value} {below : List Frame} {meth : Method} {c : Code} {H : Heap} {locs : List Loc} {cells slots : Nat} {Q : State → Prop}
variable {D : va_G} {ws : va_W} {pc : Nat} {ls : Array Slot} {rest st0 : List Value} {a : Array Value} {mc ms : Nat} {cc : ByteArray}
theorem r_iret {post : Int32 → Unit → Prop} {v : Int32} (hx : p.tables.exec = Jvm.exec) (hb : c.code = cc) (hr : meth.sig.returnType = some .int) (hlk : meth.locks = false) (hS0 : va_S (fun q => s.heap.size ≤ q) s.heap H locs) (hp : post v ()) (hdg : decode cc pc = .ok (.ireturn, 1)) :
    W p l e R s m args below meth c H locs cells slots (MQ below (va_Qi post (fun _ _ => True) (fun q => s.heap.size ≤ q)) args s cells slots (fun q => s.heap.size ≤ q)) (F0 m pc ls [.int v]) :=
  W.iret hx hb hr (fun t ht hW => ⟨⟨v, (), rfl, hp, trivial⟩, hS0.F ht⟩) hS0.2.2 hdg hlk
theorem r_zret {post : Int32 → Unit → Prop} {v : Int32} (hx : p.tables.exec = Jvm.exec) (hb : c.code = cc) (hr : meth.sig.returnType = some .boolean) (hn : narrow .boolean (.int v) = .int v) (hlk : meth.locks = false) (hS0 : va_S (fun q => s.heap.size ≤ q) s.heap H locs) (hp : post v ()) (hdg : decode cc pc = .ok (.ireturn, 1)) :
    W p l e R s m args below meth c H locs cells slots (MQ below (va_Qi post (fun _ _ => True) (fun q => s.heap.size ≤ q)) args s cells slots (fun q => s.heap.size ≤ q)) (F0 m pc ls [.int v]) :=
  W.zret hx hb hr hn (fun t ht hW => ⟨⟨v, (), rfl, hp, trivial⟩, hS0.F ht⟩) hS0.2.2 hdg hlk
theorem r_lret {post : Int64 → Unit → Prop} {v : Int64} (hx : p.tables.exec = Jvm.exec) (hb : c.code = cc) (hr : meth.sig.returnType = some .long) (hlk : meth.locks = false) (hS0 : va_S (fun q => s.heap.size ≤ q) s.heap H locs) (hp : post v ()) (hdg : decode cc pc = .ok (.lreturn, 1)) :
    W p l e R s m args below meth c H locs cells slots (MQ below (va_Ql post (fun _ _ => True) (fun q => s.heap.size ≤ q)) args s cells slots (fun q => s.heap.size ≤ q)) (F0 m pc ls [.long v]) :=
  W.lret hx hb hr (fun t ht hW => ⟨⟨v, (), rfl, hp, trivial⟩, hS0.F ht⟩) hS0.2.2 hdg hlk
theorem w_rcalli {post : Int32 → Unit → Prop} (hr : va_Run p l e R s m args below meth c H locs cells slots mc ms (F0 m pc ls st0) rest (va_Qi post (fun _ _ => True) (fun q => H.size ≤ q) a) (fun q => H.size ≤ q)) (hP : va_P D ncl ws H) (hS0 : va_S (fun q => s.heap.size ≤ q) s.heap H locs)
    (kk : ∀ (r : Int32) (H1 : Heap) (locs1 : List Loc), post r () → va_P D ncl ws H1 → va_S (fun q => s.heap.size ≤ q) s.heap H1 locs1 → W p l e R s m args below meth c H1 locs1 (cells + mc) (slots + ms) Q (F0 m (pc + 3) ls (.int r :: rest))) : W p l e R s m args below meth c H locs cells slots Q (F0 m pc ls st0) := by
  refine va_calli hr hS0 (fun q _ h => Nat.le_trans hS0.1 h) (fun q h => Nat.le_trans hS0.1 h) (fun r u t H1 locs1 ht hvm hp _ hz hk hS1 => ?_)
  exact kk r H1 locs1 hp (kp_P hP (fun q hq => hk q hq (Nat.not_le.mpr hq))) hS1
theorem w_rcalll {post : Int64 → Unit → Prop} (hr : va_Run p l e R s m args below meth c H locs cells slots mc ms (F0 m pc ls st0) rest (va_Ql post (fun _ _ => True) (fun q => H.size ≤ q) a) (fun q => H.size ≤ q)) (hP : va_P D ncl ws H) (hS0 : va_S (fun q => s.heap.size ≤ q) s.heap H locs)
    (kk : ∀ (r : Int64) (H1 : Heap) (locs1 : List Loc), post r () → va_P D ncl ws H1 → va_S (fun q => s.heap.size ≤ q) s.heap H1 locs1 → W p l e R s m args below meth c H1 locs1 (cells + mc) (slots + ms) Q (F0 m (pc + 3) ls (.long r :: rest))) : W p l e R s m args below meth c H locs cells slots Q (F0 m pc ls st0) := by
  refine va_calll hr hS0 (fun q _ h => Nat.le_trans hS0.1 h) (fun q h => Nat.le_trans hS0.1 h) (fun r u t H1 locs1 ht hvm hp _ hz hk hS1 => ?_)
  exact kk r H1 locs1 hp (kp_P hP (fun q hq => hk q hq (Nat.not_le.mpr hq))) hS1
end WRD
