/-! the quiet beginning of a method: calls that change nothing that is there -/
theorem qS {A : Nat → Prop} {n : Nat} {H0 H : Heap} {locs : List Loc} (h : va_S (fun q => n ≤ q) H0 H locs) (hA : ∀ q, n ≤ q → A q) : va_S A H0 H locs := ⟨h.1, fun q h1 h2 => h.2.1 q h1 (fun z => h2 (hA q z)), fun q hq => hA _ (h.2.2 q hq)⟩
theorem th_up {C : String} {x : Nat} {H : Heap} {s t t' : State} {locs : List Loc} (hX : th_X C x H t) (hS : va_S (fun q => s.heap.size ≤ q) s.heap H locs) (ht : t'.heap = t.heap) (a1 : s.vm.Alike t.vm) (a2 : s.WarmedH t'.vm) : th_X C x s.heap t' := by
  obtain ⟨h1, h2, ⟨cell, h3, h4, h5⟩, h6⟩ := hX
  refine ⟨Nat.le_trans hS.1 h1, by rw [ht]; exact Nat.le_trans hS.1 h2, ⟨cell, by rw [ht]; exact h3, h4, ?_⟩, fun q hq => ?_⟩
  · rw [a2.alike.findClass, ← a1.findClass]; exact h5
  · rw [ht, h6 q (Nat.lt_of_lt_of_le hq hS.1)]; exact hS.2.1 q hq (Nat.not_le.mpr hq)
section WQ
variable {p : Program} {l : Launch} {e : Env} {R : Room} {s : State} {m : MethodId} {args : Array Value} {below : List Frame} {meth : Method} {c : Code} {H : Heap} {locs : List Loc} {cells slots : Nat} {Q : State → Prop}
variable {D : va_G} {ws : va_W} {pc : Nat} {ls : Array Slot} {rest st0 : List Value} {a : Array Value} {mc ms : Nat} {Th : Nat → Heap → State → Prop} {cond : Prop}
theorem kp_P {H1 : Heap} (hP : va_P D ncl ws H) (hk : ∀ q : Nat, q < H.size → H1[q]? = H[q]?) : va_P D ncl ws H1 := hP.kept (fun k q h => hk _ (va_at.lt (hP k q h)))
theorem w_check (hr : th_Run p l e R s m args below meth c H locs cells slots mc ms (F0 m pc ls st0) rest (th_Qv (fun (_ : Unit) => cond) (fun _ _ => True) (fun q => H.size ≤ q) Th a) (fun q => H.size ≤ q)) (hP : va_P D ncl ws H) (hS0 : va_S (fun q => s.heap.size ≤ q) s.heap H locs)
    (kk : ∀ (H1 : Heap) (locs1 : List Loc), cond → va_P D ncl ws H1 → va_S (fun q => s.heap.size ≤ q) s.heap H1 locs1 → W p l e R s m args below meth c H1 locs1 (cells + mc) (slots + ms) Q (F0 m (pc + 3) ls rest))
    (kt : ∀ (x : Nat) (t : State) (locs1 : List Loc), s.vm.Alike t.vm → Th x H t → va_S (fun q => s.heap.size ≤ q) s.heap t.heap locs1 → th_W p l e R s m args below meth c t.heap locs1 (cells + mc) (slots + ms) Q (F0 m pc ls rest) x) : W p l e R s m args below meth c H locs cells slots Q (F0 m pc ls st0) := by
  refine th_callv hr hS0 (fun q _ h => Nat.le_trans hS0.1 h) (fun q h => Nat.le_trans hS0.1 h) (fun u t H1 locs1 ht hvm hp _ hz hk hS1 => ?_) kt
  exact kk H1 locs1 hp (kp_P hP (fun q hq => hk q hq (Nat.not_le.mpr hq))) hS1
theorem w_purei {S : Type} {post : Int32 → S → Prop} {wf : S → va_W} (hr : va_Run p l e R s m args below meth c H locs cells slots mc ms (F0 m pc ls st0) rest (va_Qi post (wB D (va_A ([] : va_W) H.size) wf) (va_A ([] : va_W) H.size) a) (va_A ([] : va_W) H.size)) (hP : va_P D ncl ws H) (hS0 : va_S (fun q => s.heap.size ≤ q) s.heap H locs)
    (kk : ∀ (r : Int32) (u : S) (H1 : Heap) (locs1 : List Loc), post r u → va_P D ncl ws H1 → va_S (fun q => s.heap.size ≤ q) s.heap H1 locs1 → W p l e R s m args below meth c H1 locs1 (cells + mc) (slots + ms) Q (F0 m (pc + 3) ls (.int r :: rest))) : W p l e R s m args below meth c H locs cells slots Q (F0 m pc ls st0) := by
  have hn : ∀ q, va_A ([] : va_W) H.size q → H.size ≤ q := fun q h => by
    rcases h with ⟨k, e, h⟩ | h
    · simp at h
    · exact h
  refine va_calli hr hS0 (fun q _ h => Nat.le_trans hS0.1 (hn q h)) (fun q h => Nat.le_trans hS0.1 (hn q h)) (fun r u t H1 locs1 ht hvm hp _ hz hk hS1 => ?_)
  exact kk r u H1 locs1 hp (kp_P hP (fun q hq => hk q hq (fun z => absurd (hn q z) (Nat.not_le.mpr hq)))) hS1
end WQ
section WR2
variable {p : Program} {l : Launch} {e : Env} {R : Room} {s : State} {m : MethodId} {args : Array Value} {below : List Frame} {meth : Method} {c : Code} {H : Heap} {locs : List Loc} {cells slots : Nat} {Q : State → Prop}
variable {D : va_G} {A : Nat → Prop} {ws' : va_W} {S : Type} {wf : S → va_W} {cc : ByteArray} {pc : Nat} {ls : Array Slot} {Th : Nat → Heap → State → Prop}
theorem wt_zret {post : Int32 → S → Prop} {v : Int32} (hx : p.tables.exec = Jvm.exec) (hb : c.code = cc) (hr : meth.sig.returnType = some .boolean) (hn : narrow .boolean (.int v) = .int v) (hlk : meth.locks = false) (hP : va_P D ncl ws' H) (hD : va_D A ws') (hS : va_S A s.heap H locs) (u : S) (hw : wf u = ws') (hp : post v u) (hdg : decode cc pc = .ok (.ireturn, 1)) :
    W p l e R s m args below meth c H locs cells slots (th_MQ below (th_Qi post (wB D A wf) A Th) args s cells slots A) (F0 m pc ls [.int v]) :=
  th_mono th_ofMQ (W.zret hx hb hr hn (fun t ht hW => ⟨Or.inl ⟨v, u, rfl, hp, by rw [ht, hw]; exact hP, by rw [hw]; exact hD⟩, hS.F ht⟩) hS.2.2 hdg hlk)
theorem wt_iret {post : Int32 → S → Prop} {v : Int32} (hx : p.tables.exec = Jvm.exec) (hb : c.code = cc) (hr : meth.sig.returnType = some .int) (hlk : meth.locks = false) (hP : va_P D ncl ws' H) (hD : va_D A ws') (hS : va_S A s.heap H locs) (u : S) (hw : wf u = ws') (hp : post v u) (hdg : decode cc pc = .ok (.ireturn, 1)) :
    W p l e R s m args below meth c H locs cells slots (th_MQ below (th_Qi post (wB D A wf) A Th) args s cells slots A) (F0 m pc ls [.int v]) :=
  th_mono th_ofMQ (W.iret hx hb hr (fun t ht hW => ⟨Or.inl ⟨v, u, rfl, hp, by rw [ht, hw]; exact hP, by rw [hw]; exact hD⟩, hS.F ht⟩) hS.2.2 hdg hlk)
theorem wt_lret {post : Int64 → S → Prop} {v : Int64} (hx : p.tables.exec = Jvm.exec) (hb : c.code = cc) (hr : meth.sig.returnType = some .long) (hlk : meth.locks = false) (hP : va_P D ncl ws' H) (hD : va_D A ws') (hS : va_S A s.heap H locs) (u : S) (hw : wf u = ws') (hp : post v u) (hdg : decode cc pc = .ok (.lreturn, 1)) :
    W p l e R s m args below meth c H locs cells slots (th_MQ below (th_Ql post (wB D A wf) A Th) args s cells slots A) (F0 m pc ls [.long v]) :=
  th_mono th_ofMQ (W.lret hx hb hr (fun t ht hW => ⟨Or.inl ⟨v, u, rfl, hp, by rw [ht, hw]; exact hP, by rw [hw]; exact hD⟩, hS.F ht⟩) hS.2.2 hdg hlk)
/-- a callee's throw goes on through this method -/
theorem wt_pass {Qc : Array Value → State → Outcome → State → Prop} {x : Nat} {t : State} {st : List Value} (hem : c.exceptionTable.isEmpty = true) (hlk : meth.locks = false) (hA : ∀ q, s.heap.size ≤ q → A q) (hS : va_S (fun q => s.heap.size ≤ q) s.heap t.heap locs) (hq : ∀ t' : State, t'.heap = t.heap → s.WarmedH t'.vm → Qc args s (.threw x) t') :
    th_W p l e R s m args below meth c t.heap locs cells slots (th_MQ below Qc args s cells slots A) (F0 m pc ls st) x :=
  th_leave hem hlk hq (fun q h => hA _ (hS.2.2 q h))
theorem xF {C : String} {x : Nat} {t : State} {A : Nat → Prop} (h : th_X C x s.heap t) : va_F A s t := ⟨h.2.1, fun q hq _ => h.2.2.2 q hq⟩
end WR2
