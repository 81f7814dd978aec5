/-! the law: a wrapper's call, the script's cells, boards by number -/
section LA
variable {p : Program} {l : Launch} {e : Env} {R : Room} {s s0 : State} {m : MethodId} {args : Array Value} {below : List Frame} {meth : Method} {c : Code} {H : Heap} {locs : List Loc} {cells slots : Nat}
variable {D : va_G} {A : Nat → Prop} {ws wc : va_W} {pc nL index maxL : Nat} {ls : Array Slot} {rest st0 As : List Value} {cc bytes : ByteArray} {own : String} {y : MethodName} {ret : Option FieldType} {rm : Room} {Qc : Array Value → State → Outcome → State → Prop} {free : Addr → Prop} {hh : List (Nat × Nat × Nat × Nat)}
theorem wt_runSW (hx : p.tables.exec = Jvm.exec) (hb : c.code = cc) (hml : c.maxLocals = nL) (hown : s.vm.findClass own = some m.cls) (hls : ls.size = nL) (hg : gl s0 s) (hlo : ∀ q, A q → s0.heap.size ≤ q) (hP : va_P D ncl ws H) (hD : va_D A ws) (hS : va_S A s.heap H locs)
    (hM : th_Met l y [.codeWith y bytes maxL ret hh] rm (wP s0 D As wc H.size) Qc rm.cells rm.slots free) (k1 : kw s0 (.methodLink own index y)) (k2 : kw s0 (.static y)) (k4 : kw s0 (.codeWith y bytes maxL ret hh)) (k5 : kw s0 (.initialized y.cls))
    (hd : y.cls ≠ "java/lang/invoke/MethodHandle" ∧ y.cls ≠ "java/lang/invoke/VarHandle" ∧ (parseMethodDescriptor y.desc).map (fun d => d.parameters.length) = some As.length) (hR : rm.frames + 1 ≤ R.frames ∧ 8 + (maxL + 11) + rm.locals ≤ R.locals)
    (isC : List Nat) (hn : va_nd isC = true) (hC : isC.map (fun i => ws[i]?) = wc.map some) (hst : st0 = As.reverse ++ rest) (h8 : (rest.map fun v => v.category).sum ≤ 8) (hdg : decode cc pc = .ok (.invokestatic index, 3)) (hf : cells + rm.cells ≤ R.cells ∧ slots + rm.slots ≤ R.slots) :
    th_Run p l e R s m args below meth c H locs cells slots rm.cells rm.slots (F0 m pc ls st0) rest (Qc As.toArray) free :=
  th_runSW (Ts := []) (own := own) (n := As.length) ⟨hx, hb, hml, hown, fun _ h => absurd h List.not_mem_nil⟩ hM ⟨rfl, rfl, hR.1, hR.2⟩ (fun w hw a' U hW => by rw [List.mem_singleton.mp hw]; exact k4 U a' (State.WarmedH.trans hg.1 hW)) (k4 s args hg.1) (k5 s args hg.1) ⟨hd.1, hd.2.1⟩ (fun sig hs => by have := hd.2.2; rw [hs] at this; exact (Option.some.inj this).symm) (k1 s args hg.1) (k2 s args hg.1) ⟨wP_blind, w_pre hg hlo hS hP hD isC hn hC⟩ rfl rfl hls hst (lv_room (m := m) (pc := pc) (ls := ls) (rest := st0) h8) hdg hf
end LA
/-- a long out of two ints of the script -/
def jl (a b : Int32) : Int64 := (a.toInt64 <<< ((32 : Int32).toInt64 &&& 63)) ||| (b.toInt64 &&& 4294967295)
theorem pick (v : Int32) {nb : Nat} (h : nb ≤ 4) : ∃ n, n < 4 ∧ ∀ k, k < nb → v = nI k → k = n := by
  by_cases hz : ∃ k, k < nb ∧ v = nI k
  · obtain ⟨k, h1, h2⟩ := hz
    exact ⟨k, by omega, fun j hj e => (nI_eq (by omega) (by omega)).mp (e.symm.trans h2)⟩
  · exact ⟨0, by decide, fun j hj e => absurd ⟨j, hj, e⟩ hz⟩
theorem pick2 {nb : Nat} {nc : Nat → Nat} {l0 y0 g : Nat} {rw : List Rw} {bf : Nat → Bool} {Yy M : St} (v : Int32) (hL : iL nb nc l0 y0 g rw bf Yy M) : ∃ n, n < 4 ∧ ∀ c, c < ly_n rw → v = nI c → cpk ((lcp l0 g y0 rw).getD c cp0) 0 = n ∧ 0 < nc n := by
  have hn := n160 hL.2.1
  by_cases hz : ∃ c, c < ly_n rw ∧ v = nI c
  · obtain ⟨c, h1, h2⟩ := hz
    obtain ⟨r, i, a1, a2, a3⟩ := lcp_row (l0 := l0) (g := g) (y := y0) h1
    have hm := gd_mem rw rw0 a1
    refine ⟨(rw.getD r rw0).1, (hL.2.1.2.2.2.2 _ hm).1, fun j hj e => ?_⟩
    obtain rfl : j = c := (nI_eq (by omega) (by omega)).mp (e.symm.trans h2)
    rw [a3]
    exact ⟨rfl, (hL.2.2.1 _ hm).2⟩
  · exact ⟨0, by decide, fun j hj e => absurd ⟨j, hj, e⟩ hz⟩
theorem pn_ne (n i : Nat) : pn n i ≠ n := by unfold pn; split <;> omega
theorem bq_upd {D : va_G} {A : Nat → Prop} {H : Heap} {cA : Nat → Nat} {bb : Nat → Nat → Nat} {Bi : Nat → Nat → Int32} {Bl : Nat → Nat → Int64} {Bj : Nat → Nat → Nat → Int32} {Bk : Nat → Nat → Nat → Int64} {X : va_W} {n : Nat} (u : St) (hn : n < 4)
    (hP : va_P D ncl (X ++ w_B (bb n) cA u.1 u.2.1 u.2.2.1 u.2.2.2 ++ w_B (bb (pn n 0)) cA (Bi (pn n 0)) (Bl (pn n 0)) (Bj (pn n 0)) (Bk (pn n 0)) ++ w_B (bb (pn n 1)) cA (Bi (pn n 1)) (Bl (pn n 1)) (Bj (pn n 1)) (Bk (pn n 1)) ++ w_B (bb (pn n 2)) cA (Bi (pn n 2)) (Bl (pn n 2)) (Bj (pn n 2)) (Bk (pn n 2))) H)
    (hD : va_D A (X ++ w_B (bb n) cA u.1 u.2.1 u.2.2.1 u.2.2.2 ++ w_B (bb (pn n 0)) cA (Bi (pn n 0)) (Bl (pn n 0)) (Bj (pn n 0)) (Bk (pn n 0)) ++ w_B (bb (pn n 1)) cA (Bi (pn n 1)) (Bl (pn n 1)) (Bj (pn n 1)) (Bk (pn n 1)) ++ w_B (bb (pn n 2)) cA (Bi (pn n 2)) (Bl (pn n 2)) (Bj (pn n 2)) (Bk (pn n 2)))) :
    va_P D ncl (X ++ w_B (bb 0) cA (va_up Bi n u.1 0) (va_up Bl n u.2.1 0) (va_up Bj n u.2.2.1 0) (va_up Bk n u.2.2.2 0) ++ w_B (bb 1) cA (va_up Bi n u.1 1) (va_up Bl n u.2.1 1) (va_up Bj n u.2.2.1 1) (va_up Bk n u.2.2.2 1) ++ w_B (bb 2) cA (va_up Bi n u.1 2) (va_up Bl n u.2.1 2) (va_up Bj n u.2.2.1 2) (va_up Bk n u.2.2.2 2) ++ w_B (bb 3) cA (va_up Bi n u.1 3) (va_up Bl n u.2.1 3) (va_up Bj n u.2.2.1 3) (va_up Bk n u.2.2.2 3)) H ∧
    va_D A (X ++ w_B (bb 0) cA (va_up Bi n u.1 0) (va_up Bl n u.2.1 0) (va_up Bj n u.2.2.1 0) (va_up Bk n u.2.2.2 0) ++ w_B (bb 1) cA (va_up Bi n u.1 1) (va_up Bl n u.2.1 1) (va_up Bj n u.2.2.1 1) (va_up Bk n u.2.2.2 1) ++ w_B (bb 2) cA (va_up Bi n u.1 2) (va_up Bl n u.2.1 2) (va_up Bj n u.2.2.1 2) (va_up Bk n u.2.2.2 2) ++ w_B (bb 3) cA (va_up Bi n u.1 3) (va_up Bl n u.2.1 3) (va_up Bj n u.2.2.1 3) (va_up Bk n u.2.2.2 3)) := by
  have e1 : ∀ i, w_B (bb (pn n i)) cA (Bi (pn n i)) (Bl (pn n i)) (Bj (pn n i)) (Bk (pn n i)) = (fun k => w_B (bb k) cA (va_up Bi n u.1 k) (va_up Bl n u.2.1 k) (va_up Bj n u.2.2.1 k) (va_up Bk n u.2.2.2 k)) (pn n i) := fun i => by
    show _ = w_B (bb (pn n i)) cA (va_up Bi n u.1 (pn n i)) (va_up Bl n u.2.1 (pn n i)) (va_up Bj n u.2.2.1 (pn n i)) (va_up Bk n u.2.2.2 (pn n i))
    rw [up_n _ _ (pn_ne n i), up_n _ _ (pn_ne n i), up_n _ _ (pn_ne n i), up_n _ _ (pn_ne n i)]
  have e0 : w_B (bb n) cA u.1 u.2.1 u.2.2.1 u.2.2.2 = (fun k => w_B (bb k) cA (va_up Bi n u.1 k) (va_up Bl n u.2.1 k) (va_up Bj n u.2.2.1 k) (va_up Bk n u.2.2.2 k)) n := by
    show _ = w_B (bb n) cA (va_up Bi n u.1 n) (va_up Bl n u.2.1 n) (va_up Bj n u.2.2.1 n) (va_up Bk n u.2.2.2 n)
    rw [up_s, up_s, up_s, up_s]
  rw [e0, e1 0, e1 1, e1 2] at hP hD
  exact bq_out (F := fun k => w_B (bb k) cA (va_up Bi n u.1 k) (va_up Bl n u.2.1 k) (va_up Bj n u.2.2.1 k) (va_up Bk n u.2.2.2 k)) (X := X) hn hP hD
set_option maxHeartbeats 4000000 in
set_option maxRecDepth 100000 in
theorem m_L_cell {l : Launch} {s0 : State} {D : va_G} {cA sa : Nat → Nat} (Z : zE l s0 D cA sa) {b L : Nat} {xs : Nat → Int32} (hX0 : va_X b L xs s0 s0.heap) (hbl0 : b < s0.heap.size) (hL : L ≤ 4098) (k : Nat) (hk : k < 100) (sz : Nat) : Met l y_L_cell [.code y_L_cell c_L_cell 2 (some .int)] ({ frames := 0, cells := 0, slots := 0, locals := 0 }) (wP s0 D [.ref b, .int (nI k)] (([] : va_W)) sz) (va_Qi (fun r (_ : Unit) => r = if k < L then xs k else 0) (wB D (va_A (([] : va_W)) sz) (fun _ => ([] : va_W))) (va_A (([] : va_W)) sz)) 0 0 (va_A (([] : va_W)) sz) := by
  refine wMet Z (by decide) (Nat.le_of_ble_eq_true rfl) ?_
  intro p e s m below meth c hx hb hr hml hown hlk hin hg hK hsz hP hD hA hlo hS ls hl
  subst hsz
  have hown : s.vm.findClass R_L = some m.cls := hown
  have hbl : b < s.heap.size := Nat.lt_of_lt_of_le hbl0 hg.2.1
  have hX : va_X b L xs s s.heap := (hX0.kept (hg.2.2 b hbl0)).moved hg.1.alike
  have hbA : ¬ va_A ([] : va_W) s.heap.size b := fun z => by rcases z with ⟨k, e, h⟩ | h; (simp at h); exact absurd h (Nat.not_le.mpr hbl)
  refine lv_iload_n hx hb d_L_cell_0 rfl (lv_at hl 1 rfl) ?_
  refine lv_aload_n hx hb d_L_cell_1 rfl (lv_at hl 0 rfl) ?_
  refine va_slen hx hb hX hbl hbA hS d_L_cell_2 ?_
  refine lv_icmp_ge (tgt := 12) hx hb d_L_cell_3 (by decide) (fun c1 => ?_) (fun c1 => ?_)
  · have hkl : ¬ k < L := by have := (nI_leI (by omega) (by omega)).mp c1; omega
    refine lv_iconst (v := 0) hx hb d_L_cell_12 (by decide) ?_
    exact w_iret hx hb hr hlk hP hD hS () rfl (by rw [if_neg hkl]) d_L_cell_13
  · have hkl : k < L := Nat.lt_of_not_le (fun z => c1 ((nI_leI (by omega) (by omega)).mpr z))
    refine lv_aload_n hx hb d_L_cell_6 rfl (lv_at hl 0 rfl) ?_
    refine lv_iload_n hx hb d_L_cell_7 rfl (lv_at hl 1 rfl) ?_
    refine va_sld hx hb hX hbl hbA hS (vp_in_nI (n := k) (N := L) hkl (by omega)) d_L_cell_8 ?_
    refine lv_topi (fun z2 ez2 => ?_)
    obtain rfl : z2 = (xs k) := by rw [ez2]; rw [nI_clamp (n := k) (by omega)]
    refine lv_goto (tgt := 13) hx hb d_L_cell_9 (by decide) ?_
    exact w_iret hx hb hr hlk hP hD hS () rfl (by rw [if_pos hkl]) d_L_cell_13
