/-! calls over the first part of a world, the rest as it is -/
section LP
variable {p : Program} {l : Launch} {e : Env} {R : Room} {s : State} {m : MethodId} {args : Array Value} {below : List Frame} {meth : Method} {c : Code} {H : Heap} {locs : List Loc} {cells slots : Nat} {Q : State → Prop}
variable {D : va_G} {A : Nat → Prop} {wc wr : va_W} {pc : Nat} {ls : Array Slot} {rest st0 : List Value} {a : Array Value} {mc ms : Nat} {S : Type} {wf : S → va_W} {Th : Nat → Heap → State → Prop}
theorem ap_l (x y : va_W) : (List.range x.length).map (fun i => (x ++ y)[i]?) = x.map some := by
  apply List.ext_getElem?
  intro j
  rw [List.getElem?_map, List.getElem?_map]
  by_cases h : j < x.length
  · rw [List.getElem?_range h, List.getElem?_eq_getElem h]
    show some ((x ++ y)[j]?) = some (some x[j])
    rw [List.getElem?_append_left h, List.getElem?_eq_getElem h]
  · rw [List.getElem?_eq_none (by simpa using h), List.getElem?_eq_none (by omega)]; rfl
theorem ap_r (x y : va_W) : (List.range' x.length y.length).map (fun i => (x ++ y)[i]?) = y.map some := by
  apply List.ext_getElem?
  intro j
  rw [List.getElem?_map, List.getElem?_map]
  by_cases h : j < y.length
  · rw [List.getElem?_range' (by omega), List.getElem?_eq_getElem h]
    show some ((x ++ y)[x.length + 1 * j]?) = some (some y[j])
    rw [List.getElem?_append_right (by omega), show x.length + 1 * j - x.length = j by omega, List.getElem?_eq_getElem h]
  · rw [List.getElem?_eq_none (by simpa using h), List.getElem?_eq_none (by omega)]; rfl
theorem vP_l {x y : va_W} (h : va_P D ncl (x ++ y) H) : va_P D ncl x H := fun k q hk => h k q (by rw [List.getElem?_append_left (List.getElem?_eq_some_iff.mp hk).1]; exact hk)
theorem vP_r {x y : va_W} (h : va_P D ncl (x ++ y) H) : va_P D ncl y H := fun k q hk => h (x.length + k) q (by rw [List.getElem?_append_right (by omega), show x.length + k - x.length = k by omega]; exact hk)
theorem vD_l {x y : va_W} (h : va_D A (x ++ y)) : va_D A x := by
  rw [vD_nd] at h ⊢
  rw [List.map_append, List.nodup_append] at h
  exact ⟨h.1.1, fun q hq => h.2 q (List.mem_append_left _ hq)⟩
theorem vP_ap {x y : va_W} (h1 : va_P D ncl x H) (h2 : va_P D ncl y H) : va_P D ncl (x ++ y) H := by
  intro k q hk
  by_cases h : k < x.length
  · rw [List.getElem?_append_left h] at hk; exact h1 k q hk
  · rw [List.getElem?_append_right (by omega)] at hk; exact h2 _ q hk
/-- behind the call: the callee's part anew, the rest as it was -/
theorem w_backP {H1 : Heap} {u : S} {t : State} (hP : va_P D ncl (wc ++ wr) H) (hD : va_D A (wc ++ wr)) (hS : va_S A s.heap H locs) (hA : ∀ q, s.heap.size ≤ q → A q) (ht : t.heap = H1) (hB : wB D (va_A wc H.size) wf u t) (hk : ∀ q : Nat, q < H.size → ¬ va_A wc H.size q → H1[q]? = H[q]?) : va_P D ncl (wf u ++ wr) H1 ∧ va_D A (wf u ++ wr) := by
  rw [vD_nd] at hD
  rw [List.map_append, List.nodup_append] at hD
  obtain ⟨⟨d1, d2, d3⟩, d4⟩ := hD
  have hB2 := vD_nd.mp hB.2
  have hlt : ∀ q ∈ wr, q.1 < H.size := fun q hq => by
    obtain ⟨j, hj⟩ := List.getElem?_of_mem hq
    exact va_at.lt (vP_r hP j q hj)
  have hno : ∀ q ∈ wr, ¬ va_A wc H.size q.1 := fun q hq z => by
    rcases z with ⟨k, e, he⟩ | z
    · exact d3 q.1 (List.mem_map.mpr ⟨_, List.mem_of_getElem? he, rfl⟩) q.1 (List.mem_map.mpr ⟨q, hq, rfl⟩) rfl
    · exact absurd (hlt q hq) (Nat.not_lt.mpr z)
  refine ⟨vP_ap (by rw [← ht]; exact hB.1) ((vP_r hP).kept (fun k q h => hk q.1 (hlt q (List.mem_of_getElem? h)) (hno q (List.mem_of_getElem? h)))), ?_⟩
  rw [vD_nd, List.map_append, List.nodup_append]
  refine ⟨⟨hB2.1, d2, fun x hx y hy e => ?_⟩, fun q hq => ?_⟩
  · obtain ⟨q, hq, rfl⟩ := List.mem_map.mp hx
    obtain ⟨q', hq', rfl⟩ := List.mem_map.mp hy
    have := hB2.2 q hq
    rw [e] at this
    exact hno q' hq' this
  · rcases List.mem_append.mp hq with hq | hq
    · rcases hB2.2 q hq with ⟨k, e, he⟩ | z
      · exact d4 (q.1, e) (List.mem_append_left _ (List.mem_of_getElem? he))
      · exact hA _ (Nat.le_trans hS.1 z)
    · exact d4 q (List.mem_append_right _ hq)
theorem w_freeP (hD : va_D A (wc ++ wr)) (hS : va_S A s.heap H locs) (hA : ∀ q, s.heap.size ≤ q → A q) : ∀ q, va_A wc H.size q → A q := by
  intro q h
  rcases h with ⟨k, e, he⟩ | z
  · exact (vD_nd.mp hD).2 _ (List.mem_append_left _ (List.mem_of_getElem? he))
  · exact hA _ (Nat.le_trans hS.1 z)
theorem p_calli {post : Int32 → S → Prop} (hr : va_Run p l e R s m args below meth c H locs cells slots mc ms (F0 m pc ls st0) rest (va_Qi post (wB D (va_A wc H.size) wf) (va_A wc H.size) a) (va_A wc H.size)) (hP : va_P D ncl (wc ++ wr) H) (hD : va_D A (wc ++ wr)) (hS : va_S A s.heap H locs) (hA : ∀ q, s.heap.size ≤ q → A q)
    (kk : ∀ (r : Int32) (u : S) (H1 : Heap) (locs1 : List Loc), post r u → va_P D ncl (wf u ++ wr) H1 → va_D A (wf u ++ wr) → va_S A s.heap H1 locs1 → W p l e R s m args below meth c H1 locs1 (cells + mc) (slots + ms) Q (F0 m (pc + 3) ls (.int r :: rest))) : W p l e R s m args below meth c H locs cells slots Q (F0 m pc ls st0) := by
  have hF := w_freeP hD hS hA
  refine va_calli hr hS (fun q _ h => hF q h) hF (fun r u t H1 locs1 ht hvm hp hB hz hk hS1 => ?_)
  obtain ⟨h1, h2⟩ := w_backP hP hD hS hA ht hB hk
  exact kk r u H1 locs1 hp h1 h2 hS1
theorem p_calll {post : Int64 → S → Prop} (hr : va_Run p l e R s m args below meth c H locs cells slots mc ms (F0 m pc ls st0) rest (va_Ql post (wB D (va_A wc H.size) wf) (va_A wc H.size) a) (va_A wc H.size)) (hP : va_P D ncl (wc ++ wr) H) (hD : va_D A (wc ++ wr)) (hS : va_S A s.heap H locs) (hA : ∀ q, s.heap.size ≤ q → A q)
    (kk : ∀ (r : Int64) (u : S) (H1 : Heap) (locs1 : List Loc), post r u → va_P D ncl (wf u ++ wr) H1 → va_D A (wf u ++ wr) → va_S A s.heap H1 locs1 → W p l e R s m args below meth c H1 locs1 (cells + mc) (slots + ms) Q (F0 m (pc + 3) ls (.long r :: rest))) : W p l e R s m args below meth c H locs cells slots Q (F0 m pc ls st0) := by
  have hF := w_freeP hD hS hA
  refine va_calll hr hS (fun q _ h => hF q h) hF (fun r u t H1 locs1 ht hvm hp hB hz hk hS1 => ?_)
  obtain ⟨h1, h2⟩ := w_backP hP hD hS hA ht hB hk
  exact kk r u H1 locs1 hp h1 h2 hS1
theorem pt_calli {post : Int32 → S → Prop} (hr : th_Run p l e R s m args below meth c H locs cells slots mc ms (F0 m pc ls st0) rest (th_Qi post (wB D (va_A wc H.size) wf) (va_A wc H.size) (fun _ _ _ => False) a) (va_A wc H.size)) (hP : va_P D ncl (wc ++ wr) H) (hD : va_D A (wc ++ wr)) (hS : va_S A s.heap H locs) (hA : ∀ q, s.heap.size ≤ q → A q)
    (kk : ∀ (r : Int32) (u : S) (H1 : Heap) (locs1 : List Loc), post r u → va_P D ncl (wf u ++ wr) H1 → va_D A (wf u ++ wr) → va_S A s.heap H1 locs1 → W p l e R s m args below meth c H1 locs1 (cells + mc) (slots + ms) Q (F0 m (pc + 3) ls (.int r :: rest))) : W p l e R s m args below meth c H locs cells slots Q (F0 m pc ls st0) := by
  have hF := w_freeP hD hS hA
  refine th_calli hr hS (fun q _ h => hF q h) hF (fun r u t H1 locs1 ht hvm hp hB hz hk hS1 => ?_) (fun _ _ _ _ h _ => h.elim)
  obtain ⟨h1, h2⟩ := w_backP hP hD hS hA ht hB hk
  exact kk r u H1 locs1 hp h1 h2 hS1
end LP
set_option maxHeartbeats 4000000 in
set_option maxRecDepth 100000 in
theorem lc_board {p : Program} {l : Launch} {e : Env} {s : State} {m : MethodId} {below : List Frame} {meth : Method} {c : Code} {Q : State → Prop} {D : va_G} {cA sa : Nat → Nat} (Z : zE l s D cA sa) (N9 : zN s) (hx : p.tables.exec = Jvm.exec) (hb : c.code = code) (hml : c.maxLocals = 8) (hown : s.vm.findClass R_L = some m.cls) (hg : gl s s) (hK : va_K D ncl (ty0 cA) s) {b L : Nat} {xs : Nat → Int32} (hX : va_X b L xs s s.heap) (hbl : b < s.heap.size) (hL : L ≤ 4098) {a sb yA bd am : Nat → Nat} {oA : Nat} {bb : Nat → Nat → Nat} (hsa : sb 0 = a 5) (hya : yA 0 = a 6) (hbd : ∀ k, k < 4 → bd k = bb k 0) {i cl sl : Nat} (hi : i + 8 ≤ L) (hcl : cl + 5 ≤ 601024) (hsl : sl + 30 ≤ 7293000) {Pp Sp Yp Mp : St} {Bi : Nat → Nat → Int32} {Bl : Nat → Nat → Int64} {Bj : Nat → Nat → Nat → Int32} {Bk : Nat → Nat → Nat → Int64} {oF : Nat → Int64} (hI : INV Pp Sp Yp Mp Bi Bl Bk) (kk : ∀ (P1 S1 Y1 M1 : St) (Bi1 : Nat → Nat → Int32) (Bl1 : Nat → Nat → Int64) (Bj1 : Nat → Nat → Nat → Int32) (Bk1 : Nat → Nat → Nat → Int64) (oF1 : Nat → Int64) (H : Heap) (locs : List Loc), va_P D ncl (([(oA, .inl (cA 1, 1, .inr (.inl oF1)))]) ++ (w_P a cA P1.1 P1.2.1 P1.2.2.1 P1.2.2.2 bd) ++ (w_S sb cA S1.1 S1.2.1 S1.2.2.1 S1.2.2.2) ++ (w_Y yA cA Y1.1 Y1.2.1 Y1.2.2.1 Y1.2.2.2) ++ (w_M am cA M1.1 M1.2.1 M1.2.2.1 M1.2.2.2) ++ (w_B (bb 0) cA (Bi1 0) (Bl1 0) (Bj1 0) (Bk1 0)) ++ (w_B (bb 1) cA (Bi1 1) (Bl1 1) (Bj1 1) (Bk1 1)) ++ (w_B (bb 2) cA (Bi1 2) (Bl1 2) (Bj1 2) (Bk1 2)) ++ (w_B (bb 3) cA (Bi1 3) (Bl1 3) (Bj1 3) (Bk1 3))) H → va_D (fun q => s.heap.size ≤ q) (([(oA, .inl (cA 1, 1, .inr (.inl oF1)))]) ++ (w_P a cA P1.1 P1.2.1 P1.2.2.1 P1.2.2.2 bd) ++ (w_S sb cA S1.1 S1.2.1 S1.2.2.1 S1.2.2.2) ++ (w_Y yA cA Y1.1 Y1.2.1 Y1.2.2.1 Y1.2.2.2) ++ (w_M am cA M1.1 M1.2.1 M1.2.2.1 M1.2.2.2) ++ (w_B (bb 0) cA (Bi1 0) (Bl1 0) (Bj1 0) (Bk1 0)) ++ (w_B (bb 1) cA (Bi1 1) (Bl1 1) (Bj1 1) (Bk1 1)) ++ (w_B (bb 2) cA (Bi1 2) (Bl1 2) (Bj1 2) (Bk1 2)) ++ (w_B (bb 3) cA (Bi1 3) (Bl1 3) (Bj1 3) (Bk1 3))) → va_S (fun q => s.heap.size ≤ q) s.heap H locs → INV P1 S1 Y1 M1 Bi1 Bl1 Bk1 → ∀ ls : Array Slot, lv_has ls 8 [(0, .ref b), (1, .ref (a 0)), (2, .ref (am 0)), (3, .ref oA), (4, .int (nI i))] → W p l e room_1 s m #[Value.ref b] below meth c H locs (cl + 5) (sl + 30) Q (F0 m 1460 ls [])) {H : Heap} {locs : List Loc} (hP : va_P D ncl (([(oA, .inl (cA 1, 1, .inr (.inl oF)))]) ++ (w_P a cA Pp.1 Pp.2.1 Pp.2.2.1 Pp.2.2.2 bd) ++ (w_S sb cA Sp.1 Sp.2.1 Sp.2.2.1 Sp.2.2.2) ++ (w_Y yA cA Yp.1 Yp.2.1 Yp.2.2.1 Yp.2.2.2) ++ (w_M am cA Mp.1 Mp.2.1 Mp.2.2.1 Mp.2.2.2) ++ (w_B (bb 0) cA (Bi 0) (Bl 0) (Bj 0) (Bk 0)) ++ (w_B (bb 1) cA (Bi 1) (Bl 1) (Bj 1) (Bk 1)) ++ (w_B (bb 2) cA (Bi 2) (Bl 2) (Bj 2) (Bk 2)) ++ (w_B (bb 3) cA (Bi 3) (Bl 3) (Bj 3) (Bk 3))) H) (hD : va_D (fun q => s.heap.size ≤ q) (([(oA, .inl (cA 1, 1, .inr (.inl oF)))]) ++ (w_P a cA Pp.1 Pp.2.1 Pp.2.2.1 Pp.2.2.2 bd) ++ (w_S sb cA Sp.1 Sp.2.1 Sp.2.2.1 Sp.2.2.2) ++ (w_Y yA cA Yp.1 Yp.2.1 Yp.2.2.1 Yp.2.2.2) ++ (w_M am cA Mp.1 Mp.2.1 Mp.2.2.1 Mp.2.2.2) ++ (w_B (bb 0) cA (Bi 0) (Bl 0) (Bj 0) (Bk 0)) ++ (w_B (bb 1) cA (Bi 1) (Bl 1) (Bj 1) (Bk 1)) ++ (w_B (bb 2) cA (Bi 2) (Bl 2) (Bj 2) (Bk 2)) ++ (w_B (bb 3) cA (Bi 3) (Bl 3) (Bj 3) (Bk 3)))) (hS : va_S (fun q => s.heap.size ≤ q) s.heap H locs) {ls : Array Slot} (hl : lv_has ls 8 [(0, .ref b), (1, .ref (a 0)), (2, .ref (am 0)), (3, .ref oA), (4, .int (nI i))]) : W p l e room_1 s m #[Value.ref b] below meth c H locs cl sl Q (F0 m 148 ls []) := by
  have hA : ∀ q, s.heap.size ≤ q → (fun q => s.heap.size ≤ q) q := fun _ h => h
  have hlo : ∀ q, (fun q => s.heap.size ≤ q) q → s.heap.size ≤ q := fun _ h => h
  have hbA : ¬ (fun q : Nat => s.heap.size ≤ q) b := Nat.not_le.mpr hbl
  obtain ⟨w, h, nb, g, l0, y0, g0, r, nc, np, wt, X, Y, rw, bf, i1, i2, i3, i4, i5, i6, i7, i8, i9, i10, i11⟩ := id hI
  have hnb4 := i2.2.2
  refine lv_aload_n hx hb d_L_law_148 rfl (lv_at hl 1 rfl) ?_
  have hpm : List.Perm (([(oA, .inl (cA 1, 1, .inr (.inl oF)))]) ++ (w_P a cA Pp.1 Pp.2.1 Pp.2.2.1 Pp.2.2.2 bd) ++ (w_S sb cA Sp.1 Sp.2.1 Sp.2.2.1 Sp.2.2.2) ++ (w_Y yA cA Yp.1 Yp.2.1 Yp.2.2.1 Yp.2.2.2) ++ (w_M am cA Mp.1 Mp.2.1 Mp.2.2.1 Mp.2.2.2) ++ (w_B (bb 0) cA (Bi 0) (Bl 0) (Bj 0) (Bk 0)) ++ (w_B (bb 1) cA (Bi 1) (Bl 1) (Bj 1) (Bk 1)) ++ (w_B (bb 2) cA (Bi 2) (Bl 2) (Bj 2) (Bk 2)) ++ (w_B (bb 3) cA (Bi 3) (Bl 3) (Bj 3) (Bk 3))) (((w_P a cA Pp.1 Pp.2.1 Pp.2.2.1 Pp.2.2.2 bd)) ++ (([(oA, .inl (cA 1, 1, .inr (.inl oF)))]) ++ (w_S sb cA Sp.1 Sp.2.1 Sp.2.2.1 Sp.2.2.2) ++ (w_Y yA cA Yp.1 Yp.2.1 Yp.2.2.1 Yp.2.2.2) ++ (w_M am cA Mp.1 Mp.2.1 Mp.2.2.1 Mp.2.2.2) ++ (w_B (bb 0) cA (Bi 0) (Bl 0) (Bj 0) (Bk 0)) ++ (w_B (bb 1) cA (Bi 1) (Bl 1) (Bj 1) (Bk 1)) ++ (w_B (bb 2) cA (Bi 2) (Bl 2) (Bj 2) (Bk 2)) ++ (w_B (bb 3) cA (Bi 3) (Bl 3) (Bj 3) (Bk 3)))) := by simp only [List.append_assoc]; exact (List.perm_append_comm_assoc _ _ _)
  have hP := vP_perm hpm hP
  have hD := vD_perm hpm hD
  clear hpm
  refine p_calli (w_runV (rest := []) hx hb hml hown hl.1 hg hlo hK (vP_l hP) (vD_l hD) hS (m_P_board Z a Pp.1 Pp.2.1 Pp.2.2.1 Pp.2.2.2 bd nb i2.1 hnb4 H.size) (kw229 Z.1) (kw230 Z.1) (kw231 Z.1) (kw232 Z.1) (kw1 Z.1) ⟨by decide, by decide, (by decide +kernel : (parseMethodDescriptor y_P_board.desc).map (fun d => d.parameters.length) = some 0)⟩ ⟨(Nat.le_of_ble_eq_true rfl), (Nat.le_of_ble_eq_true rfl)⟩ [0, 1, 2] rfl rfl (ci := 0) (q0 := 0) rfl rfl rfl (Nat.le_of_ble_eq_true rfl) d_L_law_149 ⟨by show cl + 0 ≤ 601024; omega, by show sl + 0 ≤ 7293000; omega⟩) hP hD hS hA (fun rc uc H locs hc hP hD hS => ?_)
  refine W.widen (k := cl) (n := sl) (by show cl + 0 ≤ cl; omega) (by show sl + 0 ≤ sl; omega) ?_
  have hP : va_P D ncl (((w_P a cA uc Pp.2.1 Pp.2.2.1 Pp.2.2.2 bd)) ++ (([(oA, .inl (cA 1, 1, .inr (.inl oF)))]) ++ (w_S sb cA Sp.1 Sp.2.1 Sp.2.2.1 Sp.2.2.2) ++ (w_Y yA cA Yp.1 Yp.2.1 Yp.2.2.1 Yp.2.2.2) ++ (w_M am cA Mp.1 Mp.2.1 Mp.2.2.1 Mp.2.2.2) ++ (w_B (bb 0) cA (Bi 0) (Bl 0) (Bj 0) (Bk 0)) ++ (w_B (bb 1) cA (Bi 1) (Bl 1) (Bj 1) (Bk 1)) ++ (w_B (bb 2) cA (Bi 2) (Bl 2) (Bj 2) (Bk 2)) ++ (w_B (bb 3) cA (Bi 3) (Bl 3) (Bj 3) (Bk 3)))) H := hP
  have hD : va_D (fun q => s.heap.size ≤ q) (((w_P a cA uc Pp.2.1 Pp.2.2.1 Pp.2.2.2 bd)) ++ (([(oA, .inl (cA 1, 1, .inr (.inl oF)))]) ++ (w_S sb cA Sp.1 Sp.2.1 Sp.2.2.1 Sp.2.2.2) ++ (w_Y yA cA Yp.1 Yp.2.1 Yp.2.2.1 Yp.2.2.2) ++ (w_M am cA Mp.1 Mp.2.1 Mp.2.2.1 Mp.2.2.2) ++ (w_B (bb 0) cA (Bi 0) (Bl 0) (Bj 0) (Bk 0)) ++ (w_B (bb 1) cA (Bi 1) (Bl 1) (Bj 1) (Bk 1)) ++ (w_B (bb 2) cA (Bi 2) (Bl 2) (Bj 2) (Bk 2)) ++ (w_B (bb 3) cA (Bi 3) (Bl 3) (Bj 3) (Bk 3)))) := hD
  refine lv_aload_n hx hb d_L_law_152 rfl (lv_at hl 2 rfl) ?_
  have hpm : List.Perm (((w_P a cA uc Pp.2.1 Pp.2.2.1 Pp.2.2.2 bd)) ++ (([(oA, .inl (cA 1, 1, .inr (.inl oF)))]) ++ (w_S sb cA Sp.1 Sp.2.1 Sp.2.2.1 Sp.2.2.2) ++ (w_Y yA cA Yp.1 Yp.2.1 Yp.2.2.1 Yp.2.2.2) ++ (w_M am cA Mp.1 Mp.2.1 Mp.2.2.1 Mp.2.2.2) ++ (w_B (bb 0) cA (Bi 0) (Bl 0) (Bj 0) (Bk 0)) ++ (w_B (bb 1) cA (Bi 1) (Bl 1) (Bj 1) (Bk 1)) ++ (w_B (bb 2) cA (Bi 2) (Bl 2) (Bj 2) (Bk 2)) ++ (w_B (bb 3) cA (Bi 3) (Bl 3) (Bj 3) (Bk 3)))) (((w_M am cA Mp.1 Mp.2.1 Mp.2.2.1 Mp.2.2.2)) ++ ((w_P a cA uc Pp.2.1 Pp.2.2.1 Pp.2.2.2 bd) ++ ([(oA, .inl (cA 1, 1, .inr (.inl oF)))]) ++ (w_S sb cA Sp.1 Sp.2.1 Sp.2.2.1 Sp.2.2.2) ++ (w_Y yA cA Yp.1 Yp.2.1 Yp.2.2.1 Yp.2.2.2) ++ (w_B (bb 0) cA (Bi 0) (Bl 0) (Bj 0) (Bk 0)) ++ (w_B (bb 1) cA (Bi 1) (Bl 1) (Bj 1) (Bk 1)) ++ (w_B (bb 2) cA (Bi 2) (Bl 2) (Bj 2) (Bk 2)) ++ (w_B (bb 3) cA (Bi 3) (Bl 3) (Bj 3) (Bk 3)))) := by simp only [List.append_assoc]; exact ((List.Perm.append_left _ ((List.Perm.append_left _ ((List.Perm.append_left _ (List.perm_append_comm_assoc _ _ _)).trans (List.perm_append_comm_assoc _ _ _))).trans (List.perm_append_comm_assoc _ _ _))).trans (List.perm_append_comm_assoc _ _ _))
  have hP := vP_perm hpm hP
  have hD := vD_perm hpm hD
  clear hpm
  refine p_calli (w_runV (rest := [.int rc]) hx hb hml hown hl.1 hg hlo hK (vP_l hP) (vD_l hD) hS (m_M_board Z am Mp.1 Mp.2.1 Mp.2.2.1 Mp.2.2.2 nb i2.2.1 hnb4 H.size) (kw687 Z.1) (kw688 Z.1) (kw689 Z.1) (kw690 Z.1) (kw6 Z.1) ⟨by decide, by decide, (by decide +kernel : (parseMethodDescriptor y_M_board.desc).map (fun d => d.parameters.length) = some 0)⟩ ⟨(Nat.le_of_ble_eq_true rfl), (Nat.le_of_ble_eq_true rfl)⟩ [0, 1, 2, 3, 4, 5, 6, 7, 8, 9, 10, 11, 12, 13, 14, 15, 16] rfl rfl (ci := 1) (q0 := 0) rfl rfl rfl (Nat.le_of_ble_eq_true rfl) d_L_law_153 ⟨by show cl + 0 ≤ 601024; omega, by show sl + 0 ≤ 7293000; omega⟩) hP hD hS hA (fun rm um H locs hm hP hD hS => ?_)
  refine W.widen (k := cl) (n := sl) (by show cl + 0 ≤ cl; omega) (by show sl + 0 ≤ sl; omega) ?_
  have hP : va_P D ncl (((w_M am cA um.1 um.2.1 um.2.2.1 um.2.2.2)) ++ ((w_P a cA uc Pp.2.1 Pp.2.2.1 Pp.2.2.2 bd) ++ ([(oA, .inl (cA 1, 1, .inr (.inl oF)))]) ++ (w_S sb cA Sp.1 Sp.2.1 Sp.2.2.1 Sp.2.2.2) ++ (w_Y yA cA Yp.1 Yp.2.1 Yp.2.2.1 Yp.2.2.2) ++ (w_B (bb 0) cA (Bi 0) (Bl 0) (Bj 0) (Bk 0)) ++ (w_B (bb 1) cA (Bi 1) (Bl 1) (Bj 1) (Bk 1)) ++ (w_B (bb 2) cA (Bi 2) (Bl 2) (Bj 2) (Bk 2)) ++ (w_B (bb 3) cA (Bi 3) (Bl 3) (Bj 3) (Bk 3)))) H := hP
  have hD : va_D (fun q => s.heap.size ≤ q) (((w_M am cA um.1 um.2.1 um.2.2.1 um.2.2.2)) ++ ((w_P a cA uc Pp.2.1 Pp.2.2.1 Pp.2.2.2 bd) ++ ([(oA, .inl (cA 1, 1, .inr (.inl oF)))]) ++ (w_S sb cA Sp.1 Sp.2.1 Sp.2.2.1 Sp.2.2.2) ++ (w_Y yA cA Yp.1 Yp.2.1 Yp.2.2.1 Yp.2.2.2) ++ (w_B (bb 0) cA (Bi 0) (Bl 0) (Bj 0) (Bk 0)) ++ (w_B (bb 1) cA (Bi 1) (Bl 1) (Bj 1) (Bk 1)) ++ (w_B (bb 2) cA (Bi 2) (Bl 2) (Bj 2) (Bk 2)) ++ (w_B (bb 3) cA (Bi 3) (Bl 3) (Bj 3) (Bk 3)))) := hD
  obtain ⟨t1, t3⟩ := tie_board hI i2.1 hnb4 hc hm
  refine lv_icmp_eq (tgt := 1460) hx hb d_L_law_156 (by decide) (fun _ => ?_) (fun k1 => by first | exact absurd (show rc = rm from t1) k1 | exact absurd k1 (show rc = rm from t1))
  refine W.widen (k := cl + 5) (n := sl + 30) (by show cl + 0 ≤ cl + 5; omega) (by show sl + 0 ≤ sl + 30; omega) ?_
  have hpm : List.Perm (((w_M am cA um.1 um.2.1 um.2.2.1 um.2.2.2)) ++ ((w_P a cA uc Pp.2.1 Pp.2.2.1 Pp.2.2.2 bd) ++ ([(oA, .inl (cA 1, 1, .inr (.inl oF)))]) ++ (w_S sb cA Sp.1 Sp.2.1 Sp.2.2.1 Sp.2.2.2) ++ (w_Y yA cA Yp.1 Yp.2.1 Yp.2.2.1 Yp.2.2.2) ++ (w_B (bb 0) cA (Bi 0) (Bl 0) (Bj 0) (Bk 0)) ++ (w_B (bb 1) cA (Bi 1) (Bl 1) (Bj 1) (Bk 1)) ++ (w_B (bb 2) cA (Bi 2) (Bl 2) (Bj 2) (Bk 2)) ++ (w_B (bb 3) cA (Bi 3) (Bl 3) (Bj 3) (Bk 3)))) (([(oA, .inl (cA 1, 1, .inr (.inl oF)))]) ++ (w_P a cA uc Pp.2.1 Pp.2.2.1 Pp.2.2.2 bd) ++ (w_S sb cA Sp.1 Sp.2.1 Sp.2.2.1 Sp.2.2.2) ++ (w_Y yA cA Yp.1 Yp.2.1 Yp.2.2.1 Yp.2.2.2) ++ (w_M am cA um.1 um.2.1 um.2.2.1 um.2.2.2) ++ (w_B (bb 0) cA (Bi 0) (Bl 0) (Bj 0) (Bk 0)) ++ (w_B (bb 1) cA (Bi 1) (Bl 1) (Bj 1) (Bk 1)) ++ (w_B (bb 2) cA (Bi 2) (Bl 2) (Bj 2) (Bk 2)) ++ (w_B (bb 3) cA (Bi 3) (Bl 3) (Bj 3) (Bk 3))) := by simp only [List.append_assoc]; exact (((List.Perm.append_left _ (List.perm_append_comm_assoc _ _ _)).trans (List.perm_append_comm_assoc _ _ _)).trans (List.Perm.append_left _ ((List.perm_append_comm_assoc _ _ _).trans (List.Perm.append_left _ ((List.perm_append_comm_assoc _ _ _).trans (List.Perm.append_left _ (List.perm_append_comm_assoc _ _ _)))))))
  have hP := vP_perm hpm hP
  have hD := vD_perm hpm hD
  clear hpm
  exact kk (uc, Pp.2.1, Pp.2.2.1, Pp.2.2.2) Sp Yp um Bi Bl Bj Bk oF _ _ hP hD hS t3 ls (lv_sub hl [0, 1, 2, 3, 4] rfl)
set_option maxHeartbeats 4000000 in
set_option maxRecDepth 100000 in
theorem lc_proved {p : Program} {l : Launch} {e : Env} {s : State} {m : MethodId} {below : List Frame} {meth : Method} {c : Code} {Q : State → Prop} {D : va_G} {cA sa : Nat → Nat} (Z : zE l s D cA sa) (N9 : zN s) (hx : p.tables.exec = Jvm.exec) (hb : c.code = code) (hml : c.maxLocals = 8) (hown : s.vm.findClass R_L = some m.cls) (hg : gl s s) (hK : va_K D ncl (ty0 cA) s) {b L : Nat} {xs : Nat → Int32} (hX : va_X b L xs s s.heap) (hbl : b < s.heap.size) (hL : L ≤ 4098) {a sb yA bd am : Nat → Nat} {oA : Nat} {bb : Nat → Nat → Nat} (hsa : sb 0 = a 5) (hya : yA 0 = a 6) (hbd : ∀ k, k < 4 → bd k = bb k 0) {i cl sl : Nat} (hi : i + 8 ≤ L) (hcl : cl + 5 ≤ 601024) (hsl : sl + 30 ≤ 7293000) {Pp Sp Yp Mp : St} {Bi : Nat → Nat → Int32} {Bl : Nat → Nat → Int64} {Bj : Nat → Nat → Nat → Int32} {Bk : Nat → Nat → Nat → Int64} {oF : Nat → Int64} (hI : INV Pp Sp Yp Mp Bi Bl Bk) (kk : ∀ (P1 S1 Y1 M1 : St) (Bi1 : Nat → Nat → Int32) (Bl1 : Nat → Nat → Int64) (Bj1 : Nat → Nat → Nat → Int32) (Bk1 : Nat → Nat → Nat → Int64) (oF1 : Nat → Int64) (H : Heap) (locs : List Loc), va_P D ncl (([(oA, .inl (cA 1, 1, .inr (.inl oF1)))]) ++ (w_P a cA P1.1 P1.2.1 P1.2.2.1 P1.2.2.2 bd) ++ (w_S sb cA S1.1 S1.2.1 S1.2.2.1 S1.2.2.2) ++ (w_Y yA cA Y1.1 Y1.2.1 Y1.2.2.1 Y1.2.2.2) ++ (w_M am cA M1.1 M1.2.1 M1.2.2.1 M1.2.2.2) ++ (w_B (bb 0) cA (Bi1 0) (Bl1 0) (Bj1 0) (Bk1 0)) ++ (w_B (bb 1) cA (Bi1 1) (Bl1 1) (Bj1 1) (Bk1 1)) ++ (w_B (bb 2) cA (Bi1 2) (Bl1 2) (Bj1 2) (Bk1 2)) ++ (w_B (bb 3) cA (Bi1 3) (Bl1 3) (Bj1 3) (Bk1 3))) H → va_D (fun q => s.heap.size ≤ q) (([(oA, .inl (cA 1, 1, .inr (.inl oF1)))]) ++ (w_P a cA P1.1 P1.2.1 P1.2.2.1 P1.2.2.2 bd) ++ (w_S sb cA S1.1 S1.2.1 S1.2.2.1 S1.2.2.2) ++ (w_Y yA cA Y1.1 Y1.2.1 Y1.2.2.1 Y1.2.2.2) ++ (w_M am cA M1.1 M1.2.1 M1.2.2.1 M1.2.2.2) ++ (w_B (bb 0) cA (Bi1 0) (Bl1 0) (Bj1 0) (Bk1 0)) ++ (w_B (bb 1) cA (Bi1 1) (Bl1 1) (Bj1 1) (Bk1 1)) ++ (w_B (bb 2) cA (Bi1 2) (Bl1 2) (Bj1 2) (Bk1 2)) ++ (w_B (bb 3) cA (Bi1 3) (Bl1 3) (Bj1 3) (Bk1 3))) → va_S (fun q => s.heap.size ≤ q) s.heap H locs → INV P1 S1 Y1 M1 Bi1 Bl1 Bk1 → ∀ ls : Array Slot, lv_has ls 8 [(0, .ref b), (1, .ref (a 0)), (2, .ref (am 0)), (3, .ref oA), (4, .int (nI i))] → W p l e room_1 s m #[Value.ref b] below meth c H locs (cl + 5) (sl + 30) Q (F0 m 1460 ls [])) {H : Heap} {locs : List Loc} (hP : va_P D ncl (([(oA, .inl (cA 1, 1, .inr (.inl oF)))]) ++ (w_P a cA Pp.1 Pp.2.1 Pp.2.2.1 Pp.2.2.2 bd) ++ (w_S sb cA Sp.1 Sp.2.1 Sp.2.2.1 Sp.2.2.2) ++ (w_Y yA cA Yp.1 Yp.2.1 Yp.2.2.1 Yp.2.2.2) ++ (w_M am cA Mp.1 Mp.2.1 Mp.2.2.1 Mp.2.2.2) ++ (w_B (bb 0) cA (Bi 0) (Bl 0) (Bj 0) (Bk 0)) ++ (w_B (bb 1) cA (Bi 1) (Bl 1) (Bj 1) (Bk 1)) ++ (w_B (bb 2) cA (Bi 2) (Bl 2) (Bj 2) (Bk 2)) ++ (w_B (bb 3) cA (Bi 3) (Bl 3) (Bj 3) (Bk 3))) H) (hD : va_D (fun q => s.heap.size ≤ q) (([(oA, .inl (cA 1, 1, .inr (.inl oF)))]) ++ (w_P a cA Pp.1 Pp.2.1 Pp.2.2.1 Pp.2.2.2 bd) ++ (w_S sb cA Sp.1 Sp.2.1 Sp.2.2.1 Sp.2.2.2) ++ (w_Y yA cA Yp.1 Yp.2.1 Yp.2.2.1 Yp.2.2.2) ++ (w_M am cA Mp.1 Mp.2.1 Mp.2.2.1 Mp.2.2.2) ++ (w_B (bb 0) cA (Bi 0) (Bl 0) (Bj 0) (Bk 0)) ++ (w_B (bb 1) cA (Bi 1) (Bl 1) (Bj 1) (Bk 1)) ++ (w_B (bb 2) cA (Bi 2) (Bl 2) (Bj 2) (Bk 2)) ++ (w_B (bb 3) cA (Bi 3) (Bl 3) (Bj 3) (Bk 3)))) (hS : va_S (fun q => s.heap.size ≤ q) s.heap H locs) {ls : Array Slot} (hl : lv_has ls 8 [(0, .ref b), (1, .ref (a 0)), (2, .ref (am 0)), (3, .ref oA), (4, .int (nI i))]) : W p l e room_1 s m #[Value.ref b] below meth c H locs cl sl Q (F0 m 479 ls []) := by
  have hA : ∀ q, s.heap.size ≤ q → (fun q => s.heap.size ≤ q) q := fun _ h => h
  have hlo : ∀ q, (fun q => s.heap.size ≤ q) q → s.heap.size ≤ q := fun _ h => h
  have hbA : ¬ (fun q : Nat => s.heap.size ≤ q) b := Nat.not_le.mpr hbl
  obtain ⟨w, h, nb, g, l0, y0, g0, r, nc, np, wt, X, Y, rw, bf, i1, i2, i3, i4, i5, i6, i7, i8, i9, i10, i11⟩ := id hI
  have hnb4 := i2.2.2
  refine lv_aload_n hx hb d_L_law_479 rfl (lv_at hl 1 rfl) ?_
  have hpm : List.Perm (([(oA, .inl (cA 1, 1, .inr (.inl oF)))]) ++ (w_P a cA Pp.1 Pp.2.1 Pp.2.2.1 Pp.2.2.2 bd) ++ (w_S sb cA Sp.1 Sp.2.1 Sp.2.2.1 Sp.2.2.2) ++ (w_Y yA cA Yp.1 Yp.2.1 Yp.2.2.1 Yp.2.2.2) ++ (w_M am cA Mp.1 Mp.2.1 Mp.2.2.1 Mp.2.2.2) ++ (w_B (bb 0) cA (Bi 0) (Bl 0) (Bj 0) (Bk 0)) ++ (w_B (bb 1) cA (Bi 1) (Bl 1) (Bj 1) (Bk 1)) ++ (w_B (bb 2) cA (Bi 2) (Bl 2) (Bj 2) (Bk 2)) ++ (w_B (bb 3) cA (Bi 3) (Bl 3) (Bj 3) (Bk 3))) (((w_P a cA Pp.1 Pp.2.1 Pp.2.2.1 Pp.2.2.2 bd)) ++ (([(oA, .inl (cA 1, 1, .inr (.inl oF)))]) ++ (w_S sb cA Sp.1 Sp.2.1 Sp.2.2.1 Sp.2.2.2) ++ (w_Y yA cA Yp.1 Yp.2.1 Yp.2.2.1 Yp.2.2.2) ++ (w_M am cA Mp.1 Mp.2.1 Mp.2.2.1 Mp.2.2.2) ++ (w_B (bb 0) cA (Bi 0) (Bl 0) (Bj 0) (Bk 0)) ++ (w_B (bb 1) cA (Bi 1) (Bl 1) (Bj 1) (Bk 1)) ++ (w_B (bb 2) cA (Bi 2) (Bl 2) (Bj 2) (Bk 2)) ++ (w_B (bb 3) cA (Bi 3) (Bl 3) (Bj 3) (Bk 3)))) := by simp only [List.append_assoc]; exact (List.perm_append_comm_assoc _ _ _)
  have hP := vP_perm hpm hP
  have hD := vD_perm hpm hD
  clear hpm
  refine p_calli (w_runV (rest := []) hx hb hml hown hl.1 hg hlo hK (vP_l hP) (vD_l hD) hS (m_P_proved Z a Pp.1 Pp.2.1 Pp.2.2.1 Pp.2.2.2 bd i5.2 H.size) (kw233 Z.1) (kw234 Z.1) (kw235 Z.1) (kw236 Z.1) (kw1 Z.1) ⟨by decide, by decide, (by decide +kernel : (parseMethodDescriptor y_P_proved.desc).map (fun d => d.parameters.length) = some 0)⟩ ⟨(Nat.le_of_ble_eq_true rfl), (Nat.le_of_ble_eq_true rfl)⟩ [0, 1, 2] rfl rfl (ci := 0) (q0 := 0) rfl rfl rfl (Nat.le_of_ble_eq_true rfl) d_L_law_480 ⟨by show cl + 0 ≤ 601024; omega, by show sl + 0 ≤ 7293000; omega⟩) hP hD hS hA (fun rc uc H locs hc hP hD hS => ?_)
  refine W.widen (k := cl) (n := sl) (by show cl + 0 ≤ cl; omega) (by show sl + 0 ≤ sl; omega) ?_
  have hP : va_P D ncl (((w_P a cA Pp.1 Pp.2.1 Pp.2.2.1 Pp.2.2.2 bd)) ++ (([(oA, .inl (cA 1, 1, .inr (.inl oF)))]) ++ (w_S sb cA Sp.1 Sp.2.1 Sp.2.2.1 Sp.2.2.2) ++ (w_Y yA cA Yp.1 Yp.2.1 Yp.2.2.1 Yp.2.2.2) ++ (w_M am cA Mp.1 Mp.2.1 Mp.2.2.1 Mp.2.2.2) ++ (w_B (bb 0) cA (Bi 0) (Bl 0) (Bj 0) (Bk 0)) ++ (w_B (bb 1) cA (Bi 1) (Bl 1) (Bj 1) (Bk 1)) ++ (w_B (bb 2) cA (Bi 2) (Bl 2) (Bj 2) (Bk 2)) ++ (w_B (bb 3) cA (Bi 3) (Bl 3) (Bj 3) (Bk 3)))) H := hP
  have hD : va_D (fun q => s.heap.size ≤ q) (((w_P a cA Pp.1 Pp.2.1 Pp.2.2.1 Pp.2.2.2 bd)) ++ (([(oA, .inl (cA 1, 1, .inr (.inl oF)))]) ++ (w_S sb cA Sp.1 Sp.2.1 Sp.2.2.1 Sp.2.2.2) ++ (w_Y yA cA Yp.1 Yp.2.1 Yp.2.2.1 Yp.2.2.2) ++ (w_M am cA Mp.1 Mp.2.1 Mp.2.2.1 Mp.2.2.2) ++ (w_B (bb 0) cA (Bi 0) (Bl 0) (Bj 0) (Bk 0)) ++ (w_B (bb 1) cA (Bi 1) (Bl 1) (Bj 1) (Bk 1)) ++ (w_B (bb 2) cA (Bi 2) (Bl 2) (Bj 2) (Bk 2)) ++ (w_B (bb 3) cA (Bi 3) (Bl 3) (Bj 3) (Bk 3)))) := hD
  refine lv_aload_n hx hb d_L_law_483 rfl (lv_at hl 2 rfl) ?_
  have hpm : List.Perm (((w_P a cA Pp.1 Pp.2.1 Pp.2.2.1 Pp.2.2.2 bd)) ++ (([(oA, .inl (cA 1, 1, .inr (.inl oF)))]) ++ (w_S sb cA Sp.1 Sp.2.1 Sp.2.2.1 Sp.2.2.2) ++ (w_Y yA cA Yp.1 Yp.2.1 Yp.2.2.1 Yp.2.2.2) ++ (w_M am cA Mp.1 Mp.2.1 Mp.2.2.1 Mp.2.2.2) ++ (w_B (bb 0) cA (Bi 0) (Bl 0) (Bj 0) (Bk 0)) ++ (w_B (bb 1) cA (Bi 1) (Bl 1) (Bj 1) (Bk 1)) ++ (w_B (bb 2) cA (Bi 2) (Bl 2) (Bj 2) (Bk 2)) ++ (w_B (bb 3) cA (Bi 3) (Bl 3) (Bj 3) (Bk 3)))) (((w_M am cA Mp.1 Mp.2.1 Mp.2.2.1 Mp.2.2.2)) ++ ((w_P a cA Pp.1 Pp.2.1 Pp.2.2.1 Pp.2.2.2 bd) ++ ([(oA, .inl (cA 1, 1, .inr (.inl oF)))]) ++ (w_S sb cA Sp.1 Sp.2.1 Sp.2.2.1 Sp.2.2.2) ++ (w_Y yA cA Yp.1 Yp.2.1 Yp.2.2.1 Yp.2.2.2) ++ (w_B (bb 0) cA (Bi 0) (Bl 0) (Bj 0) (Bk 0)) ++ (w_B (bb 1) cA (Bi 1) (Bl 1) (Bj 1) (Bk 1)) ++ (w_B (bb 2) cA (Bi 2) (Bl 2) (Bj 2) (Bk 2)) ++ (w_B (bb 3) cA (Bi 3) (Bl 3) (Bj 3) (Bk 3)))) := by simp only [List.append_assoc]; exact ((List.Perm.append_left _ ((List.Perm.append_left _ ((List.Perm.append_left _ (List.perm_append_comm_assoc _ _ _)).trans (List.perm_append_comm_assoc _ _ _))).trans (List.perm_append_comm_assoc _ _ _))).trans (List.perm_append_comm_assoc _ _ _))
  have hP := vP_perm hpm hP
  have hD := vD_perm hpm hD
  clear hpm
  refine p_calli (w_runV (rest := [.int rc]) hx hb hml hown hl.1 hg hlo hK (vP_l hP) (vD_l hD) hS (m_M_proved Z am Mp.1 Mp.2.1 Mp.2.2.1 Mp.2.2.2 (by rw [← i5.1]; exact i5.2) H.size) (kw780 Z.1) (kw781 Z.1) (kw782 Z.1) (kw783 Z.1) (kw6 Z.1) ⟨by decide, by decide, (by decide +kernel : (parseMethodDescriptor y_M_proved.desc).map (fun d => d.parameters.length) = some 0)⟩ ⟨(Nat.le_of_ble_eq_true rfl), (Nat.le_of_ble_eq_true rfl)⟩ [0, 1, 2, 3, 4, 5, 6, 7, 8, 9, 10, 11, 12, 13, 14, 15, 16] rfl rfl (ci := 1) (q0 := 0) rfl rfl rfl (Nat.le_of_ble_eq_true rfl) d_L_law_484 ⟨by show cl + 0 ≤ 601024; omega, by show sl + 0 ≤ 7293000; omega⟩) hP hD hS hA (fun rm um H locs hm hP hD hS => ?_)
  refine W.widen (k := cl) (n := sl) (by show cl + 0 ≤ cl; omega) (by show sl + 0 ≤ sl; omega) ?_
  have hP : va_P D ncl (((w_M am cA um.1 um.2.1 um.2.2.1 um.2.2.2)) ++ ((w_P a cA Pp.1 Pp.2.1 Pp.2.2.1 Pp.2.2.2 bd) ++ ([(oA, .inl (cA 1, 1, .inr (.inl oF)))]) ++ (w_S sb cA Sp.1 Sp.2.1 Sp.2.2.1 Sp.2.2.2) ++ (w_Y yA cA Yp.1 Yp.2.1 Yp.2.2.1 Yp.2.2.2) ++ (w_B (bb 0) cA (Bi 0) (Bl 0) (Bj 0) (Bk 0)) ++ (w_B (bb 1) cA (Bi 1) (Bl 1) (Bj 1) (Bk 1)) ++ (w_B (bb 2) cA (Bi 2) (Bl 2) (Bj 2) (Bk 2)) ++ (w_B (bb 3) cA (Bi 3) (Bl 3) (Bj 3) (Bk 3)))) H := hP
  have hD : va_D (fun q => s.heap.size ≤ q) (((w_M am cA um.1 um.2.1 um.2.2.1 um.2.2.2)) ++ ((w_P a cA Pp.1 Pp.2.1 Pp.2.2.1 Pp.2.2.2 bd) ++ ([(oA, .inl (cA 1, 1, .inr (.inl oF)))]) ++ (w_S sb cA Sp.1 Sp.2.1 Sp.2.2.1 Sp.2.2.2) ++ (w_Y yA cA Yp.1 Yp.2.1 Yp.2.2.1 Yp.2.2.2) ++ (w_B (bb 0) cA (Bi 0) (Bl 0) (Bj 0) (Bk 0)) ++ (w_B (bb 1) cA (Bi 1) (Bl 1) (Bj 1) (Bk 1)) ++ (w_B (bb 2) cA (Bi 2) (Bl 2) (Bj 2) (Bk 2)) ++ (w_B (bb 3) cA (Bi 3) (Bl 3) (Bj 3) (Bk 3)))) := hD
  obtain ⟨t1, t3⟩ : rc = rm ∧ INV Pp Sp Yp um Bi Bl Bk := ⟨by rw [hc, hm.1]; exact i5.1, by rw [hm.2]; exact inv_0 0 hI⟩
  refine lv_icmp_eq (tgt := 1460) hx hb d_L_law_487 (by decide) (fun _ => ?_) (fun k1 => by first | exact absurd (show rc = rm from t1) k1 | exact absurd k1 (show rc = rm from t1))
  refine W.widen (k := cl + 5) (n := sl + 30) (by show cl + 0 ≤ cl + 5; omega) (by show sl + 0 ≤ sl + 30; omega) ?_
  have hpm : List.Perm (((w_M am cA um.1 um.2.1 um.2.2.1 um.2.2.2)) ++ ((w_P a cA Pp.1 Pp.2.1 Pp.2.2.1 Pp.2.2.2 bd) ++ ([(oA, .inl (cA 1, 1, .inr (.inl oF)))]) ++ (w_S sb cA Sp.1 Sp.2.1 Sp.2.2.1 Sp.2.2.2) ++ (w_Y yA cA Yp.1 Yp.2.1 Yp.2.2.1 Yp.2.2.2) ++ (w_B (bb 0) cA (Bi 0) (Bl 0) (Bj 0) (Bk 0)) ++ (w_B (bb 1) cA (Bi 1) (Bl 1) (Bj 1) (Bk 1)) ++ (w_B (bb 2) cA (Bi 2) (Bl 2) (Bj 2) (Bk 2)) ++ (w_B (bb 3) cA (Bi 3) (Bl 3) (Bj 3) (Bk 3)))) (([(oA, .inl (cA 1, 1, .inr (.inl oF)))]) ++ (w_P a cA Pp.1 Pp.2.1 Pp.2.2.1 Pp.2.2.2 bd) ++ (w_S sb cA Sp.1 Sp.2.1 Sp.2.2.1 Sp.2.2.2) ++ (w_Y yA cA Yp.1 Yp.2.1 Yp.2.2.1 Yp.2.2.2) ++ (w_M am cA um.1 um.2.1 um.2.2.1 um.2.2.2) ++ (w_B (bb 0) cA (Bi 0) (Bl 0) (Bj 0) (Bk 0)) ++ (w_B (bb 1) cA (Bi 1) (Bl 1) (Bj 1) (Bk 1)) ++ (w_B (bb 2) cA (Bi 2) (Bl 2) (Bj 2) (Bk 2)) ++ (w_B (bb 3) cA (Bi 3) (Bl 3) (Bj 3) (Bk 3))) := by simp only [List.append_assoc]; exact (((List.Perm.append_left _ (List.perm_append_comm_assoc _ _ _)).trans (List.perm_append_comm_assoc _ _ _)).trans (List.Perm.append_left _ ((List.perm_append_comm_assoc _ _ _).trans (List.Perm.append_left _ ((List.perm_append_comm_assoc _ _ _).trans (List.Perm.append_left _ (List.perm_append_comm_assoc _ _ _)))))))
  have hP := vP_perm hpm hP
  have hD := vD_perm hpm hD
  clear hpm
  exact kk Pp Sp Yp um Bi Bl Bj Bk oF _ _ hP hD hS t3 ls (lv_sub hl [0, 1, 2, 3, 4] rfl)
set_option maxHeartbeats 4000000 in
set_option maxRecDepth 100000 in
theorem lc_overlaps {p : Program} {l : Launch} {e : Env} {s : State} {m : MethodId} {below : List Frame} {meth : Method} {c : Code} {Q : State → Prop} {D : va_G} {cA sa : Nat → Nat} (Z : zE l s D cA sa) (N9 : zN s) (hx : p.tables.exec = Jvm.exec) (hb : c.code = code) (hml : c.maxLocals = 8) (hown : s.vm.findClass R_L = some m.cls) (hg : gl s s) (hK : va_K D ncl (ty0 cA) s) {b L : Nat} {xs : Nat → Int32} (hX : va_X b L xs s s.heap) (hbl : b < s.heap.size) (hL : L ≤ 4098) {a sb yA bd am : Nat → Nat} {oA : Nat} {bb : Nat → Nat → Nat} (hsa : sb 0 = a 5) (hya : yA 0 = a 6) (hbd : ∀ k, k < 4 → bd k = bb k 0) {i cl sl : Nat} (hi : i + 8 ≤ L) (hcl : cl + 5 ≤ 601024) (hsl : sl + 30 ≤ 7293000) {Pp Sp Yp Mp : St} {Bi : Nat → Nat → Int32} {Bl : Nat → Nat → Int64} {Bj : Nat → Nat → Nat → Int32} {Bk : Nat → Nat → Nat → Int64} {oF : Nat → Int64} (hI : INV Pp Sp Yp Mp Bi Bl Bk) (kk : ∀ (P1 S1 Y1 M1 : St) (Bi1 : Nat → Nat → Int32) (Bl1 : Nat → Nat → Int64) (Bj1 : Nat → Nat → Nat → Int32) (Bk1 : Nat → Nat → Nat → Int64) (oF1 : Nat → Int64) (H : Heap) (locs : List Loc), va_P D ncl (([(oA, .inl (cA 1, 1, .inr (.inl oF1)))]) ++ (w_P a cA P1.1 P1.2.1 P1.2.2.1 P1.2.2.2 bd) ++ (w_S sb cA S1.1 S1.2.1 S1.2.2.1 S1.2.2.2) ++ (w_Y yA cA Y1.1 Y1.2.1 Y1.2.2.1 Y1.2.2.2) ++ (w_M am cA M1.1 M1.2.1 M1.2.2.1 M1.2.2.2) ++ (w_B (bb 0) cA (Bi1 0) (Bl1 0) (Bj1 0) (Bk1 0)) ++ (w_B (bb 1) cA (Bi1 1) (Bl1 1) (Bj1 1) (Bk1 1)) ++ (w_B (bb 2) cA (Bi1 2) (Bl1 2) (Bj1 2) (Bk1 2)) ++ (w_B (bb 3) cA (Bi1 3) (Bl1 3) (Bj1 3) (Bk1 3))) H → va_D (fun q => s.heap.size ≤ q) (([(oA, .inl (cA 1, 1, .inr (.inl oF1)))]) ++ (w_P a cA P1.1 P1.2.1 P1.2.2.1 P1.2.2.2 bd) ++ (w_S sb cA S1.1 S1.2.1 S1.2.2.1 S1.2.2.2) ++ (w_Y yA cA Y1.1 Y1.2.1 Y1.2.2.1 Y1.2.2.2) ++ (w_M am cA M1.1 M1.2.1 M1.2.2.1 M1.2.2.2) ++ (w_B (bb 0) cA (Bi1 0) (Bl1 0) (Bj1 0) (Bk1 0)) ++ (w_B (bb 1) cA (Bi1 1) (Bl1 1) (Bj1 1) (Bk1 1)) ++ (w_B (bb 2) cA (Bi1 2) (Bl1 2) (Bj1 2) (Bk1 2)) ++ (w_B (bb 3) cA (Bi1 3) (Bl1 3) (Bj1 3) (Bk1 3))) → va_S (fun q => s.heap.size ≤ q) s.heap H locs → INV P1 S1 Y1 M1 Bi1 Bl1 Bk1 → ∀ ls : Array Slot, lv_has ls 8 [(0, .ref b), (1, .ref (a 0)), (2, .ref (am 0)), (3, .ref oA), (4, .int (nI i))] → W p l e room_1 s m #[Value.ref b] below meth c H locs (cl + 5) (sl + 30) Q (F0 m 1460 ls [])) {H : Heap} {locs : List Loc} (hP : va_P D ncl (([(oA, .inl (cA 1, 1, .inr (.inl oF)))]) ++ (w_P a cA Pp.1 Pp.2.1 Pp.2.2.1 Pp.2.2.2 bd) ++ (w_S sb cA Sp.1 Sp.2.1 Sp.2.2.1 Sp.2.2.2) ++ (w_Y yA cA Yp.1 Yp.2.1 Yp.2.2.1 Yp.2.2.2) ++ (w_M am cA Mp.1 Mp.2.1 Mp.2.2.1 Mp.2.2.2) ++ (w_B (bb 0) cA (Bi 0) (Bl 0) (Bj 0) (Bk 0)) ++ (w_B (bb 1) cA (Bi 1) (Bl 1) (Bj 1) (Bk 1)) ++ (w_B (bb 2) cA (Bi 2) (Bl 2) (Bj 2) (Bk 2)) ++ (w_B (bb 3) cA (Bi 3) (Bl 3) (Bj 3) (Bk 3))) H) (hD : va_D (fun q => s.heap.size ≤ q) (([(oA, .inl (cA 1, 1, .inr (.inl oF)))]) ++ (w_P a cA Pp.1 Pp.2.1 Pp.2.2.1 Pp.2.2.2 bd) ++ (w_S sb cA Sp.1 Sp.2.1 Sp.2.2.1 Sp.2.2.2) ++ (w_Y yA cA Yp.1 Yp.2.1 Yp.2.2.1 Yp.2.2.2) ++ (w_M am cA Mp.1 Mp.2.1 Mp.2.2.1 Mp.2.2.2) ++ (w_B (bb 0) cA (Bi 0) (Bl 0) (Bj 0) (Bk 0)) ++ (w_B (bb 1) cA (Bi 1) (Bl 1) (Bj 1) (Bk 1)) ++ (w_B (bb 2) cA (Bi 2) (Bl 2) (Bj 2) (Bk 2)) ++ (w_B (bb 3) cA (Bi 3) (Bl 3) (Bj 3) (Bk 3)))) (hS : va_S (fun q => s.heap.size ≤ q) s.heap H locs) {ls : Array Slot} (hl : lv_has ls 8 [(0, .ref b), (1, .ref (a 0)), (2, .ref (am 0)), (3, .ref oA), (4, .int (nI i))]) : W p l e room_1 s m #[Value.ref b] below meth c H locs cl sl Q (F0 m 1347 ls []) := by
  have hA : ∀ q, s.heap.size ≤ q → (fun q => s.heap.size ≤ q) q := fun _ h => h
  have hlo : ∀ q, (fun q => s.heap.size ≤ q) q → s.heap.size ≤ q := fun _ h => h
  have hbA : ¬ (fun q : Nat => s.heap.size ≤ q) b := Nat.not_le.mpr hbl
  obtain ⟨w, h, nb, g, l0, y0, g0, r, nc, np, wt, X, Y, rw, bf, i1, i2, i3, i4, i5, i6, i7, i8, i9, i10, i11⟩ := id hI
  have hnb4 := i2.2.2
  refine lv_aload_n hx hb d_L_law_1347 rfl (lv_at hl 1 rfl) ?_
  have hpm : List.Perm (([(oA, .inl (cA 1, 1, .inr (.inl oF)))]) ++ (w_P a cA Pp.1 Pp.2.1 Pp.2.2.1 Pp.2.2.2 bd) ++ (w_S sb cA Sp.1 Sp.2.1 Sp.2.2.1 Sp.2.2.2) ++ (w_Y yA cA Yp.1 Yp.2.1 Yp.2.2.1 Yp.2.2.2) ++ (w_M am cA Mp.1 Mp.2.1 Mp.2.2.1 Mp.2.2.2) ++ (w_B (bb 0) cA (Bi 0) (Bl 0) (Bj 0) (Bk 0)) ++ (w_B (bb 1) cA (Bi 1) (Bl 1) (Bj 1) (Bk 1)) ++ (w_B (bb 2) cA (Bi 2) (Bl 2) (Bj 2) (Bk 2)) ++ (w_B (bb 3) cA (Bi 3) (Bl 3) (Bj 3) (Bk 3))) (((w_P a cA Pp.1 Pp.2.1 Pp.2.2.1 Pp.2.2.2 bd)) ++ (([(oA, .inl (cA 1, 1, .inr (.inl oF)))]) ++ (w_S sb cA Sp.1 Sp.2.1 Sp.2.2.1 Sp.2.2.2) ++ (w_Y yA cA Yp.1 Yp.2.1 Yp.2.2.1 Yp.2.2.2) ++ (w_M am cA Mp.1 Mp.2.1 Mp.2.2.1 Mp.2.2.2) ++ (w_B (bb 0) cA (Bi 0) (Bl 0) (Bj 0) (Bk 0)) ++ (w_B (bb 1) cA (Bi 1) (Bl 1) (Bj 1) (Bk 1)) ++ (w_B (bb 2) cA (Bi 2) (Bl 2) (Bj 2) (Bk 2)) ++ (w_B (bb 3) cA (Bi 3) (Bl 3) (Bj 3) (Bk 3)))) := by simp only [List.append_assoc]; exact (List.perm_append_comm_assoc _ _ _)
  have hP := vP_perm hpm hP
  have hD := vD_perm hpm hD
  clear hpm
  refine p_calli (w_runV (rest := []) hx hb hml hown hl.1 hg hlo hK (vP_l hP) (vD_l hD) hS (m_P_overlaps Z a Pp.1 Pp.2.1 Pp.2.2.1 Pp.2.2.2 bd H.size) (kw237 Z.1) (kw238 Z.1) (kw239 Z.1) (kw240 Z.1) (kw1 Z.1) ⟨by decide, by decide, (by decide +kernel : (parseMethodDescriptor y_P_overlaps.desc).map (fun d => d.parameters.length) = some 0)⟩ ⟨(Nat.le_of_ble_eq_true rfl), (Nat.le_of_ble_eq_true rfl)⟩ [0, 1, 2] rfl rfl (ci := 0) (q0 := 0) rfl rfl rfl (Nat.le_of_ble_eq_true rfl) d_L_law_1348 ⟨by show cl + 0 ≤ 601024; omega, by show sl + 0 ≤ 7293000; omega⟩) hP hD hS hA (fun rc uc H locs hc hP hD hS => ?_)
  refine W.widen (k := cl) (n := sl) (by show cl + 0 ≤ cl; omega) (by show sl + 0 ≤ sl; omega) ?_
  have hP : va_P D ncl (((w_P a cA Pp.1 Pp.2.1 Pp.2.2.1 Pp.2.2.2 bd)) ++ (([(oA, .inl (cA 1, 1, .inr (.inl oF)))]) ++ (w_S sb cA Sp.1 Sp.2.1 Sp.2.2.1 Sp.2.2.2) ++ (w_Y yA cA Yp.1 Yp.2.1 Yp.2.2.1 Yp.2.2.2) ++ (w_M am cA Mp.1 Mp.2.1 Mp.2.2.1 Mp.2.2.2) ++ (w_B (bb 0) cA (Bi 0) (Bl 0) (Bj 0) (Bk 0)) ++ (w_B (bb 1) cA (Bi 1) (Bl 1) (Bj 1) (Bk 1)) ++ (w_B (bb 2) cA (Bi 2) (Bl 2) (Bj 2) (Bk 2)) ++ (w_B (bb 3) cA (Bi 3) (Bl 3) (Bj 3) (Bk 3)))) H := hP
  have hD : va_D (fun q => s.heap.size ≤ q) (((w_P a cA Pp.1 Pp.2.1 Pp.2.2.1 Pp.2.2.2 bd)) ++ (([(oA, .inl (cA 1, 1, .inr (.inl oF)))]) ++ (w_S sb cA Sp.1 Sp.2.1 Sp.2.2.1 Sp.2.2.2) ++ (w_Y yA cA Yp.1 Yp.2.1 Yp.2.2.1 Yp.2.2.2) ++ (w_M am cA Mp.1 Mp.2.1 Mp.2.2.1 Mp.2.2.2) ++ (w_B (bb 0) cA (Bi 0) (Bl 0) (Bj 0) (Bk 0)) ++ (w_B (bb 1) cA (Bi 1) (Bl 1) (Bj 1) (Bk 1)) ++ (w_B (bb 2) cA (Bi 2) (Bl 2) (Bj 2) (Bk 2)) ++ (w_B (bb 3) cA (Bi 3) (Bl 3) (Bj 3) (Bk 3)))) := hD
  refine lv_aload_n hx hb d_L_law_1351 rfl (lv_at hl 2 rfl) ?_
  have hpm : List.Perm (((w_P a cA Pp.1 Pp.2.1 Pp.2.2.1 Pp.2.2.2 bd)) ++ (([(oA, .inl (cA 1, 1, .inr (.inl oF)))]) ++ (w_S sb cA Sp.1 Sp.2.1 Sp.2.2.1 Sp.2.2.2) ++ (w_Y yA cA Yp.1 Yp.2.1 Yp.2.2.1 Yp.2.2.2) ++ (w_M am cA Mp.1 Mp.2.1 Mp.2.2.1 Mp.2.2.2) ++ (w_B (bb 0) cA (Bi 0) (Bl 0) (Bj 0) (Bk 0)) ++ (w_B (bb 1) cA (Bi 1) (Bl 1) (Bj 1) (Bk 1)) ++ (w_B (bb 2) cA (Bi 2) (Bl 2) (Bj 2) (Bk 2)) ++ (w_B (bb 3) cA (Bi 3) (Bl 3) (Bj 3) (Bk 3)))) (((w_M am cA Mp.1 Mp.2.1 Mp.2.2.1 Mp.2.2.2)) ++ ((w_P a cA Pp.1 Pp.2.1 Pp.2.2.1 Pp.2.2.2 bd) ++ ([(oA, .inl (cA 1, 1, .inr (.inl oF)))]) ++ (w_S sb cA Sp.1 Sp.2.1 Sp.2.2.1 Sp.2.2.2) ++ (w_Y yA cA Yp.1 Yp.2.1 Yp.2.2.1 Yp.2.2.2) ++ (w_B (bb 0) cA (Bi 0) (Bl 0) (Bj 0) (Bk 0)) ++ (w_B (bb 1) cA (Bi 1) (Bl 1) (Bj 1) (Bk 1)) ++ (w_B (bb 2) cA (Bi 2) (Bl 2) (Bj 2) (Bk 2)) ++ (w_B (bb 3) cA (Bi 3) (Bl 3) (Bj 3) (Bk 3)))) := by simp only [List.append_assoc]; exact ((List.Perm.append_left _ ((List.Perm.append_left _ ((List.Perm.append_left _ (List.perm_append_comm_assoc _ _ _)).trans (List.perm_append_comm_assoc _ _ _))).trans (List.perm_append_comm_assoc _ _ _))).trans (List.perm_append_comm_assoc _ _ _))
  have hP := vP_perm hpm hP
  have hD := vD_perm hpm hD
  clear hpm
  refine p_calli (w_runV (rest := [.int rc]) hx hb hml hown hl.1 hg hlo hK (vP_l hP) (vD_l hD) hS (m_M_overlaps Z am Mp.1 Mp.2.1 Mp.2.2.1 Mp.2.2.2  H.size) (kw830 Z.1) (kw831 Z.1) (kw832 Z.1) (kw833 Z.1) (kw6 Z.1) ⟨by decide, by decide, (by decide +kernel : (parseMethodDescriptor y_M_overlaps.desc).map (fun d => d.parameters.length) = some 0)⟩ ⟨(Nat.le_of_ble_eq_true rfl), (Nat.le_of_ble_eq_true rfl)⟩ [0, 1, 2, 3, 4, 5, 6, 7, 8, 9, 10, 11, 12, 13, 14, 15, 16] rfl rfl (ci := 1) (q0 := 0) rfl rfl rfl (Nat.le_of_ble_eq_true rfl) d_L_law_1352 ⟨by show cl + 0 ≤ 601024; omega, by show sl + 0 ≤ 7293000; omega⟩) hP hD hS hA (fun rm um H locs hm hP hD hS => ?_)
  refine W.widen (k := cl) (n := sl) (by show cl + 0 ≤ cl; omega) (by show sl + 0 ≤ sl; omega) ?_
  have hP : va_P D ncl (((w_M am cA um.1 um.2.1 um.2.2.1 um.2.2.2)) ++ ((w_P a cA Pp.1 Pp.2.1 Pp.2.2.1 Pp.2.2.2 bd) ++ ([(oA, .inl (cA 1, 1, .inr (.inl oF)))]) ++ (w_S sb cA Sp.1 Sp.2.1 Sp.2.2.1 Sp.2.2.2) ++ (w_Y yA cA Yp.1 Yp.2.1 Yp.2.2.1 Yp.2.2.2) ++ (w_B (bb 0) cA (Bi 0) (Bl 0) (Bj 0) (Bk 0)) ++ (w_B (bb 1) cA (Bi 1) (Bl 1) (Bj 1) (Bk 1)) ++ (w_B (bb 2) cA (Bi 2) (Bl 2) (Bj 2) (Bk 2)) ++ (w_B (bb 3) cA (Bi 3) (Bl 3) (Bj 3) (Bk 3)))) H := hP
  have hD : va_D (fun q => s.heap.size ≤ q) (((w_M am cA um.1 um.2.1 um.2.2.1 um.2.2.2)) ++ ((w_P a cA Pp.1 Pp.2.1 Pp.2.2.1 Pp.2.2.2 bd) ++ ([(oA, .inl (cA 1, 1, .inr (.inl oF)))]) ++ (w_S sb cA Sp.1 Sp.2.1 Sp.2.2.1 Sp.2.2.2) ++ (w_Y yA cA Yp.1 Yp.2.1 Yp.2.2.1 Yp.2.2.2) ++ (w_B (bb 0) cA (Bi 0) (Bl 0) (Bj 0) (Bk 0)) ++ (w_B (bb 1) cA (Bi 1) (Bl 1) (Bj 1) (Bk 1)) ++ (w_B (bb 2) cA (Bi 2) (Bl 2) (Bj 2) (Bk 2)) ++ (w_B (bb 3) cA (Bi 3) (Bl 3) (Bj 3) (Bk 3)))) := hD
  obtain ⟨t1, t3⟩ : rc = rm ∧ INV Pp Sp Yp um Bi Bl Bk := ⟨by rw [hc, hm.1], by rw [hm.2]; exact inv_0 0 hI⟩
  refine lv_icmp_eq (tgt := 1460) hx hb d_L_law_1355 (by decide) (fun _ => ?_) (fun k1 => by first | exact absurd (show rc = rm from t1) k1 | exact absurd k1 (show rc = rm from t1))
  refine W.widen (k := cl + 5) (n := sl + 30) (by show cl + 0 ≤ cl + 5; omega) (by show sl + 0 ≤ sl + 30; omega) ?_
  have hpm : List.Perm (((w_M am cA um.1 um.2.1 um.2.2.1 um.2.2.2)) ++ ((w_P a cA Pp.1 Pp.2.1 Pp.2.2.1 Pp.2.2.2 bd) ++ ([(oA, .inl (cA 1, 1, .inr (.inl oF)))]) ++ (w_S sb cA Sp.1 Sp.2.1 Sp.2.2.1 Sp.2.2.2) ++ (w_Y yA cA Yp.1 Yp.2.1 Yp.2.2.1 Yp.2.2.2) ++ (w_B (bb 0) cA (Bi 0) (Bl 0) (Bj 0) (Bk 0)) ++ (w_B (bb 1) cA (Bi 1) (Bl 1) (Bj 1) (Bk 1)) ++ (w_B (bb 2) cA (Bi 2) (Bl 2) (Bj 2) (Bk 2)) ++ (w_B (bb 3) cA (Bi 3) (Bl 3) (Bj 3) (Bk 3)))) (([(oA, .inl (cA 1, 1, .inr (.inl oF)))]) ++ (w_P a cA Pp.1 Pp.2.1 Pp.2.2.1 Pp.2.2.2 bd) ++ (w_S sb cA Sp.1 Sp.2.1 Sp.2.2.1 Sp.2.2.2) ++ (w_Y yA cA Yp.1 Yp.2.1 Yp.2.2.1 Yp.2.2.2) ++ (w_M am cA um.1 um.2.1 um.2.2.1 um.2.2.2) ++ (w_B (bb 0) cA (Bi 0) (Bl 0) (Bj 0) (Bk 0)) ++ (w_B (bb 1) cA (Bi 1) (Bl 1) (Bj 1) (Bk 1)) ++ (w_B (bb 2) cA (Bi 2) (Bl 2) (Bj 2) (Bk 2)) ++ (w_B (bb 3) cA (Bi 3) (Bl 3) (Bj 3) (Bk 3))) := by simp only [List.append_assoc]; exact (((List.Perm.append_left _ (List.perm_append_comm_assoc _ _ _)).trans (List.perm_append_comm_assoc _ _ _)).trans (List.Perm.append_left _ ((List.perm_append_comm_assoc _ _ _).trans (List.Perm.append_left _ ((List.perm_append_comm_assoc _ _ _).trans (List.Perm.append_left _ (List.perm_append_comm_assoc _ _ _)))))))
  have hP := vP_perm hpm hP
  have hD := vD_perm hpm hD
  clear hpm
  exact kk Pp Sp Yp um Bi Bl Bj Bk oF _ _ hP hD hS t3 ls (lv_sub hl [0, 1, 2, 3, 4] rfl)
set_option maxHeartbeats 4000000 in
set_option maxRecDepth 100000 in
theorem lc_order {p : Program} {l : Launch} {e : Env} {s : State} {m : MethodId} {below : List Frame} {meth : Method} {c : Code} {Q : State → Prop} {D : va_G} {cA sa : Nat → Nat} (Z : zE l s D cA sa) (N9 : zN s) (hx : p.tables.exec = Jvm.exec) (hb : c.code = code) (hml : c.maxLocals = 8) (hown : s.vm.findClass R_L = some m.cls) (hg : gl s s) (hK : va_K D ncl (ty0 cA) s) {b L : Nat} {xs : Nat → Int32} (hX : va_X b L xs s s.heap) (hbl : b < s.heap.size) (hL : L ≤ 4098) {a sb yA bd am : Nat → Nat} {oA : Nat} {bb : Nat → Nat → Nat} (hsa : sb 0 = a 5) (hya : yA 0 = a 6) (hbd : ∀ k, k < 4 → bd k = bb k 0) {i cl sl : Nat} (hi : i + 8 ≤ L) (hcl : cl + 5 ≤ 601024) (hsl : sl + 30 ≤ 7293000) {Pp Sp Yp Mp : St} {Bi : Nat → Nat → Int32} {Bl : Nat → Nat → Int64} {Bj : Nat → Nat → Nat → Int32} {Bk : Nat → Nat → Nat → Int64} {oF : Nat → Int64} (hI : INV Pp Sp Yp Mp Bi Bl Bk) (kk : ∀ (P1 S1 Y1 M1 : St) (Bi1 : Nat → Nat → Int32) (Bl1 : Nat → Nat → Int64) (Bj1 : Nat → Nat → Nat → Int32) (Bk1 : Nat → Nat → Nat → Int64) (oF1 : Nat → Int64) (H : Heap) (locs : List Loc), va_P D ncl (([(oA, .inl (cA 1, 1, .inr (.inl oF1)))]) ++ (w_P a cA P1.1 P1.2.1 P1.2.2.1 P1.2.2.2 bd) ++ (w_S sb cA S1.1 S1.2.1 S1.2.2.1 S1.2.2.2) ++ (w_Y yA cA Y1.1 Y1.2.1 Y1.2.2.1 Y1.2.2.2) ++ (w_M am cA M1.1 M1.2.1 M1.2.2.1 M1.2.2.2) ++ (w_B (bb 0) cA (Bi1 0) (Bl1 0) (Bj1 0) (Bk1 0)) ++ (w_B (bb 1) cA (Bi1 1) (Bl1 1) (Bj1 1) (Bk1 1)) ++ (w_B (bb 2) cA (Bi1 2) (Bl1 2) (Bj1 2) (Bk1 2)) ++ (w_B (bb 3) cA (Bi1 3) (Bl1 3) (Bj1 3) (Bk1 3))) H → va_D (fun q => s.heap.size ≤ q) (([(oA, .inl (cA 1, 1, .inr (.inl oF1)))]) ++ (w_P a cA P1.1 P1.2.1 P1.2.2.1 P1.2.2.2 bd) ++ (w_S sb cA S1.1 S1.2.1 S1.2.2.1 S1.2.2.2) ++ (w_Y yA cA Y1.1 Y1.2.1 Y1.2.2.1 Y1.2.2.2) ++ (w_M am cA M1.1 M1.2.1 M1.2.2.1 M1.2.2.2) ++ (w_B (bb 0) cA (Bi1 0) (Bl1 0) (Bj1 0) (Bk1 0)) ++ (w_B (bb 1) cA (Bi1 1) (Bl1 1) (Bj1 1) (Bk1 1)) ++ (w_B (bb 2) cA (Bi1 2) (Bl1 2) (Bj1 2) (Bk1 2)) ++ (w_B (bb 3) cA (Bi1 3) (Bl1 3) (Bj1 3) (Bk1 3))) → va_S (fun q => s.heap.size ≤ q) s.heap H locs → INV P1 S1 Y1 M1 Bi1 Bl1 Bk1 → ∀ ls : Array Slot, lv_has ls 8 [(0, .ref b), (1, .ref (a 0)), (2, .ref (am 0)), (3, .ref oA), (4, .int (nI i))] → W p l e room_1 s m #[Value.ref b] below meth c H locs (cl + 5) (sl + 30) Q (F0 m 1460 ls [])) {H : Heap} {locs : List Loc} (hP : va_P D ncl (([(oA, .inl (cA 1, 1, .inr (.inl oF)))]) ++ (w_P a cA Pp.1 Pp.2.1 Pp.2.2.1 Pp.2.2.2 bd) ++ (w_S sb cA Sp.1 Sp.2.1 Sp.2.2.1 Sp.2.2.2) ++ (w_Y yA cA Yp.1 Yp.2.1 Yp.2.2.1 Yp.2.2.2) ++ (w_M am cA Mp.1 Mp.2.1 Mp.2.2.1 Mp.2.2.2) ++ (w_B (bb 0) cA (Bi 0) (Bl 0) (Bj 0) (Bk 0)) ++ (w_B (bb 1) cA (Bi 1) (Bl 1) (Bj 1) (Bk 1)) ++ (w_B (bb 2) cA (Bi 2) (Bl 2) (Bj 2) (Bk 2)) ++ (w_B (bb 3) cA (Bi 3) (Bl 3) (Bj 3) (Bk 3))) H) (hD : va_D (fun q => s.heap.size ≤ q) (([(oA, .inl (cA 1, 1, .inr (.inl oF)))]) ++ (w_P a cA Pp.1 Pp.2.1 Pp.2.2.1 Pp.2.2.2 bd) ++ (w_S sb cA Sp.1 Sp.2.1 Sp.2.2.1 Sp.2.2.2) ++ (w_Y yA cA Yp.1 Yp.2.1 Yp.2.2.1 Yp.2.2.2) ++ (w_M am cA Mp.1 Mp.2.1 Mp.2.2.1 Mp.2.2.2) ++ (w_B (bb 0) cA (Bi 0) (Bl 0) (Bj 0) (Bk 0)) ++ (w_B (bb 1) cA (Bi 1) (Bl 1) (Bj 1) (Bk 1)) ++ (w_B (bb 2) cA (Bi 2) (Bl 2) (Bj 2) (Bk 2)) ++ (w_B (bb 3) cA (Bi 3) (Bl 3) (Bj 3) (Bk 3)))) (hS : va_S (fun q => s.heap.size ≤ q) s.heap H locs) {ls : Array Slot} (hl : lv_has ls 8 [(0, .ref b), (1, .ref (a 0)), (2, .ref (am 0)), (3, .ref oA), (4, .int (nI i))]) : W p l e room_1 s m #[Value.ref b] below meth c H locs cl sl Q (F0 m 1360 ls []) := by
  have hA : ∀ q, s.heap.size ≤ q → (fun q => s.heap.size ≤ q) q := fun _ h => h
  have hlo : ∀ q, (fun q => s.heap.size ≤ q) q → s.heap.size ≤ q := fun _ h => h
  have hbA : ¬ (fun q : Nat => s.heap.size ≤ q) b := Nat.not_le.mpr hbl
  obtain ⟨w, h, nb, g, l0, y0, g0, r, nc, np, wt, X, Y, rw, bf, i1, i2, i3, i4, i5, i6, i7, i8, i9, i10, i11⟩ := id hI
  have hnb4 := i2.2.2
  refine lv_aload_n hx hb d_L_law_1360 rfl (lv_at hl 1 rfl) ?_
  refine lv_aload_n hx hb d_L_law_1361 rfl (lv_at hl 0 rfl) ?_
  refine lv_iload hx hb d_L_law_1362 (lv_at hl 4 rfl) ?_
  refine lv_iconst (v := 1) hx hb d_L_law_1364 (by decide) ?_
  refine lv_iadd hx hb d_L_law_1365 ?_
  refine lv_topi (fun z1 ez1 => ?_)
  obtain rfl : z1 = (nI (i + 1)) := by rw [ez1]; exact nI_add i 1
  refine va_sld hx hb hX hbl hbA hS (vp_in_nI (n := i + 1) (N := L) (by omega) (by omega)) d_L_law_1366 ?_
  refine lv_topi (fun z2 ez2 => ?_)
  rw [nI_clamp (n := i + 1) (by omega)] at ez2
  obtain rfl : z2 = xs (i + 1) := ez2
  have hpm : List.Perm (([(oA, .inl (cA 1, 1, .inr (.inl oF)))]) ++ (w_P a cA Pp.1 Pp.2.1 Pp.2.2.1 Pp.2.2.2 bd) ++ (w_S sb cA Sp.1 Sp.2.1 Sp.2.2.1 Sp.2.2.2) ++ (w_Y yA cA Yp.1 Yp.2.1 Yp.2.2.1 Yp.2.2.2) ++ (w_M am cA Mp.1 Mp.2.1 Mp.2.2.1 Mp.2.2.2) ++ (w_B (bb 0) cA (Bi 0) (Bl 0) (Bj 0) (Bk 0)) ++ (w_B (bb 1) cA (Bi 1) (Bl 1) (Bj 1) (Bk 1)) ++ (w_B (bb 2) cA (Bi 2) (Bl 2) (Bj 2) (Bk 2)) ++ (w_B (bb 3) cA (Bi 3) (Bl 3) (Bj 3) (Bk 3))) (((w_P a cA Pp.1 Pp.2.1 Pp.2.2.1 Pp.2.2.2 bd) ++ (w_Y yA cA Yp.1 Yp.2.1 Yp.2.2.1 Yp.2.2.2)) ++ (([(oA, .inl (cA 1, 1, .inr (.inl oF)))]) ++ (w_S sb cA Sp.1 Sp.2.1 Sp.2.2.1 Sp.2.2.2) ++ (w_M am cA Mp.1 Mp.2.1 Mp.2.2.1 Mp.2.2.2) ++ (w_B (bb 0) cA (Bi 0) (Bl 0) (Bj 0) (Bk 0)) ++ (w_B (bb 1) cA (Bi 1) (Bl 1) (Bj 1) (Bk 1)) ++ (w_B (bb 2) cA (Bi 2) (Bl 2) (Bj 2) (Bk 2)) ++ (w_B (bb 3) cA (Bi 3) (Bl 3) (Bj 3) (Bk 3)))) := by simp only [List.append_assoc]; exact ((List.perm_append_comm_assoc _ _ _).trans (List.Perm.append_left _ ((List.Perm.append_left _ (List.perm_append_comm_assoc _ _ _)).trans (List.perm_append_comm_assoc _ _ _))))
  have hP := vP_perm hpm hP
  have hD := vD_perm hpm hD
  clear hpm
  refine pt_calli (wt_runV (rest := []) hx hb hml hown hl.1 hg hlo hK (vP_l hP) (vD_l hD) hS (m_P_order Z a Pp.1 Pp.2.1 Pp.2.2.1 Pp.2.2.2 bd yA Yp.1 Yp.2.1 Yp.2.2.1 Yp.2.2.2 hya l0 y0 g0 rw bf i9.1 i9.2.1 (xs (i + 1)) H.size) (kw241 Z.1) (kw242 Z.1) (kw243 Z.1) (kw244 Z.1) (kw1 Z.1) ⟨by decide, by decide, (by decide +kernel : (parseMethodDescriptor y_P_order.desc).map (fun d => d.parameters.length) = some 1)⟩ ⟨(Nat.le_of_ble_eq_true rfl), (Nat.le_of_ble_eq_true rfl)⟩ [0, 1, 2, 3, 4, 5, 6, 7, 8, 9, 10, 11, 12, 13, 14] rfl rfl (ci := 0) (q0 := 0) rfl rfl rfl (Nat.le_of_ble_eq_true rfl) d_L_law_1367 ⟨by show cl + 0 ≤ 601024; omega, by show sl + 0 ≤ 7293000; omega⟩) hP hD hS hA (fun rc uc H locs hc hP hD hS => ?_)
  refine W.widen (k := cl) (n := sl) (by show cl + 0 ≤ cl; omega) (by show sl + 0 ≤ sl; omega) ?_
  have hP : va_P D ncl (((w_P a cA Pp.1 Pp.2.1 Pp.2.2.1 Pp.2.2.2 bd) ++ (w_Y yA cA Yp.1 Yp.2.1 Yp.2.2.1 Yp.2.2.2)) ++ (([(oA, .inl (cA 1, 1, .inr (.inl oF)))]) ++ (w_S sb cA Sp.1 Sp.2.1 Sp.2.2.1 Sp.2.2.2) ++ (w_M am cA Mp.1 Mp.2.1 Mp.2.2.1 Mp.2.2.2) ++ (w_B (bb 0) cA (Bi 0) (Bl 0) (Bj 0) (Bk 0)) ++ (w_B (bb 1) cA (Bi 1) (Bl 1) (Bj 1) (Bk 1)) ++ (w_B (bb 2) cA (Bi 2) (Bl 2) (Bj 2) (Bk 2)) ++ (w_B (bb 3) cA (Bi 3) (Bl 3) (Bj 3) (Bk 3)))) H := hP
  have hD : va_D (fun q => s.heap.size ≤ q) (((w_P a cA Pp.1 Pp.2.1 Pp.2.2.1 Pp.2.2.2 bd) ++ (w_Y yA cA Yp.1 Yp.2.1 Yp.2.2.1 Yp.2.2.2)) ++ (([(oA, .inl (cA 1, 1, .inr (.inl oF)))]) ++ (w_S sb cA Sp.1 Sp.2.1 Sp.2.2.1 Sp.2.2.2) ++ (w_M am cA Mp.1 Mp.2.1 Mp.2.2.1 Mp.2.2.2) ++ (w_B (bb 0) cA (Bi 0) (Bl 0) (Bj 0) (Bk 0)) ++ (w_B (bb 1) cA (Bi 1) (Bl 1) (Bj 1) (Bk 1)) ++ (w_B (bb 2) cA (Bi 2) (Bl 2) (Bj 2) (Bk 2)) ++ (w_B (bb 3) cA (Bi 3) (Bl 3) (Bj 3) (Bk 3)))) := hD
  refine lv_aload_n hx hb d_L_law_1370 rfl (lv_at hl 2 rfl) ?_
  refine lv_aload_n hx hb d_L_law_1371 rfl (lv_at hl 0 rfl) ?_
  refine lv_iload hx hb d_L_law_1372 (lv_at hl 4 rfl) ?_
  refine lv_iconst (v := 1) hx hb d_L_law_1374 (by decide) ?_
  refine lv_iadd hx hb d_L_law_1375 ?_
  refine lv_topi (fun z3 ez3 => ?_)
  obtain rfl : z3 = (nI (i + 1)) := by rw [ez3]; exact nI_add i 1
  refine va_sld hx hb hX hbl hbA hS (vp_in_nI (n := i + 1) (N := L) (by omega) (by omega)) d_L_law_1376 ?_
  refine lv_topi (fun z4 ez4 => ?_)
  rw [nI_clamp (n := i + 1) (by omega)] at ez4
  obtain rfl : z4 = xs (i + 1) := ez4
  have hpm : List.Perm (((w_P a cA Pp.1 Pp.2.1 Pp.2.2.1 Pp.2.2.2 bd) ++ (w_Y yA cA Yp.1 Yp.2.1 Yp.2.2.1 Yp.2.2.2)) ++ (([(oA, .inl (cA 1, 1, .inr (.inl oF)))]) ++ (w_S sb cA Sp.1 Sp.2.1 Sp.2.2.1 Sp.2.2.2) ++ (w_M am cA Mp.1 Mp.2.1 Mp.2.2.1 Mp.2.2.2) ++ (w_B (bb 0) cA (Bi 0) (Bl 0) (Bj 0) (Bk 0)) ++ (w_B (bb 1) cA (Bi 1) (Bl 1) (Bj 1) (Bk 1)) ++ (w_B (bb 2) cA (Bi 2) (Bl 2) (Bj 2) (Bk 2)) ++ (w_B (bb 3) cA (Bi 3) (Bl 3) (Bj 3) (Bk 3)))) (((w_M am cA Mp.1 Mp.2.1 Mp.2.2.1 Mp.2.2.2)) ++ ((w_P a cA Pp.1 Pp.2.1 Pp.2.2.1 Pp.2.2.2 bd) ++ (w_Y yA cA Yp.1 Yp.2.1 Yp.2.2.1 Yp.2.2.2) ++ ([(oA, .inl (cA 1, 1, .inr (.inl oF)))]) ++ (w_S sb cA Sp.1 Sp.2.1 Sp.2.2.1 Sp.2.2.2) ++ (w_B (bb 0) cA (Bi 0) (Bl 0) (Bj 0) (Bk 0)) ++ (w_B (bb 1) cA (Bi 1) (Bl 1) (Bj 1) (Bk 1)) ++ (w_B (bb 2) cA (Bi 2) (Bl 2) (Bj 2) (Bk 2)) ++ (w_B (bb 3) cA (Bi 3) (Bl 3) (Bj 3) (Bk 3)))) := by simp only [List.append_assoc]; exact ((List.Perm.append_left _ ((List.Perm.append_left _ ((List.Perm.append_left _ (List.perm_append_comm_assoc _ _ _)).trans (List.perm_append_comm_assoc _ _ _))).trans (List.perm_append_comm_assoc _ _ _))).trans (List.perm_append_comm_assoc _ _ _))
  have hP := vP_perm hpm hP
  have hD := vD_perm hpm hD
  clear hpm
  refine p_calli (w_runV (rest := [.int rc]) hx hb hml hown hl.1 hg hlo hK (vP_l hP) (vD_l hD) hS (m_M_order Z am Mp.1 Mp.2.1 Mp.2.2.1 Mp.2.2.2 (xs (i + 1)) (ly_n rw) (iL_13 i9) (by have := n160 i9.2.1; omega) (iL_01 i9) H.size) (kw814 Z.1) (kw815 Z.1) (kw816 Z.1) (kw817 Z.1) (kw6 Z.1) ⟨by decide, by decide, (by decide +kernel : (parseMethodDescriptor y_M_order.desc).map (fun d => d.parameters.length) = some 1)⟩ ⟨(Nat.le_of_ble_eq_true rfl), (Nat.le_of_ble_eq_true rfl)⟩ [0, 1, 2, 3, 4, 5, 6, 7, 8, 9, 10, 11, 12, 13, 14, 15, 16] rfl rfl (ci := 1) (q0 := 0) rfl rfl rfl (Nat.le_of_ble_eq_true rfl) d_L_law_1377 ⟨by show cl + 0 ≤ 601024; omega, by show sl + 0 ≤ 7293000; omega⟩) hP hD hS hA (fun rm um H locs hm hP hD hS => ?_)
  refine W.widen (k := cl) (n := sl) (by show cl + 0 ≤ cl; omega) (by show sl + 0 ≤ sl; omega) ?_
  have hP : va_P D ncl (((w_M am cA um.1 um.2.1 um.2.2.1 um.2.2.2)) ++ ((w_P a cA Pp.1 Pp.2.1 Pp.2.2.1 Pp.2.2.2 bd) ++ (w_Y yA cA Yp.1 Yp.2.1 Yp.2.2.1 Yp.2.2.2) ++ ([(oA, .inl (cA 1, 1, .inr (.inl oF)))]) ++ (w_S sb cA Sp.1 Sp.2.1 Sp.2.2.1 Sp.2.2.2) ++ (w_B (bb 0) cA (Bi 0) (Bl 0) (Bj 0) (Bk 0)) ++ (w_B (bb 1) cA (Bi 1) (Bl 1) (Bj 1) (Bk 1)) ++ (w_B (bb 2) cA (Bi 2) (Bl 2) (Bj 2) (Bk 2)) ++ (w_B (bb 3) cA (Bi 3) (Bl 3) (Bj 3) (Bk 3)))) H := hP
  have hD : va_D (fun q => s.heap.size ≤ q) (((w_M am cA um.1 um.2.1 um.2.2.1 um.2.2.2)) ++ ((w_P a cA Pp.1 Pp.2.1 Pp.2.2.1 Pp.2.2.2 bd) ++ (w_Y yA cA Yp.1 Yp.2.1 Yp.2.2.1 Yp.2.2.2) ++ ([(oA, .inl (cA 1, 1, .inr (.inl oF)))]) ++ (w_S sb cA Sp.1 Sp.2.1 Sp.2.2.1 Sp.2.2.2) ++ (w_B (bb 0) cA (Bi 0) (Bl 0) (Bj 0) (Bk 0)) ++ (w_B (bb 1) cA (Bi 1) (Bl 1) (Bj 1) (Bk 1)) ++ (w_B (bb 2) cA (Bi 2) (Bl 2) (Bj 2) (Bk 2)) ++ (w_B (bb 3) cA (Bi 3) (Bl 3) (Bj 3) (Bk 3)))) := hD
  obtain ⟨t1, t3⟩ := tie_order hI i9 hc hm
  refine lv_icmp_eq (tgt := 1460) hx hb d_L_law_1380 (by decide) (fun _ => ?_) (fun k5 => by first | exact absurd (show rc = rm from t1) k5 | exact absurd k5 (show rc = rm from t1))
  refine W.widen (k := cl + 5) (n := sl + 30) (by show cl + 0 ≤ cl + 5; omega) (by show sl + 0 ≤ sl + 30; omega) ?_
  have hpm : List.Perm (((w_M am cA um.1 um.2.1 um.2.2.1 um.2.2.2)) ++ ((w_P a cA Pp.1 Pp.2.1 Pp.2.2.1 Pp.2.2.2 bd) ++ (w_Y yA cA Yp.1 Yp.2.1 Yp.2.2.1 Yp.2.2.2) ++ ([(oA, .inl (cA 1, 1, .inr (.inl oF)))]) ++ (w_S sb cA Sp.1 Sp.2.1 Sp.2.2.1 Sp.2.2.2) ++ (w_B (bb 0) cA (Bi 0) (Bl 0) (Bj 0) (Bk 0)) ++ (w_B (bb 1) cA (Bi 1) (Bl 1) (Bj 1) (Bk 1)) ++ (w_B (bb 2) cA (Bi 2) (Bl 2) (Bj 2) (Bk 2)) ++ (w_B (bb 3) cA (Bi 3) (Bl 3) (Bj 3) (Bk 3)))) (([(oA, .inl (cA 1, 1, .inr (.inl oF)))]) ++ (w_P a cA Pp.1 Pp.2.1 Pp.2.2.1 Pp.2.2.2 bd) ++ (w_S sb cA Sp.1 Sp.2.1 Sp.2.2.1 Sp.2.2.2) ++ (w_Y yA cA Yp.1 Yp.2.1 Yp.2.2.1 Yp.2.2.2) ++ (w_M am cA um.1 um.2.1 um.2.2.1 um.2.2.2) ++ (w_B (bb 0) cA (Bi 0) (Bl 0) (Bj 0) (Bk 0)) ++ (w_B (bb 1) cA (Bi 1) (Bl 1) (Bj 1) (Bk 1)) ++ (w_B (bb 2) cA (Bi 2) (Bl 2) (Bj 2) (Bk 2)) ++ (w_B (bb 3) cA (Bi 3) (Bl 3) (Bj 3) (Bk 3))) := by simp only [List.append_assoc]; exact (((List.Perm.append_left _ ((List.Perm.append_left _ (List.perm_append_comm_assoc _ _ _)).trans (List.perm_append_comm_assoc _ _ _))).trans (List.perm_append_comm_assoc _ _ _)).trans (List.Perm.append_left _ ((List.perm_append_comm_assoc _ _ _).trans (List.Perm.append_left _ (((List.Perm.append_left _ (List.perm_append_comm_assoc _ _ _)).trans (List.perm_append_comm_assoc _ _ _)).trans (List.Perm.append_left _ (List.perm_append_comm_assoc _ _ _)))))))
  have hP := vP_perm hpm hP
  have hD := vD_perm hpm hD
  clear hpm
  exact kk Pp Sp Yp um Bi Bl Bj Bk oF _ _ hP hD hS t3 ls (lv_sub hl [0, 1, 2, 3, 4] rfl)
set_option maxHeartbeats 4000000 in
set_option maxRecDepth 100000 in
theorem lc_gap {p : Program} {l : Launch} {e : Env} {s : State} {m : MethodId} {below : List Frame} {meth : Method} {c : Code} {Q : State → Prop} {D : va_G} {cA sa : Nat → Nat} (Z : zE l s D cA sa) (N9 : zN s) (hx : p.tables.exec = Jvm.exec) (hb : c.code = code) (hml : c.maxLocals = 8) (hown : s.vm.findClass R_L = some m.cls) (hg : gl s s) (hK : va_K D ncl (ty0 cA) s) {b L : Nat} {xs : Nat → Int32} (hX : va_X b L xs s s.heap) (hbl : b < s.heap.size) (hL : L ≤ 4098) {a sb yA bd am : Nat → Nat} {oA : Nat} {bb : Nat → Nat → Nat} (hsa : sb 0 = a 5) (hya : yA 0 = a 6) (hbd : ∀ k, k < 4 → bd k = bb k 0) {i cl sl : Nat} (hi : i + 8 ≤ L) (hcl : cl + 5 ≤ 601024) (hsl : sl + 30 ≤ 7293000) {Pp Sp Yp Mp : St} {Bi : Nat → Nat → Int32} {Bl : Nat → Nat → Int64} {Bj : Nat → Nat → Nat → Int32} {Bk : Nat → Nat → Nat → Int64} {oF : Nat → Int64} (hI : INV Pp Sp Yp Mp Bi Bl Bk) (kk : ∀ (P1 S1 Y1 M1 : St) (Bi1 : Nat → Nat → Int32) (Bl1 : Nat → Nat → Int64) (Bj1 : Nat → Nat → Nat → Int32) (Bk1 : Nat → Nat → Nat → Int64) (oF1 : Nat → Int64) (H : Heap) (locs : List Loc), va_P D ncl (([(oA, .inl (cA 1, 1, .inr (.inl oF1)))]) ++ (w_P a cA P1.1 P1.2.1 P1.2.2.1 P1.2.2.2 bd) ++ (w_S sb cA S1.1 S1.2.1 S1.2.2.1 S1.2.2.2) ++ (w_Y yA cA Y1.1 Y1.2.1 Y1.2.2.1 Y1.2.2.2) ++ (w_M am cA M1.1 M1.2.1 M1.2.2.1 M1.2.2.2) ++ (w_B (bb 0) cA (Bi1 0) (Bl1 0) (Bj1 0) (Bk1 0)) ++ (w_B (bb 1) cA (Bi1 1) (Bl1 1) (Bj1 1) (Bk1 1)) ++ (w_B (bb 2) cA (Bi1 2) (Bl1 2) (Bj1 2) (Bk1 2)) ++ (w_B (bb 3) cA (Bi1 3) (Bl1 3) (Bj1 3) (Bk1 3))) H → va_D (fun q => s.heap.size ≤ q) (([(oA, .inl (cA 1, 1, .inr (.inl oF1)))]) ++ (w_P a cA P1.1 P1.2.1 P1.2.2.1 P1.2.2.2 bd) ++ (w_S sb cA S1.1 S1.2.1 S1.2.2.1 S1.2.2.2) ++ (w_Y yA cA Y1.1 Y1.2.1 Y1.2.2.1 Y1.2.2.2) ++ (w_M am cA M1.1 M1.2.1 M1.2.2.1 M1.2.2.2) ++ (w_B (bb 0) cA (Bi1 0) (Bl1 0) (Bj1 0) (Bk1 0)) ++ (w_B (bb 1) cA (Bi1 1) (Bl1 1) (Bj1 1) (Bk1 1)) ++ (w_B (bb 2) cA (Bi1 2) (Bl1 2) (Bj1 2) (Bk1 2)) ++ (w_B (bb 3) cA (Bi1 3) (Bl1 3) (Bj1 3) (Bk1 3))) → va_S (fun q => s.heap.size ≤ q) s.heap H locs → INV P1 S1 Y1 M1 Bi1 Bl1 Bk1 → ∀ ls : Array Slot, lv_has ls 8 [(0, .ref b), (1, .ref (a 0)), (2, .ref (am 0)), (3, .ref oA), (4, .int (nI i))] → W p l e room_1 s m #[Value.ref b] below meth c H locs (cl + 5) (sl + 30) Q (F0 m 1460 ls [])) {H : Heap} {locs : List Loc} (hP : va_P D ncl (([(oA, .inl (cA 1, 1, .inr (.inl oF)))]) ++ (w_P a cA Pp.1 Pp.2.1 Pp.2.2.1 Pp.2.2.2 bd) ++ (w_S sb cA Sp.1 Sp.2.1 Sp.2.2.1 Sp.2.2.2) ++ (w_Y yA cA Yp.1 Yp.2.1 Yp.2.2.1 Yp.2.2.2) ++ (w_M am cA Mp.1 Mp.2.1 Mp.2.2.1 Mp.2.2.2) ++ (w_B (bb 0) cA (Bi 0) (Bl 0) (Bj 0) (Bk 0)) ++ (w_B (bb 1) cA (Bi 1) (Bl 1) (Bj 1) (Bk 1)) ++ (w_B (bb 2) cA (Bi 2) (Bl 2) (Bj 2) (Bk 2)) ++ (w_B (bb 3) cA (Bi 3) (Bl 3) (Bj 3) (Bk 3))) H) (hD : va_D (fun q => s.heap.size ≤ q) (([(oA, .inl (cA 1, 1, .inr (.inl oF)))]) ++ (w_P a cA Pp.1 Pp.2.1 Pp.2.2.1 Pp.2.2.2 bd) ++ (w_S sb cA Sp.1 Sp.2.1 Sp.2.2.1 Sp.2.2.2) ++ (w_Y yA cA Yp.1 Yp.2.1 Yp.2.2.1 Yp.2.2.2) ++ (w_M am cA Mp.1 Mp.2.1 Mp.2.2.1 Mp.2.2.2) ++ (w_B (bb 0) cA (Bi 0) (Bl 0) (Bj 0) (Bk 0)) ++ (w_B (bb 1) cA (Bi 1) (Bl 1) (Bj 1) (Bk 1)) ++ (w_B (bb 2) cA (Bi 2) (Bl 2) (Bj 2) (Bk 2)) ++ (w_B (bb 3) cA (Bi 3) (Bl 3) (Bj 3) (Bk 3)))) (hS : va_S (fun q => s.heap.size ≤ q) s.heap H locs) {ls : Array Slot} (hl : lv_has ls 8 [(0, .ref b), (1, .ref (a 0)), (2, .ref (am 0)), (3, .ref oA), (4, .int (nI i))]) : W p l e room_1 s m #[Value.ref b] below meth c H locs cl sl Q (F0 m 492 ls []) := by
  have hA : ∀ q, s.heap.size ≤ q → (fun q => s.heap.size ≤ q) q := fun _ h => h
  have hlo : ∀ q, (fun q => s.heap.size ≤ q) q → s.heap.size ≤ q := fun _ h => h
  have hbA : ¬ (fun q : Nat => s.heap.size ≤ q) b := Nat.not_le.mpr hbl
  obtain ⟨w, h, nb, g, l0, y0, g0, r, nc, np, wt, X, Y, rw, bf, i1, i2, i3, i4, i5, i6, i7, i8, i9, i10, i11⟩ := id hI
  have hnb4 := i2.2.2
  refine lv_aload_n hx hb d_L_law_492 rfl (lv_at hl 1 rfl) ?_
  refine lv_aload_n hx hb d_L_law_493 rfl (lv_at hl 0 rfl) ?_
  refine lv_iload hx hb d_L_law_494 (lv_at hl 4 rfl) ?_
  refine lv_iconst (v := 1) hx hb d_L_law_496 (by decide) ?_
  refine lv_iadd hx hb d_L_law_497 ?_
  refine lv_topi (fun z1 ez1 => ?_)
  obtain rfl : z1 = (nI (i + 1)) := by rw [ez1]; exact nI_add i 1
  refine va_sld hx hb hX hbl hbA hS (vp_in_nI (n := i + 1) (N := L) (by omega) (by omega)) d_L_law_498 ?_
  refine lv_topi (fun z2 ez2 => ?_)
  rw [nI_clamp (n := i + 1) (by omega)] at ez2
  obtain rfl : z2 = xs (i + 1) := ez2
  refine lv_i2l hx hb d_L_law_499 rfl ?_
  refine lv_bipush (v := 32) hx hb d_L_law_500 (by decide) ?_
  refine lv_lshl hx hb d_L_law_502 rfl ?_
  refine lv_aload_n hx hb d_L_law_503 rfl (lv_at hl 0 rfl) ?_
  refine lv_iload hx hb d_L_law_504 (lv_at hl 4 rfl) ?_
  refine lv_iconst (v := 2) hx hb d_L_law_506 (by decide) ?_
  refine lv_iadd hx hb d_L_law_507 ?_
  refine lv_topi (fun z3 ez3 => ?_)
  obtain rfl : z3 = (nI (i + 2)) := by rw [ez3]; exact nI_add i 2
  refine va_sld hx hb hX hbl hbA hS (vp_in_nI (n := i + 2) (N := L) (by omega) (by omega)) d_L_law_508 ?_
  refine lv_topi (fun z4 ez4 => ?_)
  rw [nI_clamp (n := i + 2) (by omega)] at ez4
  obtain rfl : z4 = xs (i + 2) := ez4
  refine lv_i2l hx hb d_L_law_509 rfl ?_
  refine lv_ldc2 (v := 4294967295) hx hb hown (kw834 Z.1 _ _ hg.1) d_L_law_510 ?_
  refine lv_land hx hb d_L_law_513 ?_
  refine lv_lor hx hb d_L_law_514 ?_
  refine lv_topl (fun z5 ez5 => ?_)
  obtain rfl : z5 = (jl (xs (i + 1)) (xs (i + 2))) := by rw [ez5]; rfl
  refine lv_aload_n hx hb d_L_law_515 rfl (lv_at hl 3 rfl) ?_
  have hpm : List.Perm (([(oA, .inl (cA 1, 1, .inr (.inl oF)))]) ++ (w_P a cA Pp.1 Pp.2.1 Pp.2.2.1 Pp.2.2.2 bd) ++ (w_S sb cA Sp.1 Sp.2.1 Sp.2.2.1 Sp.2.2.2) ++ (w_Y yA cA Yp.1 Yp.2.1 Yp.2.2.1 Yp.2.2.2) ++ (w_M am cA Mp.1 Mp.2.1 Mp.2.2.1 Mp.2.2.2) ++ (w_B (bb 0) cA (Bi 0) (Bl 0) (Bj 0) (Bk 0)) ++ (w_B (bb 1) cA (Bi 1) (Bl 1) (Bj 1) (Bk 1)) ++ (w_B (bb 2) cA (Bi 2) (Bl 2) (Bj 2) (Bk 2)) ++ (w_B (bb 3) cA (Bi 3) (Bl 3) (Bj 3) (Bk 3))) (((w_P a cA Pp.1 Pp.2.1 Pp.2.2.1 Pp.2.2.2 bd) ++ ([(oA, .inl (cA 1, 1, .inr (.inl oF)))])) ++ ((w_S sb cA Sp.1 Sp.2.1 Sp.2.2.1 Sp.2.2.2) ++ (w_Y yA cA Yp.1 Yp.2.1 Yp.2.2.1 Yp.2.2.2) ++ (w_M am cA Mp.1 Mp.2.1 Mp.2.2.1 Mp.2.2.2) ++ (w_B (bb 0) cA (Bi 0) (Bl 0) (Bj 0) (Bk 0)) ++ (w_B (bb 1) cA (Bi 1) (Bl 1) (Bj 1) (Bk 1)) ++ (w_B (bb 2) cA (Bi 2) (Bl 2) (Bj 2) (Bk 2)) ++ (w_B (bb 3) cA (Bi 3) (Bl 3) (Bj 3) (Bk 3)))) := by simp only [List.append_assoc]; exact (List.perm_append_comm_assoc _ _ _)
  have hP := vP_perm hpm hP
  have hD := vD_perm hpm hD
  clear hpm
  refine pt_calli (wt_runSW (rest := []) hx hb hml hown hl.1 hg hlo (vP_l hP) (vD_l hD) hS (m_L_gap Z N9 a Pp.1 Pp.2.1 Pp.2.2.1 Pp.2.2.2 bd (jl (xs (i + 1)) (xs (i + 2))) oA oF H.size) (kw464 Z.1) (kw465 Z.1) (kw466 Z.1) (kw0 Z.1) ⟨by decide, by decide, (by decide +kernel : (parseMethodDescriptor y_L_gap.desc).map (fun d => d.parameters.length) = some 3)⟩ ⟨(Nat.le_of_ble_eq_true rfl), (Nat.le_of_ble_eq_true rfl)⟩ [0, 1, 2, 3] rfl rfl rfl (Nat.le_of_ble_eq_true rfl) d_L_law_516 ⟨by show cl + 1 ≤ 601024; omega, by show sl + 6 ≤ 7293000; omega⟩) hP hD hS hA (fun kx u9 H locs hq hP hD hS => ?_)
  refine W.widen (k := cl + 5) (n := sl + 30) (by show cl + 1 ≤ cl + 5; omega) (by show sl + 6 ≤ sl + 30; omega) ?_
  have hP : va_P D ncl (((w_P a cA Pp.1 u9.1 Pp.2.2.1 Pp.2.2.2 bd) ++ ([(oA, .inl (cA 1, 1, .inr (.inl u9.2)))])) ++ ((w_S sb cA Sp.1 Sp.2.1 Sp.2.2.1 Sp.2.2.2) ++ (w_Y yA cA Yp.1 Yp.2.1 Yp.2.2.1 Yp.2.2.2) ++ (w_M am cA Mp.1 Mp.2.1 Mp.2.2.1 Mp.2.2.2) ++ (w_B (bb 0) cA (Bi 0) (Bl 0) (Bj 0) (Bk 0)) ++ (w_B (bb 1) cA (Bi 1) (Bl 1) (Bj 1) (Bk 1)) ++ (w_B (bb 2) cA (Bi 2) (Bl 2) (Bj 2) (Bk 2)) ++ (w_B (bb 3) cA (Bi 3) (Bl 3) (Bj 3) (Bk 3)))) H := hP
  have hD : va_D (fun q => s.heap.size ≤ q) (((w_P a cA Pp.1 u9.1 Pp.2.2.1 Pp.2.2.2 bd) ++ ([(oA, .inl (cA 1, 1, .inr (.inl u9.2)))])) ++ ((w_S sb cA Sp.1 Sp.2.1 Sp.2.2.1 Sp.2.2.2) ++ (w_Y yA cA Yp.1 Yp.2.1 Yp.2.2.1 Yp.2.2.2) ++ (w_M am cA Mp.1 Mp.2.1 Mp.2.2.1 Mp.2.2.2) ++ (w_B (bb 0) cA (Bi 0) (Bl 0) (Bj 0) (Bk 0)) ++ (w_B (bb 1) cA (Bi 1) (Bl 1) (Bj 1) (Bk 1)) ++ (w_B (bb 2) cA (Bi 2) (Bl 2) (Bj 2) (Bk 2)) ++ (w_B (bb 3) cA (Bi 3) (Bl 3) (Bj 3) (Bk 3)))) := hD
  refine lv_istore (lv' := [(5, .int kx), (0, .ref b), (1, .ref (a 0)), (2, .ref (am 0)), (3, .ref oA), (4, .int (nI i))]) hx hb d_L_law_519 hl (by decide) rfl (fun ls hl => ?_)
  refine lv_aload_n hx hb d_L_law_521 rfl (lv_at hl 3 rfl) ?_
  refine lv_aload_n hx hb d_L_law_522 rfl (lv_at hl 1 rfl) ?_
  refine lv_iload hx hb d_L_law_523 (lv_at hl 5 rfl) ?_
  refine lv_iconst (v := 1) hx hb d_L_law_525 (by decide) ?_
  refine lv_iadd hx hb d_L_law_526 ?_
  refine lv_topi (fun z6 ez6 => ?_)
  obtain rfl : z6 = (nI (i + 1)) := by rw [ez6]; exact nI_add i 1
  refine va_sld hx hb hX hbl hbA hS (vp_in_nI (n := i + 1) (N := L) (by omega) (by omega)) d_L_law_527 ?_
  refine lv_topi (fun z7 ez7 => ?_)
  rw [nI_clamp (n := i + 1) (by omega)] at ez7
  obtain rfl : z7 = xs (i + 1) := ez7
  refine lv_i2l hx hb d_L_law_528 rfl ?_
  refine lv_bipush (v := 32) hx hb d_L_law_529 (by decide) ?_
  refine lv_lshl hx hb d_L_law_531 rfl ?_
  refine lv_aload_n hx hb d_L_law_532 rfl (lv_at hl 1 rfl) ?_
  refine lv_iload hx hb d_L_law_533 (lv_at hl 5 rfl) ?_
  refine lv_iconst (v := 2) hx hb d_L_law_535 (by decide) ?_
  refine lv_iadd hx hb d_L_law_536 ?_
  refine lv_topi (fun z8 ez8 => ?_)
  obtain rfl : z8 = (nI (i + 2)) := by rw [ez8]; exact nI_add i 2
  refine va_sld hx hb hX hbl hbA hS (vp_in_nI (n := i + 2) (N := L) (by omega) (by omega)) d_L_law_537 ?_
  refine lv_topi (fun z9 ez9 => ?_)
  rw [nI_clamp (n := i + 2) (by omega)] at ez9
  obtain rfl : z9 = xs (i + 2) := ez9
  refine lv_i2l hx hb d_L_law_538 rfl ?_
  refine lv_ldc2 (v := 4294967295) hx hb hown (kw834 Z.1 _ _ hg.1) d_L_law_539 ?_
  refine lv_land hx hb d_L_law_542 ?_
  refine lv_lor hx hb d_L_law_543 ?_
  refine lv_topl (fun z10 ez10 => ?_)
  obtain rfl : z10 = (jl (xs (i + 1)) (xs (i + 2))) := by rw [ez10]; rfl
  have hpm : List.Perm (((w_P a cA Pp.1 u9.1 Pp.2.2.1 Pp.2.2.2 bd) ++ ([(oA, .inl (cA 1, 1, .inr (.inl u9.2)))])) ++ ((w_S sb cA Sp.1 Sp.2.1 Sp.2.2.1 Sp.2.2.2) ++ (w_Y yA cA Yp.1 Yp.2.1 Yp.2.2.1 Yp.2.2.2) ++ (w_M am cA Mp.1 Mp.2.1 Mp.2.2.1 Mp.2.2.2) ++ (w_B (bb 0) cA (Bi 0) (Bl 0) (Bj 0) (Bk 0)) ++ (w_B (bb 1) cA (Bi 1) (Bl 1) (Bj 1) (Bk 1)) ++ (w_B (bb 2) cA (Bi 2) (Bl 2) (Bj 2) (Bk 2)) ++ (w_B (bb 3) cA (Bi 3) (Bl 3) (Bj 3) (Bk 3)))) (((w_M am cA Mp.1 Mp.2.1 Mp.2.2.1 Mp.2.2.2)) ++ ((w_P a cA Pp.1 u9.1 Pp.2.2.1 Pp.2.2.2 bd) ++ ([(oA, .inl (cA 1, 1, .inr (.inl u9.2)))]) ++ (w_S sb cA Sp.1 Sp.2.1 Sp.2.2.1 Sp.2.2.2) ++ (w_Y yA cA Yp.1 Yp.2.1 Yp.2.2.1 Yp.2.2.2) ++ (w_B (bb 0) cA (Bi 0) (Bl 0) (Bj 0) (Bk 0)) ++ (w_B (bb 1) cA (Bi 1) (Bl 1) (Bj 1) (Bk 1)) ++ (w_B (bb 2) cA (Bi 2) (Bl 2) (Bj 2) (Bk 2)) ++ (w_B (bb 3) cA (Bi 3) (Bl 3) (Bj 3) (Bk 3)))) := by simp only [List.append_assoc]; exact ((List.Perm.append_left _ ((List.Perm.append_left _ ((List.Perm.append_left _ (List.perm_append_comm_assoc _ _ _)).trans (List.perm_append_comm_assoc _ _ _))).trans (List.perm_append_comm_assoc _ _ _))).trans (List.perm_append_comm_assoc _ _ _))
  have hP := vP_perm hpm hP
  have hD := vD_perm hpm hD
  clear hpm
  refine p_calli (w_runV (rest := []) hx hb hml hown hl.1 hg hlo hK (vP_l hP) (vD_l hD) hS (m_M_gap Z am Mp.1 Mp.2.1 Mp.2.2.1 Mp.2.2.2 (jl (xs (i + 1)) (xs (i + 2))) H.size) (kw706 Z.1) (kw707 Z.1) (kw708 Z.1) (kw709 Z.1) (kw6 Z.1) ⟨by decide, by decide, (by decide +kernel : (parseMethodDescriptor y_M_gap.desc).map (fun d => d.parameters.length) = some 1)⟩ ⟨(Nat.le_of_ble_eq_true rfl), (Nat.le_of_ble_eq_true rfl)⟩ [0, 1, 2, 3, 4, 5, 6, 7, 8, 9, 10, 11, 12, 13, 14, 15, 16] rfl rfl (ci := 1) (q0 := 0) rfl rfl rfl (Nat.le_of_ble_eq_true rfl) d_L_law_544 ⟨by show cl + 5 + 0 ≤ 601024; omega, by show sl + 30 + 0 ≤ 7293000; omega⟩) hP hD hS hA (fun rm um H locs hm hP hD hS => ?_)
  refine W.widen (k := cl + 5) (n := sl + 30) (by show cl + 5 + 0 ≤ cl + 5; omega) (by show sl + 30 + 0 ≤ sl + 30; omega) ?_
  have hP : va_P D ncl (((w_M am cA um.1 um.2.1 um.2.2.1 um.2.2.2)) ++ ((w_P a cA Pp.1 u9.1 Pp.2.2.1 Pp.2.2.2 bd) ++ ([(oA, .inl (cA 1, 1, .inr (.inl u9.2)))]) ++ (w_S sb cA Sp.1 Sp.2.1 Sp.2.2.1 Sp.2.2.2) ++ (w_Y yA cA Yp.1 Yp.2.1 Yp.2.2.1 Yp.2.2.2) ++ (w_B (bb 0) cA (Bi 0) (Bl 0) (Bj 0) (Bk 0)) ++ (w_B (bb 1) cA (Bi 1) (Bl 1) (Bj 1) (Bk 1)) ++ (w_B (bb 2) cA (Bi 2) (Bl 2) (Bj 2) (Bk 2)) ++ (w_B (bb 3) cA (Bi 3) (Bl 3) (Bj 3) (Bk 3)))) H := hP
  have hD : va_D (fun q => s.heap.size ≤ q) (((w_M am cA um.1 um.2.1 um.2.2.1 um.2.2.2)) ++ ((w_P a cA Pp.1 u9.1 Pp.2.2.1 Pp.2.2.2 bd) ++ ([(oA, .inl (cA 1, 1, .inr (.inl u9.2)))]) ++ (w_S sb cA Sp.1 Sp.2.1 Sp.2.2.1 Sp.2.2.2) ++ (w_Y yA cA Yp.1 Yp.2.1 Yp.2.2.1 Yp.2.2.2) ++ (w_B (bb 0) cA (Bi 0) (Bl 0) (Bj 0) (Bk 0)) ++ (w_B (bb 1) cA (Bi 1) (Bl 1) (Bj 1) (Bk 1)) ++ (w_B (bb 2) cA (Bi 2) (Bl 2) (Bj 2) (Bk 2)) ++ (w_B (bb 3) cA (Bi 3) (Bl 3) (Bj 3) (Bk 3)))) := hD
  obtain ⟨t1, t2, t3⟩ := tie_gap (oF := oF) hI hq hm
  refine lv_istore (lv' := [(6, .int rm), (5, .int kx), (0, .ref b), (1, .ref (a 0)), (2, .ref (am 0)), (3, .ref oA), (4, .int (nI i))]) hx hb d_L_law_547 hl (by decide) rfl (fun ls hl => ?_)
  refine lv_aload_n hx hb d_L_law_549 rfl (lv_at hl 4 rfl) ?_
  refine p_calli (w_runV (rest := []) hx hb hml hown hl.1 hg hlo hK (vP_l hP) (vD_l hD) hS (m_M_thrown Z am um.1 um.2.1 um.2.2.1 um.2.2.2 H.size) (kw683 Z.1) (kw684 Z.1) (kw685 Z.1) (kw686 Z.1) (kw6 Z.1) ⟨by decide, by decide, (by decide +kernel : (parseMethodDescriptor y_M_thrown.desc).map (fun d => d.parameters.length) = some 0)⟩ ⟨(Nat.le_of_ble_eq_true rfl), (Nat.le_of_ble_eq_true rfl)⟩ [0, 1, 2, 3, 4, 5, 6, 7, 8, 9, 10, 11, 12, 13, 14, 15, 16] rfl rfl (ci := 1) (q0 := 0) rfl rfl rfl (Nat.le_of_ble_eq_true rfl) d_L_law_550 ⟨by show cl + 5 + 0 ≤ 601024; omega, by show sl + 30 + 0 ≤ 7293000; omega⟩) hP hD hS hA (fun rt ut H locs hrt hP hD hS => ?_)
  refine W.widen (k := cl + 5) (n := sl + 30) (by show cl + 5 + 0 ≤ cl + 5; omega) (by show sl + 30 + 0 ≤ sl + 30; omega) ?_
  have hP : va_P D ncl (((w_M am cA um.1 um.2.1 um.2.2.1 um.2.2.2)) ++ ((w_P a cA Pp.1 u9.1 Pp.2.2.1 Pp.2.2.2 bd) ++ ([(oA, .inl (cA 1, 1, .inr (.inl u9.2)))]) ++ (w_S sb cA Sp.1 Sp.2.1 Sp.2.2.1 Sp.2.2.2) ++ (w_Y yA cA Yp.1 Yp.2.1 Yp.2.2.1 Yp.2.2.2) ++ (w_B (bb 0) cA (Bi 0) (Bl 0) (Bj 0) (Bk 0)) ++ (w_B (bb 1) cA (Bi 1) (Bl 1) (Bj 1) (Bk 1)) ++ (w_B (bb 2) cA (Bi 2) (Bl 2) (Bj 2) (Bk 2)) ++ (w_B (bb 3) cA (Bi 3) (Bl 3) (Bj 3) (Bk 3)))) H := hP
  have hD : va_D (fun q => s.heap.size ≤ q) (((w_M am cA um.1 um.2.1 um.2.2.1 um.2.2.2)) ++ ((w_P a cA Pp.1 u9.1 Pp.2.2.1 Pp.2.2.2 bd) ++ ([(oA, .inl (cA 1, 1, .inr (.inl u9.2)))]) ++ (w_S sb cA Sp.1 Sp.2.1 Sp.2.2.1 Sp.2.2.2) ++ (w_Y yA cA Yp.1 Yp.2.1 Yp.2.2.1 Yp.2.2.2) ++ (w_B (bb 0) cA (Bi 0) (Bl 0) (Bj 0) (Bk 0)) ++ (w_B (bb 1) cA (Bi 1) (Bl 1) (Bj 1) (Bk 1)) ++ (w_B (bb 2) cA (Bi 2) (Bl 2) (Bj 2) (Bk 2)) ++ (w_B (bb 3) cA (Bi 3) (Bl 3) (Bj 3) (Bk 3)))) := hD
  subst hrt
  refine lv_iload hx hb d_L_law_553 (lv_at hl 1 rfl) ?_
  refine lv_icmp_eq (tgt := 560) hx hb d_L_law_555 (by decide) (fun _ => ?_) (fun k11 => by first | exact absurd (show um.1 0 = kx from t1) k11 | exact absurd k11 (show um.1 0 = kx from t1))
  refine lv_iload hx hb d_L_law_560 (lv_at hl 1 rfl) ?_
  have hpm : List.Perm (((w_M am cA um.1 um.2.1 um.2.2.1 um.2.2.2)) ++ ((w_P a cA Pp.1 u9.1 Pp.2.2.1 Pp.2.2.2 bd) ++ ([(oA, .inl (cA 1, 1, .inr (.inl u9.2)))]) ++ (w_S sb cA Sp.1 Sp.2.1 Sp.2.2.1 Sp.2.2.2) ++ (w_Y yA cA Yp.1 Yp.2.1 Yp.2.2.1 Yp.2.2.2) ++ (w_B (bb 0) cA (Bi 0) (Bl 0) (Bj 0) (Bk 0)) ++ (w_B (bb 1) cA (Bi 1) (Bl 1) (Bj 1) (Bk 1)) ++ (w_B (bb 2) cA (Bi 2) (Bl 2) (Bj 2) (Bk 2)) ++ (w_B (bb 3) cA (Bi 3) (Bl 3) (Bj 3) (Bk 3)))) (([(oA, .inl (cA 1, 1, .inr (.inl u9.2)))]) ++ (w_P a cA Pp.1 u9.1 Pp.2.2.1 Pp.2.2.2 bd) ++ (w_S sb cA Sp.1 Sp.2.1 Sp.2.2.1 Sp.2.2.2) ++ (w_Y yA cA Yp.1 Yp.2.1 Yp.2.2.1 Yp.2.2.2) ++ (w_M am cA um.1 um.2.1 um.2.2.1 um.2.2.2) ++ (w_B (bb 0) cA (Bi 0) (Bl 0) (Bj 0) (Bk 0)) ++ (w_B (bb 1) cA (Bi 1) (Bl 1) (Bj 1) (Bk 1)) ++ (w_B (bb 2) cA (Bi 2) (Bl 2) (Bj 2) (Bk 2)) ++ (w_B (bb 3) cA (Bi 3) (Bl 3) (Bj 3) (Bk 3))) := by simp only [List.append_assoc]; exact (((List.Perm.append_left _ (List.perm_append_comm_assoc _ _ _)).trans (List.perm_append_comm_assoc _ _ _)).trans (List.Perm.append_left _ ((List.perm_append_comm_assoc _ _ _).trans (List.Perm.append_left _ ((List.perm_append_comm_assoc _ _ _).trans (List.Perm.append_left _ (List.perm_append_comm_assoc _ _ _)))))))
  have hP := vP_perm hpm hP
  have hD := vD_perm hpm hD
  clear hpm
  refine lv_if_ne (tgt := 584) hx hb d_L_law_562 (by decide) (fun d12 => ?_) (fun d12 => ?_)
  · refine lv_goto (tgt := 1460) hx hb d_L_law_584 (by decide) ?_
    exact kk (Pp.1, u9.1, Pp.2.2.1, Pp.2.2.2) Sp Yp um Bi Bl Bj Bk u9.2 _ _ hP hD hS t3 ls (lv_sub hl [2, 3, 4, 5, 6] rfl)
  · have t4 := t2 (show kx = 0 from d12)
    refine lv_aload_n hx hb d_L_law_565 rfl (lv_at hl 5 rfl) ?_
    refine lv_iconst (v := 0) hx hb d_L_law_566 (by decide) ?_
    refine va_lald hx hb hK hP 0 1 rfl rfl (by unfold vp_in; decide) d_L_law_567 ?_
    refine lv_topl (fun z13 ez13 => ?_)
    obtain rfl : z13 = (u9.2 0) := by rw [ez13]; rfl
    refine lv_iload hx hb d_L_law_568 (lv_at hl 0 rfl) ?_
    refine lv_if_eq (tgt := 577) hx hb d_L_law_570 (by decide) (fun f14 => ?_) (fun f14 => ?_)
    · refine lv_lconst (v := 0) hx hb d_L_law_577 (by decide) ?_
      refine W.lcmp hx hb d_L_law_578 ?_
      refine lv_if_eq (tgt := 584) hx hb d_L_law_579 (by decide) (fun _ => ?_) (fun k15 => by first | exact absurd ((lg_cmp_eq _ _).mpr (t4.trans (if_pos f14))) k15 | exact absurd k15 ((lg_cmp_eq _ _).mpr (t4.trans (if_pos f14))))
      refine lv_goto (tgt := 1460) hx hb d_L_law_584 (by decide) ?_
      exact kk (Pp.1, u9.1, Pp.2.2.1, Pp.2.2.2) Sp Yp um Bi Bl Bj Bk u9.2 _ _ hP hD hS t3 ls (lv_sub hl [2, 3, 4, 5, 6] rfl)
    · refine lv_lconst (v := 1) hx hb d_L_law_573 (by decide) ?_
      refine lv_goto (tgt := 578) hx hb d_L_law_574 (by decide) ?_
      refine W.lcmp hx hb d_L_law_578 ?_
      refine lv_if_eq (tgt := 584) hx hb d_L_law_579 (by decide) (fun _ => ?_) (fun k16 => by first | exact absurd ((lg_cmp_eq _ _).mpr (t4.trans (if_neg f14))) k16 | exact absurd k16 ((lg_cmp_eq _ _).mpr (t4.trans (if_neg f14))))
      refine lv_goto (tgt := 1460) hx hb d_L_law_584 (by decide) ?_
      exact kk (Pp.1, u9.1, Pp.2.2.1, Pp.2.2.2) Sp Yp um Bi Bl Bj Bk u9.2 _ _ hP hD hS t3 ls (lv_sub hl [2, 3, 4, 5, 6] rfl)
set_option maxHeartbeats 4000000 in
set_option maxRecDepth 100000 in
theorem lc_radius {p : Program} {l : Launch} {e : Env} {s : State} {m : MethodId} {below : List Frame} {meth : Method} {c : Code} {Q : State → Prop} {D : va_G} {cA sa : Nat → Nat} (Z : zE l s D cA sa) (N9 : zN s) (hx : p.tables.exec = Jvm.exec) (hb : c.code = code) (hml : c.maxLocals = 8) (hown : s.vm.findClass R_L = some m.cls) (hg : gl s s) (hK : va_K D ncl (ty0 cA) s) {b L : Nat} {xs : Nat → Int32} (hX : va_X b L xs s s.heap) (hbl : b < s.heap.size) (hL : L ≤ 4098) {a sb yA bd am : Nat → Nat} {oA : Nat} {bb : Nat → Nat → Nat} (hsa : sb 0 = a 5) (hya : yA 0 = a 6) (hbd : ∀ k, k < 4 → bd k = bb k 0) {i cl sl : Nat} (hi : i + 8 ≤ L) (hcl : cl + 5 ≤ 601024) (hsl : sl + 30 ≤ 7293000) {Pp Sp Yp Mp : St} {Bi : Nat → Nat → Int32} {Bl : Nat → Nat → Int64} {Bj : Nat → Nat → Nat → Int32} {Bk : Nat → Nat → Nat → Int64} {oF : Nat → Int64} (hI : INV Pp Sp Yp Mp Bi Bl Bk) (kk : ∀ (P1 S1 Y1 M1 : St) (Bi1 : Nat → Nat → Int32) (Bl1 : Nat → Nat → Int64) (Bj1 : Nat → Nat → Nat → Int32) (Bk1 : Nat → Nat → Nat → Int64) (oF1 : Nat → Int64) (H : Heap) (locs : List Loc), va_P D ncl (([(oA, .inl (cA 1, 1, .inr (.inl oF1)))]) ++ (w_P a cA P1.1 P1.2.1 P1.2.2.1 P1.2.2.2 bd) ++ (w_S sb cA S1.1 S1.2.1 S1.2.2.1 S1.2.2.2) ++ (w_Y yA cA Y1.1 Y1.2.1 Y1.2.2.1 Y1.2.2.2) ++ (w_M am cA M1.1 M1.2.1 M1.2.2.1 M1.2.2.2) ++ (w_B (bb 0) cA (Bi1 0) (Bl1 0) (Bj1 0) (Bk1 0)) ++ (w_B (bb 1) cA (Bi1 1) (Bl1 1) (Bj1 1) (Bk1 1)) ++ (w_B (bb 2) cA (Bi1 2) (Bl1 2) (Bj1 2) (Bk1 2)) ++ (w_B (bb 3) cA (Bi1 3) (Bl1 3) (Bj1 3) (Bk1 3))) H → va_D (fun q => s.heap.size ≤ q) (([(oA, .inl (cA 1, 1, .inr (.inl oF1)))]) ++ (w_P a cA P1.1 P1.2.1 P1.2.2.1 P1.2.2.2 bd) ++ (w_S sb cA S1.1 S1.2.1 S1.2.2.1 S1.2.2.2) ++ (w_Y yA cA Y1.1 Y1.2.1 Y1.2.2.1 Y1.2.2.2) ++ (w_M am cA M1.1 M1.2.1 M1.2.2.1 M1.2.2.2) ++ (w_B (bb 0) cA (Bi1 0) (Bl1 0) (Bj1 0) (Bk1 0)) ++ (w_B (bb 1) cA (Bi1 1) (Bl1 1) (Bj1 1) (Bk1 1)) ++ (w_B (bb 2) cA (Bi1 2) (Bl1 2) (Bj1 2) (Bk1 2)) ++ (w_B (bb 3) cA (Bi1 3) (Bl1 3) (Bj1 3) (Bk1 3))) → va_S (fun q => s.heap.size ≤ q) s.heap H locs → INV P1 S1 Y1 M1 Bi1 Bl1 Bk1 → ∀ ls : Array Slot, lv_has ls 8 [(0, .ref b), (1, .ref (a 0)), (2, .ref (am 0)), (3, .ref oA), (4, .int (nI i))] → W p l e room_1 s m #[Value.ref b] below meth c H locs (cl + 5) (sl + 30) Q (F0 m 1460 ls [])) {H : Heap} {locs : List Loc} (hP : va_P D ncl (([(oA, .inl (cA 1, 1, .inr (.inl oF)))]) ++ (w_P a cA Pp.1 Pp.2.1 Pp.2.2.1 Pp.2.2.2 bd) ++ (w_S sb cA Sp.1 Sp.2.1 Sp.2.2.1 Sp.2.2.2) ++ (w_Y yA cA Yp.1 Yp.2.1 Yp.2.2.1 Yp.2.2.2) ++ (w_M am cA Mp.1 Mp.2.1 Mp.2.2.1 Mp.2.2.2) ++ (w_B (bb 0) cA (Bi 0) (Bl 0) (Bj 0) (Bk 0)) ++ (w_B (bb 1) cA (Bi 1) (Bl 1) (Bj 1) (Bk 1)) ++ (w_B (bb 2) cA (Bi 2) (Bl 2) (Bj 2) (Bk 2)) ++ (w_B (bb 3) cA (Bi 3) (Bl 3) (Bj 3) (Bk 3))) H) (hD : va_D (fun q => s.heap.size ≤ q) (([(oA, .inl (cA 1, 1, .inr (.inl oF)))]) ++ (w_P a cA Pp.1 Pp.2.1 Pp.2.2.1 Pp.2.2.2 bd) ++ (w_S sb cA Sp.1 Sp.2.1 Sp.2.2.1 Sp.2.2.2) ++ (w_Y yA cA Yp.1 Yp.2.1 Yp.2.2.1 Yp.2.2.2) ++ (w_M am cA Mp.1 Mp.2.1 Mp.2.2.1 Mp.2.2.2) ++ (w_B (bb 0) cA (Bi 0) (Bl 0) (Bj 0) (Bk 0)) ++ (w_B (bb 1) cA (Bi 1) (Bl 1) (Bj 1) (Bk 1)) ++ (w_B (bb 2) cA (Bi 2) (Bl 2) (Bj 2) (Bk 2)) ++ (w_B (bb 3) cA (Bi 3) (Bl 3) (Bj 3) (Bk 3)))) (hS : va_S (fun q => s.heap.size ≤ q) s.heap H locs) {ls : Array Slot} (hl : lv_has ls 8 [(0, .ref b), (1, .ref (a 0)), (2, .ref (am 0)), (3, .ref oA), (4, .int (nI i))]) : W p l e room_1 s m #[Value.ref b] below meth c H locs cl sl Q (F0 m 1054 ls []) := by
  have hA : ∀ q, s.heap.size ≤ q → (fun q => s.heap.size ≤ q) q := fun _ h => h
  have hlo : ∀ q, (fun q => s.heap.size ≤ q) q → s.heap.size ≤ q := fun _ h => h
  have hbA : ¬ (fun q : Nat => s.heap.size ≤ q) b := Nat.not_le.mpr hbl
  obtain ⟨w, h, nb, g, l0, y0, g0, r, nc, np, wt, X, Y, rw, bf, i1, i2, i3, i4, i5, i6, i7, i8, i9, i10, i11⟩ := id hI
  have hnb4 := i2.2.2
  refine lv_aload_n hx hb d_L_law_1054 rfl (lv_at hl 1 rfl) ?_
  refine lv_aload_n hx hb d_L_law_1055 rfl (lv_at hl 0 rfl) ?_
  refine lv_iload hx hb d_L_law_1056 (lv_at hl 4 rfl) ?_
  refine lv_iconst (v := 1) hx hb d_L_law_1058 (by decide) ?_
  refine lv_iadd hx hb d_L_law_1059 ?_
  refine lv_topi (fun z1 ez1 => ?_)
  obtain rfl : z1 = (nI (i + 1)) := by rw [ez1]; exact nI_add i 1
  refine va_sld hx hb hX hbl hbA hS (vp_in_nI (n := i + 1) (N := L) (by omega) (by omega)) d_L_law_1060 ?_
  refine lv_topi (fun z2 ez2 => ?_)
  rw [nI_clamp (n := i + 1) (by omega)] at ez2
  obtain rfl : z2 = xs (i + 1) := ez2
  refine lv_i2l hx hb d_L_law_1061 rfl ?_
  refine lv_bipush (v := 32) hx hb d_L_law_1062 (by decide) ?_
  refine lv_lshl hx hb d_L_law_1064 rfl ?_
  refine lv_aload_n hx hb d_L_law_1065 rfl (lv_at hl 0 rfl) ?_
  refine lv_iload hx hb d_L_law_1066 (lv_at hl 4 rfl) ?_
  refine lv_iconst (v := 2) hx hb d_L_law_1068 (by decide) ?_
  refine lv_iadd hx hb d_L_law_1069 ?_
  refine lv_topi (fun z3 ez3 => ?_)
  obtain rfl : z3 = (nI (i + 2)) := by rw [ez3]; exact nI_add i 2
  refine va_sld hx hb hX hbl hbA hS (vp_in_nI (n := i + 2) (N := L) (by omega) (by omega)) d_L_law_1070 ?_
  refine lv_topi (fun z4 ez4 => ?_)
  rw [nI_clamp (n := i + 2) (by omega)] at ez4
  obtain rfl : z4 = xs (i + 2) := ez4
  refine lv_i2l hx hb d_L_law_1071 rfl ?_
  refine lv_ldc2 (v := 4294967295) hx hb hown (kw834 Z.1 _ _ hg.1) d_L_law_1072 ?_
  refine lv_land hx hb d_L_law_1075 ?_
  refine lv_lor hx hb d_L_law_1076 ?_
  refine lv_topl (fun z5 ez5 => ?_)
  obtain rfl : z5 = (jl (xs (i + 1)) (xs (i + 2))) := by rw [ez5]; rfl
  refine lv_aload_n hx hb d_L_law_1077 rfl (lv_at hl 3 rfl) ?_
  have hpm : List.Perm (([(oA, .inl (cA 1, 1, .inr (.inl oF)))]) ++ (w_P a cA Pp.1 Pp.2.1 Pp.2.2.1 Pp.2.2.2 bd) ++ (w_S sb cA Sp.1 Sp.2.1 Sp.2.2.1 Sp.2.2.2) ++ (w_Y yA cA Yp.1 Yp.2.1 Yp.2.2.1 Yp.2.2.2) ++ (w_M am cA Mp.1 Mp.2.1 Mp.2.2.1 Mp.2.2.2) ++ (w_B (bb 0) cA (Bi 0) (Bl 0) (Bj 0) (Bk 0)) ++ (w_B (bb 1) cA (Bi 1) (Bl 1) (Bj 1) (Bk 1)) ++ (w_B (bb 2) cA (Bi 2) (Bl 2) (Bj 2) (Bk 2)) ++ (w_B (bb 3) cA (Bi 3) (Bl 3) (Bj 3) (Bk 3))) (((w_P a cA Pp.1 Pp.2.1 Pp.2.2.1 Pp.2.2.2 bd) ++ ([(oA, .inl (cA 1, 1, .inr (.inl oF)))])) ++ ((w_S sb cA Sp.1 Sp.2.1 Sp.2.2.1 Sp.2.2.2) ++ (w_Y yA cA Yp.1 Yp.2.1 Yp.2.2.1 Yp.2.2.2) ++ (w_M am cA Mp.1 Mp.2.1 Mp.2.2.1 Mp.2.2.2) ++ (w_B (bb 0) cA (Bi 0) (Bl 0) (Bj 0) (Bk 0)) ++ (w_B (bb 1) cA (Bi 1) (Bl 1) (Bj 1) (Bk 1)) ++ (w_B (bb 2) cA (Bi 2) (Bl 2) (Bj 2) (Bk 2)) ++ (w_B (bb 3) cA (Bi 3) (Bl 3) (Bj 3) (Bk 3)))) := by simp only [List.append_assoc]; exact (List.perm_append_comm_assoc _ _ _)
  have hP := vP_perm hpm hP
  have hD := vD_perm hpm hD
  clear hpm
  refine pt_calli (wt_runSW (rest := []) hx hb hml hown hl.1 hg hlo (vP_l hP) (vD_l hD) hS (m_L_radius Z N9 a Pp.1 Pp.2.1 Pp.2.2.1 Pp.2.2.2 bd (jl (xs (i + 1)) (xs (i + 2))) oA oF H.size) (kw567 Z.1) (kw568 Z.1) (kw569 Z.1) (kw0 Z.1) ⟨by decide, by decide, (by decide +kernel : (parseMethodDescriptor y_L_radius.desc).map (fun d => d.parameters.length) = some 3)⟩ ⟨(Nat.le_of_ble_eq_true rfl), (Nat.le_of_ble_eq_true rfl)⟩ [0, 1, 2, 3] rfl rfl rfl (Nat.le_of_ble_eq_true rfl) d_L_law_1078 ⟨by show cl + 1 ≤ 601024; omega, by show sl + 6 ≤ 7293000; omega⟩) hP hD hS hA (fun kx u9 H locs hq hP hD hS => ?_)
  refine W.widen (k := cl + 5) (n := sl + 30) (by show cl + 1 ≤ cl + 5; omega) (by show sl + 6 ≤ sl + 30; omega) ?_
  have hP : va_P D ncl (((w_P a cA Pp.1 u9.1 Pp.2.2.1 Pp.2.2.2 bd) ++ ([(oA, .inl (cA 1, 1, .inr (.inl u9.2)))])) ++ ((w_S sb cA Sp.1 Sp.2.1 Sp.2.2.1 Sp.2.2.2) ++ (w_Y yA cA Yp.1 Yp.2.1 Yp.2.2.1 Yp.2.2.2) ++ (w_M am cA Mp.1 Mp.2.1 Mp.2.2.1 Mp.2.2.2) ++ (w_B (bb 0) cA (Bi 0) (Bl 0) (Bj 0) (Bk 0)) ++ (w_B (bb 1) cA (Bi 1) (Bl 1) (Bj 1) (Bk 1)) ++ (w_B (bb 2) cA (Bi 2) (Bl 2) (Bj 2) (Bk 2)) ++ (w_B (bb 3) cA (Bi 3) (Bl 3) (Bj 3) (Bk 3)))) H := hP
  have hD : va_D (fun q => s.heap.size ≤ q) (((w_P a cA Pp.1 u9.1 Pp.2.2.1 Pp.2.2.2 bd) ++ ([(oA, .inl (cA 1, 1, .inr (.inl u9.2)))])) ++ ((w_S sb cA Sp.1 Sp.2.1 Sp.2.2.1 Sp.2.2.2) ++ (w_Y yA cA Yp.1 Yp.2.1 Yp.2.2.1 Yp.2.2.2) ++ (w_M am cA Mp.1 Mp.2.1 Mp.2.2.1 Mp.2.2.2) ++ (w_B (bb 0) cA (Bi 0) (Bl 0) (Bj 0) (Bk 0)) ++ (w_B (bb 1) cA (Bi 1) (Bl 1) (Bj 1) (Bk 1)) ++ (w_B (bb 2) cA (Bi 2) (Bl 2) (Bj 2) (Bk 2)) ++ (w_B (bb 3) cA (Bi 3) (Bl 3) (Bj 3) (Bk 3)))) := hD
  refine lv_istore (lv' := [(5, .int kx), (0, .ref b), (1, .ref (a 0)), (2, .ref (am 0)), (3, .ref oA), (4, .int (nI i))]) hx hb d_L_law_1081 hl (by decide) rfl (fun ls hl => ?_)
  refine lv_aload_n hx hb d_L_law_1083 rfl (lv_at hl 3 rfl) ?_
  refine lv_aload_n hx hb d_L_law_1084 rfl (lv_at hl 1 rfl) ?_
  refine lv_iload hx hb d_L_law_1085 (lv_at hl 5 rfl) ?_
  refine lv_iconst (v := 1) hx hb d_L_law_1087 (by decide) ?_
  refine lv_iadd hx hb d_L_law_1088 ?_
  refine lv_topi (fun z6 ez6 => ?_)
  obtain rfl : z6 = (nI (i + 1)) := by rw [ez6]; exact nI_add i 1
  refine va_sld hx hb hX hbl hbA hS (vp_in_nI (n := i + 1) (N := L) (by omega) (by omega)) d_L_law_1089 ?_
  refine lv_topi (fun z7 ez7 => ?_)
  rw [nI_clamp (n := i + 1) (by omega)] at ez7
  obtain rfl : z7 = xs (i + 1) := ez7
  refine lv_i2l hx hb d_L_law_1090 rfl ?_
  refine lv_bipush (v := 32) hx hb d_L_law_1091 (by decide) ?_
  refine lv_lshl hx hb d_L_law_1093 rfl ?_
  refine lv_aload_n hx hb d_L_law_1094 rfl (lv_at hl 1 rfl) ?_
  refine lv_iload hx hb d_L_law_1095 (lv_at hl 5 rfl) ?_
  refine lv_iconst (v := 2) hx hb d_L_law_1097 (by decide) ?_
  refine lv_iadd hx hb d_L_law_1098 ?_
  refine lv_topi (fun z8 ez8 => ?_)
  obtain rfl : z8 = (nI (i + 2)) := by rw [ez8]; exact nI_add i 2
  refine va_sld hx hb hX hbl hbA hS (vp_in_nI (n := i + 2) (N := L) (by omega) (by omega)) d_L_law_1099 ?_
  refine lv_topi (fun z9 ez9 => ?_)
  rw [nI_clamp (n := i + 2) (by omega)] at ez9
  obtain rfl : z9 = xs (i + 2) := ez9
  refine lv_i2l hx hb d_L_law_1100 rfl ?_
  refine lv_ldc2 (v := 4294967295) hx hb hown (kw834 Z.1 _ _ hg.1) d_L_law_1101 ?_
  refine lv_land hx hb d_L_law_1104 ?_
  refine lv_lor hx hb d_L_law_1105 ?_
  refine lv_topl (fun z10 ez10 => ?_)
  obtain rfl : z10 = (jl (xs (i + 1)) (xs (i + 2))) := by rw [ez10]; rfl
  have hpm : List.Perm (((w_P a cA Pp.1 u9.1 Pp.2.2.1 Pp.2.2.2 bd) ++ ([(oA, .inl (cA 1, 1, .inr (.inl u9.2)))])) ++ ((w_S sb cA Sp.1 Sp.2.1 Sp.2.2.1 Sp.2.2.2) ++ (w_Y yA cA Yp.1 Yp.2.1 Yp.2.2.1 Yp.2.2.2) ++ (w_M am cA Mp.1 Mp.2.1 Mp.2.2.1 Mp.2.2.2) ++ (w_B (bb 0) cA (Bi 0) (Bl 0) (Bj 0) (Bk 0)) ++ (w_B (bb 1) cA (Bi 1) (Bl 1) (Bj 1) (Bk 1)) ++ (w_B (bb 2) cA (Bi 2) (Bl 2) (Bj 2) (Bk 2)) ++ (w_B (bb 3) cA (Bi 3) (Bl 3) (Bj 3) (Bk 3)))) (((w_M am cA Mp.1 Mp.2.1 Mp.2.2.1 Mp.2.2.2)) ++ ((w_P a cA Pp.1 u9.1 Pp.2.2.1 Pp.2.2.2 bd) ++ ([(oA, .inl (cA 1, 1, .inr (.inl u9.2)))]) ++ (w_S sb cA Sp.1 Sp.2.1 Sp.2.2.1 Sp.2.2.2) ++ (w_Y yA cA Yp.1 Yp.2.1 Yp.2.2.1 Yp.2.2.2) ++ (w_B (bb 0) cA (Bi 0) (Bl 0) (Bj 0) (Bk 0)) ++ (w_B (bb 1) cA (Bi 1) (Bl 1) (Bj 1) (Bk 1)) ++ (w_B (bb 2) cA (Bi 2) (Bl 2) (Bj 2) (Bk 2)) ++ (w_B (bb 3) cA (Bi 3) (Bl 3) (Bj 3) (Bk 3)))) := by simp only [List.append_assoc]; exact ((List.Perm.append_left _ ((List.Perm.append_left _ ((List.Perm.append_left _ (List.perm_append_comm_assoc _ _ _)).trans (List.perm_append_comm_assoc _ _ _))).trans (List.perm_append_comm_assoc _ _ _))).trans (List.perm_append_comm_assoc _ _ _))
  have hP := vP_perm hpm hP
  have hD := vD_perm hpm hD
  clear hpm
  refine p_calli (w_runV (rest := []) hx hb hml hown hl.1 hg hlo hK (vP_l hP) (vD_l hD) hS (m_M_radius Z am Mp.1 Mp.2.1 Mp.2.2.1 Mp.2.2.2 (jl (xs (i + 1)) (xs (i + 2))) H.size) (kw710 Z.1) (kw711 Z.1) (kw712 Z.1) (kw713 Z.1) (kw6 Z.1) ⟨by decide, by decide, (by decide +kernel : (parseMethodDescriptor y_M_radius.desc).map (fun d => d.parameters.length) = some 1)⟩ ⟨(Nat.le_of_ble_eq_true rfl), (Nat.le_of_ble_eq_true rfl)⟩ [0, 1, 2, 3, 4, 5, 6, 7, 8, 9, 10, 11, 12, 13, 14, 15, 16] rfl rfl (ci := 1) (q0 := 0) rfl rfl rfl (Nat.le_of_ble_eq_true rfl) d_L_law_1106 ⟨by show cl + 5 + 0 ≤ 601024; omega, by show sl + 30 + 0 ≤ 7293000; omega⟩) hP hD hS hA (fun rm um H locs hm hP hD hS => ?_)
  refine W.widen (k := cl + 5) (n := sl + 30) (by show cl + 5 + 0 ≤ cl + 5; omega) (by show sl + 30 + 0 ≤ sl + 30; omega) ?_
  have hP : va_P D ncl (((w_M am cA um.1 um.2.1 um.2.2.1 um.2.2.2)) ++ ((w_P a cA Pp.1 u9.1 Pp.2.2.1 Pp.2.2.2 bd) ++ ([(oA, .inl (cA 1, 1, .inr (.inl u9.2)))]) ++ (w_S sb cA Sp.1 Sp.2.1 Sp.2.2.1 Sp.2.2.2) ++ (w_Y yA cA Yp.1 Yp.2.1 Yp.2.2.1 Yp.2.2.2) ++ (w_B (bb 0) cA (Bi 0) (Bl 0) (Bj 0) (Bk 0)) ++ (w_B (bb 1) cA (Bi 1) (Bl 1) (Bj 1) (Bk 1)) ++ (w_B (bb 2) cA (Bi 2) (Bl 2) (Bj 2) (Bk 2)) ++ (w_B (bb 3) cA (Bi 3) (Bl 3) (Bj 3) (Bk 3)))) H := hP
  have hD : va_D (fun q => s.heap.size ≤ q) (((w_M am cA um.1 um.2.1 um.2.2.1 um.2.2.2)) ++ ((w_P a cA Pp.1 u9.1 Pp.2.2.1 Pp.2.2.2 bd) ++ ([(oA, .inl (cA 1, 1, .inr (.inl u9.2)))]) ++ (w_S sb cA Sp.1 Sp.2.1 Sp.2.2.1 Sp.2.2.2) ++ (w_Y yA cA Yp.1 Yp.2.1 Yp.2.2.1 Yp.2.2.2) ++ (w_B (bb 0) cA (Bi 0) (Bl 0) (Bj 0) (Bk 0)) ++ (w_B (bb 1) cA (Bi 1) (Bl 1) (Bj 1) (Bk 1)) ++ (w_B (bb 2) cA (Bi 2) (Bl 2) (Bj 2) (Bk 2)) ++ (w_B (bb 3) cA (Bi 3) (Bl 3) (Bj 3) (Bk 3)))) := hD
  obtain ⟨t1, t2, t3⟩ := tie_radius (oF := oF) hI hq hm
  refine lv_istore (lv' := [(6, .int rm), (5, .int kx), (0, .ref b), (1, .ref (a 0)), (2, .ref (am 0)), (3, .ref oA), (4, .int (nI i))]) hx hb d_L_law_1109 hl (by decide) rfl (fun ls hl => ?_)
  refine lv_aload_n hx hb d_L_law_1111 rfl (lv_at hl 4 rfl) ?_
  refine p_calli (w_runV (rest := []) hx hb hml hown hl.1 hg hlo hK (vP_l hP) (vD_l hD) hS (m_M_thrown Z am um.1 um.2.1 um.2.2.1 um.2.2.2 H.size) (kw683 Z.1) (kw684 Z.1) (kw685 Z.1) (kw686 Z.1) (kw6 Z.1) ⟨by decide, by decide, (by decide +kernel : (parseMethodDescriptor y_M_thrown.desc).map (fun d => d.parameters.length) = some 0)⟩ ⟨(Nat.le_of_ble_eq_true rfl), (Nat.le_of_ble_eq_true rfl)⟩ [0, 1, 2, 3, 4, 5, 6, 7, 8, 9, 10, 11, 12, 13, 14, 15, 16] rfl rfl (ci := 1) (q0 := 0) rfl rfl rfl (Nat.le_of_ble_eq_true rfl) d_L_law_1112 ⟨by show cl + 5 + 0 ≤ 601024; omega, by show sl + 30 + 0 ≤ 7293000; omega⟩) hP hD hS hA (fun rt ut H locs hrt hP hD hS => ?_)
  refine W.widen (k := cl + 5) (n := sl + 30) (by show cl + 5 + 0 ≤ cl + 5; omega) (by show sl + 30 + 0 ≤ sl + 30; omega) ?_
  have hP : va_P D ncl (((w_M am cA um.1 um.2.1 um.2.2.1 um.2.2.2)) ++ ((w_P a cA Pp.1 u9.1 Pp.2.2.1 Pp.2.2.2 bd) ++ ([(oA, .inl (cA 1, 1, .inr (.inl u9.2)))]) ++ (w_S sb cA Sp.1 Sp.2.1 Sp.2.2.1 Sp.2.2.2) ++ (w_Y yA cA Yp.1 Yp.2.1 Yp.2.2.1 Yp.2.2.2) ++ (w_B (bb 0) cA (Bi 0) (Bl 0) (Bj 0) (Bk 0)) ++ (w_B (bb 1) cA (Bi 1) (Bl 1) (Bj 1) (Bk 1)) ++ (w_B (bb 2) cA (Bi 2) (Bl 2) (Bj 2) (Bk 2)) ++ (w_B (bb 3) cA (Bi 3) (Bl 3) (Bj 3) (Bk 3)))) H := hP
  have hD : va_D (fun q => s.heap.size ≤ q) (((w_M am cA um.1 um.2.1 um.2.2.1 um.2.2.2)) ++ ((w_P a cA Pp.1 u9.1 Pp.2.2.1 Pp.2.2.2 bd) ++ ([(oA, .inl (cA 1, 1, .inr (.inl u9.2)))]) ++ (w_S sb cA Sp.1 Sp.2.1 Sp.2.2.1 Sp.2.2.2) ++ (w_Y yA cA Yp.1 Yp.2.1 Yp.2.2.1 Yp.2.2.2) ++ (w_B (bb 0) cA (Bi 0) (Bl 0) (Bj 0) (Bk 0)) ++ (w_B (bb 1) cA (Bi 1) (Bl 1) (Bj 1) (Bk 1)) ++ (w_B (bb 2) cA (Bi 2) (Bl 2) (Bj 2) (Bk 2)) ++ (w_B (bb 3) cA (Bi 3) (Bl 3) (Bj 3) (Bk 3)))) := hD
  subst hrt
  refine lv_iload hx hb d_L_law_1115 (lv_at hl 1 rfl) ?_
  refine lv_icmp_eq (tgt := 1122) hx hb d_L_law_1117 (by decide) (fun _ => ?_) (fun k11 => by first | exact absurd (show um.1 0 = kx from t1) k11 | exact absurd k11 (show um.1 0 = kx from t1))
  refine lv_iload hx hb d_L_law_1122 (lv_at hl 1 rfl) ?_
  have hpm : List.Perm (((w_M am cA um.1 um.2.1 um.2.2.1 um.2.2.2)) ++ ((w_P a cA Pp.1 u9.1 Pp.2.2.1 Pp.2.2.2 bd) ++ ([(oA, .inl (cA 1, 1, .inr (.inl u9.2)))]) ++ (w_S sb cA Sp.1 Sp.2.1 Sp.2.2.1 Sp.2.2.2) ++ (w_Y yA cA Yp.1 Yp.2.1 Yp.2.2.1 Yp.2.2.2) ++ (w_B (bb 0) cA (Bi 0) (Bl 0) (Bj 0) (Bk 0)) ++ (w_B (bb 1) cA (Bi 1) (Bl 1) (Bj 1) (Bk 1)) ++ (w_B (bb 2) cA (Bi 2) (Bl 2) (Bj 2) (Bk 2)) ++ (w_B (bb 3) cA (Bi 3) (Bl 3) (Bj 3) (Bk 3)))) (([(oA, .inl (cA 1, 1, .inr (.inl u9.2)))]) ++ (w_P a cA Pp.1 u9.1 Pp.2.2.1 Pp.2.2.2 bd) ++ (w_S sb cA Sp.1 Sp.2.1 Sp.2.2.1 Sp.2.2.2) ++ (w_Y yA cA Yp.1 Yp.2.1 Yp.2.2.1 Yp.2.2.2) ++ (w_M am cA um.1 um.2.1 um.2.2.1 um.2.2.2) ++ (w_B (bb 0) cA (Bi 0) (Bl 0) (Bj 0) (Bk 0)) ++ (w_B (bb 1) cA (Bi 1) (Bl 1) (Bj 1) (Bk 1)) ++ (w_B (bb 2) cA (Bi 2) (Bl 2) (Bj 2) (Bk 2)) ++ (w_B (bb 3) cA (Bi 3) (Bl 3) (Bj 3) (Bk 3))) := by simp only [List.append_assoc]; exact (((List.Perm.append_left _ (List.perm_append_comm_assoc _ _ _)).trans (List.perm_append_comm_assoc _ _ _)).trans (List.Perm.append_left _ ((List.perm_append_comm_assoc _ _ _).trans (List.Perm.append_left _ ((List.perm_append_comm_assoc _ _ _).trans (List.Perm.append_left _ (List.perm_append_comm_assoc _ _ _)))))))
  have hP := vP_perm hpm hP
  have hD := vD_perm hpm hD
  clear hpm
  refine lv_if_ne (tgt := 1146) hx hb d_L_law_1124 (by decide) (fun d12 => ?_) (fun d12 => ?_)
  · refine lv_goto (tgt := 1460) hx hb d_L_law_1146 (by decide) ?_
    exact kk (Pp.1, u9.1, Pp.2.2.1, Pp.2.2.2) Sp Yp um Bi Bl Bj Bk u9.2 _ _ hP hD hS t3 ls (lv_sub hl [2, 3, 4, 5, 6] rfl)
  · have t4 := t2 (show kx = 0 from d12)
    refine lv_aload_n hx hb d_L_law_1127 rfl (lv_at hl 5 rfl) ?_
    refine lv_iconst (v := 0) hx hb d_L_law_1128 (by decide) ?_
    refine va_lald hx hb hK hP 0 1 rfl rfl (by unfold vp_in; decide) d_L_law_1129 ?_
    refine lv_topl (fun z13 ez13 => ?_)
    obtain rfl : z13 = (u9.2 0) := by rw [ez13]; rfl
    refine lv_iload hx hb d_L_law_1130 (lv_at hl 0 rfl) ?_
    refine lv_if_eq (tgt := 1139) hx hb d_L_law_1132 (by decide) (fun f14 => ?_) (fun f14 => ?_)
    · refine lv_lconst (v := 0) hx hb d_L_law_1139 (by decide) ?_
      refine W.lcmp hx hb d_L_law_1140 ?_
      refine lv_if_eq (tgt := 1146) hx hb d_L_law_1141 (by decide) (fun _ => ?_) (fun k15 => by first | exact absurd ((lg_cmp_eq _ _).mpr (t4.trans (if_pos f14))) k15 | exact absurd k15 ((lg_cmp_eq _ _).mpr (t4.trans (if_pos f14))))
      refine lv_goto (tgt := 1460) hx hb d_L_law_1146 (by decide) ?_
      exact kk (Pp.1, u9.1, Pp.2.2.1, Pp.2.2.2) Sp Yp um Bi Bl Bj Bk u9.2 _ _ hP hD hS t3 ls (lv_sub hl [2, 3, 4, 5, 6] rfl)
    · refine lv_lconst (v := 1) hx hb d_L_law_1135 (by decide) ?_
      refine lv_goto (tgt := 1140) hx hb d_L_law_1136 (by decide) ?_
      refine W.lcmp hx hb d_L_law_1140 ?_
      refine lv_if_eq (tgt := 1146) hx hb d_L_law_1141 (by decide) (fun _ => ?_) (fun k16 => by first | exact absurd ((lg_cmp_eq _ _).mpr (t4.trans (if_neg f14))) k16 | exact absurd k16 ((lg_cmp_eq _ _).mpr (t4.trans (if_neg f14))))
      refine lv_goto (tgt := 1460) hx hb d_L_law_1146 (by decide) ?_
      exact kk (Pp.1, u9.1, Pp.2.2.1, Pp.2.2.2) Sp Yp um Bi Bl Bj Bk u9.2 _ _ hP hD hS t3 ls (lv_sub hl [2, 3, 4, 5, 6] rfl)
set_option maxHeartbeats 4000000 in
set_option maxRecDepth 100000 in
theorem lc_rail {p : Program} {l : Launch} {e : Env} {s : State} {m : MethodId} {below : List Frame} {meth : Method} {c : Code} {Q : State → Prop} {D : va_G} {cA sa : Nat → Nat} (Z : zE l s D cA sa) (N9 : zN s) (hx : p.tables.exec = Jvm.exec) (hb : c.code = code) (hml : c.maxLocals = 8) (hown : s.vm.findClass R_L = some m.cls) (hg : gl s s) (hK : va_K D ncl (ty0 cA) s) {b L : Nat} {xs : Nat → Int32} (hX : va_X b L xs s s.heap) (hbl : b < s.heap.size) (hL : L ≤ 4098) {a sb yA bd am : Nat → Nat} {oA : Nat} {bb : Nat → Nat → Nat} (hsa : sb 0 = a 5) (hya : yA 0 = a 6) (hbd : ∀ k, k < 4 → bd k = bb k 0) {i cl sl : Nat} (hi : i + 8 ≤ L) (hcl : cl + 5 ≤ 601024) (hsl : sl + 30 ≤ 7293000) {Pp Sp Yp Mp : St} {Bi : Nat → Nat → Int32} {Bl : Nat → Nat → Int64} {Bj : Nat → Nat → Nat → Int32} {Bk : Nat → Nat → Nat → Int64} {oF : Nat → Int64} (hI : INV Pp Sp Yp Mp Bi Bl Bk) (kk : ∀ (P1 S1 Y1 M1 : St) (Bi1 : Nat → Nat → Int32) (Bl1 : Nat → Nat → Int64) (Bj1 : Nat → Nat → Nat → Int32) (Bk1 : Nat → Nat → Nat → Int64) (oF1 : Nat → Int64) (H : Heap) (locs : List Loc), va_P D ncl (([(oA, .inl (cA 1, 1, .inr (.inl oF1)))]) ++ (w_P a cA P1.1 P1.2.1 P1.2.2.1 P1.2.2.2 bd) ++ (w_S sb cA S1.1 S1.2.1 S1.2.2.1 S1.2.2.2) ++ (w_Y yA cA Y1.1 Y1.2.1 Y1.2.2.1 Y1.2.2.2) ++ (w_M am cA M1.1 M1.2.1 M1.2.2.1 M1.2.2.2) ++ (w_B (bb 0) cA (Bi1 0) (Bl1 0) (Bj1 0) (Bk1 0)) ++ (w_B (bb 1) cA (Bi1 1) (Bl1 1) (Bj1 1) (Bk1 1)) ++ (w_B (bb 2) cA (Bi1 2) (Bl1 2) (Bj1 2) (Bk1 2)) ++ (w_B (bb 3) cA (Bi1 3) (Bl1 3) (Bj1 3) (Bk1 3))) H → va_D (fun q => s.heap.size ≤ q) (([(oA, .inl (cA 1, 1, .inr (.inl oF1)))]) ++ (w_P a cA P1.1 P1.2.1 P1.2.2.1 P1.2.2.2 bd) ++ (w_S sb cA S1.1 S1.2.1 S1.2.2.1 S1.2.2.2) ++ (w_Y yA cA Y1.1 Y1.2.1 Y1.2.2.1 Y1.2.2.2) ++ (w_M am cA M1.1 M1.2.1 M1.2.2.1 M1.2.2.2) ++ (w_B (bb 0) cA (Bi1 0) (Bl1 0) (Bj1 0) (Bk1 0)) ++ (w_B (bb 1) cA (Bi1 1) (Bl1 1) (Bj1 1) (Bk1 1)) ++ (w_B (bb 2) cA (Bi1 2) (Bl1 2) (Bj1 2) (Bk1 2)) ++ (w_B (bb 3) cA (Bi1 3) (Bl1 3) (Bj1 3) (Bk1 3))) → va_S (fun q => s.heap.size ≤ q) s.heap H locs → INV P1 S1 Y1 M1 Bi1 Bl1 Bk1 → ∀ ls : Array Slot, lv_has ls 8 [(0, .ref b), (1, .ref (a 0)), (2, .ref (am 0)), (3, .ref oA), (4, .int (nI i))] → W p l e room_1 s m #[Value.ref b] below meth c H locs (cl + 5) (sl + 30) Q (F0 m 1460 ls [])) {H : Heap} {locs : List Loc} (hP : va_P D ncl (([(oA, .inl (cA 1, 1, .inr (.inl oF)))]) ++ (w_P a cA Pp.1 Pp.2.1 Pp.2.2.1 Pp.2.2.2 bd) ++ (w_S sb cA Sp.1 Sp.2.1 Sp.2.2.1 Sp.2.2.2) ++ (w_Y yA cA Yp.1 Yp.2.1 Yp.2.2.1 Yp.2.2.2) ++ (w_M am cA Mp.1 Mp.2.1 Mp.2.2.1 Mp.2.2.2) ++ (w_B (bb 0) cA (Bi 0) (Bl 0) (Bj 0) (Bk 0)) ++ (w_B (bb 1) cA (Bi 1) (Bl 1) (Bj 1) (Bk 1)) ++ (w_B (bb 2) cA (Bi 2) (Bl 2) (Bj 2) (Bk 2)) ++ (w_B (bb 3) cA (Bi 3) (Bl 3) (Bj 3) (Bk 3))) H) (hD : va_D (fun q => s.heap.size ≤ q) (([(oA, .inl (cA 1, 1, .inr (.inl oF)))]) ++ (w_P a cA Pp.1 Pp.2.1 Pp.2.2.1 Pp.2.2.2 bd) ++ (w_S sb cA Sp.1 Sp.2.1 Sp.2.2.1 Sp.2.2.2) ++ (w_Y yA cA Yp.1 Yp.2.1 Yp.2.2.1 Yp.2.2.2) ++ (w_M am cA Mp.1 Mp.2.1 Mp.2.2.1 Mp.2.2.2) ++ (w_B (bb 0) cA (Bi 0) (Bl 0) (Bj 0) (Bk 0)) ++ (w_B (bb 1) cA (Bi 1) (Bl 1) (Bj 1) (Bk 1)) ++ (w_B (bb 2) cA (Bi 2) (Bl 2) (Bj 2) (Bk 2)) ++ (w_B (bb 3) cA (Bi 3) (Bl 3) (Bj 3) (Bk 3)))) (hS : va_S (fun q => s.heap.size ≤ q) s.heap H locs) {ls : Array Slot} (hl : lv_has ls 8 [(0, .ref b), (1, .ref (a 0)), (2, .ref (am 0)), (3, .ref oA), (4, .int (nI i))]) : W p l e room_1 s m #[Value.ref b] below meth c H locs cl sl Q (F0 m 1240 ls []) := by
  have hA : ∀ q, s.heap.size ≤ q → (fun q => s.heap.size ≤ q) q := fun _ h => h
  have hlo : ∀ q, (fun q => s.heap.size ≤ q) q → s.heap.size ≤ q := fun _ h => h
  have hbA : ¬ (fun q : Nat => s.heap.size ≤ q) b := Nat.not_le.mpr hbl
  obtain ⟨w, h, nb, g, l0, y0, g0, r, nc, np, wt, X, Y, rw, bf, i1, i2, i3, i4, i5, i6, i7, i8, i9, i10, i11⟩ := id hI
  have hnb4 := i2.2.2
  refine lv_aload_n hx hb d_L_law_1240 rfl (lv_at hl 1 rfl) ?_
  refine lv_aload_n hx hb d_L_law_1241 rfl (lv_at hl 0 rfl) ?_
  refine lv_iload hx hb d_L_law_1242 (lv_at hl 4 rfl) ?_
  refine lv_iconst (v := 1) hx hb d_L_law_1244 (by decide) ?_
  refine lv_iadd hx hb d_L_law_1245 ?_
  refine lv_topi (fun z1 ez1 => ?_)
  obtain rfl : z1 = (nI (i + 1)) := by rw [ez1]; exact nI_add i 1
  refine va_sld hx hb hX hbl hbA hS (vp_in_nI (n := i + 1) (N := L) (by omega) (by omega)) d_L_law_1246 ?_
  refine lv_topi (fun z2 ez2 => ?_)
  rw [nI_clamp (n := i + 1) (by omega)] at ez2
  obtain rfl : z2 = xs (i + 1) := ez2
  refine lv_aload_n hx hb d_L_law_1247 rfl (lv_at hl 0 rfl) ?_
  refine lv_iload hx hb d_L_law_1248 (lv_at hl 4 rfl) ?_
  refine lv_iconst (v := 2) hx hb d_L_law_1250 (by decide) ?_
  refine lv_iadd hx hb d_L_law_1251 ?_
  refine lv_topi (fun z3 ez3 => ?_)
  obtain rfl : z3 = (nI (i + 2)) := by rw [ez3]; exact nI_add i 2
  refine va_sld hx hb hX hbl hbA hS (vp_in_nI (n := i + 2) (N := L) (by omega) (by omega)) d_L_law_1252 ?_
  refine lv_topi (fun z4 ez4 => ?_)
  rw [nI_clamp (n := i + 2) (by omega)] at ez4
  obtain rfl : z4 = xs (i + 2) := ez4
  refine lv_i2l hx hb d_L_law_1253 rfl ?_
  refine lv_bipush (v := 32) hx hb d_L_law_1254 (by decide) ?_
  refine lv_lshl hx hb d_L_law_1256 rfl ?_
  refine lv_aload_n hx hb d_L_law_1257 rfl (lv_at hl 0 rfl) ?_
  refine lv_iload hx hb d_L_law_1258 (lv_at hl 4 rfl) ?_
  refine lv_iconst (v := 3) hx hb d_L_law_1260 (by decide) ?_
  refine lv_iadd hx hb d_L_law_1261 ?_
  refine lv_topi (fun z5 ez5 => ?_)
  obtain rfl : z5 = (nI (i + 3)) := by rw [ez5]; exact nI_add i 3
  refine va_sld hx hb hX hbl hbA hS (vp_in_nI (n := i + 3) (N := L) (by omega) (by omega)) d_L_law_1262 ?_
  refine lv_topi (fun z6 ez6 => ?_)
  rw [nI_clamp (n := i + 3) (by omega)] at ez6
  obtain rfl : z6 = xs (i + 3) := ez6
  refine lv_i2l hx hb d_L_law_1263 rfl ?_
  refine lv_ldc2 (v := 4294967295) hx hb hown (kw834 Z.1 _ _ hg.1) d_L_law_1264 ?_
  refine lv_land hx hb d_L_law_1267 ?_
  refine lv_lor hx hb d_L_law_1268 ?_
  refine lv_topl (fun z7 ez7 => ?_)
  obtain rfl : z7 = (jl (xs (i + 2)) (xs (i + 3))) := by rw [ez7]; rfl
  refine lv_aload_n hx hb d_L_law_1269 rfl (lv_at hl 3 rfl) ?_
  have hpm : List.Perm (([(oA, .inl (cA 1, 1, .inr (.inl oF)))]) ++ (w_P a cA Pp.1 Pp.2.1 Pp.2.2.1 Pp.2.2.2 bd) ++ (w_S sb cA Sp.1 Sp.2.1 Sp.2.2.1 Sp.2.2.2) ++ (w_Y yA cA Yp.1 Yp.2.1 Yp.2.2.1 Yp.2.2.2) ++ (w_M am cA Mp.1 Mp.2.1 Mp.2.2.1 Mp.2.2.2) ++ (w_B (bb 0) cA (Bi 0) (Bl 0) (Bj 0) (Bk 0)) ++ (w_B (bb 1) cA (Bi 1) (Bl 1) (Bj 1) (Bk 1)) ++ (w_B (bb 2) cA (Bi 2) (Bl 2) (Bj 2) (Bk 2)) ++ (w_B (bb 3) cA (Bi 3) (Bl 3) (Bj 3) (Bk 3))) (((w_P a cA Pp.1 Pp.2.1 Pp.2.2.1 Pp.2.2.2 bd) ++ ([(oA, .inl (cA 1, 1, .inr (.inl oF)))])) ++ ((w_S sb cA Sp.1 Sp.2.1 Sp.2.2.1 Sp.2.2.2) ++ (w_Y yA cA Yp.1 Yp.2.1 Yp.2.2.1 Yp.2.2.2) ++ (w_M am cA Mp.1 Mp.2.1 Mp.2.2.1 Mp.2.2.2) ++ (w_B (bb 0) cA (Bi 0) (Bl 0) (Bj 0) (Bk 0)) ++ (w_B (bb 1) cA (Bi 1) (Bl 1) (Bj 1) (Bk 1)) ++ (w_B (bb 2) cA (Bi 2) (Bl 2) (Bj 2) (Bk 2)) ++ (w_B (bb 3) cA (Bi 3) (Bl 3) (Bj 3) (Bk 3)))) := by simp only [List.append_assoc]; exact (List.perm_append_comm_assoc _ _ _)
  have hP := vP_perm hpm hP
  have hD := vD_perm hpm hD
  clear hpm
  refine pt_calli (wt_runSW (rest := []) hx hb hml hown hl.1 hg hlo (vP_l hP) (vD_l hD) hS (m_L_rail Z N9 a Pp.1 Pp.2.1 Pp.2.2.1 Pp.2.2.2 bd (xs (i + 1)) (jl (xs (i + 2)) (xs (i + 3))) oA oF H.size) (kw581 Z.1) (kw582 Z.1) (kw583 Z.1) (kw0 Z.1) ⟨by decide, by decide, (by decide +kernel : (parseMethodDescriptor y_L_rail.desc).map (fun d => d.parameters.length) = some 4)⟩ ⟨(Nat.le_of_ble_eq_true rfl), (Nat.le_of_ble_eq_true rfl)⟩ [0, 1, 2, 3] rfl rfl rfl (Nat.le_of_ble_eq_true rfl) d_L_law_1270 ⟨by show cl + 2 ≤ 601024; omega, by show sl + 12 ≤ 7293000; omega⟩) hP hD hS hA (fun kx u9 H locs hq hP hD hS => ?_)
  refine W.widen (k := cl + 5) (n := sl + 30) (by show cl + 2 ≤ cl + 5; omega) (by show sl + 12 ≤ sl + 30; omega) ?_
  have hP : va_P D ncl (((w_P a cA Pp.1 Pp.2.1 Pp.2.2.1 u9.1 bd) ++ ([(oA, .inl (cA 1, 1, .inr (.inl u9.2)))])) ++ ((w_S sb cA Sp.1 Sp.2.1 Sp.2.2.1 Sp.2.2.2) ++ (w_Y yA cA Yp.1 Yp.2.1 Yp.2.2.1 Yp.2.2.2) ++ (w_M am cA Mp.1 Mp.2.1 Mp.2.2.1 Mp.2.2.2) ++ (w_B (bb 0) cA (Bi 0) (Bl 0) (Bj 0) (Bk 0)) ++ (w_B (bb 1) cA (Bi 1) (Bl 1) (Bj 1) (Bk 1)) ++ (w_B (bb 2) cA (Bi 2) (Bl 2) (Bj 2) (Bk 2)) ++ (w_B (bb 3) cA (Bi 3) (Bl 3) (Bj 3) (Bk 3)))) H := hP
  have hD : va_D (fun q => s.heap.size ≤ q) (((w_P a cA Pp.1 Pp.2.1 Pp.2.2.1 u9.1 bd) ++ ([(oA, .inl (cA 1, 1, .inr (.inl u9.2)))])) ++ ((w_S sb cA Sp.1 Sp.2.1 Sp.2.2.1 Sp.2.2.2) ++ (w_Y yA cA Yp.1 Yp.2.1 Yp.2.2.1 Yp.2.2.2) ++ (w_M am cA Mp.1 Mp.2.1 Mp.2.2.1 Mp.2.2.2) ++ (w_B (bb 0) cA (Bi 0) (Bl 0) (Bj 0) (Bk 0)) ++ (w_B (bb 1) cA (Bi 1) (Bl 1) (Bj 1) (Bk 1)) ++ (w_B (bb 2) cA (Bi 2) (Bl 2) (Bj 2) (Bk 2)) ++ (w_B (bb 3) cA (Bi 3) (Bl 3) (Bj 3) (Bk 3)))) := hD
  refine lv_istore (lv' := [(5, .int kx), (0, .ref b), (1, .ref (a 0)), (2, .ref (am 0)), (3, .ref oA), (4, .int (nI i))]) hx hb d_L_law_1273 hl (by decide) rfl (fun ls hl => ?_)
  refine lv_aload_n hx hb d_L_law_1275 rfl (lv_at hl 3 rfl) ?_
  refine lv_aload_n hx hb d_L_law_1276 rfl (lv_at hl 1 rfl) ?_
  refine lv_iload hx hb d_L_law_1277 (lv_at hl 5 rfl) ?_
  refine lv_iconst (v := 1) hx hb d_L_law_1279 (by decide) ?_
  refine lv_iadd hx hb d_L_law_1280 ?_
  refine lv_topi (fun z8 ez8 => ?_)
  obtain rfl : z8 = (nI (i + 1)) := by rw [ez8]; exact nI_add i 1
  refine va_sld hx hb hX hbl hbA hS (vp_in_nI (n := i + 1) (N := L) (by omega) (by omega)) d_L_law_1281 ?_
  refine lv_topi (fun z9 ez9 => ?_)
  rw [nI_clamp (n := i + 1) (by omega)] at ez9
  obtain rfl : z9 = xs (i + 1) := ez9
  refine lv_aload_n hx hb d_L_law_1282 rfl (lv_at hl 1 rfl) ?_
  refine lv_iload hx hb d_L_law_1283 (lv_at hl 5 rfl) ?_
  refine lv_iconst (v := 2) hx hb d_L_law_1285 (by decide) ?_
  refine lv_iadd hx hb d_L_law_1286 ?_
  refine lv_topi (fun z10 ez10 => ?_)
  obtain rfl : z10 = (nI (i + 2)) := by rw [ez10]; exact nI_add i 2
  refine va_sld hx hb hX hbl hbA hS (vp_in_nI (n := i + 2) (N := L) (by omega) (by omega)) d_L_law_1287 ?_
  refine lv_topi (fun z11 ez11 => ?_)
  rw [nI_clamp (n := i + 2) (by omega)] at ez11
  obtain rfl : z11 = xs (i + 2) := ez11
  refine lv_i2l hx hb d_L_law_1288 rfl ?_
  refine lv_bipush (v := 32) hx hb d_L_law_1289 (by decide) ?_
  refine lv_lshl hx hb d_L_law_1291 rfl ?_
  refine lv_aload_n hx hb d_L_law_1292 rfl (lv_at hl 1 rfl) ?_
  refine lv_iload hx hb d_L_law_1293 (lv_at hl 5 rfl) ?_
  refine lv_iconst (v := 3) hx hb d_L_law_1295 (by decide) ?_
  refine lv_iadd hx hb d_L_law_1296 ?_
  refine lv_topi (fun z12 ez12 => ?_)
  obtain rfl : z12 = (nI (i + 3)) := by rw [ez12]; exact nI_add i 3
  refine va_sld hx hb hX hbl hbA hS (vp_in_nI (n := i + 3) (N := L) (by omega) (by omega)) d_L_law_1297 ?_
  refine lv_topi (fun z13 ez13 => ?_)
  rw [nI_clamp (n := i + 3) (by omega)] at ez13
  obtain rfl : z13 = xs (i + 3) := ez13
  refine lv_i2l hx hb d_L_law_1298 rfl ?_
  refine lv_ldc2 (v := 4294967295) hx hb hown (kw834 Z.1 _ _ hg.1) d_L_law_1299 ?_
  refine lv_land hx hb d_L_law_1302 ?_
  refine lv_lor hx hb d_L_law_1303 ?_
  refine lv_topl (fun z14 ez14 => ?_)
  obtain rfl : z14 = (jl (xs (i + 2)) (xs (i + 3))) := by rw [ez14]; rfl
  have hpm : List.Perm (((w_P a cA Pp.1 Pp.2.1 Pp.2.2.1 u9.1 bd) ++ ([(oA, .inl (cA 1, 1, .inr (.inl u9.2)))])) ++ ((w_S sb cA Sp.1 Sp.2.1 Sp.2.2.1 Sp.2.2.2) ++ (w_Y yA cA Yp.1 Yp.2.1 Yp.2.2.1 Yp.2.2.2) ++ (w_M am cA Mp.1 Mp.2.1 Mp.2.2.1 Mp.2.2.2) ++ (w_B (bb 0) cA (Bi 0) (Bl 0) (Bj 0) (Bk 0)) ++ (w_B (bb 1) cA (Bi 1) (Bl 1) (Bj 1) (Bk 1)) ++ (w_B (bb 2) cA (Bi 2) (Bl 2) (Bj 2) (Bk 2)) ++ (w_B (bb 3) cA (Bi 3) (Bl 3) (Bj 3) (Bk 3)))) (((w_M am cA Mp.1 Mp.2.1 Mp.2.2.1 Mp.2.2.2)) ++ ((w_P a cA Pp.1 Pp.2.1 Pp.2.2.1 u9.1 bd) ++ ([(oA, .inl (cA 1, 1, .inr (.inl u9.2)))]) ++ (w_S sb cA Sp.1 Sp.2.1 Sp.2.2.1 Sp.2.2.2) ++ (w_Y yA cA Yp.1 Yp.2.1 Yp.2.2.1 Yp.2.2.2) ++ (w_B (bb 0) cA (Bi 0) (Bl 0) (Bj 0) (Bk 0)) ++ (w_B (bb 1) cA (Bi 1) (Bl 1) (Bj 1) (Bk 1)) ++ (w_B (bb 2) cA (Bi 2) (Bl 2) (Bj 2) (Bk 2)) ++ (w_B (bb 3) cA (Bi 3) (Bl 3) (Bj 3) (Bk 3)))) := by simp only [List.append_assoc]; exact ((List.Perm.append_left _ ((List.Perm.append_left _ ((List.Perm.append_left _ (List.perm_append_comm_assoc _ _ _)).trans (List.perm_append_comm_assoc _ _ _))).trans (List.perm_append_comm_assoc _ _ _))).trans (List.perm_append_comm_assoc _ _ _))
  have hP := vP_perm hpm hP
  have hD := vD_perm hpm hD
  clear hpm
  refine p_calli (w_runV (rest := []) hx hb hml hown hl.1 hg hlo hK (vP_l hP) (vD_l hD) hS (m_M_rail Z am Mp.1 Mp.2.1 Mp.2.2.1 Mp.2.2.2 (xs (i + 1)) (jl (xs (i + 2)) (xs (i + 3))) H.size) (kw714 Z.1) (kw715 Z.1) (kw716 Z.1) (kw717 Z.1) (kw6 Z.1) ⟨by decide, by decide, (by decide +kernel : (parseMethodDescriptor y_M_rail.desc).map (fun d => d.parameters.length) = some 2)⟩ ⟨(Nat.le_of_ble_eq_true rfl), (Nat.le_of_ble_eq_true rfl)⟩ [0, 1, 2, 3, 4, 5, 6, 7, 8, 9, 10, 11, 12, 13, 14, 15, 16] rfl rfl (ci := 1) (q0 := 0) rfl rfl rfl (Nat.le_of_ble_eq_true rfl) d_L_law_1304 ⟨by show cl + 5 + 0 ≤ 601024; omega, by show sl + 30 + 0 ≤ 7293000; omega⟩) hP hD hS hA (fun rm um H locs hm hP hD hS => ?_)
  refine W.widen (k := cl + 5) (n := sl + 30) (by show cl + 5 + 0 ≤ cl + 5; omega) (by show sl + 30 + 0 ≤ sl + 30; omega) ?_
  have hP : va_P D ncl (((w_M am cA um.1 um.2.1 um.2.2.1 um.2.2.2)) ++ ((w_P a cA Pp.1 Pp.2.1 Pp.2.2.1 u9.1 bd) ++ ([(oA, .inl (cA 1, 1, .inr (.inl u9.2)))]) ++ (w_S sb cA Sp.1 Sp.2.1 Sp.2.2.1 Sp.2.2.2) ++ (w_Y yA cA Yp.1 Yp.2.1 Yp.2.2.1 Yp.2.2.2) ++ (w_B (bb 0) cA (Bi 0) (Bl 0) (Bj 0) (Bk 0)) ++ (w_B (bb 1) cA (Bi 1) (Bl 1) (Bj 1) (Bk 1)) ++ (w_B (bb 2) cA (Bi 2) (Bl 2) (Bj 2) (Bk 2)) ++ (w_B (bb 3) cA (Bi 3) (Bl 3) (Bj 3) (Bk 3)))) H := hP
  have hD : va_D (fun q => s.heap.size ≤ q) (((w_M am cA um.1 um.2.1 um.2.2.1 um.2.2.2)) ++ ((w_P a cA Pp.1 Pp.2.1 Pp.2.2.1 u9.1 bd) ++ ([(oA, .inl (cA 1, 1, .inr (.inl u9.2)))]) ++ (w_S sb cA Sp.1 Sp.2.1 Sp.2.2.1 Sp.2.2.2) ++ (w_Y yA cA Yp.1 Yp.2.1 Yp.2.2.1 Yp.2.2.2) ++ (w_B (bb 0) cA (Bi 0) (Bl 0) (Bj 0) (Bk 0)) ++ (w_B (bb 1) cA (Bi 1) (Bl 1) (Bj 1) (Bk 1)) ++ (w_B (bb 2) cA (Bi 2) (Bl 2) (Bj 2) (Bk 2)) ++ (w_B (bb 3) cA (Bi 3) (Bl 3) (Bj 3) (Bk 3)))) := hD
  obtain ⟨t1, t2, t3⟩ := tie_rail (oF := oF) hI hq hm
  refine lv_istore (lv' := [(6, .int rm), (5, .int kx), (0, .ref b), (1, .ref (a 0)), (2, .ref (am 0)), (3, .ref oA), (4, .int (nI i))]) hx hb d_L_law_1307 hl (by decide) rfl (fun ls hl => ?_)
  refine lv_aload_n hx hb d_L_law_1309 rfl (lv_at hl 4 rfl) ?_
  refine p_calli (w_runV (rest := []) hx hb hml hown hl.1 hg hlo hK (vP_l hP) (vD_l hD) hS (m_M_thrown Z am um.1 um.2.1 um.2.2.1 um.2.2.2 H.size) (kw683 Z.1) (kw684 Z.1) (kw685 Z.1) (kw686 Z.1) (kw6 Z.1) ⟨by decide, by decide, (by decide +kernel : (parseMethodDescriptor y_M_thrown.desc).map (fun d => d.parameters.length) = some 0)⟩ ⟨(Nat.le_of_ble_eq_true rfl), (Nat.le_of_ble_eq_true rfl)⟩ [0, 1, 2, 3, 4, 5, 6, 7, 8, 9, 10, 11, 12, 13, 14, 15, 16] rfl rfl (ci := 1) (q0 := 0) rfl rfl rfl (Nat.le_of_ble_eq_true rfl) d_L_law_1310 ⟨by show cl + 5 + 0 ≤ 601024; omega, by show sl + 30 + 0 ≤ 7293000; omega⟩) hP hD hS hA (fun rt ut H locs hrt hP hD hS => ?_)
  refine W.widen (k := cl + 5) (n := sl + 30) (by show cl + 5 + 0 ≤ cl + 5; omega) (by show sl + 30 + 0 ≤ sl + 30; omega) ?_
  have hP : va_P D ncl (((w_M am cA um.1 um.2.1 um.2.2.1 um.2.2.2)) ++ ((w_P a cA Pp.1 Pp.2.1 Pp.2.2.1 u9.1 bd) ++ ([(oA, .inl (cA 1, 1, .inr (.inl u9.2)))]) ++ (w_S sb cA Sp.1 Sp.2.1 Sp.2.2.1 Sp.2.2.2) ++ (w_Y yA cA Yp.1 Yp.2.1 Yp.2.2.1 Yp.2.2.2) ++ (w_B (bb 0) cA (Bi 0) (Bl 0) (Bj 0) (Bk 0)) ++ (w_B (bb 1) cA (Bi 1) (Bl 1) (Bj 1) (Bk 1)) ++ (w_B (bb 2) cA (Bi 2) (Bl 2) (Bj 2) (Bk 2)) ++ (w_B (bb 3) cA (Bi 3) (Bl 3) (Bj 3) (Bk 3)))) H := hP
  have hD : va_D (fun q => s.heap.size ≤ q) (((w_M am cA um.1 um.2.1 um.2.2.1 um.2.2.2)) ++ ((w_P a cA Pp.1 Pp.2.1 Pp.2.2.1 u9.1 bd) ++ ([(oA, .inl (cA 1, 1, .inr (.inl u9.2)))]) ++ (w_S sb cA Sp.1 Sp.2.1 Sp.2.2.1 Sp.2.2.2) ++ (w_Y yA cA Yp.1 Yp.2.1 Yp.2.2.1 Yp.2.2.2) ++ (w_B (bb 0) cA (Bi 0) (Bl 0) (Bj 0) (Bk 0)) ++ (w_B (bb 1) cA (Bi 1) (Bl 1) (Bj 1) (Bk 1)) ++ (w_B (bb 2) cA (Bi 2) (Bl 2) (Bj 2) (Bk 2)) ++ (w_B (bb 3) cA (Bi 3) (Bl 3) (Bj 3) (Bk 3)))) := hD
  subst hrt
  refine lv_iload hx hb d_L_law_1313 (lv_at hl 1 rfl) ?_
  refine lv_icmp_eq (tgt := 1320) hx hb d_L_law_1315 (by decide) (fun _ => ?_) (fun k15 => by first | exact absurd (show um.1 0 = kx from t1) k15 | exact absurd k15 (show um.1 0 = kx from t1))
  refine lv_iload hx hb d_L_law_1320 (lv_at hl 1 rfl) ?_
  have hpm : List.Perm (((w_M am cA um.1 um.2.1 um.2.2.1 um.2.2.2)) ++ ((w_P a cA Pp.1 Pp.2.1 Pp.2.2.1 u9.1 bd) ++ ([(oA, .inl (cA 1, 1, .inr (.inl u9.2)))]) ++ (w_S sb cA Sp.1 Sp.2.1 Sp.2.2.1 Sp.2.2.2) ++ (w_Y yA cA Yp.1 Yp.2.1 Yp.2.2.1 Yp.2.2.2) ++ (w_B (bb 0) cA (Bi 0) (Bl 0) (Bj 0) (Bk 0)) ++ (w_B (bb 1) cA (Bi 1) (Bl 1) (Bj 1) (Bk 1)) ++ (w_B (bb 2) cA (Bi 2) (Bl 2) (Bj 2) (Bk 2)) ++ (w_B (bb 3) cA (Bi 3) (Bl 3) (Bj 3) (Bk 3)))) (([(oA, .inl (cA 1, 1, .inr (.inl u9.2)))]) ++ (w_P a cA Pp.1 Pp.2.1 Pp.2.2.1 u9.1 bd) ++ (w_S sb cA Sp.1 Sp.2.1 Sp.2.2.1 Sp.2.2.2) ++ (w_Y yA cA Yp.1 Yp.2.1 Yp.2.2.1 Yp.2.2.2) ++ (w_M am cA um.1 um.2.1 um.2.2.1 um.2.2.2) ++ (w_B (bb 0) cA (Bi 0) (Bl 0) (Bj 0) (Bk 0)) ++ (w_B (bb 1) cA (Bi 1) (Bl 1) (Bj 1) (Bk 1)) ++ (w_B (bb 2) cA (Bi 2) (Bl 2) (Bj 2) (Bk 2)) ++ (w_B (bb 3) cA (Bi 3) (Bl 3) (Bj 3) (Bk 3))) := by simp only [List.append_assoc]; exact (((List.Perm.append_left _ (List.perm_append_comm_assoc _ _ _)).trans (List.perm_append_comm_assoc _ _ _)).trans (List.Perm.append_left _ ((List.perm_append_comm_assoc _ _ _).trans (List.Perm.append_left _ ((List.perm_append_comm_assoc _ _ _).trans (List.Perm.append_left _ (List.perm_append_comm_assoc _ _ _)))))))
  have hP := vP_perm hpm hP
  have hD := vD_perm hpm hD
  clear hpm
  refine lv_if_ne (tgt := 1344) hx hb d_L_law_1322 (by decide) (fun d16 => ?_) (fun d16 => ?_)
  · refine lv_goto (tgt := 1460) hx hb d_L_law_1344 (by decide) ?_
    exact kk (Pp.1, Pp.2.1, Pp.2.2.1, u9.1) Sp Yp um Bi Bl Bj Bk u9.2 _ _ hP hD hS t3 ls (lv_sub hl [2, 3, 4, 5, 6] rfl)
  · have t4 := t2 (show kx = 0 from d16)
    refine lv_aload_n hx hb d_L_law_1325 rfl (lv_at hl 5 rfl) ?_
    refine lv_iconst (v := 0) hx hb d_L_law_1326 (by decide) ?_
    refine va_lald hx hb hK hP 0 1 rfl rfl (by unfold vp_in; decide) d_L_law_1327 ?_
    refine lv_topl (fun z17 ez17 => ?_)
    obtain rfl : z17 = (u9.2 0) := by rw [ez17]; rfl
    refine lv_iload hx hb d_L_law_1328 (lv_at hl 0 rfl) ?_
    refine lv_if_eq (tgt := 1337) hx hb d_L_law_1330 (by decide) (fun f18 => ?_) (fun f18 => ?_)
    · refine lv_lconst (v := 0) hx hb d_L_law_1337 (by decide) ?_
      refine W.lcmp hx hb d_L_law_1338 ?_
      refine lv_if_eq (tgt := 1344) hx hb d_L_law_1339 (by decide) (fun _ => ?_) (fun k19 => by first | exact absurd ((lg_cmp_eq _ _).mpr (t4.trans (if_pos f18))) k19 | exact absurd k19 ((lg_cmp_eq _ _).mpr (t4.trans (if_pos f18))))
      refine lv_goto (tgt := 1460) hx hb d_L_law_1344 (by decide) ?_
      exact kk (Pp.1, Pp.2.1, Pp.2.2.1, u9.1) Sp Yp um Bi Bl Bj Bk u9.2 _ _ hP hD hS t3 ls (lv_sub hl [2, 3, 4, 5, 6] rfl)
    · refine lv_lconst (v := 1) hx hb d_L_law_1333 (by decide) ?_
      refine lv_goto (tgt := 1338) hx hb d_L_law_1334 (by decide) ?_
      refine W.lcmp hx hb d_L_law_1338 ?_
      refine lv_if_eq (tgt := 1344) hx hb d_L_law_1339 (by decide) (fun _ => ?_) (fun k20 => by first | exact absurd ((lg_cmp_eq _ _).mpr (t4.trans (if_neg f18))) k20 | exact absurd k20 ((lg_cmp_eq _ _).mpr (t4.trans (if_neg f18))))
      refine lv_goto (tgt := 1460) hx hb d_L_law_1344 (by decide) ?_
      exact kk (Pp.1, Pp.2.1, Pp.2.2.1, u9.1) Sp Yp um Bi Bl Bj Bk u9.2 _ _ hP hD hS t3 ls (lv_sub hl [2, 3, 4, 5, 6] rfl)
