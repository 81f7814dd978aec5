set_option maxHeartbeats 4000000 in
set_option maxRecDepth 100000 in
theorem lc_tab {p : Program} {l : Launch} {e : Env} {s : State} {m : MethodId} {below : List Frame} {meth : Method} {c : Code} {Q : State → Prop} {D : va_G} {cA sa : Nat → Nat} (Z : zE l s D cA sa) (N9 : zN s) (hx : p.tables.exec = Jvm.exec) (hb : c.code = code) (hml : c.maxLocals = 8) (hown : s.vm.findClass R_L = some m.cls) (hg : gl s s) (hK : va_K D ncl (ty0 cA) s) {b L : Nat} {xs : Nat → Int32} (hX : va_X b L xs s s.heap) (hbl : b < s.heap.size) (hL : L ≤ 4098) {a sb yA bd am : Nat → Nat} {oA : Nat} {bb : Nat → Nat → Nat} (hsa : sb 0 = a 5) (hya : yA 0 = a 6) (hbd : ∀ k, k < 4 → bd k = bb k 0) {i cl sl : Nat} (hi : i + 8 ≤ L) (hcl : cl + 5 ≤ 601024) (hsl : sl + 30 ≤ 7293000) {Pp Sp Yp Mp : St} {Bi : Nat → Nat → Int32} {Bl : Nat → Nat → Int64} {Bj : Nat → Nat → Nat → Int32} {Bk : Nat → Nat → Nat → Int64} {oF : Nat → Int64} (hI : INV Pp Sp Yp Mp Bi Bl Bk) (kk : ∀ (P1 S1 Y1 M1 : St) (Bi1 : Nat → Nat → Int32) (Bl1 : Nat → Nat → Int64) (Bj1 : Nat → Nat → Nat → Int32) (Bk1 : Nat → Nat → Nat → Int64) (oF1 : Nat → Int64) (H : Heap) (locs : List Loc), va_P D ncl (([(oA, .inl (cA 1, 1, .inr (.inl oF1)))]) ++ (w_P a cA P1.1 P1.2.1 P1.2.2.1 P1.2.2.2 bd) ++ (w_S sb cA S1.1 S1.2.1 S1.2.2.1 S1.2.2.2) ++ (w_Y yA cA Y1.1 Y1.2.1 Y1.2.2.1 Y1.2.2.2) ++ (w_M am cA M1.1 M1.2.1 M1.2.2.1 M1.2.2.2) ++ (w_B (bb 0) cA (Bi1 0) (Bl1 0) (Bj1 0) (Bk1 0)) ++ (w_B (bb 1) cA (Bi1 1) (Bl1 1) (Bj1 1) (Bk1 1)) ++ (w_B (bb 2) cA (Bi1 2) (Bl1 2) (Bj1 2) (Bk1 2)) ++ (w_B (bb 3) cA (Bi1 3) (Bl1 3) (Bj1 3) (Bk1 3))) H → va_D (fun q => s.heap.size ≤ q) (([(oA, .inl (cA 1, 1, .inr (.inl oF1)))]) ++ (w_P a cA P1.1 P1.2.1 P1.2.2.1 P1.2.2.2 bd) ++ (w_S sb cA S1.1 S1.2.1 S1.2.2.1 S1.2.2.2) ++ (w_Y yA cA Y1.1 Y1.2.1 Y1.2.2.1 Y1.2.2.2) ++ (w_M am cA M1.1 M1.2.1 M1.2.2.1 M1.2.2.2) ++ (w_B (bb 0) cA (Bi1 0) (Bl1 0) (Bj1 0) (Bk1 0)) ++ (w_B (bb 1) cA (Bi1 1) (Bl1 1) (Bj1 1) (Bk1 1)) ++ (w_B (bb 2) cA (Bi1 2) (Bl1 2) (Bj1 2) (Bk1 2)) ++ (w_B (bb 3) cA (Bi1 3) (Bl1 3) (Bj1 3) (Bk1 3))) → va_S (fun q => s.heap.size ≤ q) s.heap H locs → INV P1 S1 Y1 M1 Bi1 Bl1 Bk1 → ∀ ls : Array Slot, lv_has ls 8 [(0, .ref b), (1, .ref (a 0)), (2, .ref (am 0)), (3, .ref oA), (4, .int (nI i))] → W p l e room_1 s m #[Value.ref b] below meth c H locs (cl + 5) (sl + 30) Q (F0 m 1460 ls [])) {H : Heap} {locs : List Loc} (hP : va_P D ncl (([(oA, .inl (cA 1, 1, .inr (.inl oF)))]) ++ (w_P a cA Pp.1 Pp.2.1 Pp.2.2.1 Pp.2.2.2 bd) ++ (w_S sb cA Sp.1 Sp.2.1 Sp.2.2.1 Sp.2.2.2) ++ (w_Y yA cA Yp.1 Yp.2.1 Yp.2.2.1 Yp.2.2.2) ++ (w_M am cA Mp.1 Mp.2.1 Mp.2.2.1 Mp.2.2.2) ++ (w_B (bb 0) cA (Bi 0) (Bl 0) (Bj 0) (Bk 0)) ++ (w_B (bb 1) cA (Bi 1) (Bl 1) (Bj 1) (Bk 1)) ++ (w_B (bb 2) cA (Bi 2) (Bl 2) (Bj 2) (Bk 2)) ++ (w_B (bb 3) cA (Bi 3) (Bl 3) (Bj 3) (Bk 3))) H) (hD : va_D (fun q => s.heap.size ≤ q) (([(oA, .inl (cA 1, 1, .inr (.inl oF)))]) ++ (w_P a cA Pp.1 Pp.2.1 Pp.2.2.1 Pp.2.2.2 bd) ++ (w_S sb cA Sp.1 Sp.2.1 Sp.2.2.1 Sp.2.2.2) ++ (w_Y yA cA Yp.1 Yp.2.1 Yp.2.2.1 Yp.2.2.2) ++ (w_M am cA Mp.1 Mp.2.1 Mp.2.2.1 Mp.2.2.2) ++ (w_B (bb 0) cA (Bi 0) (Bl 0) (Bj 0) (Bk 0)) ++ (w_B (bb 1) cA (Bi 1) (Bl 1) (Bj 1) (Bk 1)) ++ (w_B (bb 2) cA (Bi 2) (Bl 2) (Bj 2) (Bk 2)) ++ (w_B (bb 3) cA (Bi 3) (Bl 3) (Bj 3) (Bk 3)))) (hS : va_S (fun q => s.heap.size ≤ q) s.heap H locs) {ls : Array Slot} (hl : lv_has ls 8 [(0, .ref b), (1, .ref (a 0)), (2, .ref (am 0)), (3, .ref oA), (4, .int (nI i))]) : W p l e room_1 s m #[Value.ref b] below meth c H locs cl sl Q (F0 m 587 ls []) := by
  have hA : ∀ q, s.heap.size ≤ q → (fun q => s.heap.size ≤ q) q := fun _ h => h
  have hlo : ∀ q, (fun q => s.heap.size ≤ q) q → s.heap.size ≤ q := fun _ h => h
  have hbA : ¬ (fun q : Nat => s.heap.size ≤ q) b := Nat.not_le.mpr hbl
  obtain ⟨w, h, nb, g, l0, y0, g0, r, nc, np, wt, X, Y, rw, bf, i1, i2, i3, i4, i5, i6, i7, i8, i9, i10, i11⟩ := id hI
  have hnb4 := i2.2.2
  obtain ⟨n, hn4, hbq⟩ := pick2 (xs (i + 1)) i9
  have hbdt : ∀ c, c < ly_n rw → (xs (i + 1)) = nI c → bd (cpk ((lcp l0 g0 y0 rw).getD c cp0) 0) = bb n 0 := fun c hc e => by rw [(hbq c hc e).1]; exact hbd n hn4
  have hbq2 : ∀ c, c < (lcp l0 g0 y0 rw).length → (xs (i + 1)) = nI c → cpk ((lcp l0 g0 y0 rw).getD c cp0) 0 = n ∧ 0 < nc n := fun c hc e => hbq c (by rw [lcp_len] at hc; exact hc) e
  obtain ⟨hP, hD⟩ := bq_in (F := (fun k => w_B (bb k) cA (Bi k) (Bl k) (Bj k) (Bk k))) (X := ([(oA, .inl (cA 1, 1, .inr (.inl oF)))]) ++ (w_P a cA Pp.1 Pp.2.1 Pp.2.2.1 Pp.2.2.2 bd) ++ (w_S sb cA Sp.1 Sp.2.1 Sp.2.2.1 Sp.2.2.2) ++ (w_Y yA cA Yp.1 Yp.2.1 Yp.2.2.1 Yp.2.2.2) ++ (w_M am cA Mp.1 Mp.2.1 Mp.2.2.1 Mp.2.2.2)) (n := n) hn4 hP hD
  have hP : va_P D ncl (([(oA, .inl (cA 1, 1, .inr (.inl oF)))]) ++ (w_P a cA Pp.1 Pp.2.1 Pp.2.2.1 Pp.2.2.2 bd) ++ (w_S sb cA Sp.1 Sp.2.1 Sp.2.2.1 Sp.2.2.2) ++ (w_Y yA cA Yp.1 Yp.2.1 Yp.2.2.1 Yp.2.2.2) ++ (w_M am cA Mp.1 Mp.2.1 Mp.2.2.1 Mp.2.2.2) ++ (w_B (bb n) cA (Bi n) (Bl n) (Bj n) (Bk n)) ++ (w_B (bb (pn n 0)) cA (Bi (pn n 0)) (Bl (pn n 0)) (Bj (pn n 0)) (Bk (pn n 0))) ++ (w_B (bb (pn n 1)) cA (Bi (pn n 1)) (Bl (pn n 1)) (Bj (pn n 1)) (Bk (pn n 1))) ++ (w_B (bb (pn n 2)) cA (Bi (pn n 2)) (Bl (pn n 2)) (Bj (pn n 2)) (Bk (pn n 2)))) H := hP
  have hD : va_D (fun q => s.heap.size ≤ q) (([(oA, .inl (cA 1, 1, .inr (.inl oF)))]) ++ (w_P a cA Pp.1 Pp.2.1 Pp.2.2.1 Pp.2.2.2 bd) ++ (w_S sb cA Sp.1 Sp.2.1 Sp.2.2.1 Sp.2.2.2) ++ (w_Y yA cA Yp.1 Yp.2.1 Yp.2.2.1 Yp.2.2.2) ++ (w_M am cA Mp.1 Mp.2.1 Mp.2.2.1 Mp.2.2.2) ++ (w_B (bb n) cA (Bi n) (Bl n) (Bj n) (Bk n)) ++ (w_B (bb (pn n 0)) cA (Bi (pn n 0)) (Bl (pn n 0)) (Bj (pn n 0)) (Bk (pn n 0))) ++ (w_B (bb (pn n 1)) cA (Bi (pn n 1)) (Bl (pn n 1)) (Bj (pn n 1)) (Bk (pn n 1))) ++ (w_B (bb (pn n 2)) cA (Bi (pn n 2)) (Bl (pn n 2)) (Bj (pn n 2)) (Bk (pn n 2)))) := hD
  refine lv_aload_n hx hb d_L_law_587 rfl (lv_at hl 1 rfl) ?_
  refine lv_aload_n hx hb d_L_law_588 rfl (lv_at hl 0 rfl) ?_
  refine lv_iload hx hb d_L_law_589 (lv_at hl 4 rfl) ?_
  refine lv_iconst (v := 1) hx hb d_L_law_591 (by decide) ?_
  refine lv_iadd hx hb d_L_law_592 ?_
  refine lv_topi (fun z1 ez1 => ?_)
  obtain rfl : z1 = (nI (i + 1)) := by rw [ez1]; exact nI_add i 1
  refine va_sld hx hb hX hbl hbA hS (vp_in_nI (n := i + 1) (N := L) (by omega) (by omega)) d_L_law_593 ?_
  refine lv_topi (fun z2 ez2 => ?_)
  rw [nI_clamp (n := i + 1) (by omega)] at ez2
  obtain rfl : z2 = xs (i + 1) := ez2
  refine lv_aload_n hx hb d_L_law_594 rfl (lv_at hl 0 rfl) ?_
  refine lv_iload hx hb d_L_law_595 (lv_at hl 4 rfl) ?_
  refine lv_iconst (v := 2) hx hb d_L_law_597 (by decide) ?_
  refine lv_iadd hx hb d_L_law_598 ?_
  refine lv_topi (fun z3 ez3 => ?_)
  obtain rfl : z3 = (nI (i + 2)) := by rw [ez3]; exact nI_add i 2
  refine va_sld hx hb hX hbl hbA hS (vp_in_nI (n := i + 2) (N := L) (by omega) (by omega)) d_L_law_599 ?_
  refine lv_topi (fun z4 ez4 => ?_)
  rw [nI_clamp (n := i + 2) (by omega)] at ez4
  obtain rfl : z4 = xs (i + 2) := ez4
  refine lv_aload_n hx hb d_L_law_600 rfl (lv_at hl 0 rfl) ?_
  refine lv_iload hx hb d_L_law_601 (lv_at hl 4 rfl) ?_
  refine lv_iconst (v := 3) hx hb d_L_law_603 (by decide) ?_
  refine lv_iadd hx hb d_L_law_604 ?_
  refine lv_topi (fun z5 ez5 => ?_)
  obtain rfl : z5 = (nI (i + 3)) := by rw [ez5]; exact nI_add i 3
  refine va_sld hx hb hX hbl hbA hS (vp_in_nI (n := i + 3) (N := L) (by omega) (by omega)) d_L_law_605 ?_
  refine lv_topi (fun z6 ez6 => ?_)
  rw [nI_clamp (n := i + 3) (by omega)] at ez6
  obtain rfl : z6 = xs (i + 3) := ez6
  refine lv_aload_n hx hb d_L_law_606 rfl (lv_at hl 3 rfl) ?_
  have hpm : List.Perm (([(oA, .inl (cA 1, 1, .inr (.inl oF)))]) ++ (w_P a cA Pp.1 Pp.2.1 Pp.2.2.1 Pp.2.2.2 bd) ++ (w_S sb cA Sp.1 Sp.2.1 Sp.2.2.1 Sp.2.2.2) ++ (w_Y yA cA Yp.1 Yp.2.1 Yp.2.2.1 Yp.2.2.2) ++ (w_M am cA Mp.1 Mp.2.1 Mp.2.2.1 Mp.2.2.2) ++ (w_B (bb n) cA (Bi n) (Bl n) (Bj n) (Bk n)) ++ (w_B (bb (pn n 0)) cA (Bi (pn n 0)) (Bl (pn n 0)) (Bj (pn n 0)) (Bk (pn n 0))) ++ (w_B (bb (pn n 1)) cA (Bi (pn n 1)) (Bl (pn n 1)) (Bj (pn n 1)) (Bk (pn n 1))) ++ (w_B (bb (pn n 2)) cA (Bi (pn n 2)) (Bl (pn n 2)) (Bj (pn n 2)) (Bk (pn n 2)))) (((w_P a cA Pp.1 Pp.2.1 Pp.2.2.1 Pp.2.2.2 bd) ++ (w_Y yA cA Yp.1 Yp.2.1 Yp.2.2.1 Yp.2.2.2) ++ (w_B (bb n) cA (Bi n) (Bl n) (Bj n) (Bk n)) ++ ([(oA, .inl (cA 1, 1, .inr (.inl oF)))])) ++ ((w_S sb cA Sp.1 Sp.2.1 Sp.2.2.1 Sp.2.2.2) ++ (w_M am cA Mp.1 Mp.2.1 Mp.2.2.1 Mp.2.2.2) ++ (w_B (bb (pn n 0)) cA (Bi (pn n 0)) (Bl (pn n 0)) (Bj (pn n 0)) (Bk (pn n 0))) ++ (w_B (bb (pn n 1)) cA (Bi (pn n 1)) (Bl (pn n 1)) (Bj (pn n 1)) (Bk (pn n 1))) ++ (w_B (bb (pn n 2)) cA (Bi (pn n 2)) (Bl (pn n 2)) (Bj (pn n 2)) (Bk (pn n 2))))) := by simp only [List.append_assoc]; exact ((List.perm_append_comm_assoc _ _ _).trans (List.Perm.append_left _ (((List.Perm.append_left _ (List.perm_append_comm_assoc _ _ _)).trans (List.perm_append_comm_assoc _ _ _)).trans (List.Perm.append_left _ ((List.Perm.append_left _ ((List.Perm.append_left _ (List.perm_append_comm_assoc _ _ _)).trans (List.perm_append_comm_assoc _ _ _))).trans (List.perm_append_comm_assoc _ _ _))))))
  have hP := vP_perm hpm hP
  have hD := vD_perm hpm hD
  clear hpm
  refine pt_calli (wt_runSW (rest := []) hx hb hml hown hl.1 hg hlo (vP_l hP) (vD_l hD) hS (m_L_tab Z N9 a Pp.1 Pp.2.1 Pp.2.2.1 Pp.2.2.2 bd yA Yp.1 Yp.2.1 Yp.2.2.1 Yp.2.2.2 hya l0 y0 g0 rw bf i9.1 i9.2.1 (bb n) (Bi n) (Bl n) (Bj n) (Bk n) (xs (i + 1)) (xs (i + 2)) (xs (i + 3)) (np n) (i7 n hn4).2.1 (i7 n hn4).1 hbdt oA oF H.size) (kw471 Z.1) (kw472 Z.1) (kw473 Z.1) (kw0 Z.1) ⟨by decide, by decide, (by decide +kernel : (parseMethodDescriptor y_L_tab.desc).map (fun d => d.parameters.length) = some 5)⟩ ⟨(Nat.le_of_ble_eq_true rfl), (Nat.le_of_ble_eq_true rfl)⟩ [0, 1, 2, 3, 4, 5, 6, 7, 8, 9, 10, 11, 12, 13, 14, 15, 16, 17, 18, 19, 20, 21] rfl rfl rfl (Nat.le_of_ble_eq_true rfl) d_L_law_607 ⟨by show cl + 4 ≤ 601024; omega, by show sl + 24 ≤ 7293000; omega⟩) hP hD hS hA (fun kx u9 H locs hq hP hD hS => ?_)
  refine W.widen (k := cl + 5) (n := sl + 30) (by show cl + 4 ≤ cl + 5; omega) (by show sl + 24 ≤ sl + 30; omega) ?_
  have hP : va_P D ncl (((w_P a cA Pp.1 Pp.2.1 Pp.2.2.1 Pp.2.2.2 bd) ++ (w_Y yA cA Yp.1 Yp.2.1 Yp.2.2.1 Yp.2.2.2) ++ (w_B (bb n) cA (Bi n) (Bl n) (Bj n) (Bk n)) ++ ([(oA, .inl (cA 1, 1, .inr (.inl u9.2)))])) ++ ((w_S sb cA Sp.1 Sp.2.1 Sp.2.2.1 Sp.2.2.2) ++ (w_M am cA Mp.1 Mp.2.1 Mp.2.2.1 Mp.2.2.2) ++ (w_B (bb (pn n 0)) cA (Bi (pn n 0)) (Bl (pn n 0)) (Bj (pn n 0)) (Bk (pn n 0))) ++ (w_B (bb (pn n 1)) cA (Bi (pn n 1)) (Bl (pn n 1)) (Bj (pn n 1)) (Bk (pn n 1))) ++ (w_B (bb (pn n 2)) cA (Bi (pn n 2)) (Bl (pn n 2)) (Bj (pn n 2)) (Bk (pn n 2))))) H := hP
  have hD : va_D (fun q => s.heap.size ≤ q) (((w_P a cA Pp.1 Pp.2.1 Pp.2.2.1 Pp.2.2.2 bd) ++ (w_Y yA cA Yp.1 Yp.2.1 Yp.2.2.1 Yp.2.2.2) ++ (w_B (bb n) cA (Bi n) (Bl n) (Bj n) (Bk n)) ++ ([(oA, .inl (cA 1, 1, .inr (.inl u9.2)))])) ++ ((w_S sb cA Sp.1 Sp.2.1 Sp.2.2.1 Sp.2.2.2) ++ (w_M am cA Mp.1 Mp.2.1 Mp.2.2.1 Mp.2.2.2) ++ (w_B (bb (pn n 0)) cA (Bi (pn n 0)) (Bl (pn n 0)) (Bj (pn n 0)) (Bk (pn n 0))) ++ (w_B (bb (pn n 1)) cA (Bi (pn n 1)) (Bl (pn n 1)) (Bj (pn n 1)) (Bk (pn n 1))) ++ (w_B (bb (pn n 2)) cA (Bi (pn n 2)) (Bl (pn n 2)) (Bj (pn n 2)) (Bk (pn n 2))))) := hD
  refine lv_istore (lv' := [(5, .int kx), (0, .ref b), (1, .ref (a 0)), (2, .ref (am 0)), (3, .ref oA), (4, .int (nI i))]) hx hb d_L_law_610 hl (by decide) rfl (fun ls hl => ?_)
  refine lv_aload_n hx hb d_L_law_612 rfl (lv_at hl 3 rfl) ?_
  refine lv_aload_n hx hb d_L_law_613 rfl (lv_at hl 1 rfl) ?_
  refine lv_iload hx hb d_L_law_614 (lv_at hl 5 rfl) ?_
  refine lv_iconst (v := 1) hx hb d_L_law_616 (by decide) ?_
  refine lv_iadd hx hb d_L_law_617 ?_
  refine lv_topi (fun z7 ez7 => ?_)
  obtain rfl : z7 = (nI (i + 1)) := by rw [ez7]; exact nI_add i 1
  refine va_sld hx hb hX hbl hbA hS (vp_in_nI (n := i + 1) (N := L) (by omega) (by omega)) d_L_law_618 ?_
  refine lv_topi (fun z8 ez8 => ?_)
  rw [nI_clamp (n := i + 1) (by omega)] at ez8
  obtain rfl : z8 = xs (i + 1) := ez8
  refine lv_aload_n hx hb d_L_law_619 rfl (lv_at hl 1 rfl) ?_
  refine lv_iload hx hb d_L_law_620 (lv_at hl 5 rfl) ?_
  refine lv_iconst (v := 2) hx hb d_L_law_622 (by decide) ?_
  refine lv_iadd hx hb d_L_law_623 ?_
  refine lv_topi (fun z9 ez9 => ?_)
  obtain rfl : z9 = (nI (i + 2)) := by rw [ez9]; exact nI_add i 2
  refine va_sld hx hb hX hbl hbA hS (vp_in_nI (n := i + 2) (N := L) (by omega) (by omega)) d_L_law_624 ?_
  refine lv_topi (fun z10 ez10 => ?_)
  rw [nI_clamp (n := i + 2) (by omega)] at ez10
  obtain rfl : z10 = xs (i + 2) := ez10
  refine lv_aload_n hx hb d_L_law_625 rfl (lv_at hl 1 rfl) ?_
  refine lv_iload hx hb d_L_law_626 (lv_at hl 5 rfl) ?_
  refine lv_iconst (v := 3) hx hb d_L_law_628 (by decide) ?_
  refine lv_iadd hx hb d_L_law_629 ?_
  refine lv_topi (fun z11 ez11 => ?_)
  obtain rfl : z11 = (nI (i + 3)) := by rw [ez11]; exact nI_add i 3
  refine va_sld hx hb hX hbl hbA hS (vp_in_nI (n := i + 3) (N := L) (by omega) (by omega)) d_L_law_630 ?_
  refine lv_topi (fun z12 ez12 => ?_)
  rw [nI_clamp (n := i + 3) (by omega)] at ez12
  obtain rfl : z12 = xs (i + 3) := ez12
  have hpm : List.Perm (((w_P a cA Pp.1 Pp.2.1 Pp.2.2.1 Pp.2.2.2 bd) ++ (w_Y yA cA Yp.1 Yp.2.1 Yp.2.2.1 Yp.2.2.2) ++ (w_B (bb n) cA (Bi n) (Bl n) (Bj n) (Bk n)) ++ ([(oA, .inl (cA 1, 1, .inr (.inl u9.2)))])) ++ ((w_S sb cA Sp.1 Sp.2.1 Sp.2.2.1 Sp.2.2.2) ++ (w_M am cA Mp.1 Mp.2.1 Mp.2.2.1 Mp.2.2.2) ++ (w_B (bb (pn n 0)) cA (Bi (pn n 0)) (Bl (pn n 0)) (Bj (pn n 0)) (Bk (pn n 0))) ++ (w_B (bb (pn n 1)) cA (Bi (pn n 1)) (Bl (pn n 1)) (Bj (pn n 1)) (Bk (pn n 1))) ++ (w_B (bb (pn n 2)) cA (Bi (pn n 2)) (Bl (pn n 2)) (Bj (pn n 2)) (Bk (pn n 2))))) (((w_M am cA Mp.1 Mp.2.1 Mp.2.2.1 Mp.2.2.2)) ++ ((w_P a cA Pp.1 Pp.2.1 Pp.2.2.1 Pp.2.2.2 bd) ++ (w_Y yA cA Yp.1 Yp.2.1 Yp.2.2.1 Yp.2.2.2) ++ (w_B (bb n) cA (Bi n) (Bl n) (Bj n) (Bk n)) ++ ([(oA, .inl (cA 1, 1, .inr (.inl u9.2)))]) ++ (w_S sb cA Sp.1 Sp.2.1 Sp.2.2.1 Sp.2.2.2) ++ (w_B (bb (pn n 0)) cA (Bi (pn n 0)) (Bl (pn n 0)) (Bj (pn n 0)) (Bk (pn n 0))) ++ (w_B (bb (pn n 1)) cA (Bi (pn n 1)) (Bl (pn n 1)) (Bj (pn n 1)) (Bk (pn n 1))) ++ (w_B (bb (pn n 2)) cA (Bi (pn n 2)) (Bl (pn n 2)) (Bj (pn n 2)) (Bk (pn n 2))))) := by simp only [List.append_assoc]; exact ((List.Perm.append_left _ ((List.Perm.append_left _ ((List.Perm.append_left _ ((List.Perm.append_left _ (List.perm_append_comm_assoc _ _ _)).trans (List.perm_append_comm_assoc _ _ _))).trans (List.perm_append_comm_assoc _ _ _))).trans (List.perm_append_comm_assoc _ _ _))).trans (List.perm_append_comm_assoc _ _ _))
  have hP := vP_perm hpm hP
  have hD := vD_perm hpm hD
  clear hpm
  refine p_calll (w_runV (rest := []) hx hb hml hown hl.1 hg hlo hK (vP_l hP) (vD_l hD) hS (m_M_tab Z am Mp.1 Mp.2.1 Mp.2.2.1 Mp.2.2.2 (xs (i + 1)) (xs (i + 2)) (xs (i + 3)) n (nc n) (np n) (fun j => lN (X n j)) (fun j => lN (Y n j)) (Bk n) (Bl n) (lcp l0 g0 y0 rw) i9.2.2.2.1 (lcp_200 i9.2.1) hn4 hbq2 (lcp_t3 i9.2.1) (i6 n hn4).2.2.1 (i6 n hn4).1 (i7 n hn4).2.2.1 (i7 n hn4).1 (fun j hj => ((i6 n hn4).2.2.2.2.1 j hj).2.2.1) (fun j hj => ((i6 n hn4).2.2.2.2.1 j hj).2.2.2.1) (i7 n hn4).2.2.2 (i6 n hn4).2.2.2.2.2.1 (i6 n hn4).2.2.2.2.2.2.1 (i6 n hn4).2.2.2.2.2.2.2.2 H.size) (kw792 Z.1) (kw793 Z.1) (kw794 Z.1) (kw795 Z.1) (kw6 Z.1) ⟨by decide, by decide, (by decide +kernel : (parseMethodDescriptor y_M_tab.desc).map (fun d => d.parameters.length) = some 3)⟩ ⟨(Nat.le_of_ble_eq_true rfl), (Nat.le_of_ble_eq_true rfl)⟩ [0, 1, 2, 3, 4, 5, 6, 7, 8, 9, 10, 11, 12, 13, 14, 15, 16] rfl rfl (ci := 1) (q0 := 0) rfl rfl rfl (Nat.le_of_ble_eq_true rfl) d_L_law_631 ⟨by show cl + 5 + 0 ≤ 601024; omega, by show sl + 30 + 0 ≤ 7293000; omega⟩) hP hD hS hA (fun rm um H locs hm hP hD hS => ?_)
  refine W.widen (k := cl + 5) (n := sl + 30) (by show cl + 5 + 0 ≤ cl + 5; omega) (by show sl + 30 + 0 ≤ sl + 30; omega) ?_
  have hP : va_P D ncl (((w_M am cA um.1 um.2.1 um.2.2.1 um.2.2.2)) ++ ((w_P a cA Pp.1 Pp.2.1 Pp.2.2.1 Pp.2.2.2 bd) ++ (w_Y yA cA Yp.1 Yp.2.1 Yp.2.2.1 Yp.2.2.2) ++ (w_B (bb n) cA (Bi n) (Bl n) (Bj n) (Bk n)) ++ ([(oA, .inl (cA 1, 1, .inr (.inl u9.2)))]) ++ (w_S sb cA Sp.1 Sp.2.1 Sp.2.2.1 Sp.2.2.2) ++ (w_B (bb (pn n 0)) cA (Bi (pn n 0)) (Bl (pn n 0)) (Bj (pn n 0)) (Bk (pn n 0))) ++ (w_B (bb (pn n 1)) cA (Bi (pn n 1)) (Bl (pn n 1)) (Bj (pn n 1)) (Bk (pn n 1))) ++ (w_B (bb (pn n 2)) cA (Bi (pn n 2)) (Bl (pn n 2)) (Bj (pn n 2)) (Bk (pn n 2))))) H := hP
  have hD : va_D (fun q => s.heap.size ≤ q) (((w_M am cA um.1 um.2.1 um.2.2.1 um.2.2.2)) ++ ((w_P a cA Pp.1 Pp.2.1 Pp.2.2.1 Pp.2.2.2 bd) ++ (w_Y yA cA Yp.1 Yp.2.1 Yp.2.2.1 Yp.2.2.2) ++ (w_B (bb n) cA (Bi n) (Bl n) (Bj n) (Bk n)) ++ ([(oA, .inl (cA 1, 1, .inr (.inl u9.2)))]) ++ (w_S sb cA Sp.1 Sp.2.1 Sp.2.2.1 Sp.2.2.2) ++ (w_B (bb (pn n 0)) cA (Bi (pn n 0)) (Bl (pn n 0)) (Bj (pn n 0)) (Bk (pn n 0))) ++ (w_B (bb (pn n 1)) cA (Bi (pn n 1)) (Bl (pn n 1)) (Bj (pn n 1)) (Bk (pn n 1))) ++ (w_B (bb (pn n 2)) cA (Bi (pn n 2)) (Bl (pn n 2)) (Bj (pn n 2)) (Bk (pn n 2))))) := hD
  obtain ⟨t1, t2, t3⟩ := tie_tab (oF := oF) hI i9 i2.1 hnb4 rfl hbq2 hq hm
  refine lv_lstore (lv' := [(6, .long rm), (5, .int kx), (0, .ref b), (1, .ref (a 0)), (2, .ref (am 0)), (3, .ref oA), (4, .int (nI i))]) hx hb d_L_law_634 hl (by decide) rfl (fun ls hl => ?_)
  refine lv_aload_n hx hb d_L_law_636 rfl (lv_at hl 4 rfl) ?_
  refine p_calli (w_runV (rest := []) hx hb hml hown hl.1 hg hlo hK (vP_l hP) (vD_l hD) hS (m_M_thrown Z am um.1 um.2.1 um.2.2.1 um.2.2.2 H.size) (kw683 Z.1) (kw684 Z.1) (kw685 Z.1) (kw686 Z.1) (kw6 Z.1) ⟨by decide, by decide, (by decide +kernel : (parseMethodDescriptor y_M_thrown.desc).map (fun d => d.parameters.length) = some 0)⟩ ⟨(Nat.le_of_ble_eq_true rfl), (Nat.le_of_ble_eq_true rfl)⟩ [0, 1, 2, 3, 4, 5, 6, 7, 8, 9, 10, 11, 12, 13, 14, 15, 16] rfl rfl (ci := 1) (q0 := 0) rfl rfl rfl (Nat.le_of_ble_eq_true rfl) d_L_law_637 ⟨by show cl + 5 + 0 ≤ 601024; omega, by show sl + 30 + 0 ≤ 7293000; omega⟩) hP hD hS hA (fun rt ut H locs hrt hP hD hS => ?_)
  refine W.widen (k := cl + 5) (n := sl + 30) (by show cl + 5 + 0 ≤ cl + 5; omega) (by show sl + 30 + 0 ≤ sl + 30; omega) ?_
  have hP : va_P D ncl (((w_M am cA um.1 um.2.1 um.2.2.1 um.2.2.2)) ++ ((w_P a cA Pp.1 Pp.2.1 Pp.2.2.1 Pp.2.2.2 bd) ++ (w_Y yA cA Yp.1 Yp.2.1 Yp.2.2.1 Yp.2.2.2) ++ (w_B (bb n) cA (Bi n) (Bl n) (Bj n) (Bk n)) ++ ([(oA, .inl (cA 1, 1, .inr (.inl u9.2)))]) ++ (w_S sb cA Sp.1 Sp.2.1 Sp.2.2.1 Sp.2.2.2) ++ (w_B (bb (pn n 0)) cA (Bi (pn n 0)) (Bl (pn n 0)) (Bj (pn n 0)) (Bk (pn n 0))) ++ (w_B (bb (pn n 1)) cA (Bi (pn n 1)) (Bl (pn n 1)) (Bj (pn n 1)) (Bk (pn n 1))) ++ (w_B (bb (pn n 2)) cA (Bi (pn n 2)) (Bl (pn n 2)) (Bj (pn n 2)) (Bk (pn n 2))))) H := hP
  have hD : va_D (fun q => s.heap.size ≤ q) (((w_M am cA um.1 um.2.1 um.2.2.1 um.2.2.2)) ++ ((w_P a cA Pp.1 Pp.2.1 Pp.2.2.1 Pp.2.2.2 bd) ++ (w_Y yA cA Yp.1 Yp.2.1 Yp.2.2.1 Yp.2.2.2) ++ (w_B (bb n) cA (Bi n) (Bl n) (Bj n) (Bk n)) ++ ([(oA, .inl (cA 1, 1, .inr (.inl u9.2)))]) ++ (w_S sb cA Sp.1 Sp.2.1 Sp.2.2.1 Sp.2.2.2) ++ (w_B (bb (pn n 0)) cA (Bi (pn n 0)) (Bl (pn n 0)) (Bj (pn n 0)) (Bk (pn n 0))) ++ (w_B (bb (pn n 1)) cA (Bi (pn n 1)) (Bl (pn n 1)) (Bj (pn n 1)) (Bk (pn n 1))) ++ (w_B (bb (pn n 2)) cA (Bi (pn n 2)) (Bl (pn n 2)) (Bj (pn n 2)) (Bk (pn n 2))))) := hD
  subst hrt
  refine lv_iload hx hb d_L_law_640 (lv_at hl 1 rfl) ?_
  refine lv_icmp_eq (tgt := 647) hx hb d_L_law_642 (by decide) (fun _ => ?_) (fun k13 => by first | exact absurd (show um.1 0 = kx from t1) k13 | exact absurd k13 (show um.1 0 = kx from t1))
  refine lv_iload hx hb d_L_law_647 (lv_at hl 1 rfl) ?_
  have hpm : List.Perm (((w_M am cA um.1 um.2.1 um.2.2.1 um.2.2.2)) ++ ((w_P a cA Pp.1 Pp.2.1 Pp.2.2.1 Pp.2.2.2 bd) ++ (w_Y yA cA Yp.1 Yp.2.1 Yp.2.2.1 Yp.2.2.2) ++ (w_B (bb n) cA (Bi n) (Bl n) (Bj n) (Bk n)) ++ ([(oA, .inl (cA 1, 1, .inr (.inl u9.2)))]) ++ (w_S sb cA Sp.1 Sp.2.1 Sp.2.2.1 Sp.2.2.2) ++ (w_B (bb (pn n 0)) cA (Bi (pn n 0)) (Bl (pn n 0)) (Bj (pn n 0)) (Bk (pn n 0))) ++ (w_B (bb (pn n 1)) cA (Bi (pn n 1)) (Bl (pn n 1)) (Bj (pn n 1)) (Bk (pn n 1))) ++ (w_B (bb (pn n 2)) cA (Bi (pn n 2)) (Bl (pn n 2)) (Bj (pn n 2)) (Bk (pn n 2))))) (([(oA, .inl (cA 1, 1, .inr (.inl u9.2)))]) ++ (w_P a cA Pp.1 Pp.2.1 Pp.2.2.1 Pp.2.2.2 bd) ++ (w_S sb cA Sp.1 Sp.2.1 Sp.2.2.1 Sp.2.2.2) ++ (w_Y yA cA Yp.1 Yp.2.1 Yp.2.2.1 Yp.2.2.2) ++ (w_M am cA um.1 um.2.1 um.2.2.1 um.2.2.2) ++ (w_B (bb n) cA (Bi n) (Bl n) (Bj n) (Bk n)) ++ (w_B (bb (pn n 0)) cA (Bi (pn n 0)) (Bl (pn n 0)) (Bj (pn n 0)) (Bk (pn n 0))) ++ (w_B (bb (pn n 1)) cA (Bi (pn n 1)) (Bl (pn n 1)) (Bj (pn n 1)) (Bk (pn n 1))) ++ (w_B (bb (pn n 2)) cA (Bi (pn n 2)) (Bl (pn n 2)) (Bj (pn n 2)) (Bk (pn n 2)))) := by simp only [List.append_assoc]; exact (((List.Perm.append_left _ ((List.Perm.append_left _ ((List.Perm.append_left _ (List.perm_append_comm_assoc _ _ _)).trans (List.perm_append_comm_assoc _ _ _))).trans (List.perm_append_comm_assoc _ _ _))).trans (List.perm_append_comm_assoc _ _ _)).trans (List.Perm.append_left _ ((List.perm_append_comm_assoc _ _ _).trans (List.Perm.append_left _ (((List.Perm.append_left _ ((List.Perm.append_left _ (List.perm_append_comm_assoc _ _ _)).trans (List.perm_append_comm_assoc _ _ _))).trans (List.perm_append_comm_assoc _ _ _)).trans (List.Perm.append_left _ (List.perm_append_comm_assoc _ _ _)))))))
  have hP := vP_perm hpm hP
  have hD := vD_perm hpm hD
  clear hpm
  obtain ⟨hP, hD⟩ := bq_out (F := (fun k => w_B (bb k) cA (Bi k) (Bl k) (Bj k) (Bk k))) (X := ([(oA, .inl (cA 1, 1, .inr (.inl u9.2)))]) ++ (w_P a cA Pp.1 Pp.2.1 Pp.2.2.1 Pp.2.2.2 bd) ++ (w_S sb cA Sp.1 Sp.2.1 Sp.2.2.1 Sp.2.2.2) ++ (w_Y yA cA Yp.1 Yp.2.1 Yp.2.2.1 Yp.2.2.2) ++ (w_M am cA um.1 um.2.1 um.2.2.1 um.2.2.2)) (n := n) hn4 hP hD
  have hP : va_P D ncl (([(oA, .inl (cA 1, 1, .inr (.inl u9.2)))]) ++ (w_P a cA Pp.1 Pp.2.1 Pp.2.2.1 Pp.2.2.2 bd) ++ (w_S sb cA Sp.1 Sp.2.1 Sp.2.2.1 Sp.2.2.2) ++ (w_Y yA cA Yp.1 Yp.2.1 Yp.2.2.1 Yp.2.2.2) ++ (w_M am cA um.1 um.2.1 um.2.2.1 um.2.2.2) ++ (w_B (bb 0) cA (Bi 0) (Bl 0) (Bj 0) (Bk 0)) ++ (w_B (bb 1) cA (Bi 1) (Bl 1) (Bj 1) (Bk 1)) ++ (w_B (bb 2) cA (Bi 2) (Bl 2) (Bj 2) (Bk 2)) ++ (w_B (bb 3) cA (Bi 3) (Bl 3) (Bj 3) (Bk 3))) H := hP
  have hD : va_D (fun q => s.heap.size ≤ q) (([(oA, .inl (cA 1, 1, .inr (.inl u9.2)))]) ++ (w_P a cA Pp.1 Pp.2.1 Pp.2.2.1 Pp.2.2.2 bd) ++ (w_S sb cA Sp.1 Sp.2.1 Sp.2.2.1 Sp.2.2.2) ++ (w_Y yA cA Yp.1 Yp.2.1 Yp.2.2.1 Yp.2.2.2) ++ (w_M am cA um.1 um.2.1 um.2.2.1 um.2.2.2) ++ (w_B (bb 0) cA (Bi 0) (Bl 0) (Bj 0) (Bk 0)) ++ (w_B (bb 1) cA (Bi 1) (Bl 1) (Bj 1) (Bk 1)) ++ (w_B (bb 2) cA (Bi 2) (Bl 2) (Bj 2) (Bk 2)) ++ (w_B (bb 3) cA (Bi 3) (Bl 3) (Bj 3) (Bk 3))) := hD
  refine lv_if_ne (tgt := 663) hx hb d_L_law_649 (by decide) (fun d14 => ?_) (fun d14 => ?_)
  · refine lv_goto (tgt := 1460) hx hb d_L_law_663 (by decide) ?_
    exact kk Pp Sp Yp um Bi Bl Bj Bk u9.2 _ _ hP hD hS t3 ls (lv_sub hl [2, 3, 4, 5, 6] rfl)
  · have t4 := t2 (show kx = 0 from d14)
    refine lv_aload_n hx hb d_L_law_652 rfl (lv_at hl 5 rfl) ?_
    refine lv_iconst (v := 0) hx hb d_L_law_653 (by decide) ?_
    refine va_lald hx hb hK hP 0 1 rfl rfl (by unfold vp_in; decide) d_L_law_654 ?_
    refine lv_topl (fun z15 ez15 => ?_)
    obtain rfl : z15 = (u9.2 0) := by rw [ez15]; rfl
    refine lv_lload hx hb d_L_law_655 (lv_at hl 0 rfl) ?_
    refine W.lcmp hx hb d_L_law_657 ?_
    refine lv_if_eq (tgt := 663) hx hb d_L_law_658 (by decide) (fun _ => ?_) (fun k16 => by first | exact absurd ((lg_cmp_eq _ _).mpr t4) k16 | exact absurd k16 ((lg_cmp_eq _ _).mpr t4))
    refine lv_goto (tgt := 1460) hx hb d_L_law_663 (by decide) ?_
    exact kk Pp Sp Yp um Bi Bl Bj Bk u9.2 _ _ hP hD hS t3 ls (lv_sub hl [2, 3, 4, 5, 6] rfl)
set_option maxHeartbeats 4000000 in
set_option maxRecDepth 100000 in
theorem lc_waste {p : Program} {l : Launch} {e : Env} {s : State} {m : MethodId} {below : List Frame} {meth : Method} {c : Code} {Q : State → Prop} {D : va_G} {cA sa : Nat → Nat} (Z : zE l s D cA sa) (N9 : zN s) (hx : p.tables.exec = Jvm.exec) (hb : c.code = code) (hml : c.maxLocals = 8) (hown : s.vm.findClass R_L = some m.cls) (hg : gl s s) (hK : va_K D ncl (ty0 cA) s) {b L : Nat} {xs : Nat → Int32} (hX : va_X b L xs s s.heap) (hbl : b < s.heap.size) (hL : L ≤ 4098) {a sb yA bd am : Nat → Nat} {oA : Nat} {bb : Nat → Nat → Nat} (hsa : sb 0 = a 5) (hya : yA 0 = a 6) (hbd : ∀ k, k < 4 → bd k = bb k 0) {i cl sl : Nat} (hi : i + 8 ≤ L) (hcl : cl + 5 ≤ 601024) (hsl : sl + 30 ≤ 7293000) {Pp Sp Yp Mp : St} {Bi : Nat → Nat → Int32} {Bl : Nat → Nat → Int64} {Bj : Nat → Nat → Nat → Int32} {Bk : Nat → Nat → Nat → Int64} {oF : Nat → Int64} (hI : INV Pp Sp Yp Mp Bi Bl Bk) (kk : ∀ (P1 S1 Y1 M1 : St) (Bi1 : Nat → Nat → Int32) (Bl1 : Nat → Nat → Int64) (Bj1 : Nat → Nat → Nat → Int32) (Bk1 : Nat → Nat → Nat → Int64) (oF1 : Nat → Int64) (H : Heap) (locs : List Loc), va_P D ncl (([(oA, .inl (cA 1, 1, .inr (.inl oF1)))]) ++ (w_P a cA P1.1 P1.2.1 P1.2.2.1 P1.2.2.2 bd) ++ (w_S sb cA S1.1 S1.2.1 S1.2.2.1 S1.2.2.2) ++ (w_Y yA cA Y1.1 Y1.2.1 Y1.2.2.1 Y1.2.2.2) ++ (w_M am cA M1.1 M1.2.1 M1.2.2.1 M1.2.2.2) ++ (w_B (bb 0) cA (Bi1 0) (Bl1 0) (Bj1 0) (Bk1 0)) ++ (w_B (bb 1) cA (Bi1 1) (Bl1 1) (Bj1 1) (Bk1 1)) ++ (w_B (bb 2) cA (Bi1 2) (Bl1 2) (Bj1 2) (Bk1 2)) ++ (w_B (bb 3) cA (Bi1 3) (Bl1 3) (Bj1 3) (Bk1 3))) H → va_D (fun q => s.heap.size ≤ q) (([(oA, .inl (cA 1, 1, .inr (.inl oF1)))]) ++ (w_P a cA P1.1 P1.2.1 P1.2.2.1 P1.2.2.2 bd) ++ (w_S sb cA S1.1 S1.2.1 S1.2.2.1 S1.2.2.2) ++ (w_Y yA cA Y1.1 Y1.2.1 Y1.2.2.1 Y1.2.2.2) ++ (w_M am cA M1.1 M1.2.1 M1.2.2.1 M1.2.2.2) ++ (w_B (bb 0) cA (Bi1 0) (Bl1 0) (Bj1 0) (Bk1 0)) ++ (w_B (bb 1) cA (Bi1 1) (Bl1 1) (Bj1 1) (Bk1 1)) ++ (w_B (bb 2) cA (Bi1 2) (Bl1 2) (Bj1 2) (Bk1 2)) ++ (w_B (bb 3) cA (Bi1 3) (Bl1 3) (Bj1 3) (Bk1 3))) → va_S (fun q => s.heap.size ≤ q) s.heap H locs → INV P1 S1 Y1 M1 Bi1 Bl1 Bk1 → ∀ ls : Array Slot, lv_has ls 8 [(0, .ref b), (1, .ref (a 0)), (2, .ref (am 0)), (3, .ref oA), (4, .int (nI i))] → W p l e room_1 s m #[Value.ref b] below meth c H locs (cl + 5) (sl + 30) Q (F0 m 1460 ls [])) {H : Heap} {locs : List Loc} (hP : va_P D ncl (([(oA, .inl (cA 1, 1, .inr (.inl oF)))]) ++ (w_P a cA Pp.1 Pp.2.1 Pp.2.2.1 Pp.2.2.2 bd) ++ (w_S sb cA Sp.1 Sp.2.1 Sp.2.2.1 Sp.2.2.2) ++ (w_Y yA cA Yp.1 Yp.2.1 Yp.2.2.1 Yp.2.2.2) ++ (w_M am cA Mp.1 Mp.2.1 Mp.2.2.1 Mp.2.2.2) ++ (w_B (bb 0) cA (Bi 0) (Bl 0) (Bj 0) (Bk 0)) ++ (w_B (bb 1) cA (Bi 1) (Bl 1) (Bj 1) (Bk 1)) ++ (w_B (bb 2) cA (Bi 2) (Bl 2) (Bj 2) (Bk 2)) ++ (w_B (bb 3) cA (Bi 3) (Bl 3) (Bj 3) (Bk 3))) H) (hD : va_D (fun q => s.heap.size ≤ q) (([(oA, .inl (cA 1, 1, .inr (.inl oF)))]) ++ (w_P a cA Pp.1 Pp.2.1 Pp.2.2.1 Pp.2.2.2 bd) ++ (w_S sb cA Sp.1 Sp.2.1 Sp.2.2.1 Sp.2.2.2) ++ (w_Y yA cA Yp.1 Yp.2.1 Yp.2.2.1 Yp.2.2.2) ++ (w_M am cA Mp.1 Mp.2.1 Mp.2.2.1 Mp.2.2.2) ++ (w_B (bb 0) cA (Bi 0) (Bl 0) (Bj 0) (Bk 0)) ++ (w_B (bb 1) cA (Bi 1) (Bl 1) (Bj 1) (Bk 1)) ++ (w_B (bb 2) cA (Bi 2) (Bl 2) (Bj 2) (Bk 2)) ++ (w_B (bb 3) cA (Bi 3) (Bl 3) (Bj 3) (Bk 3)))) (hS : va_S (fun q => s.heap.size ≤ q) s.heap H locs) {ls : Array Slot} (hl : lv_has ls 8 [(0, .ref b), (1, .ref (a 0)), (2, .ref (am 0)), (3, .ref oA), (4, .int (nI i))]) : W p l e room_1 s m #[Value.ref b] below meth c H locs cl sl Q (F0 m 932 ls []) := by
  have hA : ∀ q, s.heap.size ≤ q → (fun q => s.heap.size ≤ q) q := fun _ h => h
  have hlo : ∀ q, (fun q => s.heap.size ≤ q) q → s.heap.size ≤ q := fun _ h => h
  have hbA : ¬ (fun q : Nat => s.heap.size ≤ q) b := Nat.not_le.mpr hbl
  obtain ⟨w, h, nb, g, l0, y0, g0, r, nc, np, wt, X, Y, rw, bf, i1, i2, i3, i4, i5, i6, i7, i8, i9, i10, i11⟩ := id hI
  have hnb4 := i2.2.2
  refine lv_aload_n hx hb d_L_law_932 rfl (lv_at hl 1 rfl) ?_
  refine lv_aload_n hx hb d_L_law_933 rfl (lv_at hl 0 rfl) ?_
  refine lv_iload hx hb d_L_law_934 (lv_at hl 4 rfl) ?_
  refine lv_iconst (v := 1) hx hb d_L_law_936 (by decide) ?_
  refine lv_iadd hx hb d_L_law_937 ?_
  refine lv_topi (fun z1 ez1 => ?_)
  obtain rfl : z1 = (nI (i + 1)) := by rw [ez1]; exact nI_add i 1
  refine va_sld hx hb hX hbl hbA hS (vp_in_nI (n := i + 1) (N := L) (by omega) (by omega)) d_L_law_938 ?_
  refine lv_topi (fun z2 ez2 => ?_)
  rw [nI_clamp (n := i + 1) (by omega)] at ez2
  obtain rfl : z2 = xs (i + 1) := ez2
  refine lv_aload_n hx hb d_L_law_939 rfl (lv_at hl 3 rfl) ?_
  have hpm : List.Perm (([(oA, .inl (cA 1, 1, .inr (.inl oF)))]) ++ (w_P a cA Pp.1 Pp.2.1 Pp.2.2.1 Pp.2.2.2 bd) ++ (w_S sb cA Sp.1 Sp.2.1 Sp.2.2.1 Sp.2.2.2) ++ (w_Y yA cA Yp.1 Yp.2.1 Yp.2.2.1 Yp.2.2.2) ++ (w_M am cA Mp.1 Mp.2.1 Mp.2.2.1 Mp.2.2.2) ++ (w_B (bb 0) cA (Bi 0) (Bl 0) (Bj 0) (Bk 0)) ++ (w_B (bb 1) cA (Bi 1) (Bl 1) (Bj 1) (Bk 1)) ++ (w_B (bb 2) cA (Bi 2) (Bl 2) (Bj 2) (Bk 2)) ++ (w_B (bb 3) cA (Bi 3) (Bl 3) (Bj 3) (Bk 3))) (((w_P a cA Pp.1 Pp.2.1 Pp.2.2.1 Pp.2.2.2 bd) ++ (w_Y yA cA Yp.1 Yp.2.1 Yp.2.2.1 Yp.2.2.2) ++ (w_B (bb 0) cA (Bi 0) (Bl 0) (Bj 0) (Bk 0)) ++ (w_B (bb 1) cA (Bi 1) (Bl 1) (Bj 1) (Bk 1)) ++ (w_B (bb 2) cA (Bi 2) (Bl 2) (Bj 2) (Bk 2)) ++ (w_B (bb 3) cA (Bi 3) (Bl 3) (Bj 3) (Bk 3)) ++ ([(oA, .inl (cA 1, 1, .inr (.inl oF)))])) ++ ((w_S sb cA Sp.1 Sp.2.1 Sp.2.2.1 Sp.2.2.2) ++ (w_M am cA Mp.1 Mp.2.1 Mp.2.2.1 Mp.2.2.2))) := by simp only [List.append_assoc]; exact ((List.perm_append_comm_assoc _ _ _).trans (List.Perm.append_left _ (((List.Perm.append_left _ (List.perm_append_comm_assoc _ _ _)).trans (List.perm_append_comm_assoc _ _ _)).trans (List.Perm.append_left _ (((List.Perm.append_left _ ((List.Perm.append_left _ (List.perm_append_comm_assoc _ _ _)).trans (List.perm_append_comm_assoc _ _ _))).trans (List.perm_append_comm_assoc _ _ _)).trans (List.Perm.append_left _ (((List.Perm.append_left _ ((List.Perm.append_left _ (List.perm_append_comm_assoc _ _ _)).trans (List.perm_append_comm_assoc _ _ _))).trans (List.perm_append_comm_assoc _ _ _)).trans (List.Perm.append_left _ (((List.Perm.append_left _ ((List.Perm.append_left _ (List.perm_append_comm_assoc _ _ _)).trans (List.perm_append_comm_assoc _ _ _))).trans (List.perm_append_comm_assoc _ _ _)).trans (List.Perm.append_left _ ((List.Perm.append_left _ ((List.Perm.append_left _ List.perm_append_comm).trans (List.perm_append_comm_assoc _ _ _))).trans (List.perm_append_comm_assoc _ _ _))))))))))))
  have hP := vP_perm hpm hP
  have hD := vD_perm hpm hD
  clear hpm
  refine pt_calli (wt_runSW (rest := []) hx hb hml hown hl.1 hg hlo (vP_l hP) (vD_l hD) hS (m_L_waste Z N9 a Pp.1 Pp.2.1 Pp.2.2.1 Pp.2.2.2 bd yA Yp.1 Yp.2.1 Yp.2.2.1 Yp.2.2.2 hya l0 y0 g0 rw bf i9.1 i9.2.1 bb Bi Bl Bj Bk hbd nc (arN X Y nc) (fun k hk => ⟨(i6 k hk).2.1, (i6 k hk).1⟩) (fun k hk => abL_ar (i6 k hk).1 (fun j hj => ⟨((i6 k hk).2.2.2.2.1 j hj).1, ((i6 k hk).2.2.2.2.1 j hj).2.2.2.2.1⟩) (fun j hj => ⟨((i6 k hk).2.2.2.2.1 j hj).2.1, ((i6 k hk).2.2.2.2.1 j hj).2.2.2.2.2⟩)) (xs (i + 1)) w h i1.1 i1.2.2.2.2.1 i1.2.2.2.2.2.1 i1.2.1 i1.2.2.2.2.2.2.1 i1.2.2.2.2.2.2.2 oA oF H.size) (kw533 Z.1) (kw534 Z.1) (kw535 Z.1) (kw0 Z.1) ⟨by decide, by decide, (by decide +kernel : (parseMethodDescriptor y_L_waste.desc).map (fun d => d.parameters.length) = some 3)⟩ ⟨(Nat.le_of_ble_eq_true rfl), (Nat.le_of_ble_eq_true rfl)⟩ [0, 1, 2, 3, 4, 5, 6, 7, 8, 9, 10, 11, 12, 13, 14, 15, 16, 17, 18, 19, 20, 21, 22, 23, 24, 25, 26, 27, 28, 29, 30, 31, 32, 33, 34, 35, 36, 37, 38, 39] rfl rfl rfl (Nat.le_of_ble_eq_true rfl) d_L_law_940 ⟨by show cl + 1 ≤ 601024; omega, by show sl + 6 ≤ 7293000; omega⟩) hP hD hS hA (fun kx u9 H locs hq hP hD hS => ?_)
  refine W.widen (k := cl + 5) (n := sl + 30) (by show cl + 1 ≤ cl + 5; omega) (by show sl + 6 ≤ sl + 30; omega) ?_
  have hP : va_P D ncl (((w_P a cA Pp.1 Pp.2.1 Pp.2.2.1 Pp.2.2.2 bd) ++ (w_Y yA cA Yp.1 Yp.2.1 Yp.2.2.1 Yp.2.2.2) ++ (w_B (bb 0) cA (Bi 0) (Bl 0) (Bj 0) (Bk 0)) ++ (w_B (bb 1) cA (Bi 1) (Bl 1) (Bj 1) (Bk 1)) ++ (w_B (bb 2) cA (Bi 2) (Bl 2) (Bj 2) (Bk 2)) ++ (w_B (bb 3) cA (Bi 3) (Bl 3) (Bj 3) (Bk 3)) ++ ([(oA, .inl (cA 1, 1, .inr (.inl u9.2)))])) ++ ((w_S sb cA Sp.1 Sp.2.1 Sp.2.2.1 Sp.2.2.2) ++ (w_M am cA Mp.1 Mp.2.1 Mp.2.2.1 Mp.2.2.2))) H := hP
  have hD : va_D (fun q => s.heap.size ≤ q) (((w_P a cA Pp.1 Pp.2.1 Pp.2.2.1 Pp.2.2.2 bd) ++ (w_Y yA cA Yp.1 Yp.2.1 Yp.2.2.1 Yp.2.2.2) ++ (w_B (bb 0) cA (Bi 0) (Bl 0) (Bj 0) (Bk 0)) ++ (w_B (bb 1) cA (Bi 1) (Bl 1) (Bj 1) (Bk 1)) ++ (w_B (bb 2) cA (Bi 2) (Bl 2) (Bj 2) (Bk 2)) ++ (w_B (bb 3) cA (Bi 3) (Bl 3) (Bj 3) (Bk 3)) ++ ([(oA, .inl (cA 1, 1, .inr (.inl u9.2)))])) ++ ((w_S sb cA Sp.1 Sp.2.1 Sp.2.2.1 Sp.2.2.2) ++ (w_M am cA Mp.1 Mp.2.1 Mp.2.2.1 Mp.2.2.2))) := hD
  refine lv_istore (lv' := [(5, .int kx), (0, .ref b), (1, .ref (a 0)), (2, .ref (am 0)), (3, .ref oA), (4, .int (nI i))]) hx hb d_L_law_943 hl (by decide) rfl (fun ls hl => ?_)
  refine lv_aload_n hx hb d_L_law_945 rfl (lv_at hl 3 rfl) ?_
  refine lv_aload_n hx hb d_L_law_946 rfl (lv_at hl 1 rfl) ?_
  refine lv_iload hx hb d_L_law_947 (lv_at hl 5 rfl) ?_
  refine lv_iconst (v := 1) hx hb d_L_law_949 (by decide) ?_
  refine lv_iadd hx hb d_L_law_950 ?_
  refine lv_topi (fun z3 ez3 => ?_)
  obtain rfl : z3 = (nI (i + 1)) := by rw [ez3]; exact nI_add i 1
  refine va_sld hx hb hX hbl hbA hS (vp_in_nI (n := i + 1) (N := L) (by omega) (by omega)) d_L_law_951 ?_
  refine lv_topi (fun z4 ez4 => ?_)
  rw [nI_clamp (n := i + 1) (by omega)] at ez4
  obtain rfl : z4 = xs (i + 1) := ez4
  have hpm : List.Perm (((w_P a cA Pp.1 Pp.2.1 Pp.2.2.1 Pp.2.2.2 bd) ++ (w_Y yA cA Yp.1 Yp.2.1 Yp.2.2.1 Yp.2.2.2) ++ (w_B (bb 0) cA (Bi 0) (Bl 0) (Bj 0) (Bk 0)) ++ (w_B (bb 1) cA (Bi 1) (Bl 1) (Bj 1) (Bk 1)) ++ (w_B (bb 2) cA (Bi 2) (Bl 2) (Bj 2) (Bk 2)) ++ (w_B (bb 3) cA (Bi 3) (Bl 3) (Bj 3) (Bk 3)) ++ ([(oA, .inl (cA 1, 1, .inr (.inl u9.2)))])) ++ ((w_S sb cA Sp.1 Sp.2.1 Sp.2.2.1 Sp.2.2.2) ++ (w_M am cA Mp.1 Mp.2.1 Mp.2.2.1 Mp.2.2.2))) (((w_M am cA Mp.1 Mp.2.1 Mp.2.2.1 Mp.2.2.2)) ++ ((w_P a cA Pp.1 Pp.2.1 Pp.2.2.1 Pp.2.2.2 bd) ++ (w_Y yA cA Yp.1 Yp.2.1 Yp.2.2.1 Yp.2.2.2) ++ (w_B (bb 0) cA (Bi 0) (Bl 0) (Bj 0) (Bk 0)) ++ (w_B (bb 1) cA (Bi 1) (Bl 1) (Bj 1) (Bk 1)) ++ (w_B (bb 2) cA (Bi 2) (Bl 2) (Bj 2) (Bk 2)) ++ (w_B (bb 3) cA (Bi 3) (Bl 3) (Bj 3) (Bk 3)) ++ ([(oA, .inl (cA 1, 1, .inr (.inl u9.2)))]) ++ (w_S sb cA Sp.1 Sp.2.1 Sp.2.2.1 Sp.2.2.2))) := by simp only [List.append_assoc]; exact ((List.Perm.append_left _ ((List.Perm.append_left _ ((List.Perm.append_left _ ((List.Perm.append_left _ ((List.Perm.append_left _ ((List.Perm.append_left _ ((List.Perm.append_left _ List.perm_append_comm).trans (List.perm_append_comm_assoc _ _ _))).trans (List.perm_append_comm_assoc _ _ _))).trans (List.perm_append_comm_assoc _ _ _))).trans (List.perm_append_comm_assoc _ _ _))).trans (List.perm_append_comm_assoc _ _ _))).trans (List.perm_append_comm_assoc _ _ _))).trans (List.perm_append_comm_assoc _ _ _))
  have hP := vP_perm hpm hP
  have hD := vD_perm hpm hD
  clear hpm
  refine p_calll (w_runV (rest := []) hx hb hml hown hl.1 hg hlo hK (vP_l hP) (vD_l hD) hS (m_M_waste Z am Mp.1 Mp.2.1 Mp.2.2.1 Mp.2.2.2 (xs (i + 1)) w h nc X Y (lcp l0 g0 y0 rw) i9.2.2.2.1 (lcp_200 i9.2.1) i1.2.2.1 i1.2.2.2.2.1 i1.2.2.2.2.2.1 i1.2.2.2.1 i1.2.2.2.2.2.2.1 i1.2.2.2.2.2.2.2 (lcp_d4 i9.2.1) (fun k hk => ⟨(i6 k hk).2.2.1, (i6 k hk).1⟩) (fun k hk j hj => ⟨((i6 k hk).2.2.2.2.1 j hj).2.2.1, ((i6 k hk).2.2.2.2.1 j hj).2.2.2.2.1⟩) (fun k hk j hj => ⟨((i6 k hk).2.2.2.2.1 j hj).2.2.2.1, ((i6 k hk).2.2.2.2.1 j hj).2.2.2.2.2⟩) H.size) (kw806 Z.1) (kw807 Z.1) (kw808 Z.1) (kw809 Z.1) (kw6 Z.1) ⟨by decide, by decide, (by decide +kernel : (parseMethodDescriptor y_M_waste.desc).map (fun d => d.parameters.length) = some 1)⟩ ⟨(Nat.le_of_ble_eq_true rfl), (Nat.le_of_ble_eq_true rfl)⟩ [0, 1, 2, 3, 4, 5, 6, 7, 8, 9, 10, 11, 12, 13, 14, 15, 16] rfl rfl (ci := 1) (q0 := 0) rfl rfl rfl (Nat.le_of_ble_eq_true rfl) d_L_law_952 ⟨by show cl + 5 + 0 ≤ 601024; omega, by show sl + 30 + 0 ≤ 7293000; omega⟩) hP hD hS hA (fun rm um H locs hm hP hD hS => ?_)
  refine W.widen (k := cl + 5) (n := sl + 30) (by show cl + 5 + 0 ≤ cl + 5; omega) (by show sl + 30 + 0 ≤ sl + 30; omega) ?_
  have hP : va_P D ncl (((w_M am cA um.1 um.2.1 um.2.2.1 um.2.2.2)) ++ ((w_P a cA Pp.1 Pp.2.1 Pp.2.2.1 Pp.2.2.2 bd) ++ (w_Y yA cA Yp.1 Yp.2.1 Yp.2.2.1 Yp.2.2.2) ++ (w_B (bb 0) cA (Bi 0) (Bl 0) (Bj 0) (Bk 0)) ++ (w_B (bb 1) cA (Bi 1) (Bl 1) (Bj 1) (Bk 1)) ++ (w_B (bb 2) cA (Bi 2) (Bl 2) (Bj 2) (Bk 2)) ++ (w_B (bb 3) cA (Bi 3) (Bl 3) (Bj 3) (Bk 3)) ++ ([(oA, .inl (cA 1, 1, .inr (.inl u9.2)))]) ++ (w_S sb cA Sp.1 Sp.2.1 Sp.2.2.1 Sp.2.2.2))) H := hP
  have hD : va_D (fun q => s.heap.size ≤ q) (((w_M am cA um.1 um.2.1 um.2.2.1 um.2.2.2)) ++ ((w_P a cA Pp.1 Pp.2.1 Pp.2.2.1 Pp.2.2.2 bd) ++ (w_Y yA cA Yp.1 Yp.2.1 Yp.2.2.1 Yp.2.2.2) ++ (w_B (bb 0) cA (Bi 0) (Bl 0) (Bj 0) (Bk 0)) ++ (w_B (bb 1) cA (Bi 1) (Bl 1) (Bj 1) (Bk 1)) ++ (w_B (bb 2) cA (Bi 2) (Bl 2) (Bj 2) (Bk 2)) ++ (w_B (bb 3) cA (Bi 3) (Bl 3) (Bj 3) (Bk 3)) ++ ([(oA, .inl (cA 1, 1, .inr (.inl u9.2)))]) ++ (w_S sb cA Sp.1 Sp.2.1 Sp.2.2.1 Sp.2.2.2))) := hD
  obtain ⟨t1, t2, t3⟩ := tie_waste (oF := oF) i1.2.2.2.2.1 i1.2.2.2.2.2.2.1 (ts_ws X Y nc l0 y0 g0 rw) hI hq hm
  refine lv_lstore (lv' := [(6, .long rm), (5, .int kx), (0, .ref b), (1, .ref (a 0)), (2, .ref (am 0)), (3, .ref oA), (4, .int (nI i))]) hx hb d_L_law_955 hl (by decide) rfl (fun ls hl => ?_)
  refine lv_aload_n hx hb d_L_law_957 rfl (lv_at hl 4 rfl) ?_
  refine p_calli (w_runV (rest := []) hx hb hml hown hl.1 hg hlo hK (vP_l hP) (vD_l hD) hS (m_M_thrown Z am um.1 um.2.1 um.2.2.1 um.2.2.2 H.size) (kw683 Z.1) (kw684 Z.1) (kw685 Z.1) (kw686 Z.1) (kw6 Z.1) ⟨by decide, by decide, (by decide +kernel : (parseMethodDescriptor y_M_thrown.desc).map (fun d => d.parameters.length) = some 0)⟩ ⟨(Nat.le_of_ble_eq_true rfl), (Nat.le_of_ble_eq_true rfl)⟩ [0, 1, 2, 3, 4, 5, 6, 7, 8, 9, 10, 11, 12, 13, 14, 15, 16] rfl rfl (ci := 1) (q0 := 0) rfl rfl rfl (Nat.le_of_ble_eq_true rfl) d_L_law_958 ⟨by show cl + 5 + 0 ≤ 601024; omega, by show sl + 30 + 0 ≤ 7293000; omega⟩) hP hD hS hA (fun rt ut H locs hrt hP hD hS => ?_)
  refine W.widen (k := cl + 5) (n := sl + 30) (by show cl + 5 + 0 ≤ cl + 5; omega) (by show sl + 30 + 0 ≤ sl + 30; omega) ?_
  have hP : va_P D ncl (((w_M am cA um.1 um.2.1 um.2.2.1 um.2.2.2)) ++ ((w_P a cA Pp.1 Pp.2.1 Pp.2.2.1 Pp.2.2.2 bd) ++ (w_Y yA cA Yp.1 Yp.2.1 Yp.2.2.1 Yp.2.2.2) ++ (w_B (bb 0) cA (Bi 0) (Bl 0) (Bj 0) (Bk 0)) ++ (w_B (bb 1) cA (Bi 1) (Bl 1) (Bj 1) (Bk 1)) ++ (w_B (bb 2) cA (Bi 2) (Bl 2) (Bj 2) (Bk 2)) ++ (w_B (bb 3) cA (Bi 3) (Bl 3) (Bj 3) (Bk 3)) ++ ([(oA, .inl (cA 1, 1, .inr (.inl u9.2)))]) ++ (w_S sb cA Sp.1 Sp.2.1 Sp.2.2.1 Sp.2.2.2))) H := hP
  have hD : va_D (fun q => s.heap.size ≤ q) (((w_M am cA um.1 um.2.1 um.2.2.1 um.2.2.2)) ++ ((w_P a cA Pp.1 Pp.2.1 Pp.2.2.1 Pp.2.2.2 bd) ++ (w_Y yA cA Yp.1 Yp.2.1 Yp.2.2.1 Yp.2.2.2) ++ (w_B (bb 0) cA (Bi 0) (Bl 0) (Bj 0) (Bk 0)) ++ (w_B (bb 1) cA (Bi 1) (Bl 1) (Bj 1) (Bk 1)) ++ (w_B (bb 2) cA (Bi 2) (Bl 2) (Bj 2) (Bk 2)) ++ (w_B (bb 3) cA (Bi 3) (Bl 3) (Bj 3) (Bk 3)) ++ ([(oA, .inl (cA 1, 1, .inr (.inl u9.2)))]) ++ (w_S sb cA Sp.1 Sp.2.1 Sp.2.2.1 Sp.2.2.2))) := hD
  subst hrt
  refine lv_iload hx hb d_L_law_961 (lv_at hl 1 rfl) ?_
  refine lv_icmp_eq (tgt := 968) hx hb d_L_law_963 (by decide) (fun _ => ?_) (fun k5 => by first | exact absurd (show um.1 0 = kx from t1) k5 | exact absurd k5 (show um.1 0 = kx from t1))
  refine lv_iload hx hb d_L_law_968 (lv_at hl 1 rfl) ?_
  have hpm : List.Perm (((w_M am cA um.1 um.2.1 um.2.2.1 um.2.2.2)) ++ ((w_P a cA Pp.1 Pp.2.1 Pp.2.2.1 Pp.2.2.2 bd) ++ (w_Y yA cA Yp.1 Yp.2.1 Yp.2.2.1 Yp.2.2.2) ++ (w_B (bb 0) cA (Bi 0) (Bl 0) (Bj 0) (Bk 0)) ++ (w_B (bb 1) cA (Bi 1) (Bl 1) (Bj 1) (Bk 1)) ++ (w_B (bb 2) cA (Bi 2) (Bl 2) (Bj 2) (Bk 2)) ++ (w_B (bb 3) cA (Bi 3) (Bl 3) (Bj 3) (Bk 3)) ++ ([(oA, .inl (cA 1, 1, .inr (.inl u9.2)))]) ++ (w_S sb cA Sp.1 Sp.2.1 Sp.2.2.1 Sp.2.2.2))) (([(oA, .inl (cA 1, 1, .inr (.inl u9.2)))]) ++ (w_P a cA Pp.1 Pp.2.1 Pp.2.2.1 Pp.2.2.2 bd) ++ (w_S sb cA Sp.1 Sp.2.1 Sp.2.2.1 Sp.2.2.2) ++ (w_Y yA cA Yp.1 Yp.2.1 Yp.2.2.1 Yp.2.2.2) ++ (w_M am cA um.1 um.2.1 um.2.2.1 um.2.2.2) ++ (w_B (bb 0) cA (Bi 0) (Bl 0) (Bj 0) (Bk 0)) ++ (w_B (bb 1) cA (Bi 1) (Bl 1) (Bj 1) (Bk 1)) ++ (w_B (bb 2) cA (Bi 2) (Bl 2) (Bj 2) (Bk 2)) ++ (w_B (bb 3) cA (Bi 3) (Bl 3) (Bj 3) (Bk 3))) := by simp only [List.append_assoc]; exact (((List.Perm.append_left _ ((List.Perm.append_left _ ((List.Perm.append_left _ ((List.Perm.append_left _ ((List.Perm.append_left _ ((List.Perm.append_left _ (List.perm_append_comm_assoc _ _ _)).trans (List.perm_append_comm_assoc _ _ _))).trans (List.perm_append_comm_assoc _ _ _))).trans (List.perm_append_comm_assoc _ _ _))).trans (List.perm_append_comm_assoc _ _ _))).trans (List.perm_append_comm_assoc _ _ _))).trans (List.perm_append_comm_assoc _ _ _)).trans (List.Perm.append_left _ ((List.perm_append_comm_assoc _ _ _).trans (List.Perm.append_left _ (((List.Perm.append_left _ ((List.Perm.append_left _ ((List.Perm.append_left _ ((List.Perm.append_left _ ((List.Perm.append_left _ List.perm_append_comm).trans (List.perm_append_comm_assoc _ _ _))).trans (List.perm_append_comm_assoc _ _ _))).trans (List.perm_append_comm_assoc _ _ _))).trans (List.perm_append_comm_assoc _ _ _))).trans (List.perm_append_comm_assoc _ _ _)).trans (List.Perm.append_left _ (List.perm_append_comm_assoc _ _ _)))))))
  have hP := vP_perm hpm hP
  have hD := vD_perm hpm hD
  clear hpm
  refine lv_if_ne (tgt := 984) hx hb d_L_law_970 (by decide) (fun d6 => ?_) (fun d6 => ?_)
  · refine lv_goto (tgt := 1460) hx hb d_L_law_984 (by decide) ?_
    exact kk Pp Sp Yp um Bi Bl Bj Bk u9.2 _ _ hP hD hS t3 ls (lv_sub hl [2, 3, 4, 5, 6] rfl)
  · have t4 := t2 (show kx = 0 from d6)
    refine lv_aload_n hx hb d_L_law_973 rfl (lv_at hl 5 rfl) ?_
    refine lv_iconst (v := 0) hx hb d_L_law_974 (by decide) ?_
    refine va_lald hx hb hK hP 0 1 rfl rfl (by unfold vp_in; decide) d_L_law_975 ?_
    refine lv_topl (fun z7 ez7 => ?_)
    obtain rfl : z7 = (u9.2 0) := by rw [ez7]; rfl
    refine lv_lload hx hb d_L_law_976 (lv_at hl 0 rfl) ?_
    refine W.lcmp hx hb d_L_law_978 ?_
    refine lv_if_eq (tgt := 984) hx hb d_L_law_979 (by decide) (fun _ => ?_) (fun k8 => by first | exact absurd ((lg_cmp_eq _ _).mpr t4) k8 | exact absurd k8 ((lg_cmp_eq _ _).mpr t4))
    refine lv_goto (tgt := 1460) hx hb d_L_law_984 (by decide) ?_
    exact kk Pp Sp Yp um Bi Bl Bj Bk u9.2 _ _ hP hD hS t3 ls (lv_sub hl [2, 3, 4, 5, 6] rfl)
set_option maxHeartbeats 4000000 in
set_option maxRecDepth 100000 in
theorem lc_run {p : Program} {l : Launch} {e : Env} {s : State} {m : MethodId} {below : List Frame} {meth : Method} {c : Code} {Q : State → Prop} {D : va_G} {cA sa : Nat → Nat} (Z : zE l s D cA sa) (N9 : zN s) (hx : p.tables.exec = Jvm.exec) (hb : c.code = code) (hml : c.maxLocals = 8) (hown : s.vm.findClass R_L = some m.cls) (hg : gl s s) (hK : va_K D ncl (ty0 cA) s) {b L : Nat} {xs : Nat → Int32} (hX : va_X b L xs s s.heap) (hbl : b < s.heap.size) (hL : L ≤ 4098) {a sb yA bd am : Nat → Nat} {oA : Nat} {bb : Nat → Nat → Nat} (hsa : sb 0 = a 5) (hya : yA 0 = a 6) (hbd : ∀ k, k < 4 → bd k = bb k 0) {i cl sl : Nat} (hi : i + 8 ≤ L) (hcl : cl + 5 ≤ 601024) (hsl : sl + 30 ≤ 7293000) {Pp Sp Yp Mp : St} {Bi : Nat → Nat → Int32} {Bl : Nat → Nat → Int64} {Bj : Nat → Nat → Nat → Int32} {Bk : Nat → Nat → Nat → Int64} {oF : Nat → Int64} (hI : INV Pp Sp Yp Mp Bi Bl Bk) (kk : ∀ (P1 S1 Y1 M1 : St) (Bi1 : Nat → Nat → Int32) (Bl1 : Nat → Nat → Int64) (Bj1 : Nat → Nat → Nat → Int32) (Bk1 : Nat → Nat → Nat → Int64) (oF1 : Nat → Int64) (H : Heap) (locs : List Loc), va_P D ncl (([(oA, .inl (cA 1, 1, .inr (.inl oF1)))]) ++ (w_P a cA P1.1 P1.2.1 P1.2.2.1 P1.2.2.2 bd) ++ (w_S sb cA S1.1 S1.2.1 S1.2.2.1 S1.2.2.2) ++ (w_Y yA cA Y1.1 Y1.2.1 Y1.2.2.1 Y1.2.2.2) ++ (w_M am cA M1.1 M1.2.1 M1.2.2.1 M1.2.2.2) ++ (w_B (bb 0) cA (Bi1 0) (Bl1 0) (Bj1 0) (Bk1 0)) ++ (w_B (bb 1) cA (Bi1 1) (Bl1 1) (Bj1 1) (Bk1 1)) ++ (w_B (bb 2) cA (Bi1 2) (Bl1 2) (Bj1 2) (Bk1 2)) ++ (w_B (bb 3) cA (Bi1 3) (Bl1 3) (Bj1 3) (Bk1 3))) H → va_D (fun q => s.heap.size ≤ q) (([(oA, .inl (cA 1, 1, .inr (.inl oF1)))]) ++ (w_P a cA P1.1 P1.2.1 P1.2.2.1 P1.2.2.2 bd) ++ (w_S sb cA S1.1 S1.2.1 S1.2.2.1 S1.2.2.2) ++ (w_Y yA cA Y1.1 Y1.2.1 Y1.2.2.1 Y1.2.2.2) ++ (w_M am cA M1.1 M1.2.1 M1.2.2.1 M1.2.2.2) ++ (w_B (bb 0) cA (Bi1 0) (Bl1 0) (Bj1 0) (Bk1 0)) ++ (w_B (bb 1) cA (Bi1 1) (Bl1 1) (Bj1 1) (Bk1 1)) ++ (w_B (bb 2) cA (Bi1 2) (Bl1 2) (Bj1 2) (Bk1 2)) ++ (w_B (bb 3) cA (Bi1 3) (Bl1 3) (Bj1 3) (Bk1 3))) → va_S (fun q => s.heap.size ≤ q) s.heap H locs → INV P1 S1 Y1 M1 Bi1 Bl1 Bk1 → ∀ ls : Array Slot, lv_has ls 8 [(0, .ref b), (1, .ref (a 0)), (2, .ref (am 0)), (3, .ref oA), (4, .int (nI i))] → W p l e room_1 s m #[Value.ref b] below meth c H locs (cl + 5) (sl + 30) Q (F0 m 1460 ls [])) {H : Heap} {locs : List Loc} (hP : va_P D ncl (([(oA, .inl (cA 1, 1, .inr (.inl oF)))]) ++ (w_P a cA Pp.1 Pp.2.1 Pp.2.2.1 Pp.2.2.2 bd) ++ (w_S sb cA Sp.1 Sp.2.1 Sp.2.2.1 Sp.2.2.2) ++ (w_Y yA cA Yp.1 Yp.2.1 Yp.2.2.1 Yp.2.2.2) ++ (w_M am cA Mp.1 Mp.2.1 Mp.2.2.1 Mp.2.2.2) ++ (w_B (bb 0) cA (Bi 0) (Bl 0) (Bj 0) (Bk 0)) ++ (w_B (bb 1) cA (Bi 1) (Bl 1) (Bj 1) (Bk 1)) ++ (w_B (bb 2) cA (Bi 2) (Bl 2) (Bj 2) (Bk 2)) ++ (w_B (bb 3) cA (Bi 3) (Bl 3) (Bj 3) (Bk 3))) H) (hD : va_D (fun q => s.heap.size ≤ q) (([(oA, .inl (cA 1, 1, .inr (.inl oF)))]) ++ (w_P a cA Pp.1 Pp.2.1 Pp.2.2.1 Pp.2.2.2 bd) ++ (w_S sb cA Sp.1 Sp.2.1 Sp.2.2.1 Sp.2.2.2) ++ (w_Y yA cA Yp.1 Yp.2.1 Yp.2.2.1 Yp.2.2.2) ++ (w_M am cA Mp.1 Mp.2.1 Mp.2.2.1 Mp.2.2.2) ++ (w_B (bb 0) cA (Bi 0) (Bl 0) (Bj 0) (Bk 0)) ++ (w_B (bb 1) cA (Bi 1) (Bl 1) (Bj 1) (Bk 1)) ++ (w_B (bb 2) cA (Bi 2) (Bl 2) (Bj 2) (Bk 2)) ++ (w_B (bb 3) cA (Bi 3) (Bl 3) (Bj 3) (Bk 3)))) (hS : va_S (fun q => s.heap.size ≤ q) s.heap H locs) {ls : Array Slot} (hl : lv_has ls 8 [(0, .ref b), (1, .ref (a 0)), (2, .ref (am 0)), (3, .ref oA), (4, .int (nI i))]) : W p l e room_1 s m #[Value.ref b] below meth c H locs cl sl Q (F0 m 312 ls []) := by
  have hA : ∀ q, s.heap.size ≤ q → (fun q => s.heap.size ≤ q) q := fun _ h => h
  have hlo : ∀ q, (fun q => s.heap.size ≤ q) q → s.heap.size ≤ q := fun _ h => h
  have hbA : ¬ (fun q : Nat => s.heap.size ≤ q) b := Nat.not_le.mpr hbl
  obtain ⟨w, h, nb, g, l0, y0, g0, r, nc, np, wt, X, Y, rw, bf, i1, i2, i3, i4, i5, i6, i7, i8, i9, i10, i11⟩ := id hI
  have hnb4 := i2.2.2
  obtain ⟨bw, bh, hbox⟩ := iC_box i6
  have r0 := i3 0 (by decide)
  have r1 := i3 1 (by decide)
  have r2 := i3 2 (by decide)
  have r3 := i3 3 (by decide)
  obtain ⟨ac, hac⟩ : ∃ z : Int, z = (w : Int) - (r 0 : Nat) - (r 2 : Nat) := ⟨_, rfl⟩
  obtain ⟨fr, hfr⟩ : ∃ z : Int, z = (h : Int) - (r 1 : Nat) - (r 3 : Nat) := ⟨_, rfl⟩
  have hi1 := i1.2.2.2.2
  have hacP : Pp.2.1 0 - Pp.2.2.2 3 0 - Pp.2.2.2 3 2 = lZ ac := by rw [i1.1, r0.1, r2.1, hac, ← lZ_nat, ← lZ_nat, ← lZ_nat, lZ_sub, lZ_sub]
  have hfrP : Pp.2.1 1 - Pp.2.2.2 3 1 - Pp.2.2.2 3 3 = lZ fr := by rw [i1.2.1, r1.1, r3.1, hfr, ← lZ_nat, ← lZ_nat, ← lZ_nat, lZ_sub, lZ_sub]
  have hacM : Mp.2.1 1 - Mp.2.2.2 10 0 - Mp.2.2.2 10 2 = lZ ac := by rw [i1.2.2.1, r0.2.1, r2.2.1, hac, ← lZ_nat, ← lZ_nat, ← lZ_nat, lZ_sub, lZ_sub]
  have hfrM : Mp.2.1 2 - Mp.2.2.2 10 1 - Mp.2.2.2 10 3 = lZ fr := by rw [i1.2.2.2.1, r1.2.1, r3.2.1, hfr, ← lZ_nat, ← lZ_nat, ← lZ_nat, lZ_sub, lZ_sub]
  refine lv_aload_n hx hb d_L_law_312 rfl (lv_at hl 1 rfl) ?_
  refine lv_aload_n hx hb d_L_law_313 rfl (lv_at hl 0 rfl) ?_
  refine lv_iload hx hb d_L_law_314 (lv_at hl 4 rfl) ?_
  refine lv_iconst (v := 1) hx hb d_L_law_316 (by decide) ?_
  refine lv_iadd hx hb d_L_law_317 ?_
  refine lv_topi (fun z1 ez1 => ?_)
  obtain rfl : z1 = (nI (i + 1)) := by rw [ez1]; exact nI_add i 1
  refine va_sld hx hb hX hbl hbA hS (vp_in_nI (n := i + 1) (N := L) (by omega) (by omega)) d_L_law_318 ?_
  refine lv_topi (fun z2 ez2 => ?_)
  rw [nI_clamp (n := i + 1) (by omega)] at ez2
  obtain rfl : z2 = xs (i + 1) := ez2
  refine lv_aload_n hx hb d_L_law_319 rfl (lv_at hl 0 rfl) ?_
  refine lv_iload hx hb d_L_law_320 (lv_at hl 4 rfl) ?_
  refine lv_iconst (v := 2) hx hb d_L_law_322 (by decide) ?_
  refine lv_iadd hx hb d_L_law_323 ?_
  refine lv_topi (fun z3 ez3 => ?_)
  obtain rfl : z3 = (nI (i + 2)) := by rw [ez3]; exact nI_add i 2
  refine va_sld hx hb hX hbl hbA hS (vp_in_nI (n := i + 2) (N := L) (by omega) (by omega)) d_L_law_324 ?_
  refine lv_topi (fun z4 ez4 => ?_)
  rw [nI_clamp (n := i + 2) (by omega)] at ez4
  obtain rfl : z4 = xs (i + 2) := ez4
  refine lv_i2l hx hb d_L_law_325 rfl ?_
  refine lv_bipush (v := 32) hx hb d_L_law_326 (by decide) ?_
  refine lv_lshl hx hb d_L_law_328 rfl ?_
  refine lv_aload_n hx hb d_L_law_329 rfl (lv_at hl 0 rfl) ?_
  refine lv_iload hx hb d_L_law_330 (lv_at hl 4 rfl) ?_
  refine lv_iconst (v := 3) hx hb d_L_law_332 (by decide) ?_
  refine lv_iadd hx hb d_L_law_333 ?_
  refine lv_topi (fun z5 ez5 => ?_)
  obtain rfl : z5 = (nI (i + 3)) := by rw [ez5]; exact nI_add i 3
  refine va_sld hx hb hX hbl hbA hS (vp_in_nI (n := i + 3) (N := L) (by omega) (by omega)) d_L_law_334 ?_
  refine lv_topi (fun z6 ez6 => ?_)
  rw [nI_clamp (n := i + 3) (by omega)] at ez6
  obtain rfl : z6 = xs (i + 3) := ez6
  refine lv_i2l hx hb d_L_law_335 rfl ?_
  refine lv_ldc2 (v := 4294967295) hx hb hown (kw834 Z.1 _ _ hg.1) d_L_law_336 ?_
  refine lv_land hx hb d_L_law_339 ?_
  refine lv_lor hx hb d_L_law_340 ?_
  refine lv_topl (fun z7 ez7 => ?_)
  obtain rfl : z7 = (jl (xs (i + 2)) (xs (i + 3))) := by rw [ez7]; rfl
  refine lv_aload_n hx hb d_L_law_341 rfl (lv_at hl 3 rfl) ?_
  have hpm : List.Perm (([(oA, .inl (cA 1, 1, .inr (.inl oF)))]) ++ (w_P a cA Pp.1 Pp.2.1 Pp.2.2.1 Pp.2.2.2 bd) ++ (w_S sb cA Sp.1 Sp.2.1 Sp.2.2.1 Sp.2.2.2) ++ (w_Y yA cA Yp.1 Yp.2.1 Yp.2.2.1 Yp.2.2.2) ++ (w_M am cA Mp.1 Mp.2.1 Mp.2.2.1 Mp.2.2.2) ++ (w_B (bb 0) cA (Bi 0) (Bl 0) (Bj 0) (Bk 0)) ++ (w_B (bb 1) cA (Bi 1) (Bl 1) (Bj 1) (Bk 1)) ++ (w_B (bb 2) cA (Bi 2) (Bl 2) (Bj 2) (Bk 2)) ++ (w_B (bb 3) cA (Bi 3) (Bl 3) (Bj 3) (Bk 3))) (((w_P a cA Pp.1 Pp.2.1 Pp.2.2.1 Pp.2.2.2 bd) ++ (w_S sb cA Sp.1 Sp.2.1 Sp.2.2.1 Sp.2.2.2) ++ (w_Y yA cA Yp.1 Yp.2.1 Yp.2.2.1 Yp.2.2.2) ++ (w_B (bb 0) cA (Bi 0) (Bl 0) (Bj 0) (Bk 0)) ++ (w_B (bb 1) cA (Bi 1) (Bl 1) (Bj 1) (Bk 1)) ++ (w_B (bb 2) cA (Bi 2) (Bl 2) (Bj 2) (Bk 2)) ++ (w_B (bb 3) cA (Bi 3) (Bl 3) (Bj 3) (Bk 3)) ++ ([(oA, .inl (cA 1, 1, .inr (.inl oF)))])) ++ ((w_M am cA Mp.1 Mp.2.1 Mp.2.2.1 Mp.2.2.2))) := by simp only [List.append_assoc]; exact ((List.perm_append_comm_assoc _ _ _).trans (List.Perm.append_left _ ((List.perm_append_comm_assoc _ _ _).trans (List.Perm.append_left _ ((List.perm_append_comm_assoc _ _ _).trans (List.Perm.append_left _ (((List.Perm.append_left _ (List.perm_append_comm_assoc _ _ _)).trans (List.perm_append_comm_assoc _ _ _)).trans (List.Perm.append_left _ (((List.Perm.append_left _ (List.perm_append_comm_assoc _ _ _)).trans (List.perm_append_comm_assoc _ _ _)).trans (List.Perm.append_left _ (((List.Perm.append_left _ (List.perm_append_comm_assoc _ _ _)).trans (List.perm_append_comm_assoc _ _ _)).trans (List.Perm.append_left _ ((List.Perm.append_left _ List.perm_append_comm).trans (List.perm_append_comm_assoc _ _ _))))))))))))))
  have hP := vP_perm hpm hP
  have hD := vD_perm hpm hD
  clear hpm
  refine pt_calli (wt_runSW (rest := []) hx hb hml hown hl.1 hg hlo (vP_l hP) (vD_l hD) hS (m_L_run Z N9 a Pp.1 Pp.2.1 Pp.2.2.1 Pp.2.2.2 bd sb Sp.1 Sp.2.1 Sp.2.2.1 Sp.2.2.2 hsa i11 yA Yp.1 Yp.2.1 Yp.2.2.1 Yp.2.2.2 hya bb Bi Bl Bj Bk hbd bw bh wt (fun k hk => (hbox k hk).1) (fun k hk => ⟨(i8 k hk).1, (i8 k hk).2.2⟩) g (r 0) (r 1) i4.1 i4.2.2.1 r0.1 r0.2.2 r1.1 r1.2.2 ac fr hacP (by omega) (by omega) hfrP (by omega) (by omega) nb i2.1 hnb4 (xs (i + 1)) (jl (xs (i + 2)) (xs (i + 3))) oA oF H.size) (kw369 Z.1) (kw370 Z.1) (kw371 Z.1) (kw0 Z.1) ⟨by decide, by decide, (by decide +kernel : (parseMethodDescriptor y_L_run.desc).map (fun d => d.parameters.length) = some 4)⟩ ⟨(Nat.le_of_ble_eq_true rfl), (Nat.le_of_ble_eq_true rfl)⟩ [0, 1, 2, 3, 4, 5, 6, 7, 8, 9, 10, 11, 12, 13, 14, 15, 16, 17, 18, 19, 20, 21, 22, 23, 24, 25, 26, 27, 28, 29, 30, 31, 32, 33, 34, 35, 36, 37, 38, 39, 40, 41, 42, 43, 44, 45, 46, 47] rfl rfl rfl (Nat.le_of_ble_eq_true rfl) d_L_law_342 ⟨by show cl + 1 ≤ 601024; omega, by show sl + 6 ≤ 7293000; omega⟩) hP hD hS hA (fun kx u9 H locs hq hP hD hS => ?_)
  refine W.widen (k := cl + 5) (n := sl + 30) (by show cl + 1 ≤ cl + 5; omega) (by show sl + 6 ≤ sl + 30; omega) ?_
  have hP : va_P D ncl (((w_P a cA u9.1.2.1 Pp.2.1 Pp.2.2.1 Pp.2.2.2 bd) ++ (w_S sb cA u9.1.1.1 u9.1.1.2.1 u9.1.1.2.2.1 u9.1.1.2.2.2) ++ (w_Y yA cA u9.1.2.2.1 u9.1.2.2.2.1 u9.1.2.2.2.2.1 u9.1.2.2.2.2.2) ++ (w_B (bb 0) cA (Bi 0) (Bl 0) (Bj 0) (Bk 0)) ++ (w_B (bb 1) cA (Bi 1) (Bl 1) (Bj 1) (Bk 1)) ++ (w_B (bb 2) cA (Bi 2) (Bl 2) (Bj 2) (Bk 2)) ++ (w_B (bb 3) cA (Bi 3) (Bl 3) (Bj 3) (Bk 3)) ++ ([(oA, .inl (cA 1, 1, .inr (.inl u9.2)))])) ++ ((w_M am cA Mp.1 Mp.2.1 Mp.2.2.1 Mp.2.2.2))) H := hP
  have hD : va_D (fun q => s.heap.size ≤ q) (((w_P a cA u9.1.2.1 Pp.2.1 Pp.2.2.1 Pp.2.2.2 bd) ++ (w_S sb cA u9.1.1.1 u9.1.1.2.1 u9.1.1.2.2.1 u9.1.1.2.2.2) ++ (w_Y yA cA u9.1.2.2.1 u9.1.2.2.2.1 u9.1.2.2.2.2.1 u9.1.2.2.2.2.2) ++ (w_B (bb 0) cA (Bi 0) (Bl 0) (Bj 0) (Bk 0)) ++ (w_B (bb 1) cA (Bi 1) (Bl 1) (Bj 1) (Bk 1)) ++ (w_B (bb 2) cA (Bi 2) (Bl 2) (Bj 2) (Bk 2)) ++ (w_B (bb 3) cA (Bi 3) (Bl 3) (Bj 3) (Bk 3)) ++ ([(oA, .inl (cA 1, 1, .inr (.inl u9.2)))])) ++ ((w_M am cA Mp.1 Mp.2.1 Mp.2.2.1 Mp.2.2.2))) := hD
  refine lv_istore (lv' := [(5, .int kx), (0, .ref b), (1, .ref (a 0)), (2, .ref (am 0)), (3, .ref oA), (4, .int (nI i))]) hx hb d_L_law_345 hl (by decide) rfl (fun ls hl => ?_)
  refine lv_aload_n hx hb d_L_law_347 rfl (lv_at hl 3 rfl) ?_
  refine lv_aload_n hx hb d_L_law_348 rfl (lv_at hl 1 rfl) ?_
  refine lv_iload hx hb d_L_law_349 (lv_at hl 5 rfl) ?_
  refine lv_iconst (v := 1) hx hb d_L_law_351 (by decide) ?_
  refine lv_iadd hx hb d_L_law_352 ?_
  refine lv_topi (fun z8 ez8 => ?_)
  obtain rfl : z8 = (nI (i + 1)) := by rw [ez8]; exact nI_add i 1
  refine va_sld hx hb hX hbl hbA hS (vp_in_nI (n := i + 1) (N := L) (by omega) (by omega)) d_L_law_353 ?_
  refine lv_topi (fun z9 ez9 => ?_)
  rw [nI_clamp (n := i + 1) (by omega)] at ez9
  obtain rfl : z9 = xs (i + 1) := ez9
  refine lv_aload_n hx hb d_L_law_354 rfl (lv_at hl 1 rfl) ?_
  refine lv_iload hx hb d_L_law_355 (lv_at hl 5 rfl) ?_
  refine lv_iconst (v := 2) hx hb d_L_law_357 (by decide) ?_
  refine lv_iadd hx hb d_L_law_358 ?_
  refine lv_topi (fun z10 ez10 => ?_)
  obtain rfl : z10 = (nI (i + 2)) := by rw [ez10]; exact nI_add i 2
  refine va_sld hx hb hX hbl hbA hS (vp_in_nI (n := i + 2) (N := L) (by omega) (by omega)) d_L_law_359 ?_
  refine lv_topi (fun z11 ez11 => ?_)
  rw [nI_clamp (n := i + 2) (by omega)] at ez11
  obtain rfl : z11 = xs (i + 2) := ez11
  refine lv_i2l hx hb d_L_law_360 rfl ?_
  refine lv_bipush (v := 32) hx hb d_L_law_361 (by decide) ?_
  refine lv_lshl hx hb d_L_law_363 rfl ?_
  refine lv_aload_n hx hb d_L_law_364 rfl (lv_at hl 1 rfl) ?_
  refine lv_iload hx hb d_L_law_365 (lv_at hl 5 rfl) ?_
  refine lv_iconst (v := 3) hx hb d_L_law_367 (by decide) ?_
  refine lv_iadd hx hb d_L_law_368 ?_
  refine lv_topi (fun z12 ez12 => ?_)
  obtain rfl : z12 = (nI (i + 3)) := by rw [ez12]; exact nI_add i 3
  refine va_sld hx hb hX hbl hbA hS (vp_in_nI (n := i + 3) (N := L) (by omega) (by omega)) d_L_law_369 ?_
  refine lv_topi (fun z13 ez13 => ?_)
  rw [nI_clamp (n := i + 3) (by omega)] at ez13
  obtain rfl : z13 = xs (i + 3) := ez13
  refine lv_i2l hx hb d_L_law_370 rfl ?_
  refine lv_ldc2 (v := 4294967295) hx hb hown (kw834 Z.1 _ _ hg.1) d_L_law_371 ?_
  refine lv_land hx hb d_L_law_374 ?_
  refine lv_lor hx hb d_L_law_375 ?_
  refine lv_topl (fun z14 ez14 => ?_)
  obtain rfl : z14 = (jl (xs (i + 2)) (xs (i + 3))) := by rw [ez14]; rfl
  have hpm : List.Perm (((w_P a cA u9.1.2.1 Pp.2.1 Pp.2.2.1 Pp.2.2.2 bd) ++ (w_S sb cA u9.1.1.1 u9.1.1.2.1 u9.1.1.2.2.1 u9.1.1.2.2.2) ++ (w_Y yA cA u9.1.2.2.1 u9.1.2.2.2.1 u9.1.2.2.2.2.1 u9.1.2.2.2.2.2) ++ (w_B (bb 0) cA (Bi 0) (Bl 0) (Bj 0) (Bk 0)) ++ (w_B (bb 1) cA (Bi 1) (Bl 1) (Bj 1) (Bk 1)) ++ (w_B (bb 2) cA (Bi 2) (Bl 2) (Bj 2) (Bk 2)) ++ (w_B (bb 3) cA (Bi 3) (Bl 3) (Bj 3) (Bk 3)) ++ ([(oA, .inl (cA 1, 1, .inr (.inl u9.2)))])) ++ ((w_M am cA Mp.1 Mp.2.1 Mp.2.2.1 Mp.2.2.2))) (((w_M am cA Mp.1 Mp.2.1 Mp.2.2.1 Mp.2.2.2)) ++ ((w_P a cA u9.1.2.1 Pp.2.1 Pp.2.2.1 Pp.2.2.2 bd) ++ (w_S sb cA u9.1.1.1 u9.1.1.2.1 u9.1.1.2.2.1 u9.1.1.2.2.2) ++ (w_Y yA cA u9.1.2.2.1 u9.1.2.2.2.1 u9.1.2.2.2.2.1 u9.1.2.2.2.2.2) ++ (w_B (bb 0) cA (Bi 0) (Bl 0) (Bj 0) (Bk 0)) ++ (w_B (bb 1) cA (Bi 1) (Bl 1) (Bj 1) (Bk 1)) ++ (w_B (bb 2) cA (Bi 2) (Bl 2) (Bj 2) (Bk 2)) ++ (w_B (bb 3) cA (Bi 3) (Bl 3) (Bj 3) (Bk 3)) ++ ([(oA, .inl (cA 1, 1, .inr (.inl u9.2)))]))) := by simp only [List.append_assoc]; exact ((List.Perm.append_left _ ((List.Perm.append_left _ ((List.Perm.append_left _ ((List.Perm.append_left _ ((List.Perm.append_left _ ((List.Perm.append_left _ ((List.Perm.append_left _ List.perm_append_comm).trans (List.perm_append_comm_assoc _ _ _))).trans (List.perm_append_comm_assoc _ _ _))).trans (List.perm_append_comm_assoc _ _ _))).trans (List.perm_append_comm_assoc _ _ _))).trans (List.perm_append_comm_assoc _ _ _))).trans (List.perm_append_comm_assoc _ _ _))).trans (List.perm_append_comm_assoc _ _ _))
  have hP := vP_perm hpm hP
  have hD := vD_perm hpm hD
  clear hpm
  refine p_calli (w_runV (rest := []) hx hb hml hown hl.1 hg hlo hK (vP_l hP) (vD_l hD) hS (m_M_run Z am Mp.1 Mp.2.1 Mp.2.2.1 Mp.2.2.2 (xs (i + 1)) (jl (xs (i + 2)) (xs (i + 3))) nb g (r 0) (r 1) nc bw bh wt (fun b j => lN (X b j)) (fun b j => lN (Y b j)) ac fr i2.2.1 hnb4 (fun k hk => ⟨(i6 k hk).2.2.1, (i6 k hk).1⟩) (fun b j hb hj => ((i6 b hb).2.2.2.2.1 j hj).2.2.1) (fun b j hb hj => ((i6 b hb).2.2.2.2.1 j hj).2.2.2.1) (fun b hb => (hbox b hb).2.1) (fun b hb => (hbox b hb).2.2.1) (fun b hb hn => by have z := (hbox b hb).2.2.2 ((i6 b hb).2.2.2.1 hn); rw [z.1, z.2]; exact i10 b hn hb) (fun k hk => ⟨(i8 k hk).2.1, (i8 k hk).2.2⟩) i4.2.1 i4.2.2.1 hacM (by omega) (by omega) hfrM (by omega) (by omega) r0.2.1 r1.2.1 H.size) (kw722 Z.1) (kw723 Z.1) (kw724 Z.1) (kw725 Z.1) (kw6 Z.1) ⟨by decide, by decide, (by decide +kernel : (parseMethodDescriptor y_M_run.desc).map (fun d => d.parameters.length) = some 2)⟩ ⟨(Nat.le_of_ble_eq_true rfl), (Nat.le_of_ble_eq_true rfl)⟩ [0, 1, 2, 3, 4, 5, 6, 7, 8, 9, 10, 11, 12, 13, 14, 15, 16] rfl rfl (ci := 1) (q0 := 0) rfl rfl rfl (Nat.le_of_ble_eq_true rfl) d_L_law_376 ⟨by show cl + 5 + 0 ≤ 601024; omega, by show sl + 30 + 0 ≤ 7293000; omega⟩) hP hD hS hA (fun rm um H locs hm hP hD hS => ?_)
  refine W.widen (k := cl + 5) (n := sl + 30) (by show cl + 5 + 0 ≤ cl + 5; omega) (by show sl + 30 + 0 ≤ sl + 30; omega) ?_
  have hP : va_P D ncl (((w_M am cA um.1 um.2.1 um.2.2.1 um.2.2.2)) ++ ((w_P a cA u9.1.2.1 Pp.2.1 Pp.2.2.1 Pp.2.2.2 bd) ++ (w_S sb cA u9.1.1.1 u9.1.1.2.1 u9.1.1.2.2.1 u9.1.1.2.2.2) ++ (w_Y yA cA u9.1.2.2.1 u9.1.2.2.2.1 u9.1.2.2.2.2.1 u9.1.2.2.2.2.2) ++ (w_B (bb 0) cA (Bi 0) (Bl 0) (Bj 0) (Bk 0)) ++ (w_B (bb 1) cA (Bi 1) (Bl 1) (Bj 1) (Bk 1)) ++ (w_B (bb 2) cA (Bi 2) (Bl 2) (Bj 2) (Bk 2)) ++ (w_B (bb 3) cA (Bi 3) (Bl 3) (Bj 3) (Bk 3)) ++ ([(oA, .inl (cA 1, 1, .inr (.inl u9.2)))]))) H := hP
  have hD : va_D (fun q => s.heap.size ≤ q) (((w_M am cA um.1 um.2.1 um.2.2.1 um.2.2.2)) ++ ((w_P a cA u9.1.2.1 Pp.2.1 Pp.2.2.1 Pp.2.2.2 bd) ++ (w_S sb cA u9.1.1.1 u9.1.1.2.1 u9.1.1.2.2.1 u9.1.1.2.2.2) ++ (w_Y yA cA u9.1.2.2.1 u9.1.2.2.2.1 u9.1.2.2.2.2.1 u9.1.2.2.2.2.2) ++ (w_B (bb 0) cA (Bi 0) (Bl 0) (Bj 0) (Bk 0)) ++ (w_B (bb 1) cA (Bi 1) (Bl 1) (Bj 1) (Bk 1)) ++ (w_B (bb 2) cA (Bi 2) (Bl 2) (Bj 2) (Bk 2)) ++ (w_B (bb 3) cA (Bi 3) (Bl 3) (Bj 3) (Bk 3)) ++ ([(oA, .inl (cA 1, 1, .inr (.inl u9.2)))]))) := hD
  obtain ⟨t1, t2, t3⟩ := tie_run (oF := oF) i1 i2 i3 i4 i5 i6 i7 i8 i9 i10 i11 hbox hq hm
  refine lv_istore (lv' := [(6, .int rm), (5, .int kx), (0, .ref b), (1, .ref (a 0)), (2, .ref (am 0)), (3, .ref oA), (4, .int (nI i))]) hx hb d_L_law_379 hl (by decide) rfl (fun ls hl => ?_)
  refine lv_aload_n hx hb d_L_law_381 rfl (lv_at hl 4 rfl) ?_
  refine p_calli (w_runV (rest := []) hx hb hml hown hl.1 hg hlo hK (vP_l hP) (vD_l hD) hS (m_M_thrown Z am um.1 um.2.1 um.2.2.1 um.2.2.2 H.size) (kw683 Z.1) (kw684 Z.1) (kw685 Z.1) (kw686 Z.1) (kw6 Z.1) ⟨by decide, by decide, (by decide +kernel : (parseMethodDescriptor y_M_thrown.desc).map (fun d => d.parameters.length) = some 0)⟩ ⟨(Nat.le_of_ble_eq_true rfl), (Nat.le_of_ble_eq_true rfl)⟩ [0, 1, 2, 3, 4, 5, 6, 7, 8, 9, 10, 11, 12, 13, 14, 15, 16] rfl rfl (ci := 1) (q0 := 0) rfl rfl rfl (Nat.le_of_ble_eq_true rfl) d_L_law_382 ⟨by show cl + 5 + 0 ≤ 601024; omega, by show sl + 30 + 0 ≤ 7293000; omega⟩) hP hD hS hA (fun rt ut H locs hrt hP hD hS => ?_)
  refine W.widen (k := cl + 5) (n := sl + 30) (by show cl + 5 + 0 ≤ cl + 5; omega) (by show sl + 30 + 0 ≤ sl + 30; omega) ?_
  have hP : va_P D ncl (((w_M am cA um.1 um.2.1 um.2.2.1 um.2.2.2)) ++ ((w_P a cA u9.1.2.1 Pp.2.1 Pp.2.2.1 Pp.2.2.2 bd) ++ (w_S sb cA u9.1.1.1 u9.1.1.2.1 u9.1.1.2.2.1 u9.1.1.2.2.2) ++ (w_Y yA cA u9.1.2.2.1 u9.1.2.2.2.1 u9.1.2.2.2.2.1 u9.1.2.2.2.2.2) ++ (w_B (bb 0) cA (Bi 0) (Bl 0) (Bj 0) (Bk 0)) ++ (w_B (bb 1) cA (Bi 1) (Bl 1) (Bj 1) (Bk 1)) ++ (w_B (bb 2) cA (Bi 2) (Bl 2) (Bj 2) (Bk 2)) ++ (w_B (bb 3) cA (Bi 3) (Bl 3) (Bj 3) (Bk 3)) ++ ([(oA, .inl (cA 1, 1, .inr (.inl u9.2)))]))) H := hP
  have hD : va_D (fun q => s.heap.size ≤ q) (((w_M am cA um.1 um.2.1 um.2.2.1 um.2.2.2)) ++ ((w_P a cA u9.1.2.1 Pp.2.1 Pp.2.2.1 Pp.2.2.2 bd) ++ (w_S sb cA u9.1.1.1 u9.1.1.2.1 u9.1.1.2.2.1 u9.1.1.2.2.2) ++ (w_Y yA cA u9.1.2.2.1 u9.1.2.2.2.1 u9.1.2.2.2.2.1 u9.1.2.2.2.2.2) ++ (w_B (bb 0) cA (Bi 0) (Bl 0) (Bj 0) (Bk 0)) ++ (w_B (bb 1) cA (Bi 1) (Bl 1) (Bj 1) (Bk 1)) ++ (w_B (bb 2) cA (Bi 2) (Bl 2) (Bj 2) (Bk 2)) ++ (w_B (bb 3) cA (Bi 3) (Bl 3) (Bj 3) (Bk 3)) ++ ([(oA, .inl (cA 1, 1, .inr (.inl u9.2)))]))) := hD
  subst hrt
  refine lv_iload hx hb d_L_law_385 (lv_at hl 1 rfl) ?_
  refine lv_icmp_eq (tgt := 392) hx hb d_L_law_387 (by decide) (fun _ => ?_) (fun k15 => by first | exact absurd (show um.1 0 = kx from t1) k15 | exact absurd k15 (show um.1 0 = kx from t1))
  refine lv_iload hx hb d_L_law_392 (lv_at hl 1 rfl) ?_
  have hpm : List.Perm (((w_M am cA um.1 um.2.1 um.2.2.1 um.2.2.2)) ++ ((w_P a cA u9.1.2.1 Pp.2.1 Pp.2.2.1 Pp.2.2.2 bd) ++ (w_S sb cA u9.1.1.1 u9.1.1.2.1 u9.1.1.2.2.1 u9.1.1.2.2.2) ++ (w_Y yA cA u9.1.2.2.1 u9.1.2.2.2.1 u9.1.2.2.2.2.1 u9.1.2.2.2.2.2) ++ (w_B (bb 0) cA (Bi 0) (Bl 0) (Bj 0) (Bk 0)) ++ (w_B (bb 1) cA (Bi 1) (Bl 1) (Bj 1) (Bk 1)) ++ (w_B (bb 2) cA (Bi 2) (Bl 2) (Bj 2) (Bk 2)) ++ (w_B (bb 3) cA (Bi 3) (Bl 3) (Bj 3) (Bk 3)) ++ ([(oA, .inl (cA 1, 1, .inr (.inl u9.2)))]))) (([(oA, .inl (cA 1, 1, .inr (.inl u9.2)))]) ++ (w_P a cA u9.1.2.1 Pp.2.1 Pp.2.2.1 Pp.2.2.2 bd) ++ (w_S sb cA u9.1.1.1 u9.1.1.2.1 u9.1.1.2.2.1 u9.1.1.2.2.2) ++ (w_Y yA cA u9.1.2.2.1 u9.1.2.2.2.1 u9.1.2.2.2.2.1 u9.1.2.2.2.2.2) ++ (w_M am cA um.1 um.2.1 um.2.2.1 um.2.2.2) ++ (w_B (bb 0) cA (Bi 0) (Bl 0) (Bj 0) (Bk 0)) ++ (w_B (bb 1) cA (Bi 1) (Bl 1) (Bj 1) (Bk 1)) ++ (w_B (bb 2) cA (Bi 2) (Bl 2) (Bj 2) (Bk 2)) ++ (w_B (bb 3) cA (Bi 3) (Bl 3) (Bj 3) (Bk 3))) := by simp only [List.append_assoc]; exact (((List.Perm.append_left _ ((List.Perm.append_left _ ((List.Perm.append_left _ ((List.Perm.append_left _ ((List.Perm.append_left _ ((List.Perm.append_left _ ((List.Perm.append_left _ List.perm_append_comm).trans (List.perm_append_comm_assoc _ _ _))).trans (List.perm_append_comm_assoc _ _ _))).trans (List.perm_append_comm_assoc _ _ _))).trans (List.perm_append_comm_assoc _ _ _))).trans (List.perm_append_comm_assoc _ _ _))).trans (List.perm_append_comm_assoc _ _ _))).trans (List.perm_append_comm_assoc _ _ _)).trans (List.Perm.append_left _ ((List.perm_append_comm_assoc _ _ _).trans (List.Perm.append_left _ ((List.perm_append_comm_assoc _ _ _).trans (List.Perm.append_left _ (List.perm_append_comm_assoc _ _ _)))))))
  have hP := vP_perm hpm hP
  have hD := vD_perm hpm hD
  clear hpm
  refine lv_if_ne (tgt := 409) hx hb d_L_law_394 (by decide) (fun d16 => ?_) (fun d16 => ?_)
  · refine lv_goto (tgt := 1460) hx hb d_L_law_409 (by decide) ?_
    exact kk (u9.1.2.1, Pp.2.1, Pp.2.2.1, Pp.2.2.2) u9.1.1 u9.1.2.2 um Bi Bl Bj Bk u9.2 _ _ hP hD hS t3 ls (lv_sub hl [2, 3, 4, 5, 6] rfl)
  · have t4 := t2 (show kx = 0 from d16)
    refine lv_aload_n hx hb d_L_law_397 rfl (lv_at hl 5 rfl) ?_
    refine lv_iconst (v := 0) hx hb d_L_law_398 (by decide) ?_
    refine va_lald hx hb hK hP 0 1 rfl rfl (by unfold vp_in; decide) d_L_law_399 ?_
    refine lv_topl (fun z17 ez17 => ?_)
    obtain rfl : z17 = (u9.2 0) := by rw [ez17]; rfl
    refine lv_iload hx hb d_L_law_400 (lv_at hl 0 rfl) ?_
    refine lv_i2l hx hb d_L_law_402 rfl ?_
    refine W.lcmp hx hb d_L_law_403 ?_
    refine lv_if_eq (tgt := 409) hx hb d_L_law_404 (by decide) (fun _ => ?_) (fun k18 => by first | exact absurd ((lg_cmp_eq _ _).mpr t4) k18 | exact absurd k18 ((lg_cmp_eq _ _).mpr t4))
    refine lv_goto (tgt := 1460) hx hb d_L_law_409 (by decide) ?_
    exact kk (u9.1.2.1, Pp.2.1, Pp.2.2.1, Pp.2.2.2) u9.1.1 u9.1.2.2 um Bi Bl Bj Bk u9.2 _ _ hP hD hS t3 ls (lv_sub hl [2, 3, 4, 5, 6] rfl)
