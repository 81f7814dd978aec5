set_option maxHeartbeats 4000000 in
set_option maxRecDepth 100000 in
theorem lc_at {p : Program} {l : Launch} {e : Env} {s : State} {m : MethodId} {below : List Frame} {meth : Method} {c : Code} {Q : State → Prop} {D : va_G} {cA sa : Nat → Nat} (Z : zE l s D cA sa) (N9 : zN s) (hx : p.tables.exec = Jvm.exec) (hb : c.code = code) (hml : c.maxLocals = 8) (hown : s.vm.findClass R_L = some m.cls) (hg : gl s s) (hK : va_K D ncl (ty0 cA) s) {b L : Nat} {xs : Nat → Int32} (hX : va_X b L xs s s.heap) (hbl : b < s.heap.size) (hL : L ≤ 4098) {a sb yA bd am : Nat → Nat} {oA : Nat} {bb : Nat → Nat → Nat} (hsa : sb 0 = a 5) (hya : yA 0 = a 6) (hbd : ∀ k, k < 4 → bd k = bb k 0) {i cl sl : Nat} (hi : i + 8 ≤ L) (hcl : cl + 5 ≤ 601024) (hsl : sl + 30 ≤ 7293000) {Pp Sp Yp Mp : St} {Bi : Nat → Nat → Int32} {Bl : Nat → Nat → Int64} {Bj : Nat → Nat → Nat → Int32} {Bk : Nat → Nat → Nat → Int64} {oF : Nat → Int64} (hI : INV Pp Sp Yp Mp Bi Bl Bk) (kk : ∀ (P1 S1 Y1 M1 : St) (Bi1 : Nat → Nat → Int32) (Bl1 : Nat → Nat → Int64) (Bj1 : Nat → Nat → Nat → Int32) (Bk1 : Nat → Nat → Nat → Int64) (oF1 : Nat → Int64) (H : Heap) (locs : List Loc), va_P D ncl (([(oA, .inl (cA 1, 1, .inr (.inl oF1)))]) ++ (w_P a cA P1.1 P1.2.1 P1.2.2.1 P1.2.2.2 bd) ++ (w_S sb cA S1.1 S1.2.1 S1.2.2.1 S1.2.2.2) ++ (w_Y yA cA Y1.1 Y1.2.1 Y1.2.2.1 Y1.2.2.2) ++ (w_M am cA M1.1 M1.2.1 M1.2.2.1 M1.2.2.2) ++ (w_B (bb 0) cA (Bi1 0) (Bl1 0) (Bj1 0) (Bk1 0)) ++ (w_B (bb 1) cA (Bi1 1) (Bl1 1) (Bj1 1) (Bk1 1)) ++ (w_B (bb 2) cA (Bi1 2) (Bl1 2) (Bj1 2) (Bk1 2)) ++ (w_B (bb 3) cA (Bi1 3) (Bl1 3) (Bj1 3) (Bk1 3))) H → va_D (fun q => s.heap.size ≤ q) (([(oA, .inl (cA 1, 1, .inr (.inl oF1)))]) ++ (w_P a cA P1.1 P1.2.1 P1.2.2.1 P1.2.2.2 bd) ++ (w_S sb cA S1.1 S1.2.1 S1.2.2.1 S1.2.2.2) ++ (w_Y yA cA Y1.1 Y1.2.1 Y1.2.2.1 Y1.2.2.2) ++ (w_M am cA M1.1 M1.2.1 M1.2.2.1 M1.2.2.2) ++ (w_B (bb 0) cA (Bi1 0) (Bl1 0) (Bj1 0) (Bk1 0)) ++ (w_B (bb 1) cA (Bi1 1) (Bl1 1) (Bj1 1) (Bk1 1)) ++ (w_B (bb 2) cA (Bi1 2) (Bl1 2) (Bj1 2) (Bk1 2)) ++ (w_B (bb 3) cA (Bi1 3) (Bl1 3) (Bj1 3) (Bk1 3))) → va_S (fun q => s.heap.size ≤ q) s.heap H locs → INV P1 S1 Y1 M1 Bi1 Bl1 Bk1 → ∀ ls : Array Slot, lv_has ls 8 [(0, .ref b), (1, .ref (a 0)), (2, .ref (am 0)), (3, .ref oA), (4, .int (nI i))] → W p l e room_1 s m #[Value.ref b] below meth c H locs (cl + 5) (sl + 30) Q (F0 m 1460 ls [])) {H : Heap} {locs : List Loc} (hP : va_P D ncl (([(oA, .inl (cA 1, 1, .inr (.inl oF)))]) ++ (w_P a cA Pp.1 Pp.2.1 Pp.2.2.1 Pp.2.2.2 bd) ++ (w_S sb cA Sp.1 Sp.2.1 Sp.2.2.1 Sp.2.2.2) ++ (w_Y yA cA Yp.1 Yp.2.1 Yp.2.2.1 Yp.2.2.2) ++ (w_M am cA Mp.1 Mp.2.1 Mp.2.2.1 Mp.2.2.2) ++ (w_B (bb 0) cA (Bi 0) (Bl 0) (Bj 0) (Bk 0)) ++ (w_B (bb 1) cA (Bi 1) (Bl 1) (Bj 1) (Bk 1)) ++ (w_B (bb 2) cA (Bi 2) (Bl 2) (Bj 2) (Bk 2)) ++ (w_B (bb 3) cA (Bi 3) (Bl 3) (Bj 3) (Bk 3))) H) (hD : va_D (fun q => s.heap.size ≤ q) (([(oA, .inl (cA 1, 1, .inr (.inl oF)))]) ++ (w_P a cA Pp.1 Pp.2.1 Pp.2.2.1 Pp.2.2.2 bd) ++ (w_S sb cA Sp.1 Sp.2.1 Sp.2.2.1 Sp.2.2.2) ++ (w_Y yA cA Yp.1 Yp.2.1 Yp.2.2.1 Yp.2.2.2) ++ (w_M am cA Mp.1 Mp.2.1 Mp.2.2.1 Mp.2.2.2) ++ (w_B (bb 0) cA (Bi 0) (Bl 0) (Bj 0) (Bk 0)) ++ (w_B (bb 1) cA (Bi 1) (Bl 1) (Bj 1) (Bk 1)) ++ (w_B (bb 2) cA (Bi 2) (Bl 2) (Bj 2) (Bk 2)) ++ (w_B (bb 3) cA (Bi 3) (Bl 3) (Bj 3) (Bk 3)))) (hS : va_S (fun q => s.heap.size ≤ q) s.heap H locs) {ls : Array Slot} (hl : lv_has ls 8 [(0, .ref b), (1, .ref (a 0)), (2, .ref (am 0)), (3, .ref oA), (4, .int (nI i))]) : W p l e room_1 s m #[Value.ref b] below meth c H locs cl sl Q (F0 m 412 ls []) := by
  have hA : ∀ q, s.heap.size ≤ q → (fun q => s.heap.size ≤ q) q := fun _ h => h
  have hlo : ∀ q, (fun q => s.heap.size ≤ q) q → s.heap.size ≤ q := fun _ h => h
  have hbA : ¬ (fun q : Nat => s.heap.size ≤ q) b := Nat.not_le.mpr hbl
  obtain ⟨w, h, nb, g, l0, y0, g0, r, nc, np, wt, X, Y, rw, bf, i1, i2, i3, i4, i5, i6, i7, i8, i9, i10, i11⟩ := id hI
  have hnb4 := i2.2.2
  refine lv_aload_n hx hb d_L_law_412 rfl (lv_at hl 1 rfl) ?_
  refine lv_aload_n hx hb d_L_law_413 rfl (lv_at hl 0 rfl) ?_
  refine lv_iload hx hb d_L_law_414 (lv_at hl 4 rfl) ?_
  refine lv_iconst (v := 1) hx hb d_L_law_416 (by decide) ?_
  refine lv_iadd hx hb d_L_law_417 ?_
  refine lv_topi (fun z1 ez1 => ?_)
  obtain rfl : z1 = (nI (i + 1)) := by rw [ez1]; exact nI_add i 1
  refine va_sld hx hb hX hbl hbA hS (vp_in_nI (n := i + 1) (N := L) (by omega) (by omega)) d_L_law_418 ?_
  refine lv_topi (fun z2 ez2 => ?_)
  rw [nI_clamp (n := i + 1) (by omega)] at ez2
  obtain rfl : z2 = xs (i + 1) := ez2
  refine lv_aload_n hx hb d_L_law_419 rfl (lv_at hl 0 rfl) ?_
  refine lv_iload hx hb d_L_law_420 (lv_at hl 4 rfl) ?_
  refine lv_iconst (v := 2) hx hb d_L_law_422 (by decide) ?_
  refine lv_iadd hx hb d_L_law_423 ?_
  refine lv_topi (fun z3 ez3 => ?_)
  obtain rfl : z3 = (nI (i + 2)) := by rw [ez3]; exact nI_add i 2
  refine va_sld hx hb hX hbl hbA hS (vp_in_nI (n := i + 2) (N := L) (by omega) (by omega)) d_L_law_424 ?_
  refine lv_topi (fun z4 ez4 => ?_)
  rw [nI_clamp (n := i + 2) (by omega)] at ez4
  obtain rfl : z4 = xs (i + 2) := ez4
  refine lv_aload_n hx hb d_L_law_425 rfl (lv_at hl 3 rfl) ?_
  have hpm : List.Perm (([(oA, .inl (cA 1, 1, .inr (.inl oF)))]) ++ (w_P a cA Pp.1 Pp.2.1 Pp.2.2.1 Pp.2.2.2 bd) ++ (w_S sb cA Sp.1 Sp.2.1 Sp.2.2.1 Sp.2.2.2) ++ (w_Y yA cA Yp.1 Yp.2.1 Yp.2.2.1 Yp.2.2.2) ++ (w_M am cA Mp.1 Mp.2.1 Mp.2.2.1 Mp.2.2.2) ++ (w_B (bb 0) cA (Bi 0) (Bl 0) (Bj 0) (Bk 0)) ++ (w_B (bb 1) cA (Bi 1) (Bl 1) (Bj 1) (Bk 1)) ++ (w_B (bb 2) cA (Bi 2) (Bl 2) (Bj 2) (Bk 2)) ++ (w_B (bb 3) cA (Bi 3) (Bl 3) (Bj 3) (Bk 3))) (((w_P a cA Pp.1 Pp.2.1 Pp.2.2.1 Pp.2.2.2 bd) ++ (w_Y yA cA Yp.1 Yp.2.1 Yp.2.2.1 Yp.2.2.2) ++ ([(oA, .inl (cA 1, 1, .inr (.inl oF)))])) ++ ((w_S sb cA Sp.1 Sp.2.1 Sp.2.2.1 Sp.2.2.2) ++ (w_M am cA Mp.1 Mp.2.1 Mp.2.2.1 Mp.2.2.2) ++ (w_B (bb 0) cA (Bi 0) (Bl 0) (Bj 0) (Bk 0)) ++ (w_B (bb 1) cA (Bi 1) (Bl 1) (Bj 1) (Bk 1)) ++ (w_B (bb 2) cA (Bi 2) (Bl 2) (Bj 2) (Bk 2)) ++ (w_B (bb 3) cA (Bi 3) (Bl 3) (Bj 3) (Bk 3)))) := by simp only [List.append_assoc]; exact ((List.perm_append_comm_assoc _ _ _).trans (List.Perm.append_left _ ((List.Perm.append_left _ (List.perm_append_comm_assoc _ _ _)).trans (List.perm_append_comm_assoc _ _ _))))
  have hP := vP_perm hpm hP
  have hD := vD_perm hpm hD
  clear hpm
  refine pt_calli (wt_runSW (rest := []) hx hb hml hown hl.1 hg hlo (vP_l hP) (vD_l hD) hS (m_L_at Z N9 a Pp.1 Pp.2.1 Pp.2.2.1 Pp.2.2.2 bd yA Yp.1 Yp.2.1 Yp.2.2.1 Yp.2.2.2 hya l0 y0 g0 rw bf i9.1 i9.2.1 (xs (i + 1)) (xs (i + 2)) oA oF H.size) (kw451 Z.1) (kw452 Z.1) (kw453 Z.1) (kw0 Z.1) ⟨by decide, by decide, (by decide +kernel : (parseMethodDescriptor y_L_at.desc).map (fun d => d.parameters.length) = some 4)⟩ ⟨(Nat.le_of_ble_eq_true rfl), (Nat.le_of_ble_eq_true rfl)⟩ [0, 1, 2, 3, 4, 5, 6, 7, 8, 9, 10, 11, 12, 13, 14, 15] rfl rfl rfl (Nat.le_of_ble_eq_true rfl) d_L_law_426 ⟨by show cl + 2 ≤ 601024; omega, by show sl + 12 ≤ 7293000; omega⟩) hP hD hS hA (fun kx u9 H locs hq hP hD hS => ?_)
  refine W.widen (k := cl + 5) (n := sl + 30) (by show cl + 2 ≤ cl + 5; omega) (by show sl + 12 ≤ sl + 30; omega) ?_
  have hP : va_P D ncl (((w_P a cA Pp.1 Pp.2.1 Pp.2.2.1 Pp.2.2.2 bd) ++ (w_Y yA cA Yp.1 Yp.2.1 Yp.2.2.1 Yp.2.2.2) ++ ([(oA, .inl (cA 1, 1, .inr (.inl u9.2)))])) ++ ((w_S sb cA Sp.1 Sp.2.1 Sp.2.2.1 Sp.2.2.2) ++ (w_M am cA Mp.1 Mp.2.1 Mp.2.2.1 Mp.2.2.2) ++ (w_B (bb 0) cA (Bi 0) (Bl 0) (Bj 0) (Bk 0)) ++ (w_B (bb 1) cA (Bi 1) (Bl 1) (Bj 1) (Bk 1)) ++ (w_B (bb 2) cA (Bi 2) (Bl 2) (Bj 2) (Bk 2)) ++ (w_B (bb 3) cA (Bi 3) (Bl 3) (Bj 3) (Bk 3)))) H := hP
  have hD : va_D (fun q => s.heap.size ≤ q) (((w_P a cA Pp.1 Pp.2.1 Pp.2.2.1 Pp.2.2.2 bd) ++ (w_Y yA cA Yp.1 Yp.2.1 Yp.2.2.1 Yp.2.2.2) ++ ([(oA, .inl (cA 1, 1, .inr (.inl u9.2)))])) ++ ((w_S sb cA Sp.1 Sp.2.1 Sp.2.2.1 Sp.2.2.2) ++ (w_M am cA Mp.1 Mp.2.1 Mp.2.2.1 Mp.2.2.2) ++ (w_B (bb 0) cA (Bi 0) (Bl 0) (Bj 0) (Bk 0)) ++ (w_B (bb 1) cA (Bi 1) (Bl 1) (Bj 1) (Bk 1)) ++ (w_B (bb 2) cA (Bi 2) (Bl 2) (Bj 2) (Bk 2)) ++ (w_B (bb 3) cA (Bi 3) (Bl 3) (Bj 3) (Bk 3)))) := hD
  refine lv_istore (lv' := [(5, .int kx), (0, .ref b), (1, .ref (a 0)), (2, .ref (am 0)), (3, .ref oA), (4, .int (nI i))]) hx hb d_L_law_429 hl (by decide) rfl (fun ls hl => ?_)
  refine lv_aload_n hx hb d_L_law_431 rfl (lv_at hl 3 rfl) ?_
  refine lv_aload_n hx hb d_L_law_432 rfl (lv_at hl 1 rfl) ?_
  refine lv_iload hx hb d_L_law_433 (lv_at hl 5 rfl) ?_
  refine lv_iconst (v := 1) hx hb d_L_law_435 (by decide) ?_
  refine lv_iadd hx hb d_L_law_436 ?_
  refine lv_topi (fun z5 ez5 => ?_)
  obtain rfl : z5 = (nI (i + 1)) := by rw [ez5]; exact nI_add i 1
  refine va_sld hx hb hX hbl hbA hS (vp_in_nI (n := i + 1) (N := L) (by omega) (by omega)) d_L_law_437 ?_
  refine lv_topi (fun z6 ez6 => ?_)
  rw [nI_clamp (n := i + 1) (by omega)] at ez6
  obtain rfl : z6 = xs (i + 1) := ez6
  refine lv_aload_n hx hb d_L_law_438 rfl (lv_at hl 1 rfl) ?_
  refine lv_iload hx hb d_L_law_439 (lv_at hl 5 rfl) ?_
  refine lv_iconst (v := 2) hx hb d_L_law_441 (by decide) ?_
  refine lv_iadd hx hb d_L_law_442 ?_
  refine lv_topi (fun z7 ez7 => ?_)
  obtain rfl : z7 = (nI (i + 2)) := by rw [ez7]; exact nI_add i 2
  refine va_sld hx hb hX hbl hbA hS (vp_in_nI (n := i + 2) (N := L) (by omega) (by omega)) d_L_law_443 ?_
  refine lv_topi (fun z8 ez8 => ?_)
  rw [nI_clamp (n := i + 2) (by omega)] at ez8
  obtain rfl : z8 = xs (i + 2) := ez8
  have hpm : List.Perm (((w_P a cA Pp.1 Pp.2.1 Pp.2.2.1 Pp.2.2.2 bd) ++ (w_Y yA cA Yp.1 Yp.2.1 Yp.2.2.1 Yp.2.2.2) ++ ([(oA, .inl (cA 1, 1, .inr (.inl u9.2)))])) ++ ((w_S sb cA Sp.1 Sp.2.1 Sp.2.2.1 Sp.2.2.2) ++ (w_M am cA Mp.1 Mp.2.1 Mp.2.2.1 Mp.2.2.2) ++ (w_B (bb 0) cA (Bi 0) (Bl 0) (Bj 0) (Bk 0)) ++ (w_B (bb 1) cA (Bi 1) (Bl 1) (Bj 1) (Bk 1)) ++ (w_B (bb 2) cA (Bi 2) (Bl 2) (Bj 2) (Bk 2)) ++ (w_B (bb 3) cA (Bi 3) (Bl 3) (Bj 3) (Bk 3)))) (((w_M am cA Mp.1 Mp.2.1 Mp.2.2.1 Mp.2.2.2)) ++ ((w_P a cA Pp.1 Pp.2.1 Pp.2.2.1 Pp.2.2.2 bd) ++ (w_Y yA cA Yp.1 Yp.2.1 Yp.2.2.1 Yp.2.2.2) ++ ([(oA, .inl (cA 1, 1, .inr (.inl u9.2)))]) ++ (w_S sb cA Sp.1 Sp.2.1 Sp.2.2.1 Sp.2.2.2) ++ (w_B (bb 0) cA (Bi 0) (Bl 0) (Bj 0) (Bk 0)) ++ (w_B (bb 1) cA (Bi 1) (Bl 1) (Bj 1) (Bk 1)) ++ (w_B (bb 2) cA (Bi 2) (Bl 2) (Bj 2) (Bk 2)) ++ (w_B (bb 3) cA (Bi 3) (Bl 3) (Bj 3) (Bk 3)))) := by simp only [List.append_assoc]; exact ((List.Perm.append_left _ ((List.Perm.append_left _ ((List.Perm.append_left _ (List.perm_append_comm_assoc _ _ _)).trans (List.perm_append_comm_assoc _ _ _))).trans (List.perm_append_comm_assoc _ _ _))).trans (List.perm_append_comm_assoc _ _ _))
  have hP := vP_perm hpm hP
  have hD := vD_perm hpm hD
  clear hpm
  refine p_calll (w_runV (rest := []) hx hb hml hown hl.1 hg hlo hK (vP_l hP) (vD_l hD) hS (m_M_at Z am Mp.1 Mp.2.1 Mp.2.2.1 Mp.2.2.2 (xs (i + 1)) (xs (i + 2)) (ly_n rw) (iL_13 i9) (n200 i9.2.1) H.size) (kw784 Z.1) (kw785 Z.1) (kw786 Z.1) (kw787 Z.1) (kw6 Z.1) ⟨by decide, by decide, (by decide +kernel : (parseMethodDescriptor y_M_at.desc).map (fun d => d.parameters.length) = some 2)⟩ ⟨(Nat.le_of_ble_eq_true rfl), (Nat.le_of_ble_eq_true rfl)⟩ [0, 1, 2, 3, 4, 5, 6, 7, 8, 9, 10, 11, 12, 13, 14, 15, 16] rfl rfl (ci := 1) (q0 := 0) rfl rfl rfl (Nat.le_of_ble_eq_true rfl) d_L_law_444 ⟨by show cl + 5 + 0 ≤ 601024; omega, by show sl + 30 + 0 ≤ 7293000; omega⟩) hP hD hS hA (fun rm um H locs hm hP hD hS => ?_)
  refine W.widen (k := cl + 5) (n := sl + 30) (by show cl + 5 + 0 ≤ cl + 5; omega) (by show sl + 30 + 0 ≤ sl + 30; omega) ?_
  have hP : va_P D ncl (((w_M am cA um.1 um.2.1 um.2.2.1 um.2.2.2)) ++ ((w_P a cA Pp.1 Pp.2.1 Pp.2.2.1 Pp.2.2.2 bd) ++ (w_Y yA cA Yp.1 Yp.2.1 Yp.2.2.1 Yp.2.2.2) ++ ([(oA, .inl (cA 1, 1, .inr (.inl u9.2)))]) ++ (w_S sb cA Sp.1 Sp.2.1 Sp.2.2.1 Sp.2.2.2) ++ (w_B (bb 0) cA (Bi 0) (Bl 0) (Bj 0) (Bk 0)) ++ (w_B (bb 1) cA (Bi 1) (Bl 1) (Bj 1) (Bk 1)) ++ (w_B (bb 2) cA (Bi 2) (Bl 2) (Bj 2) (Bk 2)) ++ (w_B (bb 3) cA (Bi 3) (Bl 3) (Bj 3) (Bk 3)))) H := hP
  have hD : va_D (fun q => s.heap.size ≤ q) (((w_M am cA um.1 um.2.1 um.2.2.1 um.2.2.2)) ++ ((w_P a cA Pp.1 Pp.2.1 Pp.2.2.1 Pp.2.2.2 bd) ++ (w_Y yA cA Yp.1 Yp.2.1 Yp.2.2.1 Yp.2.2.2) ++ ([(oA, .inl (cA 1, 1, .inr (.inl u9.2)))]) ++ (w_S sb cA Sp.1 Sp.2.1 Sp.2.2.1 Sp.2.2.2) ++ (w_B (bb 0) cA (Bi 0) (Bl 0) (Bj 0) (Bk 0)) ++ (w_B (bb 1) cA (Bi 1) (Bl 1) (Bj 1) (Bk 1)) ++ (w_B (bb 2) cA (Bi 2) (Bl 2) (Bj 2) (Bk 2)) ++ (w_B (bb 3) cA (Bi 3) (Bl 3) (Bj 3) (Bk 3)))) := hD
  obtain ⟨t1, t2, t3⟩ := tie_at (oF := oF) hI i9.2.2.2.1 (n160 i9.2.1) hq hm
  refine lv_lstore (lv' := [(6, .long rm), (5, .int kx), (0, .ref b), (1, .ref (a 0)), (2, .ref (am 0)), (3, .ref oA), (4, .int (nI i))]) hx hb d_L_law_447 hl (by decide) rfl (fun ls hl => ?_)
  refine lv_aload_n hx hb d_L_law_449 rfl (lv_at hl 4 rfl) ?_
  refine p_calli (w_runV (rest := []) hx hb hml hown hl.1 hg hlo hK (vP_l hP) (vD_l hD) hS (m_M_thrown Z am um.1 um.2.1 um.2.2.1 um.2.2.2 H.size) (kw683 Z.1) (kw684 Z.1) (kw685 Z.1) (kw686 Z.1) (kw6 Z.1) ⟨by decide, by decide, (by decide +kernel : (parseMethodDescriptor y_M_thrown.desc).map (fun d => d.parameters.length) = some 0)⟩ ⟨(Nat.le_of_ble_eq_true rfl), (Nat.le_of_ble_eq_true rfl)⟩ [0, 1, 2, 3, 4, 5, 6, 7, 8, 9, 10, 11, 12, 13, 14, 15, 16] rfl rfl (ci := 1) (q0 := 0) rfl rfl rfl (Nat.le_of_ble_eq_true rfl) d_L_law_450 ⟨by show cl + 5 + 0 ≤ 601024; omega, by show sl + 30 + 0 ≤ 7293000; omega⟩) hP hD hS hA (fun rt ut H locs hrt hP hD hS => ?_)
  refine W.widen (k := cl + 5) (n := sl + 30) (by show cl + 5 + 0 ≤ cl + 5; omega) (by show sl + 30 + 0 ≤ sl + 30; omega) ?_
  have hP : va_P D ncl (((w_M am cA um.1 um.2.1 um.2.2.1 um.2.2.2)) ++ ((w_P a cA Pp.1 Pp.2.1 Pp.2.2.1 Pp.2.2.2 bd) ++ (w_Y yA cA Yp.1 Yp.2.1 Yp.2.2.1 Yp.2.2.2) ++ ([(oA, .inl (cA 1, 1, .inr (.inl u9.2)))]) ++ (w_S sb cA Sp.1 Sp.2.1 Sp.2.2.1 Sp.2.2.2) ++ (w_B (bb 0) cA (Bi 0) (Bl 0) (Bj 0) (Bk 0)) ++ (w_B (bb 1) cA (Bi 1) (Bl 1) (Bj 1) (Bk 1)) ++ (w_B (bb 2) cA (Bi 2) (Bl 2) (Bj 2) (Bk 2)) ++ (w_B (bb 3) cA (Bi 3) (Bl 3) (Bj 3) (Bk 3)))) H := hP
  have hD : va_D (fun q => s.heap.size ≤ q) (((w_M am cA um.1 um.2.1 um.2.2.1 um.2.2.2)) ++ ((w_P a cA Pp.1 Pp.2.1 Pp.2.2.1 Pp.2.2.2 bd) ++ (w_Y yA cA Yp.1 Yp.2.1 Yp.2.2.1 Yp.2.2.2) ++ ([(oA, .inl (cA 1, 1, .inr (.inl u9.2)))]) ++ (w_S sb cA Sp.1 Sp.2.1 Sp.2.2.1 Sp.2.2.2) ++ (w_B (bb 0) cA (Bi 0) (Bl 0) (Bj 0) (Bk 0)) ++ (w_B (bb 1) cA (Bi 1) (Bl 1) (Bj 1) (Bk 1)) ++ (w_B (bb 2) cA (Bi 2) (Bl 2) (Bj 2) (Bk 2)) ++ (w_B (bb 3) cA (Bi 3) (Bl 3) (Bj 3) (Bk 3)))) := hD
  subst hrt
  refine lv_iload hx hb d_L_law_453 (lv_at hl 1 rfl) ?_
  refine lv_icmp_eq (tgt := 460) hx hb d_L_law_455 (by decide) (fun _ => ?_) (fun k9 => by first | exact absurd (show um.1 0 = kx from t1) k9 | exact absurd k9 (show um.1 0 = kx from t1))
  refine lv_iload hx hb d_L_law_460 (lv_at hl 1 rfl) ?_
  have hpm : List.Perm (((w_M am cA um.1 um.2.1 um.2.2.1 um.2.2.2)) ++ ((w_P a cA Pp.1 Pp.2.1 Pp.2.2.1 Pp.2.2.2 bd) ++ (w_Y yA cA Yp.1 Yp.2.1 Yp.2.2.1 Yp.2.2.2) ++ ([(oA, .inl (cA 1, 1, .inr (.inl u9.2)))]) ++ (w_S sb cA Sp.1 Sp.2.1 Sp.2.2.1 Sp.2.2.2) ++ (w_B (bb 0) cA (Bi 0) (Bl 0) (Bj 0) (Bk 0)) ++ (w_B (bb 1) cA (Bi 1) (Bl 1) (Bj 1) (Bk 1)) ++ (w_B (bb 2) cA (Bi 2) (Bl 2) (Bj 2) (Bk 2)) ++ (w_B (bb 3) cA (Bi 3) (Bl 3) (Bj 3) (Bk 3)))) (([(oA, .inl (cA 1, 1, .inr (.inl u9.2)))]) ++ (w_P a cA Pp.1 Pp.2.1 Pp.2.2.1 Pp.2.2.2 bd) ++ (w_S sb cA Sp.1 Sp.2.1 Sp.2.2.1 Sp.2.2.2) ++ (w_Y yA cA Yp.1 Yp.2.1 Yp.2.2.1 Yp.2.2.2) ++ (w_M am cA um.1 um.2.1 um.2.2.1 um.2.2.2) ++ (w_B (bb 0) cA (Bi 0) (Bl 0) (Bj 0) (Bk 0)) ++ (w_B (bb 1) cA (Bi 1) (Bl 1) (Bj 1) (Bk 1)) ++ (w_B (bb 2) cA (Bi 2) (Bl 2) (Bj 2) (Bk 2)) ++ (w_B (bb 3) cA (Bi 3) (Bl 3) (Bj 3) (Bk 3))) := by simp only [List.append_assoc]; exact (((List.Perm.append_left _ ((List.Perm.append_left _ (List.perm_append_comm_assoc _ _ _)).trans (List.perm_append_comm_assoc _ _ _))).trans (List.perm_append_comm_assoc _ _ _)).trans (List.Perm.append_left _ ((List.perm_append_comm_assoc _ _ _).trans (List.Perm.append_left _ (((List.Perm.append_left _ (List.perm_append_comm_assoc _ _ _)).trans (List.perm_append_comm_assoc _ _ _)).trans (List.Perm.append_left _ (List.perm_append_comm_assoc _ _ _)))))))
  have hP := vP_perm hpm hP
  have hD := vD_perm hpm hD
  clear hpm
  refine lv_if_ne (tgt := 476) hx hb d_L_law_462 (by decide) (fun d10 => ?_) (fun d10 => ?_)
  · refine lv_goto (tgt := 1460) hx hb d_L_law_476 (by decide) ?_
    exact kk Pp Sp Yp um Bi Bl Bj Bk u9.2 _ _ hP hD hS t3 ls (lv_sub hl [2, 3, 4, 5, 6] rfl)
  · have t4 := t2 (show kx = 0 from d10)
    refine lv_aload_n hx hb d_L_law_465 rfl (lv_at hl 5 rfl) ?_
    refine lv_iconst (v := 0) hx hb d_L_law_466 (by decide) ?_
    refine va_lald hx hb hK hP 0 1 rfl rfl (by unfold vp_in; decide) d_L_law_467 ?_
    refine lv_topl (fun z11 ez11 => ?_)
    obtain rfl : z11 = (u9.2 0) := by rw [ez11]; rfl
    refine lv_lload hx hb d_L_law_468 (lv_at hl 0 rfl) ?_
    refine W.lcmp hx hb d_L_law_470 ?_
    refine lv_if_eq (tgt := 476) hx hb d_L_law_471 (by decide) (fun _ => ?_) (fun k12 => by first | exact absurd ((lg_cmp_eq _ _).mpr t4) k12 | exact absurd k12 ((lg_cmp_eq _ _).mpr t4))
    refine lv_goto (tgt := 1460) hx hb d_L_law_476 (by decide) ?_
    exact kk Pp Sp Yp um Bi Bl Bj Bk u9.2 _ _ hP hD hS t3 ls (lv_sub hl [2, 3, 4, 5, 6] rfl)
set_option maxHeartbeats 4000000 in
set_option maxRecDepth 100000 in
theorem lc_score {p : Program} {l : Launch} {e : Env} {s : State} {m : MethodId} {below : List Frame} {meth : Method} {c : Code} {Q : State → Prop} {D : va_G} {cA sa : Nat → Nat} (Z : zE l s D cA sa) (N9 : zN s) (hx : p.tables.exec = Jvm.exec) (hb : c.code = code) (hml : c.maxLocals = 8) (hown : s.vm.findClass R_L = some m.cls) (hg : gl s s) (hK : va_K D ncl (ty0 cA) s) {b L : Nat} {xs : Nat → Int32} (hX : va_X b L xs s s.heap) (hbl : b < s.heap.size) (hL : L ≤ 4098) {a sb yA bd am : Nat → Nat} {oA : Nat} {bb : Nat → Nat → Nat} (hsa : sb 0 = a 5) (hya : yA 0 = a 6) (hbd : ∀ k, k < 4 → bd k = bb k 0) {i cl sl : Nat} (hi : i + 8 ≤ L) (hcl : cl + 5 ≤ 601024) (hsl : sl + 30 ≤ 7293000) {Pp Sp Yp Mp : St} {Bi : Nat → Nat → Int32} {Bl : Nat → Nat → Int64} {Bj : Nat → Nat → Nat → Int32} {Bk : Nat → Nat → Nat → Int64} {oF : Nat → Int64} (hI : INV Pp Sp Yp Mp Bi Bl Bk) (kk : ∀ (P1 S1 Y1 M1 : St) (Bi1 : Nat → Nat → Int32) (Bl1 : Nat → Nat → Int64) (Bj1 : Nat → Nat → Nat → Int32) (Bk1 : Nat → Nat → Nat → Int64) (oF1 : Nat → Int64) (H : Heap) (locs : List Loc), va_P D ncl (([(oA, .inl (cA 1, 1, .inr (.inl oF1)))]) ++ (w_P a cA P1.1 P1.2.1 P1.2.2.1 P1.2.2.2 bd) ++ (w_S sb cA S1.1 S1.2.1 S1.2.2.1 S1.2.2.2) ++ (w_Y yA cA Y1.1 Y1.2.1 Y1.2.2.1 Y1.2.2.2) ++ (w_M am cA M1.1 M1.2.1 M1.2.2.1 M1.2.2.2) ++ (w_B (bb 0) cA (Bi1 0) (Bl1 0) (Bj1 0) (Bk1 0)) ++ (w_B (bb 1) cA (Bi1 1) (Bl1 1) (Bj1 1) (Bk1 1)) ++ (w_B (bb 2) cA (Bi1 2) (Bl1 2) (Bj1 2) (Bk1 2)) ++ (w_B (bb 3) cA (Bi1 3) (Bl1 3) (Bj1 3) (Bk1 3))) H → va_D (fun q => s.heap.size ≤ q) (([(oA, .inl (cA 1, 1, .inr (.inl oF1)))]) ++ (w_P a cA P1.1 P1.2.1 P1.2.2.1 P1.2.2.2 bd) ++ (w_S sb cA S1.1 S1.2.1 S1.2.2.1 S1.2.2.2) ++ (w_Y yA cA Y1.1 Y1.2.1 Y1.2.2.1 Y1.2.2.2) ++ (w_M am cA M1.1 M1.2.1 M1.2.2.1 M1.2.2.2) ++ (w_B (bb 0) cA (Bi1 0) (Bl1 0) (Bj1 0) (Bk1 0)) ++ (w_B (bb 1) cA (Bi1 1) (Bl1 1) (Bj1 1) (Bk1 1)) ++ (w_B (bb 2) cA (Bi1 2) (Bl1 2) (Bj1 2) (Bk1 2)) ++ (w_B (bb 3) cA (Bi1 3) (Bl1 3) (Bj1 3) (Bk1 3))) → va_S (fun q => s.heap.size ≤ q) s.heap H locs → INV P1 S1 Y1 M1 Bi1 Bl1 Bk1 → ∀ ls : Array Slot, lv_has ls 8 [(0, .ref b), (1, .ref (a 0)), (2, .ref (am 0)), (3, .ref oA), (4, .int (nI i))] → W p l e room_1 s m #[Value.ref b] below meth c H locs (cl + 5) (sl + 30) Q (F0 m 1460 ls [])) {H : Heap} {locs : List Loc} (hP : va_P D ncl (([(oA, .inl (cA 1, 1, .inr (.inl oF)))]) ++ (w_P a cA Pp.1 Pp.2.1 Pp.2.2.1 Pp.2.2.2 bd) ++ (w_S sb cA Sp.1 Sp.2.1 Sp.2.2.1 Sp.2.2.2) ++ (w_Y yA cA Yp.1 Yp.2.1 Yp.2.2.1 Yp.2.2.2) ++ (w_M am cA Mp.1 Mp.2.1 Mp.2.2.1 Mp.2.2.2) ++ (w_B (bb 0) cA (Bi 0) (Bl 0) (Bj 0) (Bk 0)) ++ (w_B (bb 1) cA (Bi 1) (Bl 1) (Bj 1) (Bk 1)) ++ (w_B (bb 2) cA (Bi 2) (Bl 2) (Bj 2) (Bk 2)) ++ (w_B (bb 3) cA (Bi 3) (Bl 3) (Bj 3) (Bk 3))) H) (hD : va_D (fun q => s.heap.size ≤ q) (([(oA, .inl (cA 1, 1, .inr (.inl oF)))]) ++ (w_P a cA Pp.1 Pp.2.1 Pp.2.2.1 Pp.2.2.2 bd) ++ (w_S sb cA Sp.1 Sp.2.1 Sp.2.2.1 Sp.2.2.2) ++ (w_Y yA cA Yp.1 Yp.2.1 Yp.2.2.1 Yp.2.2.2) ++ (w_M am cA Mp.1 Mp.2.1 Mp.2.2.1 Mp.2.2.2) ++ (w_B (bb 0) cA (Bi 0) (Bl 0) (Bj 0) (Bk 0)) ++ (w_B (bb 1) cA (Bi 1) (Bl 1) (Bj 1) (Bk 1)) ++ (w_B (bb 2) cA (Bi 2) (Bl 2) (Bj 2) (Bk 2)) ++ (w_B (bb 3) cA (Bi 3) (Bl 3) (Bj 3) (Bk 3)))) (hS : va_S (fun q => s.heap.size ≤ q) s.heap H locs) {ls : Array Slot} (hl : lv_has ls 8 [(0, .ref b), (1, .ref (a 0)), (2, .ref (am 0)), (3, .ref oA), (4, .int (nI i))]) : W p l e room_1 s m #[Value.ref b] below meth c H locs cl sl Q (F0 m 666 ls []) := by
  have hA : ∀ q, s.heap.size ≤ q → (fun q => s.heap.size ≤ q) q := fun _ h => h
  have hlo : ∀ q, (fun q => s.heap.size ≤ q) q → s.heap.size ≤ q := fun _ h => h
  have hbA : ¬ (fun q : Nat => s.heap.size ≤ q) b := Nat.not_le.mpr hbl
  obtain ⟨w, h, nb, g, l0, y0, g0, r, nc, np, wt, X, Y, rw, bf, i1, i2, i3, i4, i5, i6, i7, i8, i9, i10, i11⟩ := id hI
  have hnb4 := i2.2.2
  refine lv_aload_n hx hb d_L_law_666 rfl (lv_at hl 1 rfl) ?_
  refine lv_aload_n hx hb d_L_law_667 rfl (lv_at hl 0 rfl) ?_
  refine lv_iload hx hb d_L_law_668 (lv_at hl 4 rfl) ?_
  refine lv_iconst (v := 1) hx hb d_L_law_670 (by decide) ?_
  refine lv_iadd hx hb d_L_law_671 ?_
  refine lv_topi (fun z1 ez1 => ?_)
  obtain rfl : z1 = (nI (i + 1)) := by rw [ez1]; exact nI_add i 1
  refine va_sld hx hb hX hbl hbA hS (vp_in_nI (n := i + 1) (N := L) (by omega) (by omega)) d_L_law_672 ?_
  refine lv_topi (fun z2 ez2 => ?_)
  rw [nI_clamp (n := i + 1) (by omega)] at ez2
  obtain rfl : z2 = xs (i + 1) := ez2
  refine lv_aload_n hx hb d_L_law_673 rfl (lv_at hl 0 rfl) ?_
  refine lv_iload hx hb d_L_law_674 (lv_at hl 4 rfl) ?_
  refine lv_iconst (v := 2) hx hb d_L_law_676 (by decide) ?_
  refine lv_iadd hx hb d_L_law_677 ?_
  refine lv_topi (fun z3 ez3 => ?_)
  obtain rfl : z3 = (nI (i + 2)) := by rw [ez3]; exact nI_add i 2
  refine va_sld hx hb hX hbl hbA hS (vp_in_nI (n := i + 2) (N := L) (by omega) (by omega)) d_L_law_678 ?_
  refine lv_topi (fun z4 ez4 => ?_)
  rw [nI_clamp (n := i + 2) (by omega)] at ez4
  obtain rfl : z4 = xs (i + 2) := ez4
  refine lv_aload_n hx hb d_L_law_679 rfl (lv_at hl 3 rfl) ?_
  have hpm : List.Perm (([(oA, .inl (cA 1, 1, .inr (.inl oF)))]) ++ (w_P a cA Pp.1 Pp.2.1 Pp.2.2.1 Pp.2.2.2 bd) ++ (w_S sb cA Sp.1 Sp.2.1 Sp.2.2.1 Sp.2.2.2) ++ (w_Y yA cA Yp.1 Yp.2.1 Yp.2.2.1 Yp.2.2.2) ++ (w_M am cA Mp.1 Mp.2.1 Mp.2.2.1 Mp.2.2.2) ++ (w_B (bb 0) cA (Bi 0) (Bl 0) (Bj 0) (Bk 0)) ++ (w_B (bb 1) cA (Bi 1) (Bl 1) (Bj 1) (Bk 1)) ++ (w_B (bb 2) cA (Bi 2) (Bl 2) (Bj 2) (Bk 2)) ++ (w_B (bb 3) cA (Bi 3) (Bl 3) (Bj 3) (Bk 3))) (((w_P a cA Pp.1 Pp.2.1 Pp.2.2.1 Pp.2.2.2 bd) ++ (w_Y yA cA Yp.1 Yp.2.1 Yp.2.2.1 Yp.2.2.2) ++ ([(oA, .inl (cA 1, 1, .inr (.inl oF)))])) ++ ((w_S sb cA Sp.1 Sp.2.1 Sp.2.2.1 Sp.2.2.2) ++ (w_M am cA Mp.1 Mp.2.1 Mp.2.2.1 Mp.2.2.2) ++ (w_B (bb 0) cA (Bi 0) (Bl 0) (Bj 0) (Bk 0)) ++ (w_B (bb 1) cA (Bi 1) (Bl 1) (Bj 1) (Bk 1)) ++ (w_B (bb 2) cA (Bi 2) (Bl 2) (Bj 2) (Bk 2)) ++ (w_B (bb 3) cA (Bi 3) (Bl 3) (Bj 3) (Bk 3)))) := by simp only [List.append_assoc]; exact ((List.perm_append_comm_assoc _ _ _).trans (List.Perm.append_left _ ((List.Perm.append_left _ (List.perm_append_comm_assoc _ _ _)).trans (List.perm_append_comm_assoc _ _ _))))
  have hP := vP_perm hpm hP
  have hD := vD_perm hpm hD
  clear hpm
  refine pt_calli (wt_runSW (rest := []) hx hb hml hown hl.1 hg hlo (vP_l hP) (vD_l hD) hS (m_L_score Z N9 a Pp.1 Pp.2.1 Pp.2.2.1 Pp.2.2.2 bd yA Yp.1 Yp.2.1 Yp.2.2.1 Yp.2.2.2 hya l0 y0 g0 rw bf i9.1 i9.2.1 (xs (i + 1)) (xs (i + 2)) oA oF H.size) (kw513 Z.1) (kw514 Z.1) (kw515 Z.1) (kw0 Z.1) ⟨by decide, by decide, (by decide +kernel : (parseMethodDescriptor y_L_score.desc).map (fun d => d.parameters.length) = some 4)⟩ ⟨(Nat.le_of_ble_eq_true rfl), (Nat.le_of_ble_eq_true rfl)⟩ [0, 1, 2, 3, 4, 5, 6, 7, 8, 9, 10, 11, 12, 13, 14, 15] rfl rfl rfl (Nat.le_of_ble_eq_true rfl) d_L_law_680 ⟨by show cl + 3 ≤ 601024; omega, by show sl + 18 ≤ 7293000; omega⟩) hP hD hS hA (fun kx u9 H locs hq hP hD hS => ?_)
  refine W.widen (k := cl + 5) (n := sl + 30) (by show cl + 3 ≤ cl + 5; omega) (by show sl + 18 ≤ sl + 30; omega) ?_
  have hP : va_P D ncl (((w_P a cA Pp.1 Pp.2.1 Pp.2.2.1 Pp.2.2.2 bd) ++ (w_Y yA cA Yp.1 Yp.2.1 Yp.2.2.1 Yp.2.2.2) ++ ([(oA, .inl (cA 1, 1, .inr (.inl u9.2)))])) ++ ((w_S sb cA Sp.1 Sp.2.1 Sp.2.2.1 Sp.2.2.2) ++ (w_M am cA Mp.1 Mp.2.1 Mp.2.2.1 Mp.2.2.2) ++ (w_B (bb 0) cA (Bi 0) (Bl 0) (Bj 0) (Bk 0)) ++ (w_B (bb 1) cA (Bi 1) (Bl 1) (Bj 1) (Bk 1)) ++ (w_B (bb 2) cA (Bi 2) (Bl 2) (Bj 2) (Bk 2)) ++ (w_B (bb 3) cA (Bi 3) (Bl 3) (Bj 3) (Bk 3)))) H := hP
  have hD : va_D (fun q => s.heap.size ≤ q) (((w_P a cA Pp.1 Pp.2.1 Pp.2.2.1 Pp.2.2.2 bd) ++ (w_Y yA cA Yp.1 Yp.2.1 Yp.2.2.1 Yp.2.2.2) ++ ([(oA, .inl (cA 1, 1, .inr (.inl u9.2)))])) ++ ((w_S sb cA Sp.1 Sp.2.1 Sp.2.2.1 Sp.2.2.2) ++ (w_M am cA Mp.1 Mp.2.1 Mp.2.2.1 Mp.2.2.2) ++ (w_B (bb 0) cA (Bi 0) (Bl 0) (Bj 0) (Bk 0)) ++ (w_B (bb 1) cA (Bi 1) (Bl 1) (Bj 1) (Bk 1)) ++ (w_B (bb 2) cA (Bi 2) (Bl 2) (Bj 2) (Bk 2)) ++ (w_B (bb 3) cA (Bi 3) (Bl 3) (Bj 3) (Bk 3)))) := hD
  refine lv_istore (lv' := [(5, .int kx), (0, .ref b), (1, .ref (a 0)), (2, .ref (am 0)), (3, .ref oA), (4, .int (nI i))]) hx hb d_L_law_683 hl (by decide) rfl (fun ls hl => ?_)
  refine lv_aload_n hx hb d_L_law_685 rfl (lv_at hl 3 rfl) ?_
  refine lv_aload_n hx hb d_L_law_686 rfl (lv_at hl 1 rfl) ?_
  refine lv_iload hx hb d_L_law_687 (lv_at hl 5 rfl) ?_
  refine lv_iconst (v := 1) hx hb d_L_law_689 (by decide) ?_
  refine lv_iadd hx hb d_L_law_690 ?_
  refine lv_topi (fun z5 ez5 => ?_)
  obtain rfl : z5 = (nI (i + 1)) := by rw [ez5]; exact nI_add i 1
  refine va_sld hx hb hX hbl hbA hS (vp_in_nI (n := i + 1) (N := L) (by omega) (by omega)) d_L_law_691 ?_
  refine lv_topi (fun z6 ez6 => ?_)
  rw [nI_clamp (n := i + 1) (by omega)] at ez6
  obtain rfl : z6 = xs (i + 1) := ez6
  refine lv_aload_n hx hb d_L_law_692 rfl (lv_at hl 1 rfl) ?_
  refine lv_iload hx hb d_L_law_693 (lv_at hl 5 rfl) ?_
  refine lv_iconst (v := 2) hx hb d_L_law_695 (by decide) ?_
  refine lv_iadd hx hb d_L_law_696 ?_
  refine lv_topi (fun z7 ez7 => ?_)
  obtain rfl : z7 = (nI (i + 2)) := by rw [ez7]; exact nI_add i 2
  refine va_sld hx hb hX hbl hbA hS (vp_in_nI (n := i + 2) (N := L) (by omega) (by omega)) d_L_law_697 ?_
  refine lv_topi (fun z8 ez8 => ?_)
  rw [nI_clamp (n := i + 2) (by omega)] at ez8
  obtain rfl : z8 = xs (i + 2) := ez8
  have hpm : List.Perm (((w_P a cA Pp.1 Pp.2.1 Pp.2.2.1 Pp.2.2.2 bd) ++ (w_Y yA cA Yp.1 Yp.2.1 Yp.2.2.1 Yp.2.2.2) ++ ([(oA, .inl (cA 1, 1, .inr (.inl u9.2)))])) ++ ((w_S sb cA Sp.1 Sp.2.1 Sp.2.2.1 Sp.2.2.2) ++ (w_M am cA Mp.1 Mp.2.1 Mp.2.2.1 Mp.2.2.2) ++ (w_B (bb 0) cA (Bi 0) (Bl 0) (Bj 0) (Bk 0)) ++ (w_B (bb 1) cA (Bi 1) (Bl 1) (Bj 1) (Bk 1)) ++ (w_B (bb 2) cA (Bi 2) (Bl 2) (Bj 2) (Bk 2)) ++ (w_B (bb 3) cA (Bi 3) (Bl 3) (Bj 3) (Bk 3)))) (((w_M am cA Mp.1 Mp.2.1 Mp.2.2.1 Mp.2.2.2)) ++ ((w_P a cA Pp.1 Pp.2.1 Pp.2.2.1 Pp.2.2.2 bd) ++ (w_Y yA cA Yp.1 Yp.2.1 Yp.2.2.1 Yp.2.2.2) ++ ([(oA, .inl (cA 1, 1, .inr (.inl u9.2)))]) ++ (w_S sb cA Sp.1 Sp.2.1 Sp.2.2.1 Sp.2.2.2) ++ (w_B (bb 0) cA (Bi 0) (Bl 0) (Bj 0) (Bk 0)) ++ (w_B (bb 1) cA (Bi 1) (Bl 1) (Bj 1) (Bk 1)) ++ (w_B (bb 2) cA (Bi 2) (Bl 2) (Bj 2) (Bk 2)) ++ (w_B (bb 3) cA (Bi 3) (Bl 3) (Bj 3) (Bk 3)))) := by simp only [List.append_assoc]; exact ((List.Perm.append_left _ ((List.Perm.append_left _ ((List.Perm.append_left _ (List.perm_append_comm_assoc _ _ _)).trans (List.perm_append_comm_assoc _ _ _))).trans (List.perm_append_comm_assoc _ _ _))).trans (List.perm_append_comm_assoc _ _ _))
  have hP := vP_perm hpm hP
  have hD := vD_perm hpm hD
  clear hpm
  refine p_calll (w_runV (rest := []) hx hb hml hown hl.1 hg hlo hK (vP_l hP) (vD_l hD) hS (m_M_score Z am Mp.1 Mp.2.1 Mp.2.2.1 Mp.2.2.2 (xs (i + 1)) (xs (i + 2)) (lcp l0 g0 y0 rw) i9.2.2.2.1 (lcp_200 i9.2.1) (lcp_yb i9.2.1) H.size) (kw797 Z.1) (kw798 Z.1) (kw799 Z.1) (kw800 Z.1) (kw6 Z.1) ⟨by decide, by decide, (by decide +kernel : (parseMethodDescriptor y_M_score.desc).map (fun d => d.parameters.length) = some 2)⟩ ⟨(Nat.le_of_ble_eq_true rfl), (Nat.le_of_ble_eq_true rfl)⟩ [0, 1, 2, 3, 4, 5, 6, 7, 8, 9, 10, 11, 12, 13, 14, 15, 16] rfl rfl (ci := 1) (q0 := 0) rfl rfl rfl (Nat.le_of_ble_eq_true rfl) d_L_law_698 ⟨by show cl + 5 + 0 ≤ 601024; omega, by show sl + 30 + 0 ≤ 7293000; omega⟩) hP hD hS hA (fun rm um H locs hm hP hD hS => ?_)
  refine W.widen (k := cl + 5) (n := sl + 30) (by show cl + 5 + 0 ≤ cl + 5; omega) (by show sl + 30 + 0 ≤ sl + 30; omega) ?_
  have hP : va_P D ncl (((w_M am cA um.1 um.2.1 um.2.2.1 um.2.2.2)) ++ ((w_P a cA Pp.1 Pp.2.1 Pp.2.2.1 Pp.2.2.2 bd) ++ (w_Y yA cA Yp.1 Yp.2.1 Yp.2.2.1 Yp.2.2.2) ++ ([(oA, .inl (cA 1, 1, .inr (.inl u9.2)))]) ++ (w_S sb cA Sp.1 Sp.2.1 Sp.2.2.1 Sp.2.2.2) ++ (w_B (bb 0) cA (Bi 0) (Bl 0) (Bj 0) (Bk 0)) ++ (w_B (bb 1) cA (Bi 1) (Bl 1) (Bj 1) (Bk 1)) ++ (w_B (bb 2) cA (Bi 2) (Bl 2) (Bj 2) (Bk 2)) ++ (w_B (bb 3) cA (Bi 3) (Bl 3) (Bj 3) (Bk 3)))) H := hP
  have hD : va_D (fun q => s.heap.size ≤ q) (((w_M am cA um.1 um.2.1 um.2.2.1 um.2.2.2)) ++ ((w_P a cA Pp.1 Pp.2.1 Pp.2.2.1 Pp.2.2.2 bd) ++ (w_Y yA cA Yp.1 Yp.2.1 Yp.2.2.1 Yp.2.2.2) ++ ([(oA, .inl (cA 1, 1, .inr (.inl u9.2)))]) ++ (w_S sb cA Sp.1 Sp.2.1 Sp.2.2.1 Sp.2.2.2) ++ (w_B (bb 0) cA (Bi 0) (Bl 0) (Bj 0) (Bk 0)) ++ (w_B (bb 1) cA (Bi 1) (Bl 1) (Bj 1) (Bk 1)) ++ (w_B (bb 2) cA (Bi 2) (Bl 2) (Bj 2) (Bk 2)) ++ (w_B (bb 3) cA (Bi 3) (Bl 3) (Bj 3) (Bk 3)))) := hD
  obtain ⟨t1, t2, t3⟩ := tie_score (oF := oF) hI i9 hq hm
  refine lv_lstore (lv' := [(6, .long rm), (5, .int kx), (0, .ref b), (1, .ref (a 0)), (2, .ref (am 0)), (3, .ref oA), (4, .int (nI i))]) hx hb d_L_law_701 hl (by decide) rfl (fun ls hl => ?_)
  refine lv_aload_n hx hb d_L_law_703 rfl (lv_at hl 4 rfl) ?_
  refine p_calli (w_runV (rest := []) hx hb hml hown hl.1 hg hlo hK (vP_l hP) (vD_l hD) hS (m_M_thrown Z am um.1 um.2.1 um.2.2.1 um.2.2.2 H.size) (kw683 Z.1) (kw684 Z.1) (kw685 Z.1) (kw686 Z.1) (kw6 Z.1) ⟨by decide, by decide, (by decide +kernel : (parseMethodDescriptor y_M_thrown.desc).map (fun d => d.parameters.length) = some 0)⟩ ⟨(Nat.le_of_ble_eq_true rfl), (Nat.le_of_ble_eq_true rfl)⟩ [0, 1, 2, 3, 4, 5, 6, 7, 8, 9, 10, 11, 12, 13, 14, 15, 16] rfl rfl (ci := 1) (q0 := 0) rfl rfl rfl (Nat.le_of_ble_eq_true rfl) d_L_law_704 ⟨by show cl + 5 + 0 ≤ 601024; omega, by show sl + 30 + 0 ≤ 7293000; omega⟩) hP hD hS hA (fun rt ut H locs hrt hP hD hS => ?_)
  refine W.widen (k := cl + 5) (n := sl + 30) (by show cl + 5 + 0 ≤ cl + 5; omega) (by show sl + 30 + 0 ≤ sl + 30; omega) ?_
  have hP : va_P D ncl (((w_M am cA um.1 um.2.1 um.2.2.1 um.2.2.2)) ++ ((w_P a cA Pp.1 Pp.2.1 Pp.2.2.1 Pp.2.2.2 bd) ++ (w_Y yA cA Yp.1 Yp.2.1 Yp.2.2.1 Yp.2.2.2) ++ ([(oA, .inl (cA 1, 1, .inr (.inl u9.2)))]) ++ (w_S sb cA Sp.1 Sp.2.1 Sp.2.2.1 Sp.2.2.2) ++ (w_B (bb 0) cA (Bi 0) (Bl 0) (Bj 0) (Bk 0)) ++ (w_B (bb 1) cA (Bi 1) (Bl 1) (Bj 1) (Bk 1)) ++ (w_B (bb 2) cA (Bi 2) (Bl 2) (Bj 2) (Bk 2)) ++ (w_B (bb 3) cA (Bi 3) (Bl 3) (Bj 3) (Bk 3)))) H := hP
  have hD : va_D (fun q => s.heap.size ≤ q) (((w_M am cA um.1 um.2.1 um.2.2.1 um.2.2.2)) ++ ((w_P a cA Pp.1 Pp.2.1 Pp.2.2.1 Pp.2.2.2 bd) ++ (w_Y yA cA Yp.1 Yp.2.1 Yp.2.2.1 Yp.2.2.2) ++ ([(oA, .inl (cA 1, 1, .inr (.inl u9.2)))]) ++ (w_S sb cA Sp.1 Sp.2.1 Sp.2.2.1 Sp.2.2.2) ++ (w_B (bb 0) cA (Bi 0) (Bl 0) (Bj 0) (Bk 0)) ++ (w_B (bb 1) cA (Bi 1) (Bl 1) (Bj 1) (Bk 1)) ++ (w_B (bb 2) cA (Bi 2) (Bl 2) (Bj 2) (Bk 2)) ++ (w_B (bb 3) cA (Bi 3) (Bl 3) (Bj 3) (Bk 3)))) := hD
  subst hrt
  refine lv_iload hx hb d_L_law_707 (lv_at hl 1 rfl) ?_
  refine lv_icmp_eq (tgt := 714) hx hb d_L_law_709 (by decide) (fun _ => ?_) (fun k9 => by first | exact absurd (show um.1 0 = kx from t1) k9 | exact absurd k9 (show um.1 0 = kx from t1))
  refine lv_iload hx hb d_L_law_714 (lv_at hl 1 rfl) ?_
  have hpm : List.Perm (((w_M am cA um.1 um.2.1 um.2.2.1 um.2.2.2)) ++ ((w_P a cA Pp.1 Pp.2.1 Pp.2.2.1 Pp.2.2.2 bd) ++ (w_Y yA cA Yp.1 Yp.2.1 Yp.2.2.1 Yp.2.2.2) ++ ([(oA, .inl (cA 1, 1, .inr (.inl u9.2)))]) ++ (w_S sb cA Sp.1 Sp.2.1 Sp.2.2.1 Sp.2.2.2) ++ (w_B (bb 0) cA (Bi 0) (Bl 0) (Bj 0) (Bk 0)) ++ (w_B (bb 1) cA (Bi 1) (Bl 1) (Bj 1) (Bk 1)) ++ (w_B (bb 2) cA (Bi 2) (Bl 2) (Bj 2) (Bk 2)) ++ (w_B (bb 3) cA (Bi 3) (Bl 3) (Bj 3) (Bk 3)))) (([(oA, .inl (cA 1, 1, .inr (.inl u9.2)))]) ++ (w_P a cA Pp.1 Pp.2.1 Pp.2.2.1 Pp.2.2.2 bd) ++ (w_S sb cA Sp.1 Sp.2.1 Sp.2.2.1 Sp.2.2.2) ++ (w_Y yA cA Yp.1 Yp.2.1 Yp.2.2.1 Yp.2.2.2) ++ (w_M am cA um.1 um.2.1 um.2.2.1 um.2.2.2) ++ (w_B (bb 0) cA (Bi 0) (Bl 0) (Bj 0) (Bk 0)) ++ (w_B (bb 1) cA (Bi 1) (Bl 1) (Bj 1) (Bk 1)) ++ (w_B (bb 2) cA (Bi 2) (Bl 2) (Bj 2) (Bk 2)) ++ (w_B (bb 3) cA (Bi 3) (Bl 3) (Bj 3) (Bk 3))) := by simp only [List.append_assoc]; exact (((List.Perm.append_left _ ((List.Perm.append_left _ (List.perm_append_comm_assoc _ _ _)).trans (List.perm_append_comm_assoc _ _ _))).trans (List.perm_append_comm_assoc _ _ _)).trans (List.Perm.append_left _ ((List.perm_append_comm_assoc _ _ _).trans (List.Perm.append_left _ (((List.Perm.append_left _ (List.perm_append_comm_assoc _ _ _)).trans (List.perm_append_comm_assoc _ _ _)).trans (List.Perm.append_left _ (List.perm_append_comm_assoc _ _ _)))))))
  have hP := vP_perm hpm hP
  have hD := vD_perm hpm hD
  clear hpm
  refine lv_if_ne (tgt := 730) hx hb d_L_law_716 (by decide) (fun d10 => ?_) (fun d10 => ?_)
  · refine lv_goto (tgt := 1460) hx hb d_L_law_730 (by decide) ?_
    exact kk Pp Sp Yp um Bi Bl Bj Bk u9.2 _ _ hP hD hS t3 ls (lv_sub hl [2, 3, 4, 5, 6] rfl)
  · have t4 := t2 (show kx = 0 from d10)
    refine lv_aload_n hx hb d_L_law_719 rfl (lv_at hl 5 rfl) ?_
    refine lv_iconst (v := 0) hx hb d_L_law_720 (by decide) ?_
    refine va_lald hx hb hK hP 0 1 rfl rfl (by unfold vp_in; decide) d_L_law_721 ?_
    refine lv_topl (fun z11 ez11 => ?_)
    obtain rfl : z11 = (u9.2 0) := by rw [ez11]; rfl
    refine lv_lload hx hb d_L_law_722 (lv_at hl 0 rfl) ?_
    refine W.lcmp hx hb d_L_law_724 ?_
    refine lv_if_eq (tgt := 730) hx hb d_L_law_725 (by decide) (fun _ => ?_) (fun k12 => by first | exact absurd ((lg_cmp_eq _ _).mpr t4) k12 | exact absurd k12 ((lg_cmp_eq _ _).mpr t4))
    refine lv_goto (tgt := 1460) hx hb d_L_law_730 (by decide) ?_
    exact kk Pp Sp Yp um Bi Bl Bj Bk u9.2 _ _ hP hD hS t3 ls (lv_sub hl [2, 3, 4, 5, 6] rfl)
set_option maxHeartbeats 4000000 in
set_option maxRecDepth 100000 in
theorem lc_mill {p : Program} {l : Launch} {e : Env} {s : State} {m : MethodId} {below : List Frame} {meth : Method} {c : Code} {Q : State → Prop} {D : va_G} {cA sa : Nat → Nat} (Z : zE l s D cA sa) (N9 : zN s) (hx : p.tables.exec = Jvm.exec) (hb : c.code = code) (hml : c.maxLocals = 8) (hown : s.vm.findClass R_L = some m.cls) (hg : gl s s) (hK : va_K D ncl (ty0 cA) s) {b L : Nat} {xs : Nat → Int32} (hX : va_X b L xs s s.heap) (hbl : b < s.heap.size) (hL : L ≤ 4098) {a sb yA bd am : Nat → Nat} {oA : Nat} {bb : Nat → Nat → Nat} (hsa : sb 0 = a 5) (hya : yA 0 = a 6) (hbd : ∀ k, k < 4 → bd k = bb k 0) {i cl sl : Nat} (hi : i + 8 ≤ L) (hcl : cl + 5 ≤ 601024) (hsl : sl + 30 ≤ 7293000) {Pp Sp Yp Mp : St} {Bi : Nat → Nat → Int32} {Bl : Nat → Nat → Int64} {Bj : Nat → Nat → Nat → Int32} {Bk : Nat → Nat → Nat → Int64} {oF : Nat → Int64} (hI : INV Pp Sp Yp Mp Bi Bl Bk) (kk : ∀ (P1 S1 Y1 M1 : St) (Bi1 : Nat → Nat → Int32) (Bl1 : Nat → Nat → Int64) (Bj1 : Nat → Nat → Nat → Int32) (Bk1 : Nat → Nat → Nat → Int64) (oF1 : Nat → Int64) (H : Heap) (locs : List Loc), va_P D ncl (([(oA, .inl (cA 1, 1, .inr (.inl oF1)))]) ++ (w_P a cA P1.1 P1.2.1 P1.2.2.1 P1.2.2.2 bd) ++ (w_S sb cA S1.1 S1.2.1 S1.2.2.1 S1.2.2.2) ++ (w_Y yA cA Y1.1 Y1.2.1 Y1.2.2.1 Y1.2.2.2) ++ (w_M am cA M1.1 M1.2.1 M1.2.2.1 M1.2.2.2) ++ (w_B (bb 0) cA (Bi1 0) (Bl1 0) (Bj1 0) (Bk1 0)) ++ (w_B (bb 1) cA (Bi1 1) (Bl1 1) (Bj1 1) (Bk1 1)) ++ (w_B (bb 2) cA (Bi1 2) (Bl1 2) (Bj1 2) (Bk1 2)) ++ (w_B (bb 3) cA (Bi1 3) (Bl1 3) (Bj1 3) (Bk1 3))) H → va_D (fun q => s.heap.size ≤ q) (([(oA, .inl (cA 1, 1, .inr (.inl oF1)))]) ++ (w_P a cA P1.1 P1.2.1 P1.2.2.1 P1.2.2.2 bd) ++ (w_S sb cA S1.1 S1.2.1 S1.2.2.1 S1.2.2.2) ++ (w_Y yA cA Y1.1 Y1.2.1 Y1.2.2.1 Y1.2.2.2) ++ (w_M am cA M1.1 M1.2.1 M1.2.2.1 M1.2.2.2) ++ (w_B (bb 0) cA (Bi1 0) (Bl1 0) (Bj1 0) (Bk1 0)) ++ (w_B (bb 1) cA (Bi1 1) (Bl1 1) (Bj1 1) (Bk1 1)) ++ (w_B (bb 2) cA (Bi1 2) (Bl1 2) (Bj1 2) (Bk1 2)) ++ (w_B (bb 3) cA (Bi1 3) (Bl1 3) (Bj1 3) (Bk1 3))) → va_S (fun q => s.heap.size ≤ q) s.heap H locs → INV P1 S1 Y1 M1 Bi1 Bl1 Bk1 → ∀ ls : Array Slot, lv_has ls 8 [(0, .ref b), (1, .ref (a 0)), (2, .ref (am 0)), (3, .ref oA), (4, .int (nI i))] → W p l e room_1 s m #[Value.ref b] below meth c H locs (cl + 5) (sl + 30) Q (F0 m 1460 ls [])) {H : Heap} {locs : List Loc} (hP : va_P D ncl (([(oA, .inl (cA 1, 1, .inr (.inl oF)))]) ++ (w_P a cA Pp.1 Pp.2.1 Pp.2.2.1 Pp.2.2.2 bd) ++ (w_S sb cA Sp.1 Sp.2.1 Sp.2.2.1 Sp.2.2.2) ++ (w_Y yA cA Yp.1 Yp.2.1 Yp.2.2.1 Yp.2.2.2) ++ (w_M am cA Mp.1 Mp.2.1 Mp.2.2.1 Mp.2.2.2) ++ (w_B (bb 0) cA (Bi 0) (Bl 0) (Bj 0) (Bk 0)) ++ (w_B (bb 1) cA (Bi 1) (Bl 1) (Bj 1) (Bk 1)) ++ (w_B (bb 2) cA (Bi 2) (Bl 2) (Bj 2) (Bk 2)) ++ (w_B (bb 3) cA (Bi 3) (Bl 3) (Bj 3) (Bk 3))) H) (hD : va_D (fun q => s.heap.size ≤ q) (([(oA, .inl (cA 1, 1, .inr (.inl oF)))]) ++ (w_P a cA Pp.1 Pp.2.1 Pp.2.2.1 Pp.2.2.2 bd) ++ (w_S sb cA Sp.1 Sp.2.1 Sp.2.2.1 Sp.2.2.2) ++ (w_Y yA cA Yp.1 Yp.2.1 Yp.2.2.1 Yp.2.2.2) ++ (w_M am cA Mp.1 Mp.2.1 Mp.2.2.1 Mp.2.2.2) ++ (w_B (bb 0) cA (Bi 0) (Bl 0) (Bj 0) (Bk 0)) ++ (w_B (bb 1) cA (Bi 1) (Bl 1) (Bj 1) (Bk 1)) ++ (w_B (bb 2) cA (Bi 2) (Bl 2) (Bj 2) (Bk 2)) ++ (w_B (bb 3) cA (Bi 3) (Bl 3) (Bj 3) (Bk 3)))) (hS : va_S (fun q => s.heap.size ≤ q) s.heap H locs) {ls : Array Slot} (hl : lv_has ls 8 [(0, .ref b), (1, .ref (a 0)), (2, .ref (am 0)), (3, .ref oA), (4, .int (nI i))]) : W p l e room_1 s m #[Value.ref b] below meth c H locs cl sl Q (F0 m 987 ls []) := by
  have hA : ∀ q, s.heap.size ≤ q → (fun q => s.heap.size ≤ q) q := fun _ h => h
  have hlo : ∀ q, (fun q => s.heap.size ≤ q) q → s.heap.size ≤ q := fun _ h => h
  have hbA : ¬ (fun q : Nat => s.heap.size ≤ q) b := Nat.not_le.mpr hbl
  obtain ⟨w, h, nb, g, l0, y0, g0, r, nc, np, wt, X, Y, rw, bf, i1, i2, i3, i4, i5, i6, i7, i8, i9, i10, i11⟩ := id hI
  have hnb4 := i2.2.2
  refine lv_aload_n hx hb d_L_law_987 rfl (lv_at hl 1 rfl) ?_
  refine lv_aload_n hx hb d_L_law_988 rfl (lv_at hl 0 rfl) ?_
  refine lv_iload hx hb d_L_law_989 (lv_at hl 4 rfl) ?_
  refine lv_iconst (v := 1) hx hb d_L_law_991 (by decide) ?_
  refine lv_iadd hx hb d_L_law_992 ?_
  refine lv_topi (fun z1 ez1 => ?_)
  obtain rfl : z1 = (nI (i + 1)) := by rw [ez1]; exact nI_add i 1
  refine va_sld hx hb hX hbl hbA hS (vp_in_nI (n := i + 1) (N := L) (by omega) (by omega)) d_L_law_993 ?_
  refine lv_topi (fun z2 ez2 => ?_)
  rw [nI_clamp (n := i + 1) (by omega)] at ez2
  obtain rfl : z2 = xs (i + 1) := ez2
  refine lv_aload_n hx hb d_L_law_994 rfl (lv_at hl 0 rfl) ?_
  refine lv_iload hx hb d_L_law_995 (lv_at hl 4 rfl) ?_
  refine lv_iconst (v := 2) hx hb d_L_law_997 (by decide) ?_
  refine lv_iadd hx hb d_L_law_998 ?_
  refine lv_topi (fun z3 ez3 => ?_)
  obtain rfl : z3 = (nI (i + 2)) := by rw [ez3]; exact nI_add i 2
  refine va_sld hx hb hX hbl hbA hS (vp_in_nI (n := i + 2) (N := L) (by omega) (by omega)) d_L_law_999 ?_
  refine lv_topi (fun z4 ez4 => ?_)
  rw [nI_clamp (n := i + 2) (by omega)] at ez4
  obtain rfl : z4 = xs (i + 2) := ez4
  refine lv_aload_n hx hb d_L_law_1000 rfl (lv_at hl 3 rfl) ?_
  have hpm : List.Perm (([(oA, .inl (cA 1, 1, .inr (.inl oF)))]) ++ (w_P a cA Pp.1 Pp.2.1 Pp.2.2.1 Pp.2.2.2 bd) ++ (w_S sb cA Sp.1 Sp.2.1 Sp.2.2.1 Sp.2.2.2) ++ (w_Y yA cA Yp.1 Yp.2.1 Yp.2.2.1 Yp.2.2.2) ++ (w_M am cA Mp.1 Mp.2.1 Mp.2.2.1 Mp.2.2.2) ++ (w_B (bb 0) cA (Bi 0) (Bl 0) (Bj 0) (Bk 0)) ++ (w_B (bb 1) cA (Bi 1) (Bl 1) (Bj 1) (Bk 1)) ++ (w_B (bb 2) cA (Bi 2) (Bl 2) (Bj 2) (Bk 2)) ++ (w_B (bb 3) cA (Bi 3) (Bl 3) (Bj 3) (Bk 3))) (((w_P a cA Pp.1 Pp.2.1 Pp.2.2.1 Pp.2.2.2 bd) ++ (w_Y yA cA Yp.1 Yp.2.1 Yp.2.2.1 Yp.2.2.2) ++ ([(oA, .inl (cA 1, 1, .inr (.inl oF)))])) ++ ((w_S sb cA Sp.1 Sp.2.1 Sp.2.2.1 Sp.2.2.2) ++ (w_M am cA Mp.1 Mp.2.1 Mp.2.2.1 Mp.2.2.2) ++ (w_B (bb 0) cA (Bi 0) (Bl 0) (Bj 0) (Bk 0)) ++ (w_B (bb 1) cA (Bi 1) (Bl 1) (Bj 1) (Bk 1)) ++ (w_B (bb 2) cA (Bi 2) (Bl 2) (Bj 2) (Bk 2)) ++ (w_B (bb 3) cA (Bi 3) (Bl 3) (Bj 3) (Bk 3)))) := by simp only [List.append_assoc]; exact ((List.perm_append_comm_assoc _ _ _).trans (List.Perm.append_left _ ((List.Perm.append_left _ (List.perm_append_comm_assoc _ _ _)).trans (List.perm_append_comm_assoc _ _ _))))
  have hP := vP_perm hpm hP
  have hD := vD_perm hpm hD
  clear hpm
  refine pt_calli (wt_runSW (rest := []) hx hb hml hown hl.1 hg hlo (vP_l hP) (vD_l hD) hS (m_L_mill Z N9 a Pp.1 Pp.2.1 Pp.2.2.1 Pp.2.2.2 bd yA Yp.1 Yp.2.1 Yp.2.2.1 Yp.2.2.2 hya l0 y0 g0 rw bf i9.1 i9.2.1 (xs (i + 1)) (xs (i + 2)) oA oF H.size) (kw555 Z.1) (kw556 Z.1) (kw557 Z.1) (kw0 Z.1) ⟨by decide, by decide, (by decide +kernel : (parseMethodDescriptor y_L_mill.desc).map (fun d => d.parameters.length) = some 4)⟩ ⟨(Nat.le_of_ble_eq_true rfl), (Nat.le_of_ble_eq_true rfl)⟩ [0, 1, 2, 3, 4, 5, 6, 7, 8, 9, 10, 11, 12, 13, 14, 15] rfl rfl rfl (Nat.le_of_ble_eq_true rfl) d_L_law_1001 ⟨by show cl + 2 ≤ 601024; omega, by show sl + 12 ≤ 7293000; omega⟩) hP hD hS hA (fun kx u9 H locs hq hP hD hS => ?_)
  refine W.widen (k := cl + 5) (n := sl + 30) (by show cl + 2 ≤ cl + 5; omega) (by show sl + 12 ≤ sl + 30; omega) ?_
  have hP : va_P D ncl (((w_P a cA Pp.1 Pp.2.1 Pp.2.2.1 Pp.2.2.2 bd) ++ (w_Y yA cA Yp.1 Yp.2.1 Yp.2.2.1 Yp.2.2.2) ++ ([(oA, .inl (cA 1, 1, .inr (.inl u9.2)))])) ++ ((w_S sb cA Sp.1 Sp.2.1 Sp.2.2.1 Sp.2.2.2) ++ (w_M am cA Mp.1 Mp.2.1 Mp.2.2.1 Mp.2.2.2) ++ (w_B (bb 0) cA (Bi 0) (Bl 0) (Bj 0) (Bk 0)) ++ (w_B (bb 1) cA (Bi 1) (Bl 1) (Bj 1) (Bk 1)) ++ (w_B (bb 2) cA (Bi 2) (Bl 2) (Bj 2) (Bk 2)) ++ (w_B (bb 3) cA (Bi 3) (Bl 3) (Bj 3) (Bk 3)))) H := hP
  have hD : va_D (fun q => s.heap.size ≤ q) (((w_P a cA Pp.1 Pp.2.1 Pp.2.2.1 Pp.2.2.2 bd) ++ (w_Y yA cA Yp.1 Yp.2.1 Yp.2.2.1 Yp.2.2.2) ++ ([(oA, .inl (cA 1, 1, .inr (.inl u9.2)))])) ++ ((w_S sb cA Sp.1 Sp.2.1 Sp.2.2.1 Sp.2.2.2) ++ (w_M am cA Mp.1 Mp.2.1 Mp.2.2.1 Mp.2.2.2) ++ (w_B (bb 0) cA (Bi 0) (Bl 0) (Bj 0) (Bk 0)) ++ (w_B (bb 1) cA (Bi 1) (Bl 1) (Bj 1) (Bk 1)) ++ (w_B (bb 2) cA (Bi 2) (Bl 2) (Bj 2) (Bk 2)) ++ (w_B (bb 3) cA (Bi 3) (Bl 3) (Bj 3) (Bk 3)))) := hD
  refine lv_istore (lv' := [(5, .int kx), (0, .ref b), (1, .ref (a 0)), (2, .ref (am 0)), (3, .ref oA), (4, .int (nI i))]) hx hb d_L_law_1004 hl (by decide) rfl (fun ls hl => ?_)
  refine lv_aload_n hx hb d_L_law_1006 rfl (lv_at hl 3 rfl) ?_
  refine lv_aload_n hx hb d_L_law_1007 rfl (lv_at hl 1 rfl) ?_
  refine lv_iload hx hb d_L_law_1008 (lv_at hl 5 rfl) ?_
  refine lv_iconst (v := 1) hx hb d_L_law_1010 (by decide) ?_
  refine lv_iadd hx hb d_L_law_1011 ?_
  refine lv_topi (fun z5 ez5 => ?_)
  obtain rfl : z5 = (nI (i + 1)) := by rw [ez5]; exact nI_add i 1
  refine va_sld hx hb hX hbl hbA hS (vp_in_nI (n := i + 1) (N := L) (by omega) (by omega)) d_L_law_1012 ?_
  refine lv_topi (fun z6 ez6 => ?_)
  rw [nI_clamp (n := i + 1) (by omega)] at ez6
  obtain rfl : z6 = xs (i + 1) := ez6
  refine lv_aload_n hx hb d_L_law_1013 rfl (lv_at hl 1 rfl) ?_
  refine lv_iload hx hb d_L_law_1014 (lv_at hl 5 rfl) ?_
  refine lv_iconst (v := 2) hx hb d_L_law_1016 (by decide) ?_
  refine lv_iadd hx hb d_L_law_1017 ?_
  refine lv_topi (fun z7 ez7 => ?_)
  obtain rfl : z7 = (nI (i + 2)) := by rw [ez7]; exact nI_add i 2
  refine va_sld hx hb hX hbl hbA hS (vp_in_nI (n := i + 2) (N := L) (by omega) (by omega)) d_L_law_1018 ?_
  refine lv_topi (fun z8 ez8 => ?_)
  rw [nI_clamp (n := i + 2) (by omega)] at ez8
  obtain rfl : z8 = xs (i + 2) := ez8
  have hpm : List.Perm (((w_P a cA Pp.1 Pp.2.1 Pp.2.2.1 Pp.2.2.2 bd) ++ (w_Y yA cA Yp.1 Yp.2.1 Yp.2.2.1 Yp.2.2.2) ++ ([(oA, .inl (cA 1, 1, .inr (.inl u9.2)))])) ++ ((w_S sb cA Sp.1 Sp.2.1 Sp.2.2.1 Sp.2.2.2) ++ (w_M am cA Mp.1 Mp.2.1 Mp.2.2.1 Mp.2.2.2) ++ (w_B (bb 0) cA (Bi 0) (Bl 0) (Bj 0) (Bk 0)) ++ (w_B (bb 1) cA (Bi 1) (Bl 1) (Bj 1) (Bk 1)) ++ (w_B (bb 2) cA (Bi 2) (Bl 2) (Bj 2) (Bk 2)) ++ (w_B (bb 3) cA (Bi 3) (Bl 3) (Bj 3) (Bk 3)))) (((w_M am cA Mp.1 Mp.2.1 Mp.2.2.1 Mp.2.2.2)) ++ ((w_P a cA Pp.1 Pp.2.1 Pp.2.2.1 Pp.2.2.2 bd) ++ (w_Y yA cA Yp.1 Yp.2.1 Yp.2.2.1 Yp.2.2.2) ++ ([(oA, .inl (cA 1, 1, .inr (.inl u9.2)))]) ++ (w_S sb cA Sp.1 Sp.2.1 Sp.2.2.1 Sp.2.2.2) ++ (w_B (bb 0) cA (Bi 0) (Bl 0) (Bj 0) (Bk 0)) ++ (w_B (bb 1) cA (Bi 1) (Bl 1) (Bj 1) (Bk 1)) ++ (w_B (bb 2) cA (Bi 2) (Bl 2) (Bj 2) (Bk 2)) ++ (w_B (bb 3) cA (Bi 3) (Bl 3) (Bj 3) (Bk 3)))) := by simp only [List.append_assoc]; exact ((List.Perm.append_left _ ((List.Perm.append_left _ ((List.Perm.append_left _ (List.perm_append_comm_assoc _ _ _)).trans (List.perm_append_comm_assoc _ _ _))).trans (List.perm_append_comm_assoc _ _ _))).trans (List.perm_append_comm_assoc _ _ _))
  have hP := vP_perm hpm hP
  have hD := vD_perm hpm hD
  clear hpm
  refine p_calll (w_runV (rest := []) hx hb hml hown hl.1 hg hlo hK (vP_l hP) (vD_l hD) hS (m_M_mill Z am Mp.1 Mp.2.1 Mp.2.2.1 Mp.2.2.2 (xs (i + 1)) (xs (i + 2)) (ly_n rw) (iL_13 i9) (n200 i9.2.1) (iL_01 i9) H.size) (kw822 Z.1) (kw823 Z.1) (kw824 Z.1) (kw825 Z.1) (kw6 Z.1) ⟨by decide, by decide, (by decide +kernel : (parseMethodDescriptor y_M_mill.desc).map (fun d => d.parameters.length) = some 2)⟩ ⟨(Nat.le_of_ble_eq_true rfl), (Nat.le_of_ble_eq_true rfl)⟩ [0, 1, 2, 3, 4, 5, 6, 7, 8, 9, 10, 11, 12, 13, 14, 15, 16] rfl rfl (ci := 1) (q0 := 0) rfl rfl rfl (Nat.le_of_ble_eq_true rfl) d_L_law_1019 ⟨by show cl + 5 + 0 ≤ 601024; omega, by show sl + 30 + 0 ≤ 7293000; omega⟩) hP hD hS hA (fun rm um H locs hm hP hD hS => ?_)
  refine W.widen (k := cl + 5) (n := sl + 30) (by show cl + 5 + 0 ≤ cl + 5; omega) (by show sl + 30 + 0 ≤ sl + 30; omega) ?_
  have hP : va_P D ncl (((w_M am cA um.1 um.2.1 um.2.2.1 um.2.2.2)) ++ ((w_P a cA Pp.1 Pp.2.1 Pp.2.2.1 Pp.2.2.2 bd) ++ (w_Y yA cA Yp.1 Yp.2.1 Yp.2.2.1 Yp.2.2.2) ++ ([(oA, .inl (cA 1, 1, .inr (.inl u9.2)))]) ++ (w_S sb cA Sp.1 Sp.2.1 Sp.2.2.1 Sp.2.2.2) ++ (w_B (bb 0) cA (Bi 0) (Bl 0) (Bj 0) (Bk 0)) ++ (w_B (bb 1) cA (Bi 1) (Bl 1) (Bj 1) (Bk 1)) ++ (w_B (bb 2) cA (Bi 2) (Bl 2) (Bj 2) (Bk 2)) ++ (w_B (bb 3) cA (Bi 3) (Bl 3) (Bj 3) (Bk 3)))) H := hP
  have hD : va_D (fun q => s.heap.size ≤ q) (((w_M am cA um.1 um.2.1 um.2.2.1 um.2.2.2)) ++ ((w_P a cA Pp.1 Pp.2.1 Pp.2.2.1 Pp.2.2.2 bd) ++ (w_Y yA cA Yp.1 Yp.2.1 Yp.2.2.1 Yp.2.2.2) ++ ([(oA, .inl (cA 1, 1, .inr (.inl u9.2)))]) ++ (w_S sb cA Sp.1 Sp.2.1 Sp.2.2.1 Sp.2.2.2) ++ (w_B (bb 0) cA (Bi 0) (Bl 0) (Bj 0) (Bk 0)) ++ (w_B (bb 1) cA (Bi 1) (Bl 1) (Bj 1) (Bk 1)) ++ (w_B (bb 2) cA (Bi 2) (Bl 2) (Bj 2) (Bk 2)) ++ (w_B (bb 3) cA (Bi 3) (Bl 3) (Bj 3) (Bk 3)))) := hD
  obtain ⟨t1, t2, t3⟩ := tie_mill (oF := oF) hI i9 i4.2.2.2 hq hm
  refine lv_lstore (lv' := [(6, .long rm), (5, .int kx), (0, .ref b), (1, .ref (a 0)), (2, .ref (am 0)), (3, .ref oA), (4, .int (nI i))]) hx hb d_L_law_1022 hl (by decide) rfl (fun ls hl => ?_)
  refine lv_aload_n hx hb d_L_law_1024 rfl (lv_at hl 4 rfl) ?_
  refine p_calli (w_runV (rest := []) hx hb hml hown hl.1 hg hlo hK (vP_l hP) (vD_l hD) hS (m_M_thrown Z am um.1 um.2.1 um.2.2.1 um.2.2.2 H.size) (kw683 Z.1) (kw684 Z.1) (kw685 Z.1) (kw686 Z.1) (kw6 Z.1) ⟨by decide, by decide, (by decide +kernel : (parseMethodDescriptor y_M_thrown.desc).map (fun d => d.parameters.length) = some 0)⟩ ⟨(Nat.le_of_ble_eq_true rfl), (Nat.le_of_ble_eq_true rfl)⟩ [0, 1, 2, 3, 4, 5, 6, 7, 8, 9, 10, 11, 12, 13, 14, 15, 16] rfl rfl (ci := 1) (q0 := 0) rfl rfl rfl (Nat.le_of_ble_eq_true rfl) d_L_law_1025 ⟨by show cl + 5 + 0 ≤ 601024; omega, by show sl + 30 + 0 ≤ 7293000; omega⟩) hP hD hS hA (fun rt ut H locs hrt hP hD hS => ?_)
  refine W.widen (k := cl + 5) (n := sl + 30) (by show cl + 5 + 0 ≤ cl + 5; omega) (by show sl + 30 + 0 ≤ sl + 30; omega) ?_
  have hP : va_P D ncl (((w_M am cA um.1 um.2.1 um.2.2.1 um.2.2.2)) ++ ((w_P a cA Pp.1 Pp.2.1 Pp.2.2.1 Pp.2.2.2 bd) ++ (w_Y yA cA Yp.1 Yp.2.1 Yp.2.2.1 Yp.2.2.2) ++ ([(oA, .inl (cA 1, 1, .inr (.inl u9.2)))]) ++ (w_S sb cA Sp.1 Sp.2.1 Sp.2.2.1 Sp.2.2.2) ++ (w_B (bb 0) cA (Bi 0) (Bl 0) (Bj 0) (Bk 0)) ++ (w_B (bb 1) cA (Bi 1) (Bl 1) (Bj 1) (Bk 1)) ++ (w_B (bb 2) cA (Bi 2) (Bl 2) (Bj 2) (Bk 2)) ++ (w_B (bb 3) cA (Bi 3) (Bl 3) (Bj 3) (Bk 3)))) H := hP
  have hD : va_D (fun q => s.heap.size ≤ q) (((w_M am cA um.1 um.2.1 um.2.2.1 um.2.2.2)) ++ ((w_P a cA Pp.1 Pp.2.1 Pp.2.2.1 Pp.2.2.2 bd) ++ (w_Y yA cA Yp.1 Yp.2.1 Yp.2.2.1 Yp.2.2.2) ++ ([(oA, .inl (cA 1, 1, .inr (.inl u9.2)))]) ++ (w_S sb cA Sp.1 Sp.2.1 Sp.2.2.1 Sp.2.2.2) ++ (w_B (bb 0) cA (Bi 0) (Bl 0) (Bj 0) (Bk 0)) ++ (w_B (bb 1) cA (Bi 1) (Bl 1) (Bj 1) (Bk 1)) ++ (w_B (bb 2) cA (Bi 2) (Bl 2) (Bj 2) (Bk 2)) ++ (w_B (bb 3) cA (Bi 3) (Bl 3) (Bj 3) (Bk 3)))) := hD
  subst hrt
  refine lv_iload hx hb d_L_law_1028 (lv_at hl 1 rfl) ?_
  refine lv_icmp_eq (tgt := 1035) hx hb d_L_law_1030 (by decide) (fun _ => ?_) (fun k9 => by first | exact absurd (show um.1 0 = kx from t1) k9 | exact absurd k9 (show um.1 0 = kx from t1))
  refine lv_iload hx hb d_L_law_1035 (lv_at hl 1 rfl) ?_
  have hpm : List.Perm (((w_M am cA um.1 um.2.1 um.2.2.1 um.2.2.2)) ++ ((w_P a cA Pp.1 Pp.2.1 Pp.2.2.1 Pp.2.2.2 bd) ++ (w_Y yA cA Yp.1 Yp.2.1 Yp.2.2.1 Yp.2.2.2) ++ ([(oA, .inl (cA 1, 1, .inr (.inl u9.2)))]) ++ (w_S sb cA Sp.1 Sp.2.1 Sp.2.2.1 Sp.2.2.2) ++ (w_B (bb 0) cA (Bi 0) (Bl 0) (Bj 0) (Bk 0)) ++ (w_B (bb 1) cA (Bi 1) (Bl 1) (Bj 1) (Bk 1)) ++ (w_B (bb 2) cA (Bi 2) (Bl 2) (Bj 2) (Bk 2)) ++ (w_B (bb 3) cA (Bi 3) (Bl 3) (Bj 3) (Bk 3)))) (([(oA, .inl (cA 1, 1, .inr (.inl u9.2)))]) ++ (w_P a cA Pp.1 Pp.2.1 Pp.2.2.1 Pp.2.2.2 bd) ++ (w_S sb cA Sp.1 Sp.2.1 Sp.2.2.1 Sp.2.2.2) ++ (w_Y yA cA Yp.1 Yp.2.1 Yp.2.2.1 Yp.2.2.2) ++ (w_M am cA um.1 um.2.1 um.2.2.1 um.2.2.2) ++ (w_B (bb 0) cA (Bi 0) (Bl 0) (Bj 0) (Bk 0)) ++ (w_B (bb 1) cA (Bi 1) (Bl 1) (Bj 1) (Bk 1)) ++ (w_B (bb 2) cA (Bi 2) (Bl 2) (Bj 2) (Bk 2)) ++ (w_B (bb 3) cA (Bi 3) (Bl 3) (Bj 3) (Bk 3))) := by simp only [List.append_assoc]; exact (((List.Perm.append_left _ ((List.Perm.append_left _ (List.perm_append_comm_assoc _ _ _)).trans (List.perm_append_comm_assoc _ _ _))).trans (List.perm_append_comm_assoc _ _ _)).trans (List.Perm.append_left _ ((List.perm_append_comm_assoc _ _ _).trans (List.Perm.append_left _ (((List.Perm.append_left _ (List.perm_append_comm_assoc _ _ _)).trans (List.perm_append_comm_assoc _ _ _)).trans (List.Perm.append_left _ (List.perm_append_comm_assoc _ _ _)))))))
  have hP := vP_perm hpm hP
  have hD := vD_perm hpm hD
  clear hpm
  refine lv_if_ne (tgt := 1051) hx hb d_L_law_1037 (by decide) (fun d10 => ?_) (fun d10 => ?_)
  · refine lv_goto (tgt := 1460) hx hb d_L_law_1051 (by decide) ?_
    exact kk Pp Sp Yp um Bi Bl Bj Bk u9.2 _ _ hP hD hS t3 ls (lv_sub hl [2, 3, 4, 5, 6] rfl)
  · have t4 := t2 (show kx = 0 from d10)
    refine lv_aload_n hx hb d_L_law_1040 rfl (lv_at hl 5 rfl) ?_
    refine lv_iconst (v := 0) hx hb d_L_law_1041 (by decide) ?_
    refine va_lald hx hb hK hP 0 1 rfl rfl (by unfold vp_in; decide) d_L_law_1042 ?_
    refine lv_topl (fun z11 ez11 => ?_)
    obtain rfl : z11 = (u9.2 0) := by rw [ez11]; rfl
    refine lv_lload hx hb d_L_law_1043 (lv_at hl 0 rfl) ?_
    refine W.lcmp hx hb d_L_law_1045 ?_
    refine lv_if_eq (tgt := 1051) hx hb d_L_law_1046 (by decide) (fun _ => ?_) (fun k12 => by first | exact absurd ((lg_cmp_eq _ _).mpr t4) k12 | exact absurd k12 ((lg_cmp_eq _ _).mpr t4))
    refine lv_goto (tgt := 1460) hx hb d_L_law_1051 (by decide) ?_
    exact kk Pp Sp Yp um Bi Bl Bj Bk u9.2 _ _ hP hD hS t3 ls (lv_sub hl [2, 3, 4, 5, 6] rfl)
set_option maxHeartbeats 4000000 in
set_option maxRecDepth 100000 in
theorem lc_bad {p : Program} {l : Launch} {e : Env} {s : State} {m : MethodId} {below : List Frame} {meth : Method} {c : Code} {Q : State → Prop} {D : va_G} {cA sa : Nat → Nat} (Z : zE l s D cA sa) (N9 : zN s) (hx : p.tables.exec = Jvm.exec) (hb : c.code = code) (hml : c.maxLocals = 8) (hown : s.vm.findClass R_L = some m.cls) (hg : gl s s) (hK : va_K D ncl (ty0 cA) s) {b L : Nat} {xs : Nat → Int32} (hX : va_X b L xs s s.heap) (hbl : b < s.heap.size) (hL : L ≤ 4098) {a sb yA bd am : Nat → Nat} {oA : Nat} {bb : Nat → Nat → Nat} (hsa : sb 0 = a 5) (hya : yA 0 = a 6) (hbd : ∀ k, k < 4 → bd k = bb k 0) {i cl sl : Nat} (hi : i + 8 ≤ L) (hcl : cl + 5 ≤ 601024) (hsl : sl + 30 ≤ 7293000) {Pp Sp Yp Mp : St} {Bi : Nat → Nat → Int32} {Bl : Nat → Nat → Int64} {Bj : Nat → Nat → Nat → Int32} {Bk : Nat → Nat → Nat → Int64} {oF : Nat → Int64} (hI : INV Pp Sp Yp Mp Bi Bl Bk) (kk : ∀ (P1 S1 Y1 M1 : St) (Bi1 : Nat → Nat → Int32) (Bl1 : Nat → Nat → Int64) (Bj1 : Nat → Nat → Nat → Int32) (Bk1 : Nat → Nat → Nat → Int64) (oF1 : Nat → Int64) (H : Heap) (locs : List Loc), va_P D ncl (([(oA, .inl (cA 1, 1, .inr (.inl oF1)))]) ++ (w_P a cA P1.1 P1.2.1 P1.2.2.1 P1.2.2.2 bd) ++ (w_S sb cA S1.1 S1.2.1 S1.2.2.1 S1.2.2.2) ++ (w_Y yA cA Y1.1 Y1.2.1 Y1.2.2.1 Y1.2.2.2) ++ (w_M am cA M1.1 M1.2.1 M1.2.2.1 M1.2.2.2) ++ (w_B (bb 0) cA (Bi1 0) (Bl1 0) (Bj1 0) (Bk1 0)) ++ (w_B (bb 1) cA (Bi1 1) (Bl1 1) (Bj1 1) (Bk1 1)) ++ (w_B (bb 2) cA (Bi1 2) (Bl1 2) (Bj1 2) (Bk1 2)) ++ (w_B (bb 3) cA (Bi1 3) (Bl1 3) (Bj1 3) (Bk1 3))) H → va_D (fun q => s.heap.size ≤ q) (([(oA, .inl (cA 1, 1, .inr (.inl oF1)))]) ++ (w_P a cA P1.1 P1.2.1 P1.2.2.1 P1.2.2.2 bd) ++ (w_S sb cA S1.1 S1.2.1 S1.2.2.1 S1.2.2.2) ++ (w_Y yA cA Y1.1 Y1.2.1 Y1.2.2.1 Y1.2.2.2) ++ (w_M am cA M1.1 M1.2.1 M1.2.2.1 M1.2.2.2) ++ (w_B (bb 0) cA (Bi1 0) (Bl1 0) (Bj1 0) (Bk1 0)) ++ (w_B (bb 1) cA (Bi1 1) (Bl1 1) (Bj1 1) (Bk1 1)) ++ (w_B (bb 2) cA (Bi1 2) (Bl1 2) (Bj1 2) (Bk1 2)) ++ (w_B (bb 3) cA (Bi1 3) (Bl1 3) (Bj1 3) (Bk1 3))) → va_S (fun q => s.heap.size ≤ q) s.heap H locs → INV P1 S1 Y1 M1 Bi1 Bl1 Bk1 → ∀ ls : Array Slot, lv_has ls 8 [(0, .ref b), (1, .ref (a 0)), (2, .ref (am 0)), (3, .ref oA), (4, .int (nI i))] → W p l e room_1 s m #[Value.ref b] below meth c H locs (cl + 5) (sl + 30) Q (F0 m 1460 ls [])) {H : Heap} {locs : List Loc} (hP : va_P D ncl (([(oA, .inl (cA 1, 1, .inr (.inl oF)))]) ++ (w_P a cA Pp.1 Pp.2.1 Pp.2.2.1 Pp.2.2.2 bd) ++ (w_S sb cA Sp.1 Sp.2.1 Sp.2.2.1 Sp.2.2.2) ++ (w_Y yA cA Yp.1 Yp.2.1 Yp.2.2.1 Yp.2.2.2) ++ (w_M am cA Mp.1 Mp.2.1 Mp.2.2.1 Mp.2.2.2) ++ (w_B (bb 0) cA (Bi 0) (Bl 0) (Bj 0) (Bk 0)) ++ (w_B (bb 1) cA (Bi 1) (Bl 1) (Bj 1) (Bk 1)) ++ (w_B (bb 2) cA (Bi 2) (Bl 2) (Bj 2) (Bk 2)) ++ (w_B (bb 3) cA (Bi 3) (Bl 3) (Bj 3) (Bk 3))) H) (hD : va_D (fun q => s.heap.size ≤ q) (([(oA, .inl (cA 1, 1, .inr (.inl oF)))]) ++ (w_P a cA Pp.1 Pp.2.1 Pp.2.2.1 Pp.2.2.2 bd) ++ (w_S sb cA Sp.1 Sp.2.1 Sp.2.2.1 Sp.2.2.2) ++ (w_Y yA cA Yp.1 Yp.2.1 Yp.2.2.1 Yp.2.2.2) ++ (w_M am cA Mp.1 Mp.2.1 Mp.2.2.1 Mp.2.2.2) ++ (w_B (bb 0) cA (Bi 0) (Bl 0) (Bj 0) (Bk 0)) ++ (w_B (bb 1) cA (Bi 1) (Bl 1) (Bj 1) (Bk 1)) ++ (w_B (bb 2) cA (Bi 2) (Bl 2) (Bj 2) (Bk 2)) ++ (w_B (bb 3) cA (Bi 3) (Bl 3) (Bj 3) (Bk 3)))) (hS : va_S (fun q => s.heap.size ≤ q) s.heap H locs) {ls : Array Slot} (hl : lv_has ls 8 [(0, .ref b), (1, .ref (a 0)), (2, .ref (am 0)), (3, .ref oA), (4, .int (nI i))]) : W p l e room_1 s m #[Value.ref b] below meth c H locs cl sl Q (F0 m 1149 ls []) := by
  have hA : ∀ q, s.heap.size ≤ q → (fun q => s.heap.size ≤ q) q := fun _ h => h
  have hlo : ∀ q, (fun q => s.heap.size ≤ q) q → s.heap.size ≤ q := fun _ h => h
  have hbA : ¬ (fun q : Nat => s.heap.size ≤ q) b := Nat.not_le.mpr hbl
  obtain ⟨w, h, nb, g, l0, y0, g0, r, nc, np, wt, X, Y, rw, bf, i1, i2, i3, i4, i5, i6, i7, i8, i9, i10, i11⟩ := id hI
  have hnb4 := i2.2.2
  refine lv_aload_n hx hb d_L_law_1149 rfl (lv_at hl 1 rfl) ?_
  refine lv_aload_n hx hb d_L_law_1150 rfl (lv_at hl 0 rfl) ?_
  refine lv_iload hx hb d_L_law_1151 (lv_at hl 4 rfl) ?_
  refine lv_iconst (v := 1) hx hb d_L_law_1153 (by decide) ?_
  refine lv_iadd hx hb d_L_law_1154 ?_
  refine lv_topi (fun z1 ez1 => ?_)
  obtain rfl : z1 = (nI (i + 1)) := by rw [ez1]; exact nI_add i 1
  refine va_sld hx hb hX hbl hbA hS (vp_in_nI (n := i + 1) (N := L) (by omega) (by omega)) d_L_law_1155 ?_
  refine lv_topi (fun z2 ez2 => ?_)
  rw [nI_clamp (n := i + 1) (by omega)] at ez2
  obtain rfl : z2 = xs (i + 1) := ez2
  refine lv_aload_n hx hb d_L_law_1156 rfl (lv_at hl 0 rfl) ?_
  refine lv_iload hx hb d_L_law_1157 (lv_at hl 4 rfl) ?_
  refine lv_iconst (v := 2) hx hb d_L_law_1159 (by decide) ?_
  refine lv_iadd hx hb d_L_law_1160 ?_
  refine lv_topi (fun z3 ez3 => ?_)
  obtain rfl : z3 = (nI (i + 2)) := by rw [ez3]; exact nI_add i 2
  refine va_sld hx hb hX hbl hbA hS (vp_in_nI (n := i + 2) (N := L) (by omega) (by omega)) d_L_law_1161 ?_
  refine lv_topi (fun z4 ez4 => ?_)
  rw [nI_clamp (n := i + 2) (by omega)] at ez4
  obtain rfl : z4 = xs (i + 2) := ez4
  by_cases hz : (xs (i + 2)) = 0
  · refine lv_if_eq (tgt := 1169) hx hb d_L_law_1162 (by decide) (fun _ => ?_) (fun k5 => by first | exact absurd hz k5 | exact absurd k5 hz)
    refine lv_iconst (v := 0) hx hb d_L_law_1169 (by decide) ?_
    refine lv_aload_n hx hb d_L_law_1170 rfl (lv_at hl 3 rfl) ?_
    have hpm : List.Perm (([(oA, .inl (cA 1, 1, .inr (.inl oF)))]) ++ (w_P a cA Pp.1 Pp.2.1 Pp.2.2.1 Pp.2.2.2 bd) ++ (w_S sb cA Sp.1 Sp.2.1 Sp.2.2.1 Sp.2.2.2) ++ (w_Y yA cA Yp.1 Yp.2.1 Yp.2.2.1 Yp.2.2.2) ++ (w_M am cA Mp.1 Mp.2.1 Mp.2.2.1 Mp.2.2.2) ++ (w_B (bb 0) cA (Bi 0) (Bl 0) (Bj 0) (Bk 0)) ++ (w_B (bb 1) cA (Bi 1) (Bl 1) (Bj 1) (Bk 1)) ++ (w_B (bb 2) cA (Bi 2) (Bl 2) (Bj 2) (Bk 2)) ++ (w_B (bb 3) cA (Bi 3) (Bl 3) (Bj 3) (Bk 3))) (((w_P a cA Pp.1 Pp.2.1 Pp.2.2.1 Pp.2.2.2 bd) ++ (w_Y yA cA Yp.1 Yp.2.1 Yp.2.2.1 Yp.2.2.2) ++ ([(oA, .inl (cA 1, 1, .inr (.inl oF)))])) ++ ((w_S sb cA Sp.1 Sp.2.1 Sp.2.2.1 Sp.2.2.2) ++ (w_M am cA Mp.1 Mp.2.1 Mp.2.2.1 Mp.2.2.2) ++ (w_B (bb 0) cA (Bi 0) (Bl 0) (Bj 0) (Bk 0)) ++ (w_B (bb 1) cA (Bi 1) (Bl 1) (Bj 1) (Bk 1)) ++ (w_B (bb 2) cA (Bi 2) (Bl 2) (Bj 2) (Bk 2)) ++ (w_B (bb 3) cA (Bi 3) (Bl 3) (Bj 3) (Bk 3)))) := by simp only [List.append_assoc]; exact ((List.perm_append_comm_assoc _ _ _).trans (List.Perm.append_left _ ((List.Perm.append_left _ (List.perm_append_comm_assoc _ _ _)).trans (List.perm_append_comm_assoc _ _ _))))
    have hP := vP_perm hpm hP
    have hD := vD_perm hpm hD
    clear hpm
    refine pt_calli (wt_runSW (rest := []) hx hb hml hown hl.1 hg hlo (vP_l hP) (vD_l hD) hS (m_L_bad Z N9 a Pp.1 Pp.2.1 Pp.2.2.1 Pp.2.2.2 bd yA Yp.1 Yp.2.1 Yp.2.2.1 Yp.2.2.2 hya l0 y0 g0 rw bf i9.1 i9.2.1 (xs (i + 1)) 0 (Or.inl rfl) oA oF H.size) (kw574 Z.1) (kw575 Z.1) (kw576 Z.1) (kw0 Z.1) ⟨by decide, by decide, (by decide +kernel : (parseMethodDescriptor y_L_bad.desc).map (fun d => d.parameters.length) = some 4)⟩ ⟨(Nat.le_of_ble_eq_true rfl), (Nat.le_of_ble_eq_true rfl)⟩ [0, 1, 2, 3, 4, 5, 6, 7, 8, 9, 10, 11, 12, 13, 14, 15] rfl rfl rfl (Nat.le_of_ble_eq_true rfl) d_L_law_1171 ⟨by show cl + 1 ≤ 601024; omega, by show sl + 6 ≤ 7293000; omega⟩) hP hD hS hA (fun kx u9 H locs hq hP hD hS => ?_)
    refine W.widen (k := cl + 5) (n := sl + 30) (by show cl + 1 ≤ cl + 5; omega) (by show sl + 6 ≤ sl + 30; omega) ?_
    have hP : va_P D ncl (((w_P a cA Pp.1 Pp.2.1 Pp.2.2.1 Pp.2.2.2 bd) ++ (w_Y yA cA Yp.1 Yp.2.1 u9.1 Yp.2.2.2) ++ ([(oA, .inl (cA 1, 1, .inr (.inl u9.2)))])) ++ ((w_S sb cA Sp.1 Sp.2.1 Sp.2.2.1 Sp.2.2.2) ++ (w_M am cA Mp.1 Mp.2.1 Mp.2.2.1 Mp.2.2.2) ++ (w_B (bb 0) cA (Bi 0) (Bl 0) (Bj 0) (Bk 0)) ++ (w_B (bb 1) cA (Bi 1) (Bl 1) (Bj 1) (Bk 1)) ++ (w_B (bb 2) cA (Bi 2) (Bl 2) (Bj 2) (Bk 2)) ++ (w_B (bb 3) cA (Bi 3) (Bl 3) (Bj 3) (Bk 3)))) H := hP
    have hD : va_D (fun q => s.heap.size ≤ q) (((w_P a cA Pp.1 Pp.2.1 Pp.2.2.1 Pp.2.2.2 bd) ++ (w_Y yA cA Yp.1 Yp.2.1 u9.1 Yp.2.2.2) ++ ([(oA, .inl (cA 1, 1, .inr (.inl u9.2)))])) ++ ((w_S sb cA Sp.1 Sp.2.1 Sp.2.2.1 Sp.2.2.2) ++ (w_M am cA Mp.1 Mp.2.1 Mp.2.2.1 Mp.2.2.2) ++ (w_B (bb 0) cA (Bi 0) (Bl 0) (Bj 0) (Bk 0)) ++ (w_B (bb 1) cA (Bi 1) (Bl 1) (Bj 1) (Bk 1)) ++ (w_B (bb 2) cA (Bi 2) (Bl 2) (Bj 2) (Bk 2)) ++ (w_B (bb 3) cA (Bi 3) (Bl 3) (Bj 3) (Bk 3)))) := hD
    refine lv_istore (lv' := [(5, .int kx), (0, .ref b), (1, .ref (a 0)), (2, .ref (am 0)), (3, .ref oA), (4, .int (nI i))]) hx hb d_L_law_1174 hl (by decide) rfl (fun ls hl => ?_)
    refine lv_aload_n hx hb d_L_law_1176 rfl (lv_at hl 3 rfl) ?_
    refine lv_aload_n hx hb d_L_law_1177 rfl (lv_at hl 1 rfl) ?_
    refine lv_iload hx hb d_L_law_1178 (lv_at hl 5 rfl) ?_
    refine lv_iconst (v := 1) hx hb d_L_law_1180 (by decide) ?_
    refine lv_iadd hx hb d_L_law_1181 ?_
    refine lv_topi (fun z6 ez6 => ?_)
    obtain rfl : z6 = (nI (i + 1)) := by rw [ez6]; exact nI_add i 1
    refine va_sld hx hb hX hbl hbA hS (vp_in_nI (n := i + 1) (N := L) (by omega) (by omega)) d_L_law_1182 ?_
    refine lv_topi (fun z7 ez7 => ?_)
    rw [nI_clamp (n := i + 1) (by omega)] at ez7
    obtain rfl : z7 = xs (i + 1) := ez7
    refine lv_aload_n hx hb d_L_law_1183 rfl (lv_at hl 1 rfl) ?_
    refine lv_iload hx hb d_L_law_1184 (lv_at hl 5 rfl) ?_
    refine lv_iconst (v := 2) hx hb d_L_law_1186 (by decide) ?_
    refine lv_iadd hx hb d_L_law_1187 ?_
    refine lv_topi (fun z8 ez8 => ?_)
    obtain rfl : z8 = (nI (i + 2)) := by rw [ez8]; exact nI_add i 2
    refine va_sld hx hb hX hbl hbA hS (vp_in_nI (n := i + 2) (N := L) (by omega) (by omega)) d_L_law_1188 ?_
    refine lv_topi (fun z9 ez9 => ?_)
    rw [nI_clamp (n := i + 2) (by omega)] at ez9
    obtain rfl : z9 = xs (i + 2) := ez9
    refine lv_if_eq (tgt := 1196) hx hb d_L_law_1189 (by decide) (fun _ => ?_) (fun k10 => by first | exact absurd hz k10 | exact absurd k10 hz)
    refine lv_iconst (v := 0) hx hb d_L_law_1196 (by decide) ?_
    have hpm : List.Perm (((w_P a cA Pp.1 Pp.2.1 Pp.2.2.1 Pp.2.2.2 bd) ++ (w_Y yA cA Yp.1 Yp.2.1 u9.1 Yp.2.2.2) ++ ([(oA, .inl (cA 1, 1, .inr (.inl u9.2)))])) ++ ((w_S sb cA Sp.1 Sp.2.1 Sp.2.2.1 Sp.2.2.2) ++ (w_M am cA Mp.1 Mp.2.1 Mp.2.2.1 Mp.2.2.2) ++ (w_B (bb 0) cA (Bi 0) (Bl 0) (Bj 0) (Bk 0)) ++ (w_B (bb 1) cA (Bi 1) (Bl 1) (Bj 1) (Bk 1)) ++ (w_B (bb 2) cA (Bi 2) (Bl 2) (Bj 2) (Bk 2)) ++ (w_B (bb 3) cA (Bi 3) (Bl 3) (Bj 3) (Bk 3)))) (((w_M am cA Mp.1 Mp.2.1 Mp.2.2.1 Mp.2.2.2)) ++ ((w_P a cA Pp.1 Pp.2.1 Pp.2.2.1 Pp.2.2.2 bd) ++ (w_Y yA cA Yp.1 Yp.2.1 u9.1 Yp.2.2.2) ++ ([(oA, .inl (cA 1, 1, .inr (.inl u9.2)))]) ++ (w_S sb cA Sp.1 Sp.2.1 Sp.2.2.1 Sp.2.2.2) ++ (w_B (bb 0) cA (Bi 0) (Bl 0) (Bj 0) (Bk 0)) ++ (w_B (bb 1) cA (Bi 1) (Bl 1) (Bj 1) (Bk 1)) ++ (w_B (bb 2) cA (Bi 2) (Bl 2) (Bj 2) (Bk 2)) ++ (w_B (bb 3) cA (Bi 3) (Bl 3) (Bj 3) (Bk 3)))) := by simp only [List.append_assoc]; exact ((List.Perm.append_left _ ((List.Perm.append_left _ ((List.Perm.append_left _ (List.perm_append_comm_assoc _ _ _)).trans (List.perm_append_comm_assoc _ _ _))).trans (List.perm_append_comm_assoc _ _ _))).trans (List.perm_append_comm_assoc _ _ _))
    have hP := vP_perm hpm hP
    have hD := vD_perm hpm hD
    clear hpm
    refine p_calli (w_runV (rest := []) hx hb hml hown hl.1 hg hlo hK (vP_l hP) (vD_l hD) hS (m_M_bad Z am Mp.1 Mp.2.1 Mp.2.2.1 Mp.2.2.2 (xs (i + 1)) 0 (Or.inl rfl) (ly_n rw) (iL_13 i9) (n200 i9.2.1) H.size) (kw826 Z.1) (kw827 Z.1) (kw828 Z.1) (kw829 Z.1) (kw6 Z.1) ⟨by decide, by decide, (by decide +kernel : (parseMethodDescriptor y_M_bad.desc).map (fun d => d.parameters.length) = some 2)⟩ ⟨(Nat.le_of_ble_eq_true rfl), (Nat.le_of_ble_eq_true rfl)⟩ [0, 1, 2, 3, 4, 5, 6, 7, 8, 9, 10, 11, 12, 13, 14, 15, 16] rfl rfl (ci := 1) (q0 := 0) rfl rfl rfl (Nat.le_of_ble_eq_true rfl) d_L_law_1197 ⟨by show cl + 5 + 0 ≤ 601024; omega, by show sl + 30 + 0 ≤ 7293000; omega⟩) hP hD hS hA (fun rm um H locs hm hP hD hS => ?_)
    refine W.widen (k := cl + 5) (n := sl + 30) (by show cl + 5 + 0 ≤ cl + 5; omega) (by show sl + 30 + 0 ≤ sl + 30; omega) ?_
    have hP : va_P D ncl (((w_M am cA um.1 um.2.1 um.2.2.1 um.2.2.2)) ++ ((w_P a cA Pp.1 Pp.2.1 Pp.2.2.1 Pp.2.2.2 bd) ++ (w_Y yA cA Yp.1 Yp.2.1 u9.1 Yp.2.2.2) ++ ([(oA, .inl (cA 1, 1, .inr (.inl u9.2)))]) ++ (w_S sb cA Sp.1 Sp.2.1 Sp.2.2.1 Sp.2.2.2) ++ (w_B (bb 0) cA (Bi 0) (Bl 0) (Bj 0) (Bk 0)) ++ (w_B (bb 1) cA (Bi 1) (Bl 1) (Bj 1) (Bk 1)) ++ (w_B (bb 2) cA (Bi 2) (Bl 2) (Bj 2) (Bk 2)) ++ (w_B (bb 3) cA (Bi 3) (Bl 3) (Bj 3) (Bk 3)))) H := hP
    have hD : va_D (fun q => s.heap.size ≤ q) (((w_M am cA um.1 um.2.1 um.2.2.1 um.2.2.2)) ++ ((w_P a cA Pp.1 Pp.2.1 Pp.2.2.1 Pp.2.2.2 bd) ++ (w_Y yA cA Yp.1 Yp.2.1 u9.1 Yp.2.2.2) ++ ([(oA, .inl (cA 1, 1, .inr (.inl u9.2)))]) ++ (w_S sb cA Sp.1 Sp.2.1 Sp.2.2.1 Sp.2.2.2) ++ (w_B (bb 0) cA (Bi 0) (Bl 0) (Bj 0) (Bk 0)) ++ (w_B (bb 1) cA (Bi 1) (Bl 1) (Bj 1) (Bk 1)) ++ (w_B (bb 2) cA (Bi 2) (Bl 2) (Bj 2) (Bk 2)) ++ (w_B (bb 3) cA (Bi 3) (Bl 3) (Bj 3) (Bk 3)))) := hD
    obtain ⟨t1, t2, t3⟩ := tie_bad (oF := oF) hI i9 (Or.inl rfl) hq hm
    refine lv_istore (lv' := [(6, .int rm), (5, .int kx), (0, .ref b), (1, .ref (a 0)), (2, .ref (am 0)), (3, .ref oA), (4, .int (nI i))]) hx hb d_L_law_1200 hl (by decide) rfl (fun ls hl => ?_)
    refine lv_aload_n hx hb d_L_law_1202 rfl (lv_at hl 4 rfl) ?_
    refine p_calli (w_runV (rest := []) hx hb hml hown hl.1 hg hlo hK (vP_l hP) (vD_l hD) hS (m_M_thrown Z am um.1 um.2.1 um.2.2.1 um.2.2.2 H.size) (kw683 Z.1) (kw684 Z.1) (kw685 Z.1) (kw686 Z.1) (kw6 Z.1) ⟨by decide, by decide, (by decide +kernel : (parseMethodDescriptor y_M_thrown.desc).map (fun d => d.parameters.length) = some 0)⟩ ⟨(Nat.le_of_ble_eq_true rfl), (Nat.le_of_ble_eq_true rfl)⟩ [0, 1, 2, 3, 4, 5, 6, 7, 8, 9, 10, 11, 12, 13, 14, 15, 16] rfl rfl (ci := 1) (q0 := 0) rfl rfl rfl (Nat.le_of_ble_eq_true rfl) d_L_law_1203 ⟨by show cl + 5 + 0 ≤ 601024; omega, by show sl + 30 + 0 ≤ 7293000; omega⟩) hP hD hS hA (fun rt ut H locs hrt hP hD hS => ?_)
    refine W.widen (k := cl + 5) (n := sl + 30) (by show cl + 5 + 0 ≤ cl + 5; omega) (by show sl + 30 + 0 ≤ sl + 30; omega) ?_
    have hP : va_P D ncl (((w_M am cA um.1 um.2.1 um.2.2.1 um.2.2.2)) ++ ((w_P a cA Pp.1 Pp.2.1 Pp.2.2.1 Pp.2.2.2 bd) ++ (w_Y yA cA Yp.1 Yp.2.1 u9.1 Yp.2.2.2) ++ ([(oA, .inl (cA 1, 1, .inr (.inl u9.2)))]) ++ (w_S sb cA Sp.1 Sp.2.1 Sp.2.2.1 Sp.2.2.2) ++ (w_B (bb 0) cA (Bi 0) (Bl 0) (Bj 0) (Bk 0)) ++ (w_B (bb 1) cA (Bi 1) (Bl 1) (Bj 1) (Bk 1)) ++ (w_B (bb 2) cA (Bi 2) (Bl 2) (Bj 2) (Bk 2)) ++ (w_B (bb 3) cA (Bi 3) (Bl 3) (Bj 3) (Bk 3)))) H := hP
    have hD : va_D (fun q => s.heap.size ≤ q) (((w_M am cA um.1 um.2.1 um.2.2.1 um.2.2.2)) ++ ((w_P a cA Pp.1 Pp.2.1 Pp.2.2.1 Pp.2.2.2 bd) ++ (w_Y yA cA Yp.1 Yp.2.1 u9.1 Yp.2.2.2) ++ ([(oA, .inl (cA 1, 1, .inr (.inl u9.2)))]) ++ (w_S sb cA Sp.1 Sp.2.1 Sp.2.2.1 Sp.2.2.2) ++ (w_B (bb 0) cA (Bi 0) (Bl 0) (Bj 0) (Bk 0)) ++ (w_B (bb 1) cA (Bi 1) (Bl 1) (Bj 1) (Bk 1)) ++ (w_B (bb 2) cA (Bi 2) (Bl 2) (Bj 2) (Bk 2)) ++ (w_B (bb 3) cA (Bi 3) (Bl 3) (Bj 3) (Bk 3)))) := hD
    subst hrt
    refine lv_iload hx hb d_L_law_1206 (lv_at hl 1 rfl) ?_
    refine lv_icmp_eq (tgt := 1213) hx hb d_L_law_1208 (by decide) (fun _ => ?_) (fun k11 => by first | exact absurd (show um.1 0 = kx from t1) k11 | exact absurd k11 (show um.1 0 = kx from t1))
    refine lv_iload hx hb d_L_law_1213 (lv_at hl 1 rfl) ?_
    have hpm : List.Perm (((w_M am cA um.1 um.2.1 um.2.2.1 um.2.2.2)) ++ ((w_P a cA Pp.1 Pp.2.1 Pp.2.2.1 Pp.2.2.2 bd) ++ (w_Y yA cA Yp.1 Yp.2.1 u9.1 Yp.2.2.2) ++ ([(oA, .inl (cA 1, 1, .inr (.inl u9.2)))]) ++ (w_S sb cA Sp.1 Sp.2.1 Sp.2.2.1 Sp.2.2.2) ++ (w_B (bb 0) cA (Bi 0) (Bl 0) (Bj 0) (Bk 0)) ++ (w_B (bb 1) cA (Bi 1) (Bl 1) (Bj 1) (Bk 1)) ++ (w_B (bb 2) cA (Bi 2) (Bl 2) (Bj 2) (Bk 2)) ++ (w_B (bb 3) cA (Bi 3) (Bl 3) (Bj 3) (Bk 3)))) (([(oA, .inl (cA 1, 1, .inr (.inl u9.2)))]) ++ (w_P a cA Pp.1 Pp.2.1 Pp.2.2.1 Pp.2.2.2 bd) ++ (w_S sb cA Sp.1 Sp.2.1 Sp.2.2.1 Sp.2.2.2) ++ (w_Y yA cA Yp.1 Yp.2.1 u9.1 Yp.2.2.2) ++ (w_M am cA um.1 um.2.1 um.2.2.1 um.2.2.2) ++ (w_B (bb 0) cA (Bi 0) (Bl 0) (Bj 0) (Bk 0)) ++ (w_B (bb 1) cA (Bi 1) (Bl 1) (Bj 1) (Bk 1)) ++ (w_B (bb 2) cA (Bi 2) (Bl 2) (Bj 2) (Bk 2)) ++ (w_B (bb 3) cA (Bi 3) (Bl 3) (Bj 3) (Bk 3))) := by simp only [List.append_assoc]; exact (((List.Perm.append_left _ ((List.Perm.append_left _ (List.perm_append_comm_assoc _ _ _)).trans (List.perm_append_comm_assoc _ _ _))).trans (List.perm_append_comm_assoc _ _ _)).trans (List.Perm.append_left _ ((List.perm_append_comm_assoc _ _ _).trans (List.Perm.append_left _ (((List.Perm.append_left _ (List.perm_append_comm_assoc _ _ _)).trans (List.perm_append_comm_assoc _ _ _)).trans (List.Perm.append_left _ (List.perm_append_comm_assoc _ _ _)))))))
    have hP := vP_perm hpm hP
    have hD := vD_perm hpm hD
    clear hpm
    refine lv_if_ne (tgt := 1237) hx hb d_L_law_1215 (by decide) (fun d12 => ?_) (fun d12 => ?_)
    · refine lv_goto (tgt := 1460) hx hb d_L_law_1237 (by decide) ?_
      exact kk Pp Sp (Yp.1, Yp.2.1, u9.1, Yp.2.2.2) um Bi Bl Bj Bk u9.2 _ _ hP hD hS t3 ls (lv_sub hl [2, 3, 4, 5, 6] rfl)
    · have t4 := t2 (show kx = 0 from d12)
      refine lv_aload_n hx hb d_L_law_1218 rfl (lv_at hl 5 rfl) ?_
      refine lv_iconst (v := 0) hx hb d_L_law_1219 (by decide) ?_
      refine va_lald hx hb hK hP 0 1 rfl rfl (by unfold vp_in; decide) d_L_law_1220 ?_
      refine lv_topl (fun z13 ez13 => ?_)
      obtain rfl : z13 = (u9.2 0) := by rw [ez13]; rfl
      refine lv_iload hx hb d_L_law_1221 (lv_at hl 0 rfl) ?_
      refine lv_if_eq (tgt := 1230) hx hb d_L_law_1223 (by decide) (fun f14 => ?_) (fun f14 => ?_)
      · refine lv_lconst (v := 0) hx hb d_L_law_1230 (by decide) ?_
        refine W.lcmp hx hb d_L_law_1231 ?_
        refine lv_if_eq (tgt := 1237) hx hb d_L_law_1232 (by decide) (fun _ => ?_) (fun k15 => by first | exact absurd ((lg_cmp_eq _ _).mpr (t4.trans (if_pos f14))) k15 | exact absurd k15 ((lg_cmp_eq _ _).mpr (t4.trans (if_pos f14))))
        refine lv_goto (tgt := 1460) hx hb d_L_law_1237 (by decide) ?_
        exact kk Pp Sp (Yp.1, Yp.2.1, u9.1, Yp.2.2.2) um Bi Bl Bj Bk u9.2 _ _ hP hD hS t3 ls (lv_sub hl [2, 3, 4, 5, 6] rfl)
      · refine lv_lconst (v := 1) hx hb d_L_law_1226 (by decide) ?_
        refine lv_goto (tgt := 1231) hx hb d_L_law_1227 (by decide) ?_
        refine W.lcmp hx hb d_L_law_1231 ?_
        refine lv_if_eq (tgt := 1237) hx hb d_L_law_1232 (by decide) (fun _ => ?_) (fun k16 => by first | exact absurd ((lg_cmp_eq _ _).mpr (t4.trans (if_neg f14))) k16 | exact absurd k16 ((lg_cmp_eq _ _).mpr (t4.trans (if_neg f14))))
        refine lv_goto (tgt := 1460) hx hb d_L_law_1237 (by decide) ?_
        exact kk Pp Sp (Yp.1, Yp.2.1, u9.1, Yp.2.2.2) um Bi Bl Bj Bk u9.2 _ _ hP hD hS t3 ls (lv_sub hl [2, 3, 4, 5, 6] rfl)
  · refine lv_if_eq (tgt := 1169) hx hb d_L_law_1162 (by decide) (fun k17 => by first | exact absurd hz k17 | exact absurd k17 hz) (fun _ => ?_)
    refine lv_iconst (v := 1) hx hb d_L_law_1165 (by decide) ?_
    refine lv_goto (tgt := 1170) hx hb d_L_law_1166 (by decide) ?_
    refine lv_aload_n hx hb d_L_law_1170 rfl (lv_at hl 3 rfl) ?_
    have hpm : List.Perm (([(oA, .inl (cA 1, 1, .inr (.inl oF)))]) ++ (w_P a cA Pp.1 Pp.2.1 Pp.2.2.1 Pp.2.2.2 bd) ++ (w_S sb cA Sp.1 Sp.2.1 Sp.2.2.1 Sp.2.2.2) ++ (w_Y yA cA Yp.1 Yp.2.1 Yp.2.2.1 Yp.2.2.2) ++ (w_M am cA Mp.1 Mp.2.1 Mp.2.2.1 Mp.2.2.2) ++ (w_B (bb 0) cA (Bi 0) (Bl 0) (Bj 0) (Bk 0)) ++ (w_B (bb 1) cA (Bi 1) (Bl 1) (Bj 1) (Bk 1)) ++ (w_B (bb 2) cA (Bi 2) (Bl 2) (Bj 2) (Bk 2)) ++ (w_B (bb 3) cA (Bi 3) (Bl 3) (Bj 3) (Bk 3))) (((w_P a cA Pp.1 Pp.2.1 Pp.2.2.1 Pp.2.2.2 bd) ++ (w_Y yA cA Yp.1 Yp.2.1 Yp.2.2.1 Yp.2.2.2) ++ ([(oA, .inl (cA 1, 1, .inr (.inl oF)))])) ++ ((w_S sb cA Sp.1 Sp.2.1 Sp.2.2.1 Sp.2.2.2) ++ (w_M am cA Mp.1 Mp.2.1 Mp.2.2.1 Mp.2.2.2) ++ (w_B (bb 0) cA (Bi 0) (Bl 0) (Bj 0) (Bk 0)) ++ (w_B (bb 1) cA (Bi 1) (Bl 1) (Bj 1) (Bk 1)) ++ (w_B (bb 2) cA (Bi 2) (Bl 2) (Bj 2) (Bk 2)) ++ (w_B (bb 3) cA (Bi 3) (Bl 3) (Bj 3) (Bk 3)))) := by simp only [List.append_assoc]; exact ((List.perm_append_comm_assoc _ _ _).trans (List.Perm.append_left _ ((List.Perm.append_left _ (List.perm_append_comm_assoc _ _ _)).trans (List.perm_append_comm_assoc _ _ _))))
    have hP := vP_perm hpm hP
    have hD := vD_perm hpm hD
    clear hpm
    refine pt_calli (wt_runSW (rest := []) hx hb hml hown hl.1 hg hlo (vP_l hP) (vD_l hD) hS (m_L_bad Z N9 a Pp.1 Pp.2.1 Pp.2.2.1 Pp.2.2.2 bd yA Yp.1 Yp.2.1 Yp.2.2.1 Yp.2.2.2 hya l0 y0 g0 rw bf i9.1 i9.2.1 (xs (i + 1)) 1 (Or.inr rfl) oA oF H.size) (kw574 Z.1) (kw575 Z.1) (kw576 Z.1) (kw0 Z.1) ⟨by decide, by decide, (by decide +kernel : (parseMethodDescriptor y_L_bad.desc).map (fun d => d.parameters.length) = some 4)⟩ ⟨(Nat.le_of_ble_eq_true rfl), (Nat.le_of_ble_eq_true rfl)⟩ [0, 1, 2, 3, 4, 5, 6, 7, 8, 9, 10, 11, 12, 13, 14, 15] rfl rfl rfl (Nat.le_of_ble_eq_true rfl) d_L_law_1171 ⟨by show cl + 1 ≤ 601024; omega, by show sl + 6 ≤ 7293000; omega⟩) hP hD hS hA (fun kx u9 H locs hq hP hD hS => ?_)
    refine W.widen (k := cl + 5) (n := sl + 30) (by show cl + 1 ≤ cl + 5; omega) (by show sl + 6 ≤ sl + 30; omega) ?_
    have hP : va_P D ncl (((w_P a cA Pp.1 Pp.2.1 Pp.2.2.1 Pp.2.2.2 bd) ++ (w_Y yA cA Yp.1 Yp.2.1 u9.1 Yp.2.2.2) ++ ([(oA, .inl (cA 1, 1, .inr (.inl u9.2)))])) ++ ((w_S sb cA Sp.1 Sp.2.1 Sp.2.2.1 Sp.2.2.2) ++ (w_M am cA Mp.1 Mp.2.1 Mp.2.2.1 Mp.2.2.2) ++ (w_B (bb 0) cA (Bi 0) (Bl 0) (Bj 0) (Bk 0)) ++ (w_B (bb 1) cA (Bi 1) (Bl 1) (Bj 1) (Bk 1)) ++ (w_B (bb 2) cA (Bi 2) (Bl 2) (Bj 2) (Bk 2)) ++ (w_B (bb 3) cA (Bi 3) (Bl 3) (Bj 3) (Bk 3)))) H := hP
    have hD : va_D (fun q => s.heap.size ≤ q) (((w_P a cA Pp.1 Pp.2.1 Pp.2.2.1 Pp.2.2.2 bd) ++ (w_Y yA cA Yp.1 Yp.2.1 u9.1 Yp.2.2.2) ++ ([(oA, .inl (cA 1, 1, .inr (.inl u9.2)))])) ++ ((w_S sb cA Sp.1 Sp.2.1 Sp.2.2.1 Sp.2.2.2) ++ (w_M am cA Mp.1 Mp.2.1 Mp.2.2.1 Mp.2.2.2) ++ (w_B (bb 0) cA (Bi 0) (Bl 0) (Bj 0) (Bk 0)) ++ (w_B (bb 1) cA (Bi 1) (Bl 1) (Bj 1) (Bk 1)) ++ (w_B (bb 2) cA (Bi 2) (Bl 2) (Bj 2) (Bk 2)) ++ (w_B (bb 3) cA (Bi 3) (Bl 3) (Bj 3) (Bk 3)))) := hD
    refine lv_istore (lv' := [(5, .int kx), (0, .ref b), (1, .ref (a 0)), (2, .ref (am 0)), (3, .ref oA), (4, .int (nI i))]) hx hb d_L_law_1174 hl (by decide) rfl (fun ls hl => ?_)
    refine lv_aload_n hx hb d_L_law_1176 rfl (lv_at hl 3 rfl) ?_
    refine lv_aload_n hx hb d_L_law_1177 rfl (lv_at hl 1 rfl) ?_
    refine lv_iload hx hb d_L_law_1178 (lv_at hl 5 rfl) ?_
    refine lv_iconst (v := 1) hx hb d_L_law_1180 (by decide) ?_
    refine lv_iadd hx hb d_L_law_1181 ?_
    refine lv_topi (fun z18 ez18 => ?_)
    obtain rfl : z18 = (nI (i + 1)) := by rw [ez18]; exact nI_add i 1
    refine va_sld hx hb hX hbl hbA hS (vp_in_nI (n := i + 1) (N := L) (by omega) (by omega)) d_L_law_1182 ?_
    refine lv_topi (fun z19 ez19 => ?_)
    rw [nI_clamp (n := i + 1) (by omega)] at ez19
    obtain rfl : z19 = xs (i + 1) := ez19
    refine lv_aload_n hx hb d_L_law_1183 rfl (lv_at hl 1 rfl) ?_
    refine lv_iload hx hb d_L_law_1184 (lv_at hl 5 rfl) ?_
    refine lv_iconst (v := 2) hx hb d_L_law_1186 (by decide) ?_
    refine lv_iadd hx hb d_L_law_1187 ?_
    refine lv_topi (fun z20 ez20 => ?_)
    obtain rfl : z20 = (nI (i + 2)) := by rw [ez20]; exact nI_add i 2
    refine va_sld hx hb hX hbl hbA hS (vp_in_nI (n := i + 2) (N := L) (by omega) (by omega)) d_L_law_1188 ?_
    refine lv_topi (fun z21 ez21 => ?_)
    rw [nI_clamp (n := i + 2) (by omega)] at ez21
    obtain rfl : z21 = xs (i + 2) := ez21
    refine lv_if_eq (tgt := 1196) hx hb d_L_law_1189 (by decide) (fun k22 => by first | exact absurd hz k22 | exact absurd k22 hz) (fun _ => ?_)
    refine lv_iconst (v := 1) hx hb d_L_law_1192 (by decide) ?_
    refine lv_goto (tgt := 1197) hx hb d_L_law_1193 (by decide) ?_
    have hpm : List.Perm (((w_P a cA Pp.1 Pp.2.1 Pp.2.2.1 Pp.2.2.2 bd) ++ (w_Y yA cA Yp.1 Yp.2.1 u9.1 Yp.2.2.2) ++ ([(oA, .inl (cA 1, 1, .inr (.inl u9.2)))])) ++ ((w_S sb cA Sp.1 Sp.2.1 Sp.2.2.1 Sp.2.2.2) ++ (w_M am cA Mp.1 Mp.2.1 Mp.2.2.1 Mp.2.2.2) ++ (w_B (bb 0) cA (Bi 0) (Bl 0) (Bj 0) (Bk 0)) ++ (w_B (bb 1) cA (Bi 1) (Bl 1) (Bj 1) (Bk 1)) ++ (w_B (bb 2) cA (Bi 2) (Bl 2) (Bj 2) (Bk 2)) ++ (w_B (bb 3) cA (Bi 3) (Bl 3) (Bj 3) (Bk 3)))) (((w_M am cA Mp.1 Mp.2.1 Mp.2.2.1 Mp.2.2.2)) ++ ((w_P a cA Pp.1 Pp.2.1 Pp.2.2.1 Pp.2.2.2 bd) ++ (w_Y yA cA Yp.1 Yp.2.1 u9.1 Yp.2.2.2) ++ ([(oA, .inl (cA 1, 1, .inr (.inl u9.2)))]) ++ (w_S sb cA Sp.1 Sp.2.1 Sp.2.2.1 Sp.2.2.2) ++ (w_B (bb 0) cA (Bi 0) (Bl 0) (Bj 0) (Bk 0)) ++ (w_B (bb 1) cA (Bi 1) (Bl 1) (Bj 1) (Bk 1)) ++ (w_B (bb 2) cA (Bi 2) (Bl 2) (Bj 2) (Bk 2)) ++ (w_B (bb 3) cA (Bi 3) (Bl 3) (Bj 3) (Bk 3)))) := by simp only [List.append_assoc]; exact ((List.Perm.append_left _ ((List.Perm.append_left _ ((List.Perm.append_left _ (List.perm_append_comm_assoc _ _ _)).trans (List.perm_append_comm_assoc _ _ _))).trans (List.perm_append_comm_assoc _ _ _))).trans (List.perm_append_comm_assoc _ _ _))
    have hP := vP_perm hpm hP
    have hD := vD_perm hpm hD
    clear hpm
    refine p_calli (w_runV (rest := []) hx hb hml hown hl.1 hg hlo hK (vP_l hP) (vD_l hD) hS (m_M_bad Z am Mp.1 Mp.2.1 Mp.2.2.1 Mp.2.2.2 (xs (i + 1)) 1 (Or.inr rfl) (ly_n rw) (iL_13 i9) (n200 i9.2.1) H.size) (kw826 Z.1) (kw827 Z.1) (kw828 Z.1) (kw829 Z.1) (kw6 Z.1) ⟨by decide, by decide, (by decide +kernel : (parseMethodDescriptor y_M_bad.desc).map (fun d => d.parameters.length) = some 2)⟩ ⟨(Nat.le_of_ble_eq_true rfl), (Nat.le_of_ble_eq_true rfl)⟩ [0, 1, 2, 3, 4, 5, 6, 7, 8, 9, 10, 11, 12, 13, 14, 15, 16] rfl rfl (ci := 1) (q0 := 0) rfl rfl rfl (Nat.le_of_ble_eq_true rfl) d_L_law_1197 ⟨by show cl + 5 + 0 ≤ 601024; omega, by show sl + 30 + 0 ≤ 7293000; omega⟩) hP hD hS hA (fun rm um H locs hm hP hD hS => ?_)
    refine W.widen (k := cl + 5) (n := sl + 30) (by show cl + 5 + 0 ≤ cl + 5; omega) (by show sl + 30 + 0 ≤ sl + 30; omega) ?_
    have hP : va_P D ncl (((w_M am cA um.1 um.2.1 um.2.2.1 um.2.2.2)) ++ ((w_P a cA Pp.1 Pp.2.1 Pp.2.2.1 Pp.2.2.2 bd) ++ (w_Y yA cA Yp.1 Yp.2.1 u9.1 Yp.2.2.2) ++ ([(oA, .inl (cA 1, 1, .inr (.inl u9.2)))]) ++ (w_S sb cA Sp.1 Sp.2.1 Sp.2.2.1 Sp.2.2.2) ++ (w_B (bb 0) cA (Bi 0) (Bl 0) (Bj 0) (Bk 0)) ++ (w_B (bb 1) cA (Bi 1) (Bl 1) (Bj 1) (Bk 1)) ++ (w_B (bb 2) cA (Bi 2) (Bl 2) (Bj 2) (Bk 2)) ++ (w_B (bb 3) cA (Bi 3) (Bl 3) (Bj 3) (Bk 3)))) H := hP
    have hD : va_D (fun q => s.heap.size ≤ q) (((w_M am cA um.1 um.2.1 um.2.2.1 um.2.2.2)) ++ ((w_P a cA Pp.1 Pp.2.1 Pp.2.2.1 Pp.2.2.2 bd) ++ (w_Y yA cA Yp.1 Yp.2.1 u9.1 Yp.2.2.2) ++ ([(oA, .inl (cA 1, 1, .inr (.inl u9.2)))]) ++ (w_S sb cA Sp.1 Sp.2.1 Sp.2.2.1 Sp.2.2.2) ++ (w_B (bb 0) cA (Bi 0) (Bl 0) (Bj 0) (Bk 0)) ++ (w_B (bb 1) cA (Bi 1) (Bl 1) (Bj 1) (Bk 1)) ++ (w_B (bb 2) cA (Bi 2) (Bl 2) (Bj 2) (Bk 2)) ++ (w_B (bb 3) cA (Bi 3) (Bl 3) (Bj 3) (Bk 3)))) := hD
    obtain ⟨t1, t2, t3⟩ := tie_bad (oF := oF) hI i9 (Or.inr rfl) hq hm
    refine lv_istore (lv' := [(6, .int rm), (5, .int kx), (0, .ref b), (1, .ref (a 0)), (2, .ref (am 0)), (3, .ref oA), (4, .int (nI i))]) hx hb d_L_law_1200 hl (by decide) rfl (fun ls hl => ?_)
    refine lv_aload_n hx hb d_L_law_1202 rfl (lv_at hl 4 rfl) ?_
    refine p_calli (w_runV (rest := []) hx hb hml hown hl.1 hg hlo hK (vP_l hP) (vD_l hD) hS (m_M_thrown Z am um.1 um.2.1 um.2.2.1 um.2.2.2 H.size) (kw683 Z.1) (kw684 Z.1) (kw685 Z.1) (kw686 Z.1) (kw6 Z.1) ⟨by decide, by decide, (by decide +kernel : (parseMethodDescriptor y_M_thrown.desc).map (fun d => d.parameters.length) = some 0)⟩ ⟨(Nat.le_of_ble_eq_true rfl), (Nat.le_of_ble_eq_true rfl)⟩ [0, 1, 2, 3, 4, 5, 6, 7, 8, 9, 10, 11, 12, 13, 14, 15, 16] rfl rfl (ci := 1) (q0 := 0) rfl rfl rfl (Nat.le_of_ble_eq_true rfl) d_L_law_1203 ⟨by show cl + 5 + 0 ≤ 601024; omega, by show sl + 30 + 0 ≤ 7293000; omega⟩) hP hD hS hA (fun rt ut H locs hrt hP hD hS => ?_)
    refine W.widen (k := cl + 5) (n := sl + 30) (by show cl + 5 + 0 ≤ cl + 5; omega) (by show sl + 30 + 0 ≤ sl + 30; omega) ?_
    have hP : va_P D ncl (((w_M am cA um.1 um.2.1 um.2.2.1 um.2.2.2)) ++ ((w_P a cA Pp.1 Pp.2.1 Pp.2.2.1 Pp.2.2.2 bd) ++ (w_Y yA cA Yp.1 Yp.2.1 u9.1 Yp.2.2.2) ++ ([(oA, .inl (cA 1, 1, .inr (.inl u9.2)))]) ++ (w_S sb cA Sp.1 Sp.2.1 Sp.2.2.1 Sp.2.2.2) ++ (w_B (bb 0) cA (Bi 0) (Bl 0) (Bj 0) (Bk 0)) ++ (w_B (bb 1) cA (Bi 1) (Bl 1) (Bj 1) (Bk 1)) ++ (w_B (bb 2) cA (Bi 2) (Bl 2) (Bj 2) (Bk 2)) ++ (w_B (bb 3) cA (Bi 3) (Bl 3) (Bj 3) (Bk 3)))) H := hP
    have hD : va_D (fun q => s.heap.size ≤ q) (((w_M am cA um.1 um.2.1 um.2.2.1 um.2.2.2)) ++ ((w_P a cA Pp.1 Pp.2.1 Pp.2.2.1 Pp.2.2.2 bd) ++ (w_Y yA cA Yp.1 Yp.2.1 u9.1 Yp.2.2.2) ++ ([(oA, .inl (cA 1, 1, .inr (.inl u9.2)))]) ++ (w_S sb cA Sp.1 Sp.2.1 Sp.2.2.1 Sp.2.2.2) ++ (w_B (bb 0) cA (Bi 0) (Bl 0) (Bj 0) (Bk 0)) ++ (w_B (bb 1) cA (Bi 1) (Bl 1) (Bj 1) (Bk 1)) ++ (w_B (bb 2) cA (Bi 2) (Bl 2) (Bj 2) (Bk 2)) ++ (w_B (bb 3) cA (Bi 3) (Bl 3) (Bj 3) (Bk 3)))) := hD
    subst hrt
    refine lv_iload hx hb d_L_law_1206 (lv_at hl 1 rfl) ?_
    refine lv_icmp_eq (tgt := 1213) hx hb d_L_law_1208 (by decide) (fun _ => ?_) (fun k23 => by first | exact absurd (show um.1 0 = kx from t1) k23 | exact absurd k23 (show um.1 0 = kx from t1))
    refine lv_iload hx hb d_L_law_1213 (lv_at hl 1 rfl) ?_
    have hpm : List.Perm (((w_M am cA um.1 um.2.1 um.2.2.1 um.2.2.2)) ++ ((w_P a cA Pp.1 Pp.2.1 Pp.2.2.1 Pp.2.2.2 bd) ++ (w_Y yA cA Yp.1 Yp.2.1 u9.1 Yp.2.2.2) ++ ([(oA, .inl (cA 1, 1, .inr (.inl u9.2)))]) ++ (w_S sb cA Sp.1 Sp.2.1 Sp.2.2.1 Sp.2.2.2) ++ (w_B (bb 0) cA (Bi 0) (Bl 0) (Bj 0) (Bk 0)) ++ (w_B (bb 1) cA (Bi 1) (Bl 1) (Bj 1) (Bk 1)) ++ (w_B (bb 2) cA (Bi 2) (Bl 2) (Bj 2) (Bk 2)) ++ (w_B (bb 3) cA (Bi 3) (Bl 3) (Bj 3) (Bk 3)))) (([(oA, .inl (cA 1, 1, .inr (.inl u9.2)))]) ++ (w_P a cA Pp.1 Pp.2.1 Pp.2.2.1 Pp.2.2.2 bd) ++ (w_S sb cA Sp.1 Sp.2.1 Sp.2.2.1 Sp.2.2.2) ++ (w_Y yA cA Yp.1 Yp.2.1 u9.1 Yp.2.2.2) ++ (w_M am cA um.1 um.2.1 um.2.2.1 um.2.2.2) ++ (w_B (bb 0) cA (Bi 0) (Bl 0) (Bj 0) (Bk 0)) ++ (w_B (bb 1) cA (Bi 1) (Bl 1) (Bj 1) (Bk 1)) ++ (w_B (bb 2) cA (Bi 2) (Bl 2) (Bj 2) (Bk 2)) ++ (w_B (bb 3) cA (Bi 3) (Bl 3) (Bj 3) (Bk 3))) := by simp only [List.append_assoc]; exact (((List.Perm.append_left _ ((List.Perm.append_left _ (List.perm_append_comm_assoc _ _ _)).trans (List.perm_append_comm_assoc _ _ _))).trans (List.perm_append_comm_assoc _ _ _)).trans (List.Perm.append_left _ ((List.perm_append_comm_assoc _ _ _).trans (List.Perm.append_left _ (((List.Perm.append_left _ (List.perm_append_comm_assoc _ _ _)).trans (List.perm_append_comm_assoc _ _ _)).trans (List.Perm.append_left _ (List.perm_append_comm_assoc _ _ _)))))))
    have hP := vP_perm hpm hP
    have hD := vD_perm hpm hD
    clear hpm
    refine lv_if_ne (tgt := 1237) hx hb d_L_law_1215 (by decide) (fun d24 => ?_) (fun d24 => ?_)
    · refine lv_goto (tgt := 1460) hx hb d_L_law_1237 (by decide) ?_
      exact kk Pp Sp (Yp.1, Yp.2.1, u9.1, Yp.2.2.2) um Bi Bl Bj Bk u9.2 _ _ hP hD hS t3 ls (lv_sub hl [2, 3, 4, 5, 6] rfl)
    · have t4 := t2 (show kx = 0 from d24)
      refine lv_aload_n hx hb d_L_law_1218 rfl (lv_at hl 5 rfl) ?_
      refine lv_iconst (v := 0) hx hb d_L_law_1219 (by decide) ?_
      refine va_lald hx hb hK hP 0 1 rfl rfl (by unfold vp_in; decide) d_L_law_1220 ?_
      refine lv_topl (fun z25 ez25 => ?_)
      obtain rfl : z25 = (u9.2 0) := by rw [ez25]; rfl
      refine lv_iload hx hb d_L_law_1221 (lv_at hl 0 rfl) ?_
      refine lv_if_eq (tgt := 1230) hx hb d_L_law_1223 (by decide) (fun f26 => ?_) (fun f26 => ?_)
      · refine lv_lconst (v := 0) hx hb d_L_law_1230 (by decide) ?_
        refine W.lcmp hx hb d_L_law_1231 ?_
        refine lv_if_eq (tgt := 1237) hx hb d_L_law_1232 (by decide) (fun _ => ?_) (fun k27 => by first | exact absurd ((lg_cmp_eq _ _).mpr (t4.trans (if_pos f26))) k27 | exact absurd k27 ((lg_cmp_eq _ _).mpr (t4.trans (if_pos f26))))
        refine lv_goto (tgt := 1460) hx hb d_L_law_1237 (by decide) ?_
        exact kk Pp Sp (Yp.1, Yp.2.1, u9.1, Yp.2.2.2) um Bi Bl Bj Bk u9.2 _ _ hP hD hS t3 ls (lv_sub hl [2, 3, 4, 5, 6] rfl)
      · refine lv_lconst (v := 1) hx hb d_L_law_1226 (by decide) ?_
        refine lv_goto (tgt := 1231) hx hb d_L_law_1227 (by decide) ?_
        refine W.lcmp hx hb d_L_law_1231 ?_
        refine lv_if_eq (tgt := 1237) hx hb d_L_law_1232 (by decide) (fun _ => ?_) (fun k28 => by first | exact absurd ((lg_cmp_eq _ _).mpr (t4.trans (if_neg f26))) k28 | exact absurd k28 ((lg_cmp_eq _ _).mpr (t4.trans (if_neg f26))))
        refine lv_goto (tgt := 1460) hx hb d_L_law_1237 (by decide) ?_
        exact kk Pp Sp (Yp.1, Yp.2.1, u9.1, Yp.2.2.2) um Bi Bl Bj Bk u9.2 _ _ hP hD hS t3 ls (lv_sub hl [2, 3, 4, 5, 6] rfl)
