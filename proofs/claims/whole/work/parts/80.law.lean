theorem lcp_yb {l0 y0 g : Nat} {rw : List Rw} (hok : okR l0 y0 g rw) : ∀ c, c < (lcp l0 g y0 rw).length → cpk ((lcp l0 g y0 rw).getD c cp0) 2 + cpk ((lcp l0 g y0 rw).getD c cp0) 5 ≤ 4000000 := by
  intro c hc
  rw [lcp_len] at hc
  obtain ⟨r, i, a1, a2, a3⟩ := lcp_row (l0 := l0) (g := g) (y := y0) hc
  have hm := gd_mem rw rw0 a1
  rw [a3]
  show ly_y y0 g (rw.take r) + (rw.getD r rw0).2.2.2.2 ≤ 4000000
  have h1 := ok_y (y0 := y0) (rw := rw.take r) hok.2.2.1 (fun q hq => (hok.2.2.2.2 q (List.mem_of_mem_take hq)).2.2.2.2.2.2.2)
  have h2 := hok.2.1
  have h3 := (hok.2.2.2.2 _ hm).2.2.2.2.2.2.2
  have h4 : (rw.take r).length ≤ 8 := by rw [List.length_take]; have := hok.2.2.2.1; omega
  omega
theorem lcp_d4 {l0 y0 g : Nat} {rw : List Rw} (hok : okR l0 y0 g rw) : ∀ c, c < (lcp l0 g y0 rw).length → cpk ((lcp l0 g y0 rw).getD c cp0) 0 < 4 := by
  intro c hc
  rw [lcp_len] at hc
  obtain ⟨r, i, a1, a2, a3⟩ := lcp_row (l0 := l0) (g := g) (y := y0) hc
  rw [a3]
  exact (hok.2.2.2.2 _ (gd_mem rw rw0 a1)).1
theorem lcp_t3 {l0 y0 g : Nat} {rw : List Rw} (hok : okR l0 y0 g rw) : ∀ c, c < (lcp l0 g y0 rw).length → cpk ((lcp l0 g y0 rw).getD c cp0) 3 < 2 := by
  intro c hc
  rw [lcp_len] at hc
  obtain ⟨r, i, a1, a2, a3⟩ := lcp_row (l0 := l0) (g := g) (y := y0) hc
  rw [a3]
  exact (hok.2.2.2.2 _ (gd_mem rw rw0 a1)).2.1
theorem lcp_200 {l0 y0 g : Nat} {rw : List Rw} (hok : okR l0 y0 g rw) : (lcp l0 g y0 rw).length ≤ 200 := by
  rw [lcp_len]; have := n160 hok; omega
theorem n200 {l0 y0 g : Nat} {rw : List Rw} (hok : okR l0 y0 g rw) : ly_n rw ≤ 200 := by have := n160 hok; omega
set_option maxHeartbeats 4000000 in
set_option maxRecDepth 100000 in
theorem lc_corner {p : Program} {l : Launch} {e : Env} {s : State} {m : MethodId} {below : List Frame} {meth : Method} {c : Code} {Q : State → Prop} {D : va_G} {cA sa : Nat → Nat} (Z : zE l s D cA sa) (N9 : zN s) (hx : p.tables.exec = Jvm.exec) (hb : c.code = code) (hml : c.maxLocals = 8) (hown : s.vm.findClass R_L = some m.cls) (hg : gl s s) (hK : va_K D ncl (ty0 cA) s) {b L : Nat} {xs : Nat → Int32} (hX : va_X b L xs s s.heap) (hbl : b < s.heap.size) (hL : L ≤ 4098) {a sb yA bd am : Nat → Nat} {oA : Nat} {bb : Nat → Nat → Nat} (hsa : sb 0 = a 5) (hya : yA 0 = a 6) (hbd : ∀ k, k < 4 → bd k = bb k 0) {i cl sl : Nat} (hi : i + 8 ≤ L) (hcl : cl + 5 ≤ 601024) (hsl : sl + 30 ≤ 7293000) {Pp Sp Yp Mp : St} {Bi : Nat → Nat → Int32} {Bl : Nat → Nat → Int64} {Bj : Nat → Nat → Nat → Int32} {Bk : Nat → Nat → Nat → Int64} {oF : Nat → Int64} (hI : INV Pp Sp Yp Mp Bi Bl Bk) (kk : ∀ (P1 S1 Y1 M1 : St) (Bi1 : Nat → Nat → Int32) (Bl1 : Nat → Nat → Int64) (Bj1 : Nat → Nat → Nat → Int32) (Bk1 : Nat → Nat → Nat → Int64) (oF1 : Nat → Int64) (H : Heap) (locs : List Loc), va_P D ncl (([(oA, .inl (cA 1, 1, .inr (.inl oF1)))]) ++ (w_P a cA P1.1 P1.2.1 P1.2.2.1 P1.2.2.2 bd) ++ (w_S sb cA S1.1 S1.2.1 S1.2.2.1 S1.2.2.2) ++ (w_Y yA cA Y1.1 Y1.2.1 Y1.2.2.1 Y1.2.2.2) ++ (w_M am cA M1.1 M1.2.1 M1.2.2.1 M1.2.2.2) ++ (w_B (bb 0) cA (Bi1 0) (Bl1 0) (Bj1 0) (Bk1 0)) ++ (w_B (bb 1) cA (Bi1 1) (Bl1 1) (Bj1 1) (Bk1 1)) ++ (w_B (bb 2) cA (Bi1 2) (Bl1 2) (Bj1 2) (Bk1 2)) ++ (w_B (bb 3) cA (Bi1 3) (Bl1 3) (Bj1 3) (Bk1 3))) H → va_D (fun q => s.heap.size ≤ q) (([(oA, .inl (cA 1, 1, .inr (.inl oF1)))]) ++ (w_P a cA P1.1 P1.2.1 P1.2.2.1 P1.2.2.2 bd) ++ (w_S sb cA S1.1 S1.2.1 S1.2.2.1 S1.2.2.2) ++ (w_Y yA cA Y1.1 Y1.2.1 Y1.2.2.1 Y1.2.2.2) ++ (w_M am cA M1.1 M1.2.1 M1.2.2.1 M1.2.2.2) ++ (w_B (bb 0) cA (Bi1 0) (Bl1 0) (Bj1 0) (Bk1 0)) ++ (w_B (bb 1) cA (Bi1 1) (Bl1 1) (Bj1 1) (Bk1 1)) ++ (w_B (bb 2) cA (Bi1 2) (Bl1 2) (Bj1 2) (Bk1 2)) ++ (w_B (bb 3) cA (Bi1 3) (Bl1 3) (Bj1 3) (Bk1 3))) → va_S (fun q => s.heap.size ≤ q) s.heap H locs → INV P1 S1 Y1 M1 Bi1 Bl1 Bk1 → ∀ ls : Array Slot, lv_has ls 8 [(0, .ref b), (1, .ref (a 0)), (2, .ref (am 0)), (3, .ref oA), (4, .int (nI i))] → W p l e room_1 s m #[Value.ref b] below meth c H locs (cl + 5) (sl + 30) Q (F0 m 1460 ls [])) {H : Heap} {locs : List Loc} (hP : va_P D ncl (([(oA, .inl (cA 1, 1, .inr (.inl oF)))]) ++ (w_P a cA Pp.1 Pp.2.1 Pp.2.2.1 Pp.2.2.2 bd) ++ (w_S sb cA Sp.1 Sp.2.1 Sp.2.2.1 Sp.2.2.2) ++ (w_Y yA cA Yp.1 Yp.2.1 Yp.2.2.1 Yp.2.2.2) ++ (w_M am cA Mp.1 Mp.2.1 Mp.2.2.1 Mp.2.2.2) ++ (w_B (bb 0) cA (Bi 0) (Bl 0) (Bj 0) (Bk 0)) ++ (w_B (bb 1) cA (Bi 1) (Bl 1) (Bj 1) (Bk 1)) ++ (w_B (bb 2) cA (Bi 2) (Bl 2) (Bj 2) (Bk 2)) ++ (w_B (bb 3) cA (Bi 3) (Bl 3) (Bj 3) (Bk 3))) H) (hD : va_D (fun q => s.heap.size ≤ q) (([(oA, .inl (cA 1, 1, .inr (.inl oF)))]) ++ (w_P a cA Pp.1 Pp.2.1 Pp.2.2.1 Pp.2.2.2 bd) ++ (w_S sb cA Sp.1 Sp.2.1 Sp.2.2.1 Sp.2.2.2) ++ (w_Y yA cA Yp.1 Yp.2.1 Yp.2.2.1 Yp.2.2.2) ++ (w_M am cA Mp.1 Mp.2.1 Mp.2.2.1 Mp.2.2.2) ++ (w_B (bb 0) cA (Bi 0) (Bl 0) (Bj 0) (Bk 0)) ++ (w_B (bb 1) cA (Bi 1) (Bl 1) (Bj 1) (Bk 1)) ++ (w_B (bb 2) cA (Bi 2) (Bl 2) (Bj 2) (Bk 2)) ++ (w_B (bb 3) cA (Bi 3) (Bl 3) (Bj 3) (Bk 3)))) (hS : va_S (fun q => s.heap.size ≤ q) s.heap H locs) {ls : Array Slot} (hl : lv_has ls 8 [(0, .ref b), (1, .ref (a 0)), (2, .ref (am 0)), (3, .ref oA), (4, .int (nI i))]) : W p l e room_1 s m #[Value.ref b] below meth c H locs cl sl Q (F0 m 161 ls []) := by
  have hA : ∀ q, s.heap.size ≤ q → (fun q => s.heap.size ≤ q) q := fun _ h => h
  have hlo : ∀ q, (fun q => s.heap.size ≤ q) q → s.heap.size ≤ q := fun _ h => h
  have hbA : ¬ (fun q : Nat => s.heap.size ≤ q) b := Nat.not_le.mpr hbl
  obtain ⟨w, h, nb, g, l0, y0, g0, r, nc, np, wt, X, Y, rw, bf, i1, i2, i3, i4, i5, i6, i7, i8, i9, i10, i11⟩ := id hI
  have hnb4 := i2.2.2
  obtain ⟨n, hn4, hnk⟩ := pick (xs (i + 1)) hnb4
  have hbdn : ∀ k, k < nb → (xs (i + 1)) = nI k → bd k = bb n 0 := fun k hk e => by rw [hnk k hk e]; exact hbd n hn4
  obtain ⟨hP, hD⟩ := bq_in (F := (fun k => w_B (bb k) cA (Bi k) (Bl k) (Bj k) (Bk k))) (X := ([(oA, .inl (cA 1, 1, .inr (.inl oF)))]) ++ (w_P a cA Pp.1 Pp.2.1 Pp.2.2.1 Pp.2.2.2 bd) ++ (w_S sb cA Sp.1 Sp.2.1 Sp.2.2.1 Sp.2.2.2) ++ (w_Y yA cA Yp.1 Yp.2.1 Yp.2.2.1 Yp.2.2.2) ++ (w_M am cA Mp.1 Mp.2.1 Mp.2.2.1 Mp.2.2.2)) (n := n) hn4 hP hD
  have hP : va_P D ncl (([(oA, .inl (cA 1, 1, .inr (.inl oF)))]) ++ (w_P a cA Pp.1 Pp.2.1 Pp.2.2.1 Pp.2.2.2 bd) ++ (w_S sb cA Sp.1 Sp.2.1 Sp.2.2.1 Sp.2.2.2) ++ (w_Y yA cA Yp.1 Yp.2.1 Yp.2.2.1 Yp.2.2.2) ++ (w_M am cA Mp.1 Mp.2.1 Mp.2.2.1 Mp.2.2.2) ++ (w_B (bb n) cA (Bi n) (Bl n) (Bj n) (Bk n)) ++ (w_B (bb (pn n 0)) cA (Bi (pn n 0)) (Bl (pn n 0)) (Bj (pn n 0)) (Bk (pn n 0))) ++ (w_B (bb (pn n 1)) cA (Bi (pn n 1)) (Bl (pn n 1)) (Bj (pn n 1)) (Bk (pn n 1))) ++ (w_B (bb (pn n 2)) cA (Bi (pn n 2)) (Bl (pn n 2)) (Bj (pn n 2)) (Bk (pn n 2)))) H := hP
  have hD : va_D (fun q => s.heap.size ≤ q) (([(oA, .inl (cA 1, 1, .inr (.inl oF)))]) ++ (w_P a cA Pp.1 Pp.2.1 Pp.2.2.1 Pp.2.2.2 bd) ++ (w_S sb cA Sp.1 Sp.2.1 Sp.2.2.1 Sp.2.2.2) ++ (w_Y yA cA Yp.1 Yp.2.1 Yp.2.2.1 Yp.2.2.2) ++ (w_M am cA Mp.1 Mp.2.1 Mp.2.2.1 Mp.2.2.2) ++ (w_B (bb n) cA (Bi n) (Bl n) (Bj n) (Bk n)) ++ (w_B (bb (pn n 0)) cA (Bi (pn n 0)) (Bl (pn n 0)) (Bj (pn n 0)) (Bk (pn n 0))) ++ (w_B (bb (pn n 1)) cA (Bi (pn n 1)) (Bl (pn n 1)) (Bj (pn n 1)) (Bk (pn n 1))) ++ (w_B (bb (pn n 2)) cA (Bi (pn n 2)) (Bl (pn n 2)) (Bj (pn n 2)) (Bk (pn n 2)))) := hD
  refine lv_aload_n hx hb d_L_law_161 rfl (lv_at hl 1 rfl) ?_
  refine lv_aload_n hx hb d_L_law_162 rfl (lv_at hl 0 rfl) ?_
  refine lv_iload hx hb d_L_law_163 (lv_at hl 4 rfl) ?_
  refine lv_iconst (v := 1) hx hb d_L_law_165 (by decide) ?_
  refine lv_iadd hx hb d_L_law_166 ?_
  refine lv_topi (fun z1 ez1 => ?_)
  obtain rfl : z1 = (nI (i + 1)) := by rw [ez1]; exact nI_add i 1
  refine va_sld hx hb hX hbl hbA hS (vp_in_nI (n := i + 1) (N := L) (by omega) (by omega)) d_L_law_167 ?_
  refine lv_topi (fun z2 ez2 => ?_)
  rw [nI_clamp (n := i + 1) (by omega)] at ez2
  obtain rfl : z2 = xs (i + 1) := ez2
  refine lv_aload_n hx hb d_L_law_168 rfl (lv_at hl 0 rfl) ?_
  refine lv_iload hx hb d_L_law_169 (lv_at hl 4 rfl) ?_
  refine lv_iconst (v := 2) hx hb d_L_law_171 (by decide) ?_
  refine lv_iadd hx hb d_L_law_172 ?_
  refine lv_topi (fun z3 ez3 => ?_)
  obtain rfl : z3 = (nI (i + 2)) := by rw [ez3]; exact nI_add i 2
  refine va_sld hx hb hX hbl hbA hS (vp_in_nI (n := i + 2) (N := L) (by omega) (by omega)) d_L_law_173 ?_
  refine lv_topi (fun z4 ez4 => ?_)
  rw [nI_clamp (n := i + 2) (by omega)] at ez4
  obtain rfl : z4 = xs (i + 2) := ez4
  refine lv_i2l hx hb d_L_law_174 rfl ?_
  refine lv_bipush (v := 32) hx hb d_L_law_175 (by decide) ?_
  refine lv_lshl hx hb d_L_law_177 rfl ?_
  refine lv_aload_n hx hb d_L_law_178 rfl (lv_at hl 0 rfl) ?_
  refine lv_iload hx hb d_L_law_179 (lv_at hl 4 rfl) ?_
  refine lv_iconst (v := 3) hx hb d_L_law_181 (by decide) ?_
  refine lv_iadd hx hb d_L_law_182 ?_
  refine lv_topi (fun z5 ez5 => ?_)
  obtain rfl : z5 = (nI (i + 3)) := by rw [ez5]; exact nI_add i 3
  refine va_sld hx hb hX hbl hbA hS (vp_in_nI (n := i + 3) (N := L) (by omega) (by omega)) d_L_law_183 ?_
  refine lv_topi (fun z6 ez6 => ?_)
  rw [nI_clamp (n := i + 3) (by omega)] at ez6
  obtain rfl : z6 = xs (i + 3) := ez6
  refine lv_i2l hx hb d_L_law_184 rfl ?_
  refine lv_ldc2 (v := 4294967295) hx hb hown (kw834 Z.1 _ _ hg.1) d_L_law_185 ?_
  refine lv_land hx hb d_L_law_188 ?_
  refine lv_lor hx hb d_L_law_189 ?_
  refine lv_topl (fun z7 ez7 => ?_)
  obtain rfl : z7 = (jl (xs (i + 2)) (xs (i + 3))) := by rw [ez7]; rfl
  refine lv_aload_n hx hb d_L_law_190 rfl (lv_at hl 0 rfl) ?_
  refine lv_iload hx hb d_L_law_191 (lv_at hl 4 rfl) ?_
  refine lv_iconst (v := 4) hx hb d_L_law_193 (by decide) ?_
  refine lv_iadd hx hb d_L_law_194 ?_
  refine lv_topi (fun z8 ez8 => ?_)
  obtain rfl : z8 = (nI (i + 4)) := by rw [ez8]; exact nI_add i 4
  refine va_sld hx hb hX hbl hbA hS (vp_in_nI (n := i + 4) (N := L) (by omega) (by omega)) d_L_law_195 ?_
  refine lv_topi (fun z9 ez9 => ?_)
  rw [nI_clamp (n := i + 4) (by omega)] at ez9
  obtain rfl : z9 = xs (i + 4) := ez9
  refine lv_i2l hx hb d_L_law_196 rfl ?_
  refine lv_bipush (v := 32) hx hb d_L_law_197 (by decide) ?_
  refine lv_lshl hx hb d_L_law_199 rfl ?_
  refine lv_aload_n hx hb d_L_law_200 rfl (lv_at hl 0 rfl) ?_
  refine lv_iload hx hb d_L_law_201 (lv_at hl 4 rfl) ?_
  refine lv_iconst (v := 5) hx hb d_L_law_203 (by decide) ?_
  refine lv_iadd hx hb d_L_law_204 ?_
  refine lv_topi (fun z10 ez10 => ?_)
  obtain rfl : z10 = (nI (i + 5)) := by rw [ez10]; exact nI_add i 5
  refine va_sld hx hb hX hbl hbA hS (vp_in_nI (n := i + 5) (N := L) (by omega) (by omega)) d_L_law_205 ?_
  refine lv_topi (fun z11 ez11 => ?_)
  rw [nI_clamp (n := i + 5) (by omega)] at ez11
  obtain rfl : z11 = xs (i + 5) := ez11
  refine lv_i2l hx hb d_L_law_206 rfl ?_
  refine lv_ldc2 (v := 4294967295) hx hb hown (kw834 Z.1 _ _ hg.1) d_L_law_207 ?_
  refine lv_land hx hb d_L_law_210 ?_
  refine lv_lor hx hb d_L_law_211 ?_
  refine lv_topl (fun z12 ez12 => ?_)
  obtain rfl : z12 = (jl (xs (i + 4)) (xs (i + 5))) := by rw [ez12]; rfl
  refine lv_aload_n hx hb d_L_law_212 rfl (lv_at hl 3 rfl) ?_
  have hpm : List.Perm (([(oA, .inl (cA 1, 1, .inr (.inl oF)))]) ++ (w_P a cA Pp.1 Pp.2.1 Pp.2.2.1 Pp.2.2.2 bd) ++ (w_S sb cA Sp.1 Sp.2.1 Sp.2.2.1 Sp.2.2.2) ++ (w_Y yA cA Yp.1 Yp.2.1 Yp.2.2.1 Yp.2.2.2) ++ (w_M am cA Mp.1 Mp.2.1 Mp.2.2.1 Mp.2.2.2) ++ (w_B (bb n) cA (Bi n) (Bl n) (Bj n) (Bk n)) ++ (w_B (bb (pn n 0)) cA (Bi (pn n 0)) (Bl (pn n 0)) (Bj (pn n 0)) (Bk (pn n 0))) ++ (w_B (bb (pn n 1)) cA (Bi (pn n 1)) (Bl (pn n 1)) (Bj (pn n 1)) (Bk (pn n 1))) ++ (w_B (bb (pn n 2)) cA (Bi (pn n 2)) (Bl (pn n 2)) (Bj (pn n 2)) (Bk (pn n 2)))) (((w_P a cA Pp.1 Pp.2.1 Pp.2.2.1 Pp.2.2.2 bd) ++ (w_B (bb n) cA (Bi n) (Bl n) (Bj n) (Bk n)) ++ ([(oA, .inl (cA 1, 1, .inr (.inl oF)))])) ++ ((w_S sb cA Sp.1 Sp.2.1 Sp.2.2.1 Sp.2.2.2) ++ (w_Y yA cA Yp.1 Yp.2.1 Yp.2.2.1 Yp.2.2.2) ++ (w_M am cA Mp.1 Mp.2.1 Mp.2.2.1 Mp.2.2.2) ++ (w_B (bb (pn n 0)) cA (Bi (pn n 0)) (Bl (pn n 0)) (Bj (pn n 0)) (Bk (pn n 0))) ++ (w_B (bb (pn n 1)) cA (Bi (pn n 1)) (Bl (pn n 1)) (Bj (pn n 1)) (Bk (pn n 1))) ++ (w_B (bb (pn n 2)) cA (Bi (pn n 2)) (Bl (pn n 2)) (Bj (pn n 2)) (Bk (pn n 2))))) := by simp only [List.append_assoc]; exact ((List.perm_append_comm_assoc _ _ _).trans (List.Perm.append_left _ ((List.Perm.append_left _ ((List.Perm.append_left _ ((List.Perm.append_left _ (List.perm_append_comm_assoc _ _ _)).trans (List.perm_append_comm_assoc _ _ _))).trans (List.perm_append_comm_assoc _ _ _))).trans (List.perm_append_comm_assoc _ _ _))))
  have hP := vP_perm hpm hP
  have hD := vD_perm hpm hD
  clear hpm
  refine pt_calli (wt_runSW (rest := []) hx hb hml hown hl.1 hg hlo (vP_l hP) (vD_l hD) hS (m_L_corner Z N9 a Pp.1 Pp.2.1 Pp.2.2.1 Pp.2.2.2 bd (bb n) (Bi n) (Bl n) (Bj n) (Bk n) (xs (i + 1)) (jl (xs (i + 2)) (xs (i + 3))) (jl (xs (i + 4)) (xs (i + 5))) nb (nc n) i2.1 hnb4 hbdn (i6 n hn4).2.1 (i6 n hn4).1 oA oF H.size) (kw260 Z.1) (kw261 Z.1) (kw262 Z.1) (kw0 Z.1) ⟨by decide, by decide, (by decide +kernel : (parseMethodDescriptor y_L_corner.desc).map (fun d => d.parameters.length) = some 5)⟩ ⟨(Nat.le_of_ble_eq_true rfl), (Nat.le_of_ble_eq_true rfl)⟩ [0, 1, 2, 3, 4, 5, 6, 7, 8, 9] rfl rfl rfl (Nat.le_of_ble_eq_true rfl) d_L_law_213 ⟨by show cl + 3 ≤ 601024; omega, by show sl + 18 ≤ 7293000; omega⟩) hP hD hS hA (fun kx u9 H locs hq hP hD hS => ?_)
  refine W.widen (k := cl + 5) (n := sl + 30) (by show cl + 3 ≤ cl + 5; omega) (by show sl + 18 ≤ sl + 30; omega) ?_
  have hP : va_P D ncl (((w_P a cA Pp.1 Pp.2.1 Pp.2.2.1 Pp.2.2.2 bd) ++ (w_B (bb n) cA u9.1.1 u9.1.2.1 u9.1.2.2.1 u9.1.2.2.2) ++ ([(oA, .inl (cA 1, 1, .inr (.inl u9.2)))])) ++ ((w_S sb cA Sp.1 Sp.2.1 Sp.2.2.1 Sp.2.2.2) ++ (w_Y yA cA Yp.1 Yp.2.1 Yp.2.2.1 Yp.2.2.2) ++ (w_M am cA Mp.1 Mp.2.1 Mp.2.2.1 Mp.2.2.2) ++ (w_B (bb (pn n 0)) cA (Bi (pn n 0)) (Bl (pn n 0)) (Bj (pn n 0)) (Bk (pn n 0))) ++ (w_B (bb (pn n 1)) cA (Bi (pn n 1)) (Bl (pn n 1)) (Bj (pn n 1)) (Bk (pn n 1))) ++ (w_B (bb (pn n 2)) cA (Bi (pn n 2)) (Bl (pn n 2)) (Bj (pn n 2)) (Bk (pn n 2))))) H := hP
  have hD : va_D (fun q => s.heap.size ≤ q) (((w_P a cA Pp.1 Pp.2.1 Pp.2.2.1 Pp.2.2.2 bd) ++ (w_B (bb n) cA u9.1.1 u9.1.2.1 u9.1.2.2.1 u9.1.2.2.2) ++ ([(oA, .inl (cA 1, 1, .inr (.inl u9.2)))])) ++ ((w_S sb cA Sp.1 Sp.2.1 Sp.2.2.1 Sp.2.2.2) ++ (w_Y yA cA Yp.1 Yp.2.1 Yp.2.2.1 Yp.2.2.2) ++ (w_M am cA Mp.1 Mp.2.1 Mp.2.2.1 Mp.2.2.2) ++ (w_B (bb (pn n 0)) cA (Bi (pn n 0)) (Bl (pn n 0)) (Bj (pn n 0)) (Bk (pn n 0))) ++ (w_B (bb (pn n 1)) cA (Bi (pn n 1)) (Bl (pn n 1)) (Bj (pn n 1)) (Bk (pn n 1))) ++ (w_B (bb (pn n 2)) cA (Bi (pn n 2)) (Bl (pn n 2)) (Bj (pn n 2)) (Bk (pn n 2))))) := hD
  refine lv_istore (lv' := [(5, .int kx), (0, .ref b), (1, .ref (a 0)), (2, .ref (am 0)), (3, .ref oA), (4, .int (nI i))]) hx hb d_L_law_216 hl (by decide) rfl (fun ls hl => ?_)
  refine lv_aload_n hx hb d_L_law_218 rfl (lv_at hl 3 rfl) ?_
  refine lv_aload_n hx hb d_L_law_219 rfl (lv_at hl 1 rfl) ?_
  refine lv_iload hx hb d_L_law_220 (lv_at hl 5 rfl) ?_
  refine lv_iconst (v := 1) hx hb d_L_law_222 (by decide) ?_
  refine lv_iadd hx hb d_L_law_223 ?_
  refine lv_topi (fun z13 ez13 => ?_)
  obtain rfl : z13 = (nI (i + 1)) := by rw [ez13]; exact nI_add i 1
  refine va_sld hx hb hX hbl hbA hS (vp_in_nI (n := i + 1) (N := L) (by omega) (by omega)) d_L_law_224 ?_
  refine lv_topi (fun z14 ez14 => ?_)
  rw [nI_clamp (n := i + 1) (by omega)] at ez14
  obtain rfl : z14 = xs (i + 1) := ez14
  refine lv_aload_n hx hb d_L_law_225 rfl (lv_at hl 1 rfl) ?_
  refine lv_iload hx hb d_L_law_226 (lv_at hl 5 rfl) ?_
  refine lv_iconst (v := 2) hx hb d_L_law_228 (by decide) ?_
  refine lv_iadd hx hb d_L_law_229 ?_
  refine lv_topi (fun z15 ez15 => ?_)
  obtain rfl : z15 = (nI (i + 2)) := by rw [ez15]; exact nI_add i 2
  refine va_sld hx hb hX hbl hbA hS (vp_in_nI (n := i + 2) (N := L) (by omega) (by omega)) d_L_law_230 ?_
  refine lv_topi (fun z16 ez16 => ?_)
  rw [nI_clamp (n := i + 2) (by omega)] at ez16
  obtain rfl : z16 = xs (i + 2) := ez16
  refine lv_i2l hx hb d_L_law_231 rfl ?_
  refine lv_bipush (v := 32) hx hb d_L_law_232 (by decide) ?_
  refine lv_lshl hx hb d_L_law_234 rfl ?_
  refine lv_aload_n hx hb d_L_law_235 rfl (lv_at hl 1 rfl) ?_
  refine lv_iload hx hb d_L_law_236 (lv_at hl 5 rfl) ?_
  refine lv_iconst (v := 3) hx hb d_L_law_238 (by decide) ?_
  refine lv_iadd hx hb d_L_law_239 ?_
  refine lv_topi (fun z17 ez17 => ?_)
  obtain rfl : z17 = (nI (i + 3)) := by rw [ez17]; exact nI_add i 3
  refine va_sld hx hb hX hbl hbA hS (vp_in_nI (n := i + 3) (N := L) (by omega) (by omega)) d_L_law_240 ?_
  refine lv_topi (fun z18 ez18 => ?_)
  rw [nI_clamp (n := i + 3) (by omega)] at ez18
  obtain rfl : z18 = xs (i + 3) := ez18
  refine lv_i2l hx hb d_L_law_241 rfl ?_
  refine lv_ldc2 (v := 4294967295) hx hb hown (kw834 Z.1 _ _ hg.1) d_L_law_242 ?_
  refine lv_land hx hb d_L_law_245 ?_
  refine lv_lor hx hb d_L_law_246 ?_
  refine lv_topl (fun z19 ez19 => ?_)
  obtain rfl : z19 = (jl (xs (i + 2)) (xs (i + 3))) := by rw [ez19]; rfl
  refine lv_aload_n hx hb d_L_law_247 rfl (lv_at hl 1 rfl) ?_
  refine lv_iload hx hb d_L_law_248 (lv_at hl 5 rfl) ?_
  refine lv_iconst (v := 4) hx hb d_L_law_250 (by decide) ?_
  refine lv_iadd hx hb d_L_law_251 ?_
  refine lv_topi (fun z20 ez20 => ?_)
  obtain rfl : z20 = (nI (i + 4)) := by rw [ez20]; exact nI_add i 4
  refine va_sld hx hb hX hbl hbA hS (vp_in_nI (n := i + 4) (N := L) (by omega) (by omega)) d_L_law_252 ?_
  refine lv_topi (fun z21 ez21 => ?_)
  rw [nI_clamp (n := i + 4) (by omega)] at ez21
  obtain rfl : z21 = xs (i + 4) := ez21
  refine lv_i2l hx hb d_L_law_253 rfl ?_
  refine lv_bipush (v := 32) hx hb d_L_law_254 (by decide) ?_
  refine lv_lshl hx hb d_L_law_256 rfl ?_
  refine lv_aload_n hx hb d_L_law_257 rfl (lv_at hl 1 rfl) ?_
  refine lv_iload hx hb d_L_law_258 (lv_at hl 5 rfl) ?_
  refine lv_iconst (v := 5) hx hb d_L_law_260 (by decide) ?_
  refine lv_iadd hx hb d_L_law_261 ?_
  refine lv_topi (fun z22 ez22 => ?_)
  obtain rfl : z22 = (nI (i + 5)) := by rw [ez22]; exact nI_add i 5
  refine va_sld hx hb hX hbl hbA hS (vp_in_nI (n := i + 5) (N := L) (by omega) (by omega)) d_L_law_262 ?_
  refine lv_topi (fun z23 ez23 => ?_)
  rw [nI_clamp (n := i + 5) (by omega)] at ez23
  obtain rfl : z23 = xs (i + 5) := ez23
  refine lv_i2l hx hb d_L_law_263 rfl ?_
  refine lv_ldc2 (v := 4294967295) hx hb hown (kw834 Z.1 _ _ hg.1) d_L_law_264 ?_
  refine lv_land hx hb d_L_law_267 ?_
  refine lv_lor hx hb d_L_law_268 ?_
  refine lv_topl (fun z24 ez24 => ?_)
  obtain rfl : z24 = (jl (xs (i + 4)) (xs (i + 5))) := by rw [ez24]; rfl
  have hpm : List.Perm (((w_P a cA Pp.1 Pp.2.1 Pp.2.2.1 Pp.2.2.2 bd) ++ (w_B (bb n) cA u9.1.1 u9.1.2.1 u9.1.2.2.1 u9.1.2.2.2) ++ ([(oA, .inl (cA 1, 1, .inr (.inl u9.2)))])) ++ ((w_S sb cA Sp.1 Sp.2.1 Sp.2.2.1 Sp.2.2.2) ++ (w_Y yA cA Yp.1 Yp.2.1 Yp.2.2.1 Yp.2.2.2) ++ (w_M am cA Mp.1 Mp.2.1 Mp.2.2.1 Mp.2.2.2) ++ (w_B (bb (pn n 0)) cA (Bi (pn n 0)) (Bl (pn n 0)) (Bj (pn n 0)) (Bk (pn n 0))) ++ (w_B (bb (pn n 1)) cA (Bi (pn n 1)) (Bl (pn n 1)) (Bj (pn n 1)) (Bk (pn n 1))) ++ (w_B (bb (pn n 2)) cA (Bi (pn n 2)) (Bl (pn n 2)) (Bj (pn n 2)) (Bk (pn n 2))))) (((w_M am cA Mp.1 Mp.2.1 Mp.2.2.1 Mp.2.2.2)) ++ ((w_P a cA Pp.1 Pp.2.1 Pp.2.2.1 Pp.2.2.2 bd) ++ (w_B (bb n) cA u9.1.1 u9.1.2.1 u9.1.2.2.1 u9.1.2.2.2) ++ ([(oA, .inl (cA 1, 1, .inr (.inl u9.2)))]) ++ (w_S sb cA Sp.1 Sp.2.1 Sp.2.2.1 Sp.2.2.2) ++ (w_Y yA cA Yp.1 Yp.2.1 Yp.2.2.1 Yp.2.2.2) ++ (w_B (bb (pn n 0)) cA (Bi (pn n 0)) (Bl (pn n 0)) (Bj (pn n 0)) (Bk (pn n 0))) ++ (w_B (bb (pn n 1)) cA (Bi (pn n 1)) (Bl (pn n 1)) (Bj (pn n 1)) (Bk (pn n 1))) ++ (w_B (bb (pn n 2)) cA (Bi (pn n 2)) (Bl (pn n 2)) (Bj (pn n 2)) (Bk (pn n 2))))) := by simp only [List.append_assoc]; exact ((List.Perm.append_left _ ((List.Perm.append_left _ ((List.Perm.append_left _ ((List.Perm.append_left _ (List.perm_append_comm_assoc _ _ _)).trans (List.perm_append_comm_assoc _ _ _))).trans (List.perm_append_comm_assoc _ _ _))).trans (List.perm_append_comm_assoc _ _ _))).trans (List.perm_append_comm_assoc _ _ _))
  have hP := vP_perm hpm hP
  have hD := vD_perm hpm hD
  clear hpm
  refine p_calli (w_runV (rest := []) hx hb hml hown hl.1 hg hlo hK (vP_l hP) (vD_l hD) hS (m_M_corner Z am Mp.1 Mp.2.1 Mp.2.2.1 Mp.2.2.2 (xs (i + 1)) (jl (xs (i + 2)) (xs (i + 3))) (jl (xs (i + 4)) (xs (i + 5))) nb nc i2.2.1 hnb4 (fun k hk => ⟨(i6 k hk).2.2.1, (i6 k hk).1⟩) H.size) (kw691 Z.1) (kw692 Z.1) (kw693 Z.1) (kw694 Z.1) (kw6 Z.1) ⟨by decide, by decide, (by decide +kernel : (parseMethodDescriptor y_M_corner.desc).map (fun d => d.parameters.length) = some 3)⟩ ⟨(Nat.le_of_ble_eq_true rfl), (Nat.le_of_ble_eq_true rfl)⟩ [0, 1, 2, 3, 4, 5, 6, 7, 8, 9, 10, 11, 12, 13, 14, 15, 16] rfl rfl (ci := 1) (q0 := 0) rfl rfl rfl (Nat.le_of_ble_eq_true rfl) d_L_law_269 ⟨by show cl + 5 + 0 ≤ 601024; omega, by show sl + 30 + 0 ≤ 7293000; omega⟩) hP hD hS hA (fun rm um H locs hm hP hD hS => ?_)
  refine W.widen (k := cl + 5) (n := sl + 30) (by show cl + 5 + 0 ≤ cl + 5; omega) (by show sl + 30 + 0 ≤ sl + 30; omega) ?_
  have hP : va_P D ncl (((w_M am cA um.1 um.2.1 um.2.2.1 um.2.2.2)) ++ ((w_P a cA Pp.1 Pp.2.1 Pp.2.2.1 Pp.2.2.2 bd) ++ (w_B (bb n) cA u9.1.1 u9.1.2.1 u9.1.2.2.1 u9.1.2.2.2) ++ ([(oA, .inl (cA 1, 1, .inr (.inl u9.2)))]) ++ (w_S sb cA Sp.1 Sp.2.1 Sp.2.2.1 Sp.2.2.2) ++ (w_Y yA cA Yp.1 Yp.2.1 Yp.2.2.1 Yp.2.2.2) ++ (w_B (bb (pn n 0)) cA (Bi (pn n 0)) (Bl (pn n 0)) (Bj (pn n 0)) (Bk (pn n 0))) ++ (w_B (bb (pn n 1)) cA (Bi (pn n 1)) (Bl (pn n 1)) (Bj (pn n 1)) (Bk (pn n 1))) ++ (w_B (bb (pn n 2)) cA (Bi (pn n 2)) (Bl (pn n 2)) (Bj (pn n 2)) (Bk (pn n 2))))) H := hP
  have hD : va_D (fun q => s.heap.size ≤ q) (((w_M am cA um.1 um.2.1 um.2.2.1 um.2.2.2)) ++ ((w_P a cA Pp.1 Pp.2.1 Pp.2.2.1 Pp.2.2.2 bd) ++ (w_B (bb n) cA u9.1.1 u9.1.2.1 u9.1.2.2.1 u9.1.2.2.2) ++ ([(oA, .inl (cA 1, 1, .inr (.inl u9.2)))]) ++ (w_S sb cA Sp.1 Sp.2.1 Sp.2.2.1 Sp.2.2.2) ++ (w_Y yA cA Yp.1 Yp.2.1 Yp.2.2.1 Yp.2.2.2) ++ (w_B (bb (pn n 0)) cA (Bi (pn n 0)) (Bl (pn n 0)) (Bj (pn n 0)) (Bk (pn n 0))) ++ (w_B (bb (pn n 1)) cA (Bi (pn n 1)) (Bl (pn n 1)) (Bj (pn n 1)) (Bk (pn n 1))) ++ (w_B (bb (pn n 2)) cA (Bi (pn n 2)) (Bl (pn n 2)) (Bj (pn n 2)) (Bk (pn n 2))))) := hD
  obtain ⟨t1, t2, t3⟩ := tie_corner (oF := oF) (jb := Bj n) hI i2.1 hnb4 hn4 hnk (i6 n hn4).2.1 (i6 n hn4).1 (fun k hk => ⟨(i6 k hk).2.2.1, (i6 k hk).1⟩) hq hm
  refine lv_istore (lv' := [(6, .int rm), (5, .int kx), (0, .ref b), (1, .ref (a 0)), (2, .ref (am 0)), (3, .ref oA), (4, .int (nI i))]) hx hb d_L_law_272 hl (by decide) rfl (fun ls hl => ?_)
  refine lv_aload_n hx hb d_L_law_274 rfl (lv_at hl 4 rfl) ?_
  refine p_calli (w_runV (rest := []) hx hb hml hown hl.1 hg hlo hK (vP_l hP) (vD_l hD) hS (m_M_thrown Z am um.1 um.2.1 um.2.2.1 um.2.2.2 H.size) (kw683 Z.1) (kw684 Z.1) (kw685 Z.1) (kw686 Z.1) (kw6 Z.1) ⟨by decide, by decide, (by decide +kernel : (parseMethodDescriptor y_M_thrown.desc).map (fun d => d.parameters.length) = some 0)⟩ ⟨(Nat.le_of_ble_eq_true rfl), (Nat.le_of_ble_eq_true rfl)⟩ [0, 1, 2, 3, 4, 5, 6, 7, 8, 9, 10, 11, 12, 13, 14, 15, 16] rfl rfl (ci := 1) (q0 := 0) rfl rfl rfl (Nat.le_of_ble_eq_true rfl) d_L_law_275 ⟨by show cl + 5 + 0 ≤ 601024; omega, by show sl + 30 + 0 ≤ 7293000; omega⟩) hP hD hS hA (fun rt ut H locs hrt hP hD hS => ?_)
  refine W.widen (k := cl + 5) (n := sl + 30) (by show cl + 5 + 0 ≤ cl + 5; omega) (by show sl + 30 + 0 ≤ sl + 30; omega) ?_
  have hP : va_P D ncl (((w_M am cA um.1 um.2.1 um.2.2.1 um.2.2.2)) ++ ((w_P a cA Pp.1 Pp.2.1 Pp.2.2.1 Pp.2.2.2 bd) ++ (w_B (bb n) cA u9.1.1 u9.1.2.1 u9.1.2.2.1 u9.1.2.2.2) ++ ([(oA, .inl (cA 1, 1, .inr (.inl u9.2)))]) ++ (w_S sb cA Sp.1 Sp.2.1 Sp.2.2.1 Sp.2.2.2) ++ (w_Y yA cA Yp.1 Yp.2.1 Yp.2.2.1 Yp.2.2.2) ++ (w_B (bb (pn n 0)) cA (Bi (pn n 0)) (Bl (pn n 0)) (Bj (pn n 0)) (Bk (pn n 0))) ++ (w_B (bb (pn n 1)) cA (Bi (pn n 1)) (Bl (pn n 1)) (Bj (pn n 1)) (Bk (pn n 1))) ++ (w_B (bb (pn n 2)) cA (Bi (pn n 2)) (Bl (pn n 2)) (Bj (pn n 2)) (Bk (pn n 2))))) H := hP
  have hD : va_D (fun q => s.heap.size ≤ q) (((w_M am cA um.1 um.2.1 um.2.2.1 um.2.2.2)) ++ ((w_P a cA Pp.1 Pp.2.1 Pp.2.2.1 Pp.2.2.2 bd) ++ (w_B (bb n) cA u9.1.1 u9.1.2.1 u9.1.2.2.1 u9.1.2.2.2) ++ ([(oA, .inl (cA 1, 1, .inr (.inl u9.2)))]) ++ (w_S sb cA Sp.1 Sp.2.1 Sp.2.2.1 Sp.2.2.2) ++ (w_Y yA cA Yp.1 Yp.2.1 Yp.2.2.1 Yp.2.2.2) ++ (w_B (bb (pn n 0)) cA (Bi (pn n 0)) (Bl (pn n 0)) (Bj (pn n 0)) (Bk (pn n 0))) ++ (w_B (bb (pn n 1)) cA (Bi (pn n 1)) (Bl (pn n 1)) (Bj (pn n 1)) (Bk (pn n 1))) ++ (w_B (bb (pn n 2)) cA (Bi (pn n 2)) (Bl (pn n 2)) (Bj (pn n 2)) (Bk (pn n 2))))) := hD
  subst hrt
  refine lv_iload hx hb d_L_law_278 (lv_at hl 1 rfl) ?_
  refine lv_icmp_eq (tgt := 285) hx hb d_L_law_280 (by decide) (fun _ => ?_) (fun k25 => by first | exact absurd (show um.1 0 = kx from t1) k25 | exact absurd k25 (show um.1 0 = kx from t1))
  refine lv_iload hx hb d_L_law_285 (lv_at hl 1 rfl) ?_
  have hpm : List.Perm (((w_M am cA um.1 um.2.1 um.2.2.1 um.2.2.2)) ++ ((w_P a cA Pp.1 Pp.2.1 Pp.2.2.1 Pp.2.2.2 bd) ++ (w_B (bb n) cA u9.1.1 u9.1.2.1 u9.1.2.2.1 u9.1.2.2.2) ++ ([(oA, .inl (cA 1, 1, .inr (.inl u9.2)))]) ++ (w_S sb cA Sp.1 Sp.2.1 Sp.2.2.1 Sp.2.2.2) ++ (w_Y yA cA Yp.1 Yp.2.1 Yp.2.2.1 Yp.2.2.2) ++ (w_B (bb (pn n 0)) cA (Bi (pn n 0)) (Bl (pn n 0)) (Bj (pn n 0)) (Bk (pn n 0))) ++ (w_B (bb (pn n 1)) cA (Bi (pn n 1)) (Bl (pn n 1)) (Bj (pn n 1)) (Bk (pn n 1))) ++ (w_B (bb (pn n 2)) cA (Bi (pn n 2)) (Bl (pn n 2)) (Bj (pn n 2)) (Bk (pn n 2))))) (([(oA, .inl (cA 1, 1, .inr (.inl u9.2)))]) ++ (w_P a cA Pp.1 Pp.2.1 Pp.2.2.1 Pp.2.2.2 bd) ++ (w_S sb cA Sp.1 Sp.2.1 Sp.2.2.1 Sp.2.2.2) ++ (w_Y yA cA Yp.1 Yp.2.1 Yp.2.2.1 Yp.2.2.2) ++ (w_M am cA um.1 um.2.1 um.2.2.1 um.2.2.2) ++ (w_B (bb n) cA u9.1.1 u9.1.2.1 u9.1.2.2.1 u9.1.2.2.2) ++ (w_B (bb (pn n 0)) cA (Bi (pn n 0)) (Bl (pn n 0)) (Bj (pn n 0)) (Bk (pn n 0))) ++ (w_B (bb (pn n 1)) cA (Bi (pn n 1)) (Bl (pn n 1)) (Bj (pn n 1)) (Bk (pn n 1))) ++ (w_B (bb (pn n 2)) cA (Bi (pn n 2)) (Bl (pn n 2)) (Bj (pn n 2)) (Bk (pn n 2)))) := by simp only [List.append_assoc]; exact (((List.Perm.append_left _ ((List.Perm.append_left _ (List.perm_append_comm_assoc _ _ _)).trans (List.perm_append_comm_assoc _ _ _))).trans (List.perm_append_comm_assoc _ _ _)).trans (List.Perm.append_left _ ((List.perm_append_comm_assoc _ _ _).trans (List.Perm.append_left _ (((List.Perm.append_left _ (List.perm_append_comm_assoc _ _ _)).trans (List.perm_append_comm_assoc _ _ _)).trans (List.Perm.append_left _ ((List.Perm.append_left _ (List.perm_append_comm_assoc _ _ _)).trans (List.perm_append_comm_assoc _ _ _))))))))
  have hP := vP_perm hpm hP
  have hD := vD_perm hpm hD
  clear hpm
  obtain ⟨hP, hD⟩ := bq_upd (X := ([(oA, .inl (cA 1, 1, .inr (.inl u9.2)))]) ++ (w_P a cA Pp.1 Pp.2.1 Pp.2.2.1 Pp.2.2.2 bd) ++ (w_S sb cA Sp.1 Sp.2.1 Sp.2.2.1 Sp.2.2.2) ++ (w_Y yA cA Yp.1 Yp.2.1 Yp.2.2.1 Yp.2.2.2) ++ (w_M am cA um.1 um.2.1 um.2.2.1 um.2.2.2)) (n := n) u9.1 hn4 hP hD
  have hP : va_P D ncl (([(oA, .inl (cA 1, 1, .inr (.inl u9.2)))]) ++ (w_P a cA Pp.1 Pp.2.1 Pp.2.2.1 Pp.2.2.2 bd) ++ (w_S sb cA Sp.1 Sp.2.1 Sp.2.2.1 Sp.2.2.2) ++ (w_Y yA cA Yp.1 Yp.2.1 Yp.2.2.1 Yp.2.2.2) ++ (w_M am cA um.1 um.2.1 um.2.2.1 um.2.2.2) ++ (w_B (bb 0) cA ((va_up Bi n u9.1.1) 0) ((va_up Bl n u9.1.2.1) 0) ((va_up Bj n u9.1.2.2.1) 0) ((va_up Bk n u9.1.2.2.2) 0)) ++ (w_B (bb 1) cA ((va_up Bi n u9.1.1) 1) ((va_up Bl n u9.1.2.1) 1) ((va_up Bj n u9.1.2.2.1) 1) ((va_up Bk n u9.1.2.2.2) 1)) ++ (w_B (bb 2) cA ((va_up Bi n u9.1.1) 2) ((va_up Bl n u9.1.2.1) 2) ((va_up Bj n u9.1.2.2.1) 2) ((va_up Bk n u9.1.2.2.2) 2)) ++ (w_B (bb 3) cA ((va_up Bi n u9.1.1) 3) ((va_up Bl n u9.1.2.1) 3) ((va_up Bj n u9.1.2.2.1) 3) ((va_up Bk n u9.1.2.2.2) 3))) H := hP
  have hD : va_D (fun q => s.heap.size ≤ q) (([(oA, .inl (cA 1, 1, .inr (.inl u9.2)))]) ++ (w_P a cA Pp.1 Pp.2.1 Pp.2.2.1 Pp.2.2.2 bd) ++ (w_S sb cA Sp.1 Sp.2.1 Sp.2.2.1 Sp.2.2.2) ++ (w_Y yA cA Yp.1 Yp.2.1 Yp.2.2.1 Yp.2.2.2) ++ (w_M am cA um.1 um.2.1 um.2.2.1 um.2.2.2) ++ (w_B (bb 0) cA ((va_up Bi n u9.1.1) 0) ((va_up Bl n u9.1.2.1) 0) ((va_up Bj n u9.1.2.2.1) 0) ((va_up Bk n u9.1.2.2.2) 0)) ++ (w_B (bb 1) cA ((va_up Bi n u9.1.1) 1) ((va_up Bl n u9.1.2.1) 1) ((va_up Bj n u9.1.2.2.1) 1) ((va_up Bk n u9.1.2.2.2) 1)) ++ (w_B (bb 2) cA ((va_up Bi n u9.1.1) 2) ((va_up Bl n u9.1.2.1) 2) ((va_up Bj n u9.1.2.2.1) 2) ((va_up Bk n u9.1.2.2.2) 2)) ++ (w_B (bb 3) cA ((va_up Bi n u9.1.1) 3) ((va_up Bl n u9.1.2.1) 3) ((va_up Bj n u9.1.2.2.1) 3) ((va_up Bk n u9.1.2.2.2) 3))) := hD
  refine lv_if_ne (tgt := 309) hx hb d_L_law_287 (by decide) (fun d26 => ?_) (fun d26 => ?_)
  · refine lv_goto (tgt := 1460) hx hb d_L_law_309 (by decide) ?_
    exact kk Pp Sp Yp um (va_up Bi n u9.1.1) (va_up Bl n u9.1.2.1) (va_up Bj n u9.1.2.2.1) (va_up Bk n u9.1.2.2.2) u9.2 _ _ hP hD hS t3 ls (lv_sub hl [2, 3, 4, 5, 6] rfl)
  · have t4 := t2 (show kx = 0 from d26)
    refine lv_aload_n hx hb d_L_law_290 rfl (lv_at hl 5 rfl) ?_
    refine lv_iconst (v := 0) hx hb d_L_law_291 (by decide) ?_
    refine va_lald hx hb hK hP 0 1 rfl rfl (by unfold vp_in; decide) d_L_law_292 ?_
    refine lv_topl (fun z27 ez27 => ?_)
    obtain rfl : z27 = (u9.2 0) := by rw [ez27]; rfl
    refine lv_iload hx hb d_L_law_293 (lv_at hl 0 rfl) ?_
    refine lv_if_eq (tgt := 302) hx hb d_L_law_295 (by decide) (fun f28 => ?_) (fun f28 => ?_)
    · refine lv_lconst (v := 0) hx hb d_L_law_302 (by decide) ?_
      refine W.lcmp hx hb d_L_law_303 ?_
      refine lv_if_eq (tgt := 309) hx hb d_L_law_304 (by decide) (fun _ => ?_) (fun k29 => by first | exact absurd ((lg_cmp_eq _ _).mpr (t4.trans (if_pos f28))) k29 | exact absurd k29 ((lg_cmp_eq _ _).mpr (t4.trans (if_pos f28))))
      refine lv_goto (tgt := 1460) hx hb d_L_law_309 (by decide) ?_
      exact kk Pp Sp Yp um (va_up Bi n u9.1.1) (va_up Bl n u9.1.2.1) (va_up Bj n u9.1.2.2.1) (va_up Bk n u9.1.2.2.2) u9.2 _ _ hP hD hS t3 ls (lv_sub hl [2, 3, 4, 5, 6] rfl)
    · refine lv_lconst (v := 1) hx hb d_L_law_298 (by decide) ?_
      refine lv_goto (tgt := 303) hx hb d_L_law_299 (by decide) ?_
      refine W.lcmp hx hb d_L_law_303 ?_
      refine lv_if_eq (tgt := 309) hx hb d_L_law_304 (by decide) (fun _ => ?_) (fun k30 => by first | exact absurd ((lg_cmp_eq _ _).mpr (t4.trans (if_neg f28))) k30 | exact absurd k30 ((lg_cmp_eq _ _).mpr (t4.trans (if_neg f28))))
      refine lv_goto (tgt := 1460) hx hb d_L_law_309 (by decide) ?_
      exact kk Pp Sp Yp um (va_up Bi n u9.1.1) (va_up Bl n u9.1.2.1) (va_up Bj n u9.1.2.2.1) (va_up Bk n u9.1.2.2.2) u9.2 _ _ hP hD hS t3 ls (lv_sub hl [2, 3, 4, 5, 6] rfl)
set_option maxHeartbeats 4000000 in
set_option maxRecDepth 100000 in
theorem lc_part {p : Program} {l : Launch} {e : Env} {s : State} {m : MethodId} {below : List Frame} {meth : Method} {c : Code} {Q : State → Prop} {D : va_G} {cA sa : Nat → Nat} (Z : zE l s D cA sa) (N9 : zN s) (hx : p.tables.exec = Jvm.exec) (hb : c.code = code) (hml : c.maxLocals = 8) (hown : s.vm.findClass R_L = some m.cls) (hg : gl s s) (hK : va_K D ncl (ty0 cA) s) {b L : Nat} {xs : Nat → Int32} (hX : va_X b L xs s s.heap) (hbl : b < s.heap.size) (hL : L ≤ 4098) {a sb yA bd am : Nat → Nat} {oA : Nat} {bb : Nat → Nat → Nat} (hsa : sb 0 = a 5) (hya : yA 0 = a 6) (hbd : ∀ k, k < 4 → bd k = bb k 0) {i cl sl : Nat} (hi : i + 8 ≤ L) (hcl : cl + 5 ≤ 601024) (hsl : sl + 30 ≤ 7293000) {Pp Sp Yp Mp : St} {Bi : Nat → Nat → Int32} {Bl : Nat → Nat → Int64} {Bj : Nat → Nat → Nat → Int32} {Bk : Nat → Nat → Nat → Int64} {oF : Nat → Int64} (hI : INV Pp Sp Yp Mp Bi Bl Bk) (kk : ∀ (P1 S1 Y1 M1 : St) (Bi1 : Nat → Nat → Int32) (Bl1 : Nat → Nat → Int64) (Bj1 : Nat → Nat → Nat → Int32) (Bk1 : Nat → Nat → Nat → Int64) (oF1 : Nat → Int64) (H : Heap) (locs : List Loc), va_P D ncl (([(oA, .inl (cA 1, 1, .inr (.inl oF1)))]) ++ (w_P a cA P1.1 P1.2.1 P1.2.2.1 P1.2.2.2 bd) ++ (w_S sb cA S1.1 S1.2.1 S1.2.2.1 S1.2.2.2) ++ (w_Y yA cA Y1.1 Y1.2.1 Y1.2.2.1 Y1.2.2.2) ++ (w_M am cA M1.1 M1.2.1 M1.2.2.1 M1.2.2.2) ++ (w_B (bb 0) cA (Bi1 0) (Bl1 0) (Bj1 0) (Bk1 0)) ++ (w_B (bb 1) cA (Bi1 1) (Bl1 1) (Bj1 1) (Bk1 1)) ++ (w_B (bb 2) cA (Bi1 2) (Bl1 2) (Bj1 2) (Bk1 2)) ++ (w_B (bb 3) cA (Bi1 3) (Bl1 3) (Bj1 3) (Bk1 3))) H → va_D (fun q => s.heap.size ≤ q) (([(oA, .inl (cA 1, 1, .inr (.inl oF1)))]) ++ (w_P a cA P1.1 P1.2.1 P1.2.2.1 P1.2.2.2 bd) ++ (w_S sb cA S1.1 S1.2.1 S1.2.2.1 S1.2.2.2) ++ (w_Y yA cA Y1.1 Y1.2.1 Y1.2.2.1 Y1.2.2.2) ++ (w_M am cA M1.1 M1.2.1 M1.2.2.1 M1.2.2.2) ++ (w_B (bb 0) cA (Bi1 0) (Bl1 0) (Bj1 0) (Bk1 0)) ++ (w_B (bb 1) cA (Bi1 1) (Bl1 1) (Bj1 1) (Bk1 1)) ++ (w_B (bb 2) cA (Bi1 2) (Bl1 2) (Bj1 2) (Bk1 2)) ++ (w_B (bb 3) cA (Bi1 3) (Bl1 3) (Bj1 3) (Bk1 3))) → va_S (fun q => s.heap.size ≤ q) s.heap H locs → INV P1 S1 Y1 M1 Bi1 Bl1 Bk1 → ∀ ls : Array Slot, lv_has ls 8 [(0, .ref b), (1, .ref (a 0)), (2, .ref (am 0)), (3, .ref oA), (4, .int (nI i))] → W p l e room_1 s m #[Value.ref b] below meth c H locs (cl + 5) (sl + 30) Q (F0 m 1460 ls [])) {H : Heap} {locs : List Loc} (hP : va_P D ncl (([(oA, .inl (cA 1, 1, .inr (.inl oF)))]) ++ (w_P a cA Pp.1 Pp.2.1 Pp.2.2.1 Pp.2.2.2 bd) ++ (w_S sb cA Sp.1 Sp.2.1 Sp.2.2.1 Sp.2.2.2) ++ (w_Y yA cA Yp.1 Yp.2.1 Yp.2.2.1 Yp.2.2.2) ++ (w_M am cA Mp.1 Mp.2.1 Mp.2.2.1 Mp.2.2.2) ++ (w_B (bb 0) cA (Bi 0) (Bl 0) (Bj 0) (Bk 0)) ++ (w_B (bb 1) cA (Bi 1) (Bl 1) (Bj 1) (Bk 1)) ++ (w_B (bb 2) cA (Bi 2) (Bl 2) (Bj 2) (Bk 2)) ++ (w_B (bb 3) cA (Bi 3) (Bl 3) (Bj 3) (Bk 3))) H) (hD : va_D (fun q => s.heap.size ≤ q) (([(oA, .inl (cA 1, 1, .inr (.inl oF)))]) ++ (w_P a cA Pp.1 Pp.2.1 Pp.2.2.1 Pp.2.2.2 bd) ++ (w_S sb cA Sp.1 Sp.2.1 Sp.2.2.1 Sp.2.2.2) ++ (w_Y yA cA Yp.1 Yp.2.1 Yp.2.2.1 Yp.2.2.2) ++ (w_M am cA Mp.1 Mp.2.1 Mp.2.2.1 Mp.2.2.2) ++ (w_B (bb 0) cA (Bi 0) (Bl 0) (Bj 0) (Bk 0)) ++ (w_B (bb 1) cA (Bi 1) (Bl 1) (Bj 1) (Bk 1)) ++ (w_B (bb 2) cA (Bi 2) (Bl 2) (Bj 2) (Bk 2)) ++ (w_B (bb 3) cA (Bi 3) (Bl 3) (Bj 3) (Bk 3)))) (hS : va_S (fun q => s.heap.size ≤ q) s.heap H locs) {ls : Array Slot} (hl : lv_has ls 8 [(0, .ref b), (1, .ref (a 0)), (2, .ref (am 0)), (3, .ref oA), (4, .int (nI i))]) : W p l e room_1 s m #[Value.ref b] below meth c H locs cl sl Q (F0 m 733 ls []) := by
  have hA : ∀ q, s.heap.size ≤ q → (fun q => s.heap.size ≤ q) q := fun _ h => h
  have hlo : ∀ q, (fun q => s.heap.size ≤ q) q → s.heap.size ≤ q := fun _ h => h
  have hbA : ¬ (fun q : Nat => s.heap.size ≤ q) b := Nat.not_le.mpr hbl
  obtain ⟨w, h, nb, g, l0, y0, g0, r, nc, np, wt, X, Y, rw, bf, i1, i2, i3, i4, i5, i6, i7, i8, i9, i10, i11⟩ := id hI
  have hnb4 := i2.2.2
  obtain ⟨n, hn4, hnk⟩ := pick (xs (i + 1)) hnb4
  have hbdn : ∀ k, k < nb → (xs (i + 1)) = nI k → bd k = bb n 0 := fun k hk e => by rw [hnk k hk e]; exact hbd n hn4
  obtain ⟨hP, hD⟩ := bq_in (F := (fun k => w_B (bb k) cA (Bi k) (Bl k) (Bj k) (Bk k))) (X := ([(oA, .inl (cA 1, 1, .inr (.inl oF)))]) ++ (w_P a cA Pp.1 Pp.2.1 Pp.2.2.1 Pp.2.2.2 bd) ++ (w_S sb cA Sp.1 Sp.2.1 Sp.2.2.1 Sp.2.2.2) ++ (w_Y yA cA Yp.1 Yp.2.1 Yp.2.2.1 Yp.2.2.2) ++ (w_M am cA Mp.1 Mp.2.1 Mp.2.2.1 Mp.2.2.2)) (n := n) hn4 hP hD
  have hP : va_P D ncl (([(oA, .inl (cA 1, 1, .inr (.inl oF)))]) ++ (w_P a cA Pp.1 Pp.2.1 Pp.2.2.1 Pp.2.2.2 bd) ++ (w_S sb cA Sp.1 Sp.2.1 Sp.2.2.1 Sp.2.2.2) ++ (w_Y yA cA Yp.1 Yp.2.1 Yp.2.2.1 Yp.2.2.2) ++ (w_M am cA Mp.1 Mp.2.1 Mp.2.2.1 Mp.2.2.2) ++ (w_B (bb n) cA (Bi n) (Bl n) (Bj n) (Bk n)) ++ (w_B (bb (pn n 0)) cA (Bi (pn n 0)) (Bl (pn n 0)) (Bj (pn n 0)) (Bk (pn n 0))) ++ (w_B (bb (pn n 1)) cA (Bi (pn n 1)) (Bl (pn n 1)) (Bj (pn n 1)) (Bk (pn n 1))) ++ (w_B (bb (pn n 2)) cA (Bi (pn n 2)) (Bl (pn n 2)) (Bj (pn n 2)) (Bk (pn n 2)))) H := hP
  have hD : va_D (fun q => s.heap.size ≤ q) (([(oA, .inl (cA 1, 1, .inr (.inl oF)))]) ++ (w_P a cA Pp.1 Pp.2.1 Pp.2.2.1 Pp.2.2.2 bd) ++ (w_S sb cA Sp.1 Sp.2.1 Sp.2.2.1 Sp.2.2.2) ++ (w_Y yA cA Yp.1 Yp.2.1 Yp.2.2.1 Yp.2.2.2) ++ (w_M am cA Mp.1 Mp.2.1 Mp.2.2.1 Mp.2.2.2) ++ (w_B (bb n) cA (Bi n) (Bl n) (Bj n) (Bk n)) ++ (w_B (bb (pn n 0)) cA (Bi (pn n 0)) (Bl (pn n 0)) (Bj (pn n 0)) (Bk (pn n 0))) ++ (w_B (bb (pn n 1)) cA (Bi (pn n 1)) (Bl (pn n 1)) (Bj (pn n 1)) (Bk (pn n 1))) ++ (w_B (bb (pn n 2)) cA (Bi (pn n 2)) (Bl (pn n 2)) (Bj (pn n 2)) (Bk (pn n 2)))) := hD
  refine lv_aload_n hx hb d_L_law_733 rfl (lv_at hl 1 rfl) ?_
  refine lv_aload_n hx hb d_L_law_734 rfl (lv_at hl 0 rfl) ?_
  refine lv_iload hx hb d_L_law_735 (lv_at hl 4 rfl) ?_
  refine lv_iconst (v := 1) hx hb d_L_law_737 (by decide) ?_
  refine lv_iadd hx hb d_L_law_738 ?_
  refine lv_topi (fun z1 ez1 => ?_)
  obtain rfl : z1 = (nI (i + 1)) := by rw [ez1]; exact nI_add i 1
  refine va_sld hx hb hX hbl hbA hS (vp_in_nI (n := i + 1) (N := L) (by omega) (by omega)) d_L_law_739 ?_
  refine lv_topi (fun z2 ez2 => ?_)
  rw [nI_clamp (n := i + 1) (by omega)] at ez2
  obtain rfl : z2 = xs (i + 1) := ez2
  refine lv_aload_n hx hb d_L_law_740 rfl (lv_at hl 0 rfl) ?_
  refine lv_iload hx hb d_L_law_741 (lv_at hl 4 rfl) ?_
  refine lv_iconst (v := 2) hx hb d_L_law_743 (by decide) ?_
  refine lv_iadd hx hb d_L_law_744 ?_
  refine lv_topi (fun z3 ez3 => ?_)
  obtain rfl : z3 = (nI (i + 2)) := by rw [ez3]; exact nI_add i 2
  refine va_sld hx hb hX hbl hbA hS (vp_in_nI (n := i + 2) (N := L) (by omega) (by omega)) d_L_law_745 ?_
  refine lv_topi (fun z4 ez4 => ?_)
  rw [nI_clamp (n := i + 2) (by omega)] at ez4
  obtain rfl : z4 = xs (i + 2) := ez4
  refine lv_i2l hx hb d_L_law_746 rfl ?_
  refine lv_bipush (v := 32) hx hb d_L_law_747 (by decide) ?_
  refine lv_lshl hx hb d_L_law_749 rfl ?_
  refine lv_aload_n hx hb d_L_law_750 rfl (lv_at hl 0 rfl) ?_
  refine lv_iload hx hb d_L_law_751 (lv_at hl 4 rfl) ?_
  refine lv_iconst (v := 3) hx hb d_L_law_753 (by decide) ?_
  refine lv_iadd hx hb d_L_law_754 ?_
  refine lv_topi (fun z5 ez5 => ?_)
  obtain rfl : z5 = (nI (i + 3)) := by rw [ez5]; exact nI_add i 3
  refine va_sld hx hb hX hbl hbA hS (vp_in_nI (n := i + 3) (N := L) (by omega) (by omega)) d_L_law_755 ?_
  refine lv_topi (fun z6 ez6 => ?_)
  rw [nI_clamp (n := i + 3) (by omega)] at ez6
  obtain rfl : z6 = xs (i + 3) := ez6
  refine lv_i2l hx hb d_L_law_756 rfl ?_
  refine lv_ldc2 (v := 4294967295) hx hb hown (kw834 Z.1 _ _ hg.1) d_L_law_757 ?_
  refine lv_land hx hb d_L_law_760 ?_
  refine lv_lor hx hb d_L_law_761 ?_
  refine lv_topl (fun z7 ez7 => ?_)
  obtain rfl : z7 = (jl (xs (i + 2)) (xs (i + 3))) := by rw [ez7]; rfl
  refine lv_aload_n hx hb d_L_law_762 rfl (lv_at hl 0 rfl) ?_
  refine lv_iload hx hb d_L_law_763 (lv_at hl 4 rfl) ?_
  refine lv_iconst (v := 4) hx hb d_L_law_765 (by decide) ?_
  refine lv_iadd hx hb d_L_law_766 ?_
  refine lv_topi (fun z8 ez8 => ?_)
  obtain rfl : z8 = (nI (i + 4)) := by rw [ez8]; exact nI_add i 4
  refine va_sld hx hb hX hbl hbA hS (vp_in_nI (n := i + 4) (N := L) (by omega) (by omega)) d_L_law_767 ?_
  refine lv_topi (fun z9 ez9 => ?_)
  rw [nI_clamp (n := i + 4) (by omega)] at ez9
  obtain rfl : z9 = xs (i + 4) := ez9
  refine lv_i2l hx hb d_L_law_768 rfl ?_
  refine lv_bipush (v := 32) hx hb d_L_law_769 (by decide) ?_
  refine lv_lshl hx hb d_L_law_771 rfl ?_
  refine lv_aload_n hx hb d_L_law_772 rfl (lv_at hl 0 rfl) ?_
  refine lv_iload hx hb d_L_law_773 (lv_at hl 4 rfl) ?_
  refine lv_iconst (v := 5) hx hb d_L_law_775 (by decide) ?_
  refine lv_iadd hx hb d_L_law_776 ?_
  refine lv_topi (fun z10 ez10 => ?_)
  obtain rfl : z10 = (nI (i + 5)) := by rw [ez10]; exact nI_add i 5
  refine va_sld hx hb hX hbl hbA hS (vp_in_nI (n := i + 5) (N := L) (by omega) (by omega)) d_L_law_777 ?_
  refine lv_topi (fun z11 ez11 => ?_)
  rw [nI_clamp (n := i + 5) (by omega)] at ez11
  obtain rfl : z11 = xs (i + 5) := ez11
  refine lv_i2l hx hb d_L_law_778 rfl ?_
  refine lv_ldc2 (v := 4294967295) hx hb hown (kw834 Z.1 _ _ hg.1) d_L_law_779 ?_
  refine lv_land hx hb d_L_law_782 ?_
  refine lv_lor hx hb d_L_law_783 ?_
  refine lv_topl (fun z12 ez12 => ?_)
  obtain rfl : z12 = (jl (xs (i + 4)) (xs (i + 5))) := by rw [ez12]; rfl
  refine lv_aload_n hx hb d_L_law_784 rfl (lv_at hl 0 rfl) ?_
  refine lv_iload hx hb d_L_law_785 (lv_at hl 4 rfl) ?_
  refine lv_bipush (v := 6) hx hb d_L_law_787 (by decide) ?_
  refine lv_iadd hx hb d_L_law_789 ?_
  refine lv_topi (fun z13 ez13 => ?_)
  obtain rfl : z13 = (nI (i + 6)) := by rw [ez13]; exact nI_add i 6
  refine va_sld hx hb hX hbl hbA hS (vp_in_nI (n := i + 6) (N := L) (by omega) (by omega)) d_L_law_790 ?_
  refine lv_topi (fun z14 ez14 => ?_)
  rw [nI_clamp (n := i + 6) (by omega)] at ez14
  obtain rfl : z14 = xs (i + 6) := ez14
  refine lv_i2l hx hb d_L_law_791 rfl ?_
  refine lv_bipush (v := 32) hx hb d_L_law_792 (by decide) ?_
  refine lv_lshl hx hb d_L_law_794 rfl ?_
  refine lv_aload_n hx hb d_L_law_795 rfl (lv_at hl 0 rfl) ?_
  refine lv_iload hx hb d_L_law_796 (lv_at hl 4 rfl) ?_
  refine lv_bipush (v := 7) hx hb d_L_law_798 (by decide) ?_
  refine lv_iadd hx hb d_L_law_800 ?_
  refine lv_topi (fun z15 ez15 => ?_)
  obtain rfl : z15 = (nI (i + 7)) := by rw [ez15]; exact nI_add i 7
  refine va_sld hx hb hX hbl hbA hS (vp_in_nI (n := i + 7) (N := L) (by omega) (by omega)) d_L_law_801 ?_
  refine lv_topi (fun z16 ez16 => ?_)
  rw [nI_clamp (n := i + 7) (by omega)] at ez16
  obtain rfl : z16 = xs (i + 7) := ez16
  refine lv_i2l hx hb d_L_law_802 rfl ?_
  refine lv_ldc2 (v := 4294967295) hx hb hown (kw834 Z.1 _ _ hg.1) d_L_law_803 ?_
  refine lv_land hx hb d_L_law_806 ?_
  refine lv_lor hx hb d_L_law_807 ?_
  refine lv_topl (fun z17 ez17 => ?_)
  obtain rfl : z17 = (jl (xs (i + 6)) (xs (i + 7))) := by rw [ez17]; rfl
  refine lv_aload_n hx hb d_L_law_808 rfl (lv_at hl 3 rfl) ?_
  have hpm : List.Perm (([(oA, .inl (cA 1, 1, .inr (.inl oF)))]) ++ (w_P a cA Pp.1 Pp.2.1 Pp.2.2.1 Pp.2.2.2 bd) ++ (w_S sb cA Sp.1 Sp.2.1 Sp.2.2.1 Sp.2.2.2) ++ (w_Y yA cA Yp.1 Yp.2.1 Yp.2.2.1 Yp.2.2.2) ++ (w_M am cA Mp.1 Mp.2.1 Mp.2.2.1 Mp.2.2.2) ++ (w_B (bb n) cA (Bi n) (Bl n) (Bj n) (Bk n)) ++ (w_B (bb (pn n 0)) cA (Bi (pn n 0)) (Bl (pn n 0)) (Bj (pn n 0)) (Bk (pn n 0))) ++ (w_B (bb (pn n 1)) cA (Bi (pn n 1)) (Bl (pn n 1)) (Bj (pn n 1)) (Bk (pn n 1))) ++ (w_B (bb (pn n 2)) cA (Bi (pn n 2)) (Bl (pn n 2)) (Bj (pn n 2)) (Bk (pn n 2)))) (((w_P a cA Pp.1 Pp.2.1 Pp.2.2.1 Pp.2.2.2 bd) ++ (w_B (bb n) cA (Bi n) (Bl n) (Bj n) (Bk n)) ++ ([(oA, .inl (cA 1, 1, .inr (.inl oF)))])) ++ ((w_S sb cA Sp.1 Sp.2.1 Sp.2.2.1 Sp.2.2.2) ++ (w_Y yA cA Yp.1 Yp.2.1 Yp.2.2.1 Yp.2.2.2) ++ (w_M am cA Mp.1 Mp.2.1 Mp.2.2.1 Mp.2.2.2) ++ (w_B (bb (pn n 0)) cA (Bi (pn n 0)) (Bl (pn n 0)) (Bj (pn n 0)) (Bk (pn n 0))) ++ (w_B (bb (pn n 1)) cA (Bi (pn n 1)) (Bl (pn n 1)) (Bj (pn n 1)) (Bk (pn n 1))) ++ (w_B (bb (pn n 2)) cA (Bi (pn n 2)) (Bl (pn n 2)) (Bj (pn n 2)) (Bk (pn n 2))))) := by simp only [List.append_assoc]; exact ((List.perm_append_comm_assoc _ _ _).trans (List.Perm.append_left _ ((List.Perm.append_left _ ((List.Perm.append_left _ ((List.Perm.append_left _ (List.perm_append_comm_assoc _ _ _)).trans (List.perm_append_comm_assoc _ _ _))).trans (List.perm_append_comm_assoc _ _ _))).trans (List.perm_append_comm_assoc _ _ _))))
  have hP := vP_perm hpm hP
  have hD := vD_perm hpm hD
  clear hpm
  refine pt_calli (wt_runSW (rest := []) hx hb hml hown hl.1 hg hlo (vP_l hP) (vD_l hD) hS (m_L_part Z N9 a Pp.1 Pp.2.1 Pp.2.2.1 Pp.2.2.2 bd (bb n) (Bi n) (Bl n) (Bj n) (Bk n) (xs (i + 1)) (jl (xs (i + 2)) (xs (i + 3))) (jl (xs (i + 4)) (xs (i + 5))) (jl (xs (i + 6)) (xs (i + 7))) nb (np n) i2.1 hnb4 hbdn (i7 n hn4).2.1 (i7 n hn4).1 oA oF H.size) (kw521 Z.1) (kw522 Z.1) (kw523 Z.1) (kw0 Z.1) ⟨by decide, by decide, (by decide +kernel : (parseMethodDescriptor y_L_part.desc).map (fun d => d.parameters.length) = some 6)⟩ ⟨(Nat.le_of_ble_eq_true rfl), (Nat.le_of_ble_eq_true rfl)⟩ [0, 1, 2, 3, 4, 5, 6, 7, 8, 9] rfl rfl rfl (Nat.le_of_ble_eq_true rfl) d_L_law_809 ⟨by show cl + 5 ≤ 601024; omega, by show sl + 30 ≤ 7293000; omega⟩) hP hD hS hA (fun kx u9 H locs hq hP hD hS => ?_)
  refine W.widen (k := cl + 5) (n := sl + 30) (by show cl + 5 ≤ cl + 5; omega) (by show sl + 30 ≤ sl + 30; omega) ?_
  have hP : va_P D ncl (((w_P a cA Pp.1 Pp.2.1 Pp.2.2.1 Pp.2.2.2 bd) ++ (w_B (bb n) cA u9.1.1 u9.1.2.1 u9.1.2.2.1 u9.1.2.2.2) ++ ([(oA, .inl (cA 1, 1, .inr (.inl u9.2)))])) ++ ((w_S sb cA Sp.1 Sp.2.1 Sp.2.2.1 Sp.2.2.2) ++ (w_Y yA cA Yp.1 Yp.2.1 Yp.2.2.1 Yp.2.2.2) ++ (w_M am cA Mp.1 Mp.2.1 Mp.2.2.1 Mp.2.2.2) ++ (w_B (bb (pn n 0)) cA (Bi (pn n 0)) (Bl (pn n 0)) (Bj (pn n 0)) (Bk (pn n 0))) ++ (w_B (bb (pn n 1)) cA (Bi (pn n 1)) (Bl (pn n 1)) (Bj (pn n 1)) (Bk (pn n 1))) ++ (w_B (bb (pn n 2)) cA (Bi (pn n 2)) (Bl (pn n 2)) (Bj (pn n 2)) (Bk (pn n 2))))) H := hP
  have hD : va_D (fun q => s.heap.size ≤ q) (((w_P a cA Pp.1 Pp.2.1 Pp.2.2.1 Pp.2.2.2 bd) ++ (w_B (bb n) cA u9.1.1 u9.1.2.1 u9.1.2.2.1 u9.1.2.2.2) ++ ([(oA, .inl (cA 1, 1, .inr (.inl u9.2)))])) ++ ((w_S sb cA Sp.1 Sp.2.1 Sp.2.2.1 Sp.2.2.2) ++ (w_Y yA cA Yp.1 Yp.2.1 Yp.2.2.1 Yp.2.2.2) ++ (w_M am cA Mp.1 Mp.2.1 Mp.2.2.1 Mp.2.2.2) ++ (w_B (bb (pn n 0)) cA (Bi (pn n 0)) (Bl (pn n 0)) (Bj (pn n 0)) (Bk (pn n 0))) ++ (w_B (bb (pn n 1)) cA (Bi (pn n 1)) (Bl (pn n 1)) (Bj (pn n 1)) (Bk (pn n 1))) ++ (w_B (bb (pn n 2)) cA (Bi (pn n 2)) (Bl (pn n 2)) (Bj (pn n 2)) (Bk (pn n 2))))) := hD
  refine lv_istore (lv' := [(5, .int kx), (0, .ref b), (1, .ref (a 0)), (2, .ref (am 0)), (3, .ref oA), (4, .int (nI i))]) hx hb d_L_law_812 hl (by decide) rfl (fun ls hl => ?_)
  refine lv_aload_n hx hb d_L_law_814 rfl (lv_at hl 3 rfl) ?_
  refine lv_aload_n hx hb d_L_law_815 rfl (lv_at hl 1 rfl) ?_
  refine lv_iload hx hb d_L_law_816 (lv_at hl 5 rfl) ?_
  refine lv_iconst (v := 1) hx hb d_L_law_818 (by decide) ?_
  refine lv_iadd hx hb d_L_law_819 ?_
  refine lv_topi (fun z18 ez18 => ?_)
  obtain rfl : z18 = (nI (i + 1)) := by rw [ez18]; exact nI_add i 1
  refine va_sld hx hb hX hbl hbA hS (vp_in_nI (n := i + 1) (N := L) (by omega) (by omega)) d_L_law_820 ?_
  refine lv_topi (fun z19 ez19 => ?_)
  rw [nI_clamp (n := i + 1) (by omega)] at ez19
  obtain rfl : z19 = xs (i + 1) := ez19
  refine lv_aload_n hx hb d_L_law_821 rfl (lv_at hl 1 rfl) ?_
  refine lv_iload hx hb d_L_law_822 (lv_at hl 5 rfl) ?_
  refine lv_iconst (v := 2) hx hb d_L_law_824 (by decide) ?_
  refine lv_iadd hx hb d_L_law_825 ?_
  refine lv_topi (fun z20 ez20 => ?_)
  obtain rfl : z20 = (nI (i + 2)) := by rw [ez20]; exact nI_add i 2
  refine va_sld hx hb hX hbl hbA hS (vp_in_nI (n := i + 2) (N := L) (by omega) (by omega)) d_L_law_826 ?_
  refine lv_topi (fun z21 ez21 => ?_)
  rw [nI_clamp (n := i + 2) (by omega)] at ez21
  obtain rfl : z21 = xs (i + 2) := ez21
  refine lv_i2l hx hb d_L_law_827 rfl ?_
  refine lv_bipush (v := 32) hx hb d_L_law_828 (by decide) ?_
  refine lv_lshl hx hb d_L_law_830 rfl ?_
  refine lv_aload_n hx hb d_L_law_831 rfl (lv_at hl 1 rfl) ?_
  refine lv_iload hx hb d_L_law_832 (lv_at hl 5 rfl) ?_
  refine lv_iconst (v := 3) hx hb d_L_law_834 (by decide) ?_
  refine lv_iadd hx hb d_L_law_835 ?_
  refine lv_topi (fun z22 ez22 => ?_)
  obtain rfl : z22 = (nI (i + 3)) := by rw [ez22]; exact nI_add i 3
  refine va_sld hx hb hX hbl hbA hS (vp_in_nI (n := i + 3) (N := L) (by omega) (by omega)) d_L_law_836 ?_
  refine lv_topi (fun z23 ez23 => ?_)
  rw [nI_clamp (n := i + 3) (by omega)] at ez23
  obtain rfl : z23 = xs (i + 3) := ez23
  refine lv_i2l hx hb d_L_law_837 rfl ?_
  refine lv_ldc2 (v := 4294967295) hx hb hown (kw834 Z.1 _ _ hg.1) d_L_law_838 ?_
  refine lv_land hx hb d_L_law_841 ?_
  refine lv_lor hx hb d_L_law_842 ?_
  refine lv_topl (fun z24 ez24 => ?_)
  obtain rfl : z24 = (jl (xs (i + 2)) (xs (i + 3))) := by rw [ez24]; rfl
  refine lv_aload_n hx hb d_L_law_843 rfl (lv_at hl 1 rfl) ?_
  refine lv_iload hx hb d_L_law_844 (lv_at hl 5 rfl) ?_
  refine lv_iconst (v := 4) hx hb d_L_law_846 (by decide) ?_
  refine lv_iadd hx hb d_L_law_847 ?_
  refine lv_topi (fun z25 ez25 => ?_)
  obtain rfl : z25 = (nI (i + 4)) := by rw [ez25]; exact nI_add i 4
  refine va_sld hx hb hX hbl hbA hS (vp_in_nI (n := i + 4) (N := L) (by omega) (by omega)) d_L_law_848 ?_
  refine lv_topi (fun z26 ez26 => ?_)
  rw [nI_clamp (n := i + 4) (by omega)] at ez26
  obtain rfl : z26 = xs (i + 4) := ez26
  refine lv_i2l hx hb d_L_law_849 rfl ?_
  refine lv_bipush (v := 32) hx hb d_L_law_850 (by decide) ?_
  refine lv_lshl hx hb d_L_law_852 rfl ?_
  refine lv_aload_n hx hb d_L_law_853 rfl (lv_at hl 1 rfl) ?_
  refine lv_iload hx hb d_L_law_854 (lv_at hl 5 rfl) ?_
  refine lv_iconst (v := 5) hx hb d_L_law_856 (by decide) ?_
  refine lv_iadd hx hb d_L_law_857 ?_
  refine lv_topi (fun z27 ez27 => ?_)
  obtain rfl : z27 = (nI (i + 5)) := by rw [ez27]; exact nI_add i 5
  refine va_sld hx hb hX hbl hbA hS (vp_in_nI (n := i + 5) (N := L) (by omega) (by omega)) d_L_law_858 ?_
  refine lv_topi (fun z28 ez28 => ?_)
  rw [nI_clamp (n := i + 5) (by omega)] at ez28
  obtain rfl : z28 = xs (i + 5) := ez28
  refine lv_i2l hx hb d_L_law_859 rfl ?_
  refine lv_ldc2 (v := 4294967295) hx hb hown (kw834 Z.1 _ _ hg.1) d_L_law_860 ?_
  refine lv_land hx hb d_L_law_863 ?_
  refine lv_lor hx hb d_L_law_864 ?_
  refine lv_topl (fun z29 ez29 => ?_)
  obtain rfl : z29 = (jl (xs (i + 4)) (xs (i + 5))) := by rw [ez29]; rfl
  refine lv_aload_n hx hb d_L_law_865 rfl (lv_at hl 1 rfl) ?_
  refine lv_iload hx hb d_L_law_866 (lv_at hl 5 rfl) ?_
  refine lv_bipush (v := 6) hx hb d_L_law_868 (by decide) ?_
  refine lv_iadd hx hb d_L_law_870 ?_
  refine lv_topi (fun z30 ez30 => ?_)
  obtain rfl : z30 = (nI (i + 6)) := by rw [ez30]; exact nI_add i 6
  refine va_sld hx hb hX hbl hbA hS (vp_in_nI (n := i + 6) (N := L) (by omega) (by omega)) d_L_law_871 ?_
  refine lv_topi (fun z31 ez31 => ?_)
  rw [nI_clamp (n := i + 6) (by omega)] at ez31
  obtain rfl : z31 = xs (i + 6) := ez31
  refine lv_i2l hx hb d_L_law_872 rfl ?_
  refine lv_bipush (v := 32) hx hb d_L_law_873 (by decide) ?_
  refine lv_lshl hx hb d_L_law_875 rfl ?_
  refine lv_aload_n hx hb d_L_law_876 rfl (lv_at hl 1 rfl) ?_
  refine lv_iload hx hb d_L_law_877 (lv_at hl 5 rfl) ?_
  refine lv_bipush (v := 7) hx hb d_L_law_879 (by decide) ?_
  refine lv_iadd hx hb d_L_law_881 ?_
  refine lv_topi (fun z32 ez32 => ?_)
  obtain rfl : z32 = (nI (i + 7)) := by rw [ez32]; exact nI_add i 7
  refine va_sld hx hb hX hbl hbA hS (vp_in_nI (n := i + 7) (N := L) (by omega) (by omega)) d_L_law_882 ?_
  refine lv_topi (fun z33 ez33 => ?_)
  rw [nI_clamp (n := i + 7) (by omega)] at ez33
  obtain rfl : z33 = xs (i + 7) := ez33
  refine lv_i2l hx hb d_L_law_883 rfl ?_
  refine lv_ldc2 (v := 4294967295) hx hb hown (kw834 Z.1 _ _ hg.1) d_L_law_884 ?_
  refine lv_land hx hb d_L_law_887 ?_
  refine lv_lor hx hb d_L_law_888 ?_
  refine lv_topl (fun z34 ez34 => ?_)
  obtain rfl : z34 = (jl (xs (i + 6)) (xs (i + 7))) := by rw [ez34]; rfl
  have hpm : List.Perm (((w_P a cA Pp.1 Pp.2.1 Pp.2.2.1 Pp.2.2.2 bd) ++ (w_B (bb n) cA u9.1.1 u9.1.2.1 u9.1.2.2.1 u9.1.2.2.2) ++ ([(oA, .inl (cA 1, 1, .inr (.inl u9.2)))])) ++ ((w_S sb cA Sp.1 Sp.2.1 Sp.2.2.1 Sp.2.2.2) ++ (w_Y yA cA Yp.1 Yp.2.1 Yp.2.2.1 Yp.2.2.2) ++ (w_M am cA Mp.1 Mp.2.1 Mp.2.2.1 Mp.2.2.2) ++ (w_B (bb (pn n 0)) cA (Bi (pn n 0)) (Bl (pn n 0)) (Bj (pn n 0)) (Bk (pn n 0))) ++ (w_B (bb (pn n 1)) cA (Bi (pn n 1)) (Bl (pn n 1)) (Bj (pn n 1)) (Bk (pn n 1))) ++ (w_B (bb (pn n 2)) cA (Bi (pn n 2)) (Bl (pn n 2)) (Bj (pn n 2)) (Bk (pn n 2))))) (((w_M am cA Mp.1 Mp.2.1 Mp.2.2.1 Mp.2.2.2)) ++ ((w_P a cA Pp.1 Pp.2.1 Pp.2.2.1 Pp.2.2.2 bd) ++ (w_B (bb n) cA u9.1.1 u9.1.2.1 u9.1.2.2.1 u9.1.2.2.2) ++ ([(oA, .inl (cA 1, 1, .inr (.inl u9.2)))]) ++ (w_S sb cA Sp.1 Sp.2.1 Sp.2.2.1 Sp.2.2.2) ++ (w_Y yA cA Yp.1 Yp.2.1 Yp.2.2.1 Yp.2.2.2) ++ (w_B (bb (pn n 0)) cA (Bi (pn n 0)) (Bl (pn n 0)) (Bj (pn n 0)) (Bk (pn n 0))) ++ (w_B (bb (pn n 1)) cA (Bi (pn n 1)) (Bl (pn n 1)) (Bj (pn n 1)) (Bk (pn n 1))) ++ (w_B (bb (pn n 2)) cA (Bi (pn n 2)) (Bl (pn n 2)) (Bj (pn n 2)) (Bk (pn n 2))))) := by simp only [List.append_assoc]; exact ((List.Perm.append_left _ ((List.Perm.append_left _ ((List.Perm.append_left _ ((List.Perm.append_left _ (List.perm_append_comm_assoc _ _ _)).trans (List.perm_append_comm_assoc _ _ _))).trans (List.perm_append_comm_assoc _ _ _))).trans (List.perm_append_comm_assoc _ _ _))).trans (List.perm_append_comm_assoc _ _ _))
  have hP := vP_perm hpm hP
  have hD := vD_perm hpm hD
  clear hpm
  refine p_calli (w_runV (rest := []) hx hb hml hown hl.1 hg hlo hK (vP_l hP) (vD_l hD) hS (m_M_part Z am Mp.1 Mp.2.1 Mp.2.2.1 Mp.2.2.2 (xs (i + 1)) (jl (xs (i + 2)) (xs (i + 3))) (jl (xs (i + 4)) (xs (i + 5))) (jl (xs (i + 6)) (xs (i + 7))) nb np i2.2.1 hnb4 (fun k hk => ⟨(i7 k hk).2.2.1, (i7 k hk).1⟩) H.size) (kw702 Z.1) (kw703 Z.1) (kw704 Z.1) (kw705 Z.1) (kw6 Z.1) ⟨by decide, by decide, (by decide +kernel : (parseMethodDescriptor y_M_part.desc).map (fun d => d.parameters.length) = some 4)⟩ ⟨(Nat.le_of_ble_eq_true rfl), (Nat.le_of_ble_eq_true rfl)⟩ [0, 1, 2, 3, 4, 5, 6, 7, 8, 9, 10, 11, 12, 13, 14, 15, 16] rfl rfl (ci := 1) (q0 := 0) rfl rfl rfl (Nat.le_of_ble_eq_true rfl) d_L_law_889 ⟨by show cl + 5 + 0 ≤ 601024; omega, by show sl + 30 + 0 ≤ 7293000; omega⟩) hP hD hS hA (fun rm um H locs hm hP hD hS => ?_)
  refine W.widen (k := cl + 5) (n := sl + 30) (by show cl + 5 + 0 ≤ cl + 5; omega) (by show sl + 30 + 0 ≤ sl + 30; omega) ?_
  have hP : va_P D ncl (((w_M am cA um.1 um.2.1 um.2.2.1 um.2.2.2)) ++ ((w_P a cA Pp.1 Pp.2.1 Pp.2.2.1 Pp.2.2.2 bd) ++ (w_B (bb n) cA u9.1.1 u9.1.2.1 u9.1.2.2.1 u9.1.2.2.2) ++ ([(oA, .inl (cA 1, 1, .inr (.inl u9.2)))]) ++ (w_S sb cA Sp.1 Sp.2.1 Sp.2.2.1 Sp.2.2.2) ++ (w_Y yA cA Yp.1 Yp.2.1 Yp.2.2.1 Yp.2.2.2) ++ (w_B (bb (pn n 0)) cA (Bi (pn n 0)) (Bl (pn n 0)) (Bj (pn n 0)) (Bk (pn n 0))) ++ (w_B (bb (pn n 1)) cA (Bi (pn n 1)) (Bl (pn n 1)) (Bj (pn n 1)) (Bk (pn n 1))) ++ (w_B (bb (pn n 2)) cA (Bi (pn n 2)) (Bl (pn n 2)) (Bj (pn n 2)) (Bk (pn n 2))))) H := hP
  have hD : va_D (fun q => s.heap.size ≤ q) (((w_M am cA um.1 um.2.1 um.2.2.1 um.2.2.2)) ++ ((w_P a cA Pp.1 Pp.2.1 Pp.2.2.1 Pp.2.2.2 bd) ++ (w_B (bb n) cA u9.1.1 u9.1.2.1 u9.1.2.2.1 u9.1.2.2.2) ++ ([(oA, .inl (cA 1, 1, .inr (.inl u9.2)))]) ++ (w_S sb cA Sp.1 Sp.2.1 Sp.2.2.1 Sp.2.2.2) ++ (w_Y yA cA Yp.1 Yp.2.1 Yp.2.2.1 Yp.2.2.2) ++ (w_B (bb (pn n 0)) cA (Bi (pn n 0)) (Bl (pn n 0)) (Bj (pn n 0)) (Bk (pn n 0))) ++ (w_B (bb (pn n 1)) cA (Bi (pn n 1)) (Bl (pn n 1)) (Bj (pn n 1)) (Bk (pn n 1))) ++ (w_B (bb (pn n 2)) cA (Bi (pn n 2)) (Bl (pn n 2)) (Bj (pn n 2)) (Bk (pn n 2))))) := hD
  obtain ⟨t1, t2, t3⟩ := tie_part (oF := oF) (jb := Bj n) hI i2.1 hnb4 hn4 hnk (i7 n hn4).2.1 (i7 n hn4).1 (fun k hk => ⟨(i7 k hk).2.2.1, (i7 k hk).1⟩) hq hm
  refine lv_istore (lv' := [(6, .int rm), (5, .int kx), (0, .ref b), (1, .ref (a 0)), (2, .ref (am 0)), (3, .ref oA), (4, .int (nI i))]) hx hb d_L_law_892 hl (by decide) rfl (fun ls hl => ?_)
  refine lv_aload_n hx hb d_L_law_894 rfl (lv_at hl 4 rfl) ?_
  refine p_calli (w_runV (rest := []) hx hb hml hown hl.1 hg hlo hK (vP_l hP) (vD_l hD) hS (m_M_thrown Z am um.1 um.2.1 um.2.2.1 um.2.2.2 H.size) (kw683 Z.1) (kw684 Z.1) (kw685 Z.1) (kw686 Z.1) (kw6 Z.1) ⟨by decide, by decide, (by decide +kernel : (parseMethodDescriptor y_M_thrown.desc).map (fun d => d.parameters.length) = some 0)⟩ ⟨(Nat.le_of_ble_eq_true rfl), (Nat.le_of_ble_eq_true rfl)⟩ [0, 1, 2, 3, 4, 5, 6, 7, 8, 9, 10, 11, 12, 13, 14, 15, 16] rfl rfl (ci := 1) (q0 := 0) rfl rfl rfl (Nat.le_of_ble_eq_true rfl) d_L_law_895 ⟨by show cl + 5 + 0 ≤ 601024; omega, by show sl + 30 + 0 ≤ 7293000; omega⟩) hP hD hS hA (fun rt ut H locs hrt hP hD hS => ?_)
  refine W.widen (k := cl + 5) (n := sl + 30) (by show cl + 5 + 0 ≤ cl + 5; omega) (by show sl + 30 + 0 ≤ sl + 30; omega) ?_
  have hP : va_P D ncl (((w_M am cA um.1 um.2.1 um.2.2.1 um.2.2.2)) ++ ((w_P a cA Pp.1 Pp.2.1 Pp.2.2.1 Pp.2.2.2 bd) ++ (w_B (bb n) cA u9.1.1 u9.1.2.1 u9.1.2.2.1 u9.1.2.2.2) ++ ([(oA, .inl (cA 1, 1, .inr (.inl u9.2)))]) ++ (w_S sb cA Sp.1 Sp.2.1 Sp.2.2.1 Sp.2.2.2) ++ (w_Y yA cA Yp.1 Yp.2.1 Yp.2.2.1 Yp.2.2.2) ++ (w_B (bb (pn n 0)) cA (Bi (pn n 0)) (Bl (pn n 0)) (Bj (pn n 0)) (Bk (pn n 0))) ++ (w_B (bb (pn n 1)) cA (Bi (pn n 1)) (Bl (pn n 1)) (Bj (pn n 1)) (Bk (pn n 1))) ++ (w_B (bb (pn n 2)) cA (Bi (pn n 2)) (Bl (pn n 2)) (Bj (pn n 2)) (Bk (pn n 2))))) H := hP
  have hD : va_D (fun q => s.heap.size ≤ q) (((w_M am cA um.1 um.2.1 um.2.2.1 um.2.2.2)) ++ ((w_P a cA Pp.1 Pp.2.1 Pp.2.2.1 Pp.2.2.2 bd) ++ (w_B (bb n) cA u9.1.1 u9.1.2.1 u9.1.2.2.1 u9.1.2.2.2) ++ ([(oA, .inl (cA 1, 1, .inr (.inl u9.2)))]) ++ (w_S sb cA Sp.1 Sp.2.1 Sp.2.2.1 Sp.2.2.2) ++ (w_Y yA cA Yp.1 Yp.2.1 Yp.2.2.1 Yp.2.2.2) ++ (w_B (bb (pn n 0)) cA (Bi (pn n 0)) (Bl (pn n 0)) (Bj (pn n 0)) (Bk (pn n 0))) ++ (w_B (bb (pn n 1)) cA (Bi (pn n 1)) (Bl (pn n 1)) (Bj (pn n 1)) (Bk (pn n 1))) ++ (w_B (bb (pn n 2)) cA (Bi (pn n 2)) (Bl (pn n 2)) (Bj (pn n 2)) (Bk (pn n 2))))) := hD
  subst hrt
  refine lv_iload hx hb d_L_law_898 (lv_at hl 1 rfl) ?_
  refine lv_icmp_eq (tgt := 905) hx hb d_L_law_900 (by decide) (fun _ => ?_) (fun k35 => by first | exact absurd (show um.1 0 = kx from t1) k35 | exact absurd k35 (show um.1 0 = kx from t1))
  refine lv_iload hx hb d_L_law_905 (lv_at hl 1 rfl) ?_
  have hpm : List.Perm (((w_M am cA um.1 um.2.1 um.2.2.1 um.2.2.2)) ++ ((w_P a cA Pp.1 Pp.2.1 Pp.2.2.1 Pp.2.2.2 bd) ++ (w_B (bb n) cA u9.1.1 u9.1.2.1 u9.1.2.2.1 u9.1.2.2.2) ++ ([(oA, .inl (cA 1, 1, .inr (.inl u9.2)))]) ++ (w_S sb cA Sp.1 Sp.2.1 Sp.2.2.1 Sp.2.2.2) ++ (w_Y yA cA Yp.1 Yp.2.1 Yp.2.2.1 Yp.2.2.2) ++ (w_B (bb (pn n 0)) cA (Bi (pn n 0)) (Bl (pn n 0)) (Bj (pn n 0)) (Bk (pn n 0))) ++ (w_B (bb (pn n 1)) cA (Bi (pn n 1)) (Bl (pn n 1)) (Bj (pn n 1)) (Bk (pn n 1))) ++ (w_B (bb (pn n 2)) cA (Bi (pn n 2)) (Bl (pn n 2)) (Bj (pn n 2)) (Bk (pn n 2))))) (([(oA, .inl (cA 1, 1, .inr (.inl u9.2)))]) ++ (w_P a cA Pp.1 Pp.2.1 Pp.2.2.1 Pp.2.2.2 bd) ++ (w_S sb cA Sp.1 Sp.2.1 Sp.2.2.1 Sp.2.2.2) ++ (w_Y yA cA Yp.1 Yp.2.1 Yp.2.2.1 Yp.2.2.2) ++ (w_M am cA um.1 um.2.1 um.2.2.1 um.2.2.2) ++ (w_B (bb n) cA u9.1.1 u9.1.2.1 u9.1.2.2.1 u9.1.2.2.2) ++ (w_B (bb (pn n 0)) cA (Bi (pn n 0)) (Bl (pn n 0)) (Bj (pn n 0)) (Bk (pn n 0))) ++ (w_B (bb (pn n 1)) cA (Bi (pn n 1)) (Bl (pn n 1)) (Bj (pn n 1)) (Bk (pn n 1))) ++ (w_B (bb (pn n 2)) cA (Bi (pn n 2)) (Bl (pn n 2)) (Bj (pn n 2)) (Bk (pn n 2)))) := by simp only [List.append_assoc]; exact (((List.Perm.append_left _ ((List.Perm.append_left _ (List.perm_append_comm_assoc _ _ _)).trans (List.perm_append_comm_assoc _ _ _))).trans (List.perm_append_comm_assoc _ _ _)).trans (List.Perm.append_left _ ((List.perm_append_comm_assoc _ _ _).trans (List.Perm.append_left _ (((List.Perm.append_left _ (List.perm_append_comm_assoc _ _ _)).trans (List.perm_append_comm_assoc _ _ _)).trans (List.Perm.append_left _ ((List.Perm.append_left _ (List.perm_append_comm_assoc _ _ _)).trans (List.perm_append_comm_assoc _ _ _))))))))
  have hP := vP_perm hpm hP
  have hD := vD_perm hpm hD
  clear hpm
  obtain ⟨hP, hD⟩ := bq_upd (X := ([(oA, .inl (cA 1, 1, .inr (.inl u9.2)))]) ++ (w_P a cA Pp.1 Pp.2.1 Pp.2.2.1 Pp.2.2.2 bd) ++ (w_S sb cA Sp.1 Sp.2.1 Sp.2.2.1 Sp.2.2.2) ++ (w_Y yA cA Yp.1 Yp.2.1 Yp.2.2.1 Yp.2.2.2) ++ (w_M am cA um.1 um.2.1 um.2.2.1 um.2.2.2)) (n := n) u9.1 hn4 hP hD
  have hP : va_P D ncl (([(oA, .inl (cA 1, 1, .inr (.inl u9.2)))]) ++ (w_P a cA Pp.1 Pp.2.1 Pp.2.2.1 Pp.2.2.2 bd) ++ (w_S sb cA Sp.1 Sp.2.1 Sp.2.2.1 Sp.2.2.2) ++ (w_Y yA cA Yp.1 Yp.2.1 Yp.2.2.1 Yp.2.2.2) ++ (w_M am cA um.1 um.2.1 um.2.2.1 um.2.2.2) ++ (w_B (bb 0) cA ((va_up Bi n u9.1.1) 0) ((va_up Bl n u9.1.2.1) 0) ((va_up Bj n u9.1.2.2.1) 0) ((va_up Bk n u9.1.2.2.2) 0)) ++ (w_B (bb 1) cA ((va_up Bi n u9.1.1) 1) ((va_up Bl n u9.1.2.1) 1) ((va_up Bj n u9.1.2.2.1) 1) ((va_up Bk n u9.1.2.2.2) 1)) ++ (w_B (bb 2) cA ((va_up Bi n u9.1.1) 2) ((va_up Bl n u9.1.2.1) 2) ((va_up Bj n u9.1.2.2.1) 2) ((va_up Bk n u9.1.2.2.2) 2)) ++ (w_B (bb 3) cA ((va_up Bi n u9.1.1) 3) ((va_up Bl n u9.1.2.1) 3) ((va_up Bj n u9.1.2.2.1) 3) ((va_up Bk n u9.1.2.2.2) 3))) H := hP
  have hD : va_D (fun q => s.heap.size ≤ q) (([(oA, .inl (cA 1, 1, .inr (.inl u9.2)))]) ++ (w_P a cA Pp.1 Pp.2.1 Pp.2.2.1 Pp.2.2.2 bd) ++ (w_S sb cA Sp.1 Sp.2.1 Sp.2.2.1 Sp.2.2.2) ++ (w_Y yA cA Yp.1 Yp.2.1 Yp.2.2.1 Yp.2.2.2) ++ (w_M am cA um.1 um.2.1 um.2.2.1 um.2.2.2) ++ (w_B (bb 0) cA ((va_up Bi n u9.1.1) 0) ((va_up Bl n u9.1.2.1) 0) ((va_up Bj n u9.1.2.2.1) 0) ((va_up Bk n u9.1.2.2.2) 0)) ++ (w_B (bb 1) cA ((va_up Bi n u9.1.1) 1) ((va_up Bl n u9.1.2.1) 1) ((va_up Bj n u9.1.2.2.1) 1) ((va_up Bk n u9.1.2.2.2) 1)) ++ (w_B (bb 2) cA ((va_up Bi n u9.1.1) 2) ((va_up Bl n u9.1.2.1) 2) ((va_up Bj n u9.1.2.2.1) 2) ((va_up Bk n u9.1.2.2.2) 2)) ++ (w_B (bb 3) cA ((va_up Bi n u9.1.1) 3) ((va_up Bl n u9.1.2.1) 3) ((va_up Bj n u9.1.2.2.1) 3) ((va_up Bk n u9.1.2.2.2) 3))) := hD
  refine lv_if_ne (tgt := 929) hx hb d_L_law_907 (by decide) (fun d36 => ?_) (fun d36 => ?_)
  · refine lv_goto (tgt := 1460) hx hb d_L_law_929 (by decide) ?_
    exact kk Pp Sp Yp um (va_up Bi n u9.1.1) (va_up Bl n u9.1.2.1) (va_up Bj n u9.1.2.2.1) (va_up Bk n u9.1.2.2.2) u9.2 _ _ hP hD hS t3 ls (lv_sub hl [2, 3, 4, 5, 6] rfl)
  · have t4 := t2 (show kx = 0 from d36)
    refine lv_aload_n hx hb d_L_law_910 rfl (lv_at hl 5 rfl) ?_
    refine lv_iconst (v := 0) hx hb d_L_law_911 (by decide) ?_
    refine va_lald hx hb hK hP 0 1 rfl rfl (by unfold vp_in; decide) d_L_law_912 ?_
    refine lv_topl (fun z37 ez37 => ?_)
    obtain rfl : z37 = (u9.2 0) := by rw [ez37]; rfl
    refine lv_iload hx hb d_L_law_913 (lv_at hl 0 rfl) ?_
    refine lv_if_eq (tgt := 922) hx hb d_L_law_915 (by decide) (fun f38 => ?_) (fun f38 => ?_)
    · refine lv_lconst (v := 0) hx hb d_L_law_922 (by decide) ?_
      refine W.lcmp hx hb d_L_law_923 ?_
      refine lv_if_eq (tgt := 929) hx hb d_L_law_924 (by decide) (fun _ => ?_) (fun k39 => by first | exact absurd ((lg_cmp_eq _ _).mpr (t4.trans (if_pos f38))) k39 | exact absurd k39 ((lg_cmp_eq _ _).mpr (t4.trans (if_pos f38))))
      refine lv_goto (tgt := 1460) hx hb d_L_law_929 (by decide) ?_
      exact kk Pp Sp Yp um (va_up Bi n u9.1.1) (va_up Bl n u9.1.2.1) (va_up Bj n u9.1.2.2.1) (va_up Bk n u9.1.2.2.2) u9.2 _ _ hP hD hS t3 ls (lv_sub hl [2, 3, 4, 5, 6] rfl)
    · refine lv_lconst (v := 1) hx hb d_L_law_918 (by decide) ?_
      refine lv_goto (tgt := 923) hx hb d_L_law_919 (by decide) ?_
      refine W.lcmp hx hb d_L_law_923 ?_
      refine lv_if_eq (tgt := 929) hx hb d_L_law_924 (by decide) (fun _ => ?_) (fun k40 => by first | exact absurd ((lg_cmp_eq _ _).mpr (t4.trans (if_neg f38))) k40 | exact absurd k40 ((lg_cmp_eq _ _).mpr (t4.trans (if_neg f38))))
      refine lv_goto (tgt := 1460) hx hb d_L_law_929 (by decide) ?_
      exact kk Pp Sp Yp um (va_up Bi n u9.1.1) (va_up Bl n u9.1.2.1) (va_up Bj n u9.1.2.2.1) (va_up Bk n u9.1.2.2.2) u9.2 _ _ hP hD hS t3 ls (lv_sub hl [2, 3, 4, 5, 6] rfl)
set_option maxHeartbeats 4000000 in
set_option maxRecDepth 100000 in
theorem lc_wants {p : Program} {l : Launch} {e : Env} {s : State} {m : MethodId} {below : List Frame} {meth : Method} {c : Code} {Q : State → Prop} {D : va_G} {cA sa : Nat → Nat} (Z : zE l s D cA sa) (N9 : zN s) (hx : p.tables.exec = Jvm.exec) (hb : c.code = code) (hml : c.maxLocals = 8) (hown : s.vm.findClass R_L = some m.cls) (hg : gl s s) (hK : va_K D ncl (ty0 cA) s) {b L : Nat} {xs : Nat → Int32} (hX : va_X b L xs s s.heap) (hbl : b < s.heap.size) (hL : L ≤ 4098) {a sb yA bd am : Nat → Nat} {oA : Nat} {bb : Nat → Nat → Nat} (hsa : sb 0 = a 5) (hya : yA 0 = a 6) (hbd : ∀ k, k < 4 → bd k = bb k 0) {i cl sl : Nat} (hi : i + 8 ≤ L) (hcl : cl + 5 ≤ 601024) (hsl : sl + 30 ≤ 7293000) {Pp Sp Yp Mp : St} {Bi : Nat → Nat → Int32} {Bl : Nat → Nat → Int64} {Bj : Nat → Nat → Nat → Int32} {Bk : Nat → Nat → Nat → Int64} {oF : Nat → Int64} (hI : INV Pp Sp Yp Mp Bi Bl Bk) (kk : ∀ (P1 S1 Y1 M1 : St) (Bi1 : Nat → Nat → Int32) (Bl1 : Nat → Nat → Int64) (Bj1 : Nat → Nat → Nat → Int32) (Bk1 : Nat → Nat → Nat → Int64) (oF1 : Nat → Int64) (H : Heap) (locs : List Loc), va_P D ncl (([(oA, .inl (cA 1, 1, .inr (.inl oF1)))]) ++ (w_P a cA P1.1 P1.2.1 P1.2.2.1 P1.2.2.2 bd) ++ (w_S sb cA S1.1 S1.2.1 S1.2.2.1 S1.2.2.2) ++ (w_Y yA cA Y1.1 Y1.2.1 Y1.2.2.1 Y1.2.2.2) ++ (w_M am cA M1.1 M1.2.1 M1.2.2.1 M1.2.2.2) ++ (w_B (bb 0) cA (Bi1 0) (Bl1 0) (Bj1 0) (Bk1 0)) ++ (w_B (bb 1) cA (Bi1 1) (Bl1 1) (Bj1 1) (Bk1 1)) ++ (w_B (bb 2) cA (Bi1 2) (Bl1 2) (Bj1 2) (Bk1 2)) ++ (w_B (bb 3) cA (Bi1 3) (Bl1 3) (Bj1 3) (Bk1 3))) H → va_D (fun q => s.heap.size ≤ q) (([(oA, .inl (cA 1, 1, .inr (.inl oF1)))]) ++ (w_P a cA P1.1 P1.2.1 P1.2.2.1 P1.2.2.2 bd) ++ (w_S sb cA S1.1 S1.2.1 S1.2.2.1 S1.2.2.2) ++ (w_Y yA cA Y1.1 Y1.2.1 Y1.2.2.1 Y1.2.2.2) ++ (w_M am cA M1.1 M1.2.1 M1.2.2.1 M1.2.2.2) ++ (w_B (bb 0) cA (Bi1 0) (Bl1 0) (Bj1 0) (Bk1 0)) ++ (w_B (bb 1) cA (Bi1 1) (Bl1 1) (Bj1 1) (Bk1 1)) ++ (w_B (bb 2) cA (Bi1 2) (Bl1 2) (Bj1 2) (Bk1 2)) ++ (w_B (bb 3) cA (Bi1 3) (Bl1 3) (Bj1 3) (Bk1 3))) → va_S (fun q => s.heap.size ≤ q) s.heap H locs → INV P1 S1 Y1 M1 Bi1 Bl1 Bk1 → ∀ ls : Array Slot, lv_has ls 8 [(0, .ref b), (1, .ref (a 0)), (2, .ref (am 0)), (3, .ref oA), (4, .int (nI i))] → W p l e room_1 s m #[Value.ref b] below meth c H locs (cl + 5) (sl + 30) Q (F0 m 1460 ls [])) {H : Heap} {locs : List Loc} (hP : va_P D ncl (([(oA, .inl (cA 1, 1, .inr (.inl oF)))]) ++ (w_P a cA Pp.1 Pp.2.1 Pp.2.2.1 Pp.2.2.2 bd) ++ (w_S sb cA Sp.1 Sp.2.1 Sp.2.2.1 Sp.2.2.2) ++ (w_Y yA cA Yp.1 Yp.2.1 Yp.2.2.1 Yp.2.2.2) ++ (w_M am cA Mp.1 Mp.2.1 Mp.2.2.1 Mp.2.2.2) ++ (w_B (bb 0) cA (Bi 0) (Bl 0) (Bj 0) (Bk 0)) ++ (w_B (bb 1) cA (Bi 1) (Bl 1) (Bj 1) (Bk 1)) ++ (w_B (bb 2) cA (Bi 2) (Bl 2) (Bj 2) (Bk 2)) ++ (w_B (bb 3) cA (Bi 3) (Bl 3) (Bj 3) (Bk 3))) H) (hD : va_D (fun q => s.heap.size ≤ q) (([(oA, .inl (cA 1, 1, .inr (.inl oF)))]) ++ (w_P a cA Pp.1 Pp.2.1 Pp.2.2.1 Pp.2.2.2 bd) ++ (w_S sb cA Sp.1 Sp.2.1 Sp.2.2.1 Sp.2.2.2) ++ (w_Y yA cA Yp.1 Yp.2.1 Yp.2.2.1 Yp.2.2.2) ++ (w_M am cA Mp.1 Mp.2.1 Mp.2.2.1 Mp.2.2.2) ++ (w_B (bb 0) cA (Bi 0) (Bl 0) (Bj 0) (Bk 0)) ++ (w_B (bb 1) cA (Bi 1) (Bl 1) (Bj 1) (Bk 1)) ++ (w_B (bb 2) cA (Bi 2) (Bl 2) (Bj 2) (Bk 2)) ++ (w_B (bb 3) cA (Bi 3) (Bl 3) (Bj 3) (Bk 3)))) (hS : va_S (fun q => s.heap.size ≤ q) s.heap H locs) {ls : Array Slot} (hl : lv_has ls 8 [(0, .ref b), (1, .ref (a 0)), (2, .ref (am 0)), (3, .ref oA), (4, .int (nI i))]) : W p l e room_1 s m #[Value.ref b] below meth c H locs cl sl Q (F0 m 1385 ls []) := by
  have hA : ∀ q, s.heap.size ≤ q → (fun q => s.heap.size ≤ q) q := fun _ h => h
  have hlo : ∀ q, (fun q => s.heap.size ≤ q) q → s.heap.size ≤ q := fun _ h => h
  have hbA : ¬ (fun q : Nat => s.heap.size ≤ q) b := Nat.not_le.mpr hbl
  obtain ⟨w, h, nb, g, l0, y0, g0, r, nc, np, wt, X, Y, rw, bf, i1, i2, i3, i4, i5, i6, i7, i8, i9, i10, i11⟩ := id hI
  have hnb4 := i2.2.2
  obtain ⟨n, hn4, hnk⟩ := pick (xs (i + 1)) hnb4
  have hbdn : ∀ k, k < nb → (xs (i + 1)) = nI k → bd k = bb n 0 := fun k hk e => by rw [hnk k hk e]; exact hbd n hn4
  obtain ⟨hP, hD⟩ := bq_in (F := (fun k => w_B (bb k) cA (Bi k) (Bl k) (Bj k) (Bk k))) (X := ([(oA, .inl (cA 1, 1, .inr (.inl oF)))]) ++ (w_P a cA Pp.1 Pp.2.1 Pp.2.2.1 Pp.2.2.2 bd) ++ (w_S sb cA Sp.1 Sp.2.1 Sp.2.2.1 Sp.2.2.2) ++ (w_Y yA cA Yp.1 Yp.2.1 Yp.2.2.1 Yp.2.2.2) ++ (w_M am cA Mp.1 Mp.2.1 Mp.2.2.1 Mp.2.2.2)) (n := n) hn4 hP hD
  have hP : va_P D ncl (([(oA, .inl (cA 1, 1, .inr (.inl oF)))]) ++ (w_P a cA Pp.1 Pp.2.1 Pp.2.2.1 Pp.2.2.2 bd) ++ (w_S sb cA Sp.1 Sp.2.1 Sp.2.2.1 Sp.2.2.2) ++ (w_Y yA cA Yp.1 Yp.2.1 Yp.2.2.1 Yp.2.2.2) ++ (w_M am cA Mp.1 Mp.2.1 Mp.2.2.1 Mp.2.2.2) ++ (w_B (bb n) cA (Bi n) (Bl n) (Bj n) (Bk n)) ++ (w_B (bb (pn n 0)) cA (Bi (pn n 0)) (Bl (pn n 0)) (Bj (pn n 0)) (Bk (pn n 0))) ++ (w_B (bb (pn n 1)) cA (Bi (pn n 1)) (Bl (pn n 1)) (Bj (pn n 1)) (Bk (pn n 1))) ++ (w_B (bb (pn n 2)) cA (Bi (pn n 2)) (Bl (pn n 2)) (Bj (pn n 2)) (Bk (pn n 2)))) H := hP
  have hD : va_D (fun q => s.heap.size ≤ q) (([(oA, .inl (cA 1, 1, .inr (.inl oF)))]) ++ (w_P a cA Pp.1 Pp.2.1 Pp.2.2.1 Pp.2.2.2 bd) ++ (w_S sb cA Sp.1 Sp.2.1 Sp.2.2.1 Sp.2.2.2) ++ (w_Y yA cA Yp.1 Yp.2.1 Yp.2.2.1 Yp.2.2.2) ++ (w_M am cA Mp.1 Mp.2.1 Mp.2.2.1 Mp.2.2.2) ++ (w_B (bb n) cA (Bi n) (Bl n) (Bj n) (Bk n)) ++ (w_B (bb (pn n 0)) cA (Bi (pn n 0)) (Bl (pn n 0)) (Bj (pn n 0)) (Bk (pn n 0))) ++ (w_B (bb (pn n 1)) cA (Bi (pn n 1)) (Bl (pn n 1)) (Bj (pn n 1)) (Bk (pn n 1))) ++ (w_B (bb (pn n 2)) cA (Bi (pn n 2)) (Bl (pn n 2)) (Bj (pn n 2)) (Bk (pn n 2)))) := hD
  refine lv_aload_n hx hb d_L_law_1385 rfl (lv_at hl 1 rfl) ?_
  refine lv_aload_n hx hb d_L_law_1386 rfl (lv_at hl 0 rfl) ?_
  refine lv_iload hx hb d_L_law_1387 (lv_at hl 4 rfl) ?_
  refine lv_iconst (v := 1) hx hb d_L_law_1389 (by decide) ?_
  refine lv_iadd hx hb d_L_law_1390 ?_
  refine lv_topi (fun z1 ez1 => ?_)
  obtain rfl : z1 = (nI (i + 1)) := by rw [ez1]; exact nI_add i 1
  refine va_sld hx hb hX hbl hbA hS (vp_in_nI (n := i + 1) (N := L) (by omega) (by omega)) d_L_law_1391 ?_
  refine lv_topi (fun z2 ez2 => ?_)
  rw [nI_clamp (n := i + 1) (by omega)] at ez2
  obtain rfl : z2 = xs (i + 1) := ez2
  refine lv_aload_n hx hb d_L_law_1392 rfl (lv_at hl 0 rfl) ?_
  refine lv_iload hx hb d_L_law_1393 (lv_at hl 4 rfl) ?_
  refine lv_iconst (v := 2) hx hb d_L_law_1395 (by decide) ?_
  refine lv_iadd hx hb d_L_law_1396 ?_
  refine lv_topi (fun z3 ez3 => ?_)
  obtain rfl : z3 = (nI (i + 2)) := by rw [ez3]; exact nI_add i 2
  refine va_sld hx hb hX hbl hbA hS (vp_in_nI (n := i + 2) (N := L) (by omega) (by omega)) d_L_law_1397 ?_
  refine lv_topi (fun z4 ez4 => ?_)
  rw [nI_clamp (n := i + 2) (by omega)] at ez4
  obtain rfl : z4 = xs (i + 2) := ez4
  refine lv_aload_n hx hb d_L_law_1398 rfl (lv_at hl 3 rfl) ?_
  have hpm : List.Perm (([(oA, .inl (cA 1, 1, .inr (.inl oF)))]) ++ (w_P a cA Pp.1 Pp.2.1 Pp.2.2.1 Pp.2.2.2 bd) ++ (w_S sb cA Sp.1 Sp.2.1 Sp.2.2.1 Sp.2.2.2) ++ (w_Y yA cA Yp.1 Yp.2.1 Yp.2.2.1 Yp.2.2.2) ++ (w_M am cA Mp.1 Mp.2.1 Mp.2.2.1 Mp.2.2.2) ++ (w_B (bb n) cA (Bi n) (Bl n) (Bj n) (Bk n)) ++ (w_B (bb (pn n 0)) cA (Bi (pn n 0)) (Bl (pn n 0)) (Bj (pn n 0)) (Bk (pn n 0))) ++ (w_B (bb (pn n 1)) cA (Bi (pn n 1)) (Bl (pn n 1)) (Bj (pn n 1)) (Bk (pn n 1))) ++ (w_B (bb (pn n 2)) cA (Bi (pn n 2)) (Bl (pn n 2)) (Bj (pn n 2)) (Bk (pn n 2)))) (((w_P a cA Pp.1 Pp.2.1 Pp.2.2.1 Pp.2.2.2 bd) ++ (w_B (bb n) cA (Bi n) (Bl n) (Bj n) (Bk n)) ++ ([(oA, .inl (cA 1, 1, .inr (.inl oF)))])) ++ ((w_S sb cA Sp.1 Sp.2.1 Sp.2.2.1 Sp.2.2.2) ++ (w_Y yA cA Yp.1 Yp.2.1 Yp.2.2.1 Yp.2.2.2) ++ (w_M am cA Mp.1 Mp.2.1 Mp.2.2.1 Mp.2.2.2) ++ (w_B (bb (pn n 0)) cA (Bi (pn n 0)) (Bl (pn n 0)) (Bj (pn n 0)) (Bk (pn n 0))) ++ (w_B (bb (pn n 1)) cA (Bi (pn n 1)) (Bl (pn n 1)) (Bj (pn n 1)) (Bk (pn n 1))) ++ (w_B (bb (pn n 2)) cA (Bi (pn n 2)) (Bl (pn n 2)) (Bj (pn n 2)) (Bk (pn n 2))))) := by simp only [List.append_assoc]; exact ((List.perm_append_comm_assoc _ _ _).trans (List.Perm.append_left _ ((List.Perm.append_left _ ((List.Perm.append_left _ ((List.Perm.append_left _ (List.perm_append_comm_assoc _ _ _)).trans (List.perm_append_comm_assoc _ _ _))).trans (List.perm_append_comm_assoc _ _ _))).trans (List.perm_append_comm_assoc _ _ _))))
  have hP := vP_perm hpm hP
  have hD := vD_perm hpm hD
  clear hpm
  refine pt_calli (wt_runSW (rest := []) hx hb hml hown hl.1 hg hlo (vP_l hP) (vD_l hD) hS (m_L_wants Z N9 a Pp.1 Pp.2.1 Pp.2.2.1 Pp.2.2.2 bd (bb n) (Bi n) (Bl n) (Bj n) (Bk n) (xs (i + 1)) (xs (i + 2)) nb i2.1 hnb4 hbdn oA oF H.size) (kw588 Z.1) (kw589 Z.1) (kw590 Z.1) (kw0 Z.1) ⟨by decide, by decide, (by decide +kernel : (parseMethodDescriptor y_L_wants.desc).map (fun d => d.parameters.length) = some 4)⟩ ⟨(Nat.le_of_ble_eq_true rfl), (Nat.le_of_ble_eq_true rfl)⟩ [0, 1, 2, 3, 4, 5, 6, 7, 8, 9] rfl rfl rfl (Nat.le_of_ble_eq_true rfl) d_L_law_1399 ⟨by show cl + 2 ≤ 601024; omega, by show sl + 12 ≤ 7293000; omega⟩) hP hD hS hA (fun kx u9 H locs hq hP hD hS => ?_)
  refine W.widen (k := cl + 5) (n := sl + 30) (by show cl + 2 ≤ cl + 5; omega) (by show sl + 12 ≤ sl + 30; omega) ?_
  have hP : va_P D ncl (((w_P a cA Pp.1 Pp.2.1 Pp.2.2.1 Pp.2.2.2 bd) ++ (w_B (bb n) cA u9.1 (Bl n) (Bj n) (Bk n)) ++ ([(oA, .inl (cA 1, 1, .inr (.inl u9.2)))])) ++ ((w_S sb cA Sp.1 Sp.2.1 Sp.2.2.1 Sp.2.2.2) ++ (w_Y yA cA Yp.1 Yp.2.1 Yp.2.2.1 Yp.2.2.2) ++ (w_M am cA Mp.1 Mp.2.1 Mp.2.2.1 Mp.2.2.2) ++ (w_B (bb (pn n 0)) cA (Bi (pn n 0)) (Bl (pn n 0)) (Bj (pn n 0)) (Bk (pn n 0))) ++ (w_B (bb (pn n 1)) cA (Bi (pn n 1)) (Bl (pn n 1)) (Bj (pn n 1)) (Bk (pn n 1))) ++ (w_B (bb (pn n 2)) cA (Bi (pn n 2)) (Bl (pn n 2)) (Bj (pn n 2)) (Bk (pn n 2))))) H := hP
  have hD : va_D (fun q => s.heap.size ≤ q) (((w_P a cA Pp.1 Pp.2.1 Pp.2.2.1 Pp.2.2.2 bd) ++ (w_B (bb n) cA u9.1 (Bl n) (Bj n) (Bk n)) ++ ([(oA, .inl (cA 1, 1, .inr (.inl u9.2)))])) ++ ((w_S sb cA Sp.1 Sp.2.1 Sp.2.2.1 Sp.2.2.2) ++ (w_Y yA cA Yp.1 Yp.2.1 Yp.2.2.1 Yp.2.2.2) ++ (w_M am cA Mp.1 Mp.2.1 Mp.2.2.1 Mp.2.2.2) ++ (w_B (bb (pn n 0)) cA (Bi (pn n 0)) (Bl (pn n 0)) (Bj (pn n 0)) (Bk (pn n 0))) ++ (w_B (bb (pn n 1)) cA (Bi (pn n 1)) (Bl (pn n 1)) (Bj (pn n 1)) (Bk (pn n 1))) ++ (w_B (bb (pn n 2)) cA (Bi (pn n 2)) (Bl (pn n 2)) (Bj (pn n 2)) (Bk (pn n 2))))) := hD
  refine lv_istore (lv' := [(5, .int kx), (0, .ref b), (1, .ref (a 0)), (2, .ref (am 0)), (3, .ref oA), (4, .int (nI i))]) hx hb d_L_law_1402 hl (by decide) rfl (fun ls hl => ?_)
  refine lv_aload_n hx hb d_L_law_1404 rfl (lv_at hl 3 rfl) ?_
  refine lv_aload_n hx hb d_L_law_1405 rfl (lv_at hl 1 rfl) ?_
  refine lv_iload hx hb d_L_law_1406 (lv_at hl 5 rfl) ?_
  refine lv_iconst (v := 1) hx hb d_L_law_1408 (by decide) ?_
  refine lv_iadd hx hb d_L_law_1409 ?_
  refine lv_topi (fun z5 ez5 => ?_)
  obtain rfl : z5 = (nI (i + 1)) := by rw [ez5]; exact nI_add i 1
  refine va_sld hx hb hX hbl hbA hS (vp_in_nI (n := i + 1) (N := L) (by omega) (by omega)) d_L_law_1410 ?_
  refine lv_topi (fun z6 ez6 => ?_)
  rw [nI_clamp (n := i + 1) (by omega)] at ez6
  obtain rfl : z6 = xs (i + 1) := ez6
  refine lv_aload_n hx hb d_L_law_1411 rfl (lv_at hl 1 rfl) ?_
  refine lv_iload hx hb d_L_law_1412 (lv_at hl 5 rfl) ?_
  refine lv_iconst (v := 2) hx hb d_L_law_1414 (by decide) ?_
  refine lv_iadd hx hb d_L_law_1415 ?_
  refine lv_topi (fun z7 ez7 => ?_)
  obtain rfl : z7 = (nI (i + 2)) := by rw [ez7]; exact nI_add i 2
  refine va_sld hx hb hX hbl hbA hS (vp_in_nI (n := i + 2) (N := L) (by omega) (by omega)) d_L_law_1416 ?_
  refine lv_topi (fun z8 ez8 => ?_)
  rw [nI_clamp (n := i + 2) (by omega)] at ez8
  obtain rfl : z8 = xs (i + 2) := ez8
  have hpm : List.Perm (((w_P a cA Pp.1 Pp.2.1 Pp.2.2.1 Pp.2.2.2 bd) ++ (w_B (bb n) cA u9.1 (Bl n) (Bj n) (Bk n)) ++ ([(oA, .inl (cA 1, 1, .inr (.inl u9.2)))])) ++ ((w_S sb cA Sp.1 Sp.2.1 Sp.2.2.1 Sp.2.2.2) ++ (w_Y yA cA Yp.1 Yp.2.1 Yp.2.2.1 Yp.2.2.2) ++ (w_M am cA Mp.1 Mp.2.1 Mp.2.2.1 Mp.2.2.2) ++ (w_B (bb (pn n 0)) cA (Bi (pn n 0)) (Bl (pn n 0)) (Bj (pn n 0)) (Bk (pn n 0))) ++ (w_B (bb (pn n 1)) cA (Bi (pn n 1)) (Bl (pn n 1)) (Bj (pn n 1)) (Bk (pn n 1))) ++ (w_B (bb (pn n 2)) cA (Bi (pn n 2)) (Bl (pn n 2)) (Bj (pn n 2)) (Bk (pn n 2))))) (((w_M am cA Mp.1 Mp.2.1 Mp.2.2.1 Mp.2.2.2)) ++ ((w_P a cA Pp.1 Pp.2.1 Pp.2.2.1 Pp.2.2.2 bd) ++ (w_B (bb n) cA u9.1 (Bl n) (Bj n) (Bk n)) ++ ([(oA, .inl (cA 1, 1, .inr (.inl u9.2)))]) ++ (w_S sb cA Sp.1 Sp.2.1 Sp.2.2.1 Sp.2.2.2) ++ (w_Y yA cA Yp.1 Yp.2.1 Yp.2.2.1 Yp.2.2.2) ++ (w_B (bb (pn n 0)) cA (Bi (pn n 0)) (Bl (pn n 0)) (Bj (pn n 0)) (Bk (pn n 0))) ++ (w_B (bb (pn n 1)) cA (Bi (pn n 1)) (Bl (pn n 1)) (Bj (pn n 1)) (Bk (pn n 1))) ++ (w_B (bb (pn n 2)) cA (Bi (pn n 2)) (Bl (pn n 2)) (Bj (pn n 2)) (Bk (pn n 2))))) := by simp only [List.append_assoc]; exact ((List.Perm.append_left _ ((List.Perm.append_left _ ((List.Perm.append_left _ ((List.Perm.append_left _ (List.perm_append_comm_assoc _ _ _)).trans (List.perm_append_comm_assoc _ _ _))).trans (List.perm_append_comm_assoc _ _ _))).trans (List.perm_append_comm_assoc _ _ _))).trans (List.perm_append_comm_assoc _ _ _))
  have hP := vP_perm hpm hP
  have hD := vD_perm hpm hD
  clear hpm
  refine p_calli (w_runV (rest := []) hx hb hml hown hl.1 hg hlo hK (vP_l hP) (vD_l hD) hS (m_M_wants Z am Mp.1 Mp.2.1 Mp.2.2.1 Mp.2.2.2 (xs (i + 1)) (xs (i + 2)) nb i2.2.1 hnb4 H.size) (kw718 Z.1) (kw719 Z.1) (kw720 Z.1) (kw721 Z.1) (kw6 Z.1) ⟨by decide, by decide, (by decide +kernel : (parseMethodDescriptor y_M_wants.desc).map (fun d => d.parameters.length) = some 2)⟩ ⟨(Nat.le_of_ble_eq_true rfl), (Nat.le_of_ble_eq_true rfl)⟩ [0, 1, 2, 3, 4, 5, 6, 7, 8, 9, 10, 11, 12, 13, 14, 15, 16] rfl rfl (ci := 1) (q0 := 0) rfl rfl rfl (Nat.le_of_ble_eq_true rfl) d_L_law_1417 ⟨by show cl + 5 + 0 ≤ 601024; omega, by show sl + 30 + 0 ≤ 7293000; omega⟩) hP hD hS hA (fun rm um H locs hm hP hD hS => ?_)
  refine W.widen (k := cl + 5) (n := sl + 30) (by show cl + 5 + 0 ≤ cl + 5; omega) (by show sl + 30 + 0 ≤ sl + 30; omega) ?_
  have hP : va_P D ncl (((w_M am cA um.1 um.2.1 um.2.2.1 um.2.2.2)) ++ ((w_P a cA Pp.1 Pp.2.1 Pp.2.2.1 Pp.2.2.2 bd) ++ (w_B (bb n) cA u9.1 (Bl n) (Bj n) (Bk n)) ++ ([(oA, .inl (cA 1, 1, .inr (.inl u9.2)))]) ++ (w_S sb cA Sp.1 Sp.2.1 Sp.2.2.1 Sp.2.2.2) ++ (w_Y yA cA Yp.1 Yp.2.1 Yp.2.2.1 Yp.2.2.2) ++ (w_B (bb (pn n 0)) cA (Bi (pn n 0)) (Bl (pn n 0)) (Bj (pn n 0)) (Bk (pn n 0))) ++ (w_B (bb (pn n 1)) cA (Bi (pn n 1)) (Bl (pn n 1)) (Bj (pn n 1)) (Bk (pn n 1))) ++ (w_B (bb (pn n 2)) cA (Bi (pn n 2)) (Bl (pn n 2)) (Bj (pn n 2)) (Bk (pn n 2))))) H := hP
  have hD : va_D (fun q => s.heap.size ≤ q) (((w_M am cA um.1 um.2.1 um.2.2.1 um.2.2.2)) ++ ((w_P a cA Pp.1 Pp.2.1 Pp.2.2.1 Pp.2.2.2 bd) ++ (w_B (bb n) cA u9.1 (Bl n) (Bj n) (Bk n)) ++ ([(oA, .inl (cA 1, 1, .inr (.inl u9.2)))]) ++ (w_S sb cA Sp.1 Sp.2.1 Sp.2.2.1 Sp.2.2.2) ++ (w_Y yA cA Yp.1 Yp.2.1 Yp.2.2.1 Yp.2.2.2) ++ (w_B (bb (pn n 0)) cA (Bi (pn n 0)) (Bl (pn n 0)) (Bj (pn n 0)) (Bk (pn n 0))) ++ (w_B (bb (pn n 1)) cA (Bi (pn n 1)) (Bl (pn n 1)) (Bj (pn n 1)) (Bk (pn n 1))) ++ (w_B (bb (pn n 2)) cA (Bi (pn n 2)) (Bl (pn n 2)) (Bj (pn n 2)) (Bk (pn n 2))))) := hD
  obtain ⟨t1, t2, t3⟩ := tie_wants (oF := oF) hI i2.1 hnb4 hn4 hnk hq hm
  refine lv_istore (lv' := [(6, .int rm), (5, .int kx), (0, .ref b), (1, .ref (a 0)), (2, .ref (am 0)), (3, .ref oA), (4, .int (nI i))]) hx hb d_L_law_1420 hl (by decide) rfl (fun ls hl => ?_)
  refine lv_aload_n hx hb d_L_law_1422 rfl (lv_at hl 4 rfl) ?_
  refine p_calli (w_runV (rest := []) hx hb hml hown hl.1 hg hlo hK (vP_l hP) (vD_l hD) hS (m_M_thrown Z am um.1 um.2.1 um.2.2.1 um.2.2.2 H.size) (kw683 Z.1) (kw684 Z.1) (kw685 Z.1) (kw686 Z.1) (kw6 Z.1) ⟨by decide, by decide, (by decide +kernel : (parseMethodDescriptor y_M_thrown.desc).map (fun d => d.parameters.length) = some 0)⟩ ⟨(Nat.le_of_ble_eq_true rfl), (Nat.le_of_ble_eq_true rfl)⟩ [0, 1, 2, 3, 4, 5, 6, 7, 8, 9, 10, 11, 12, 13, 14, 15, 16] rfl rfl (ci := 1) (q0 := 0) rfl rfl rfl (Nat.le_of_ble_eq_true rfl) d_L_law_1423 ⟨by show cl + 5 + 0 ≤ 601024; omega, by show sl + 30 + 0 ≤ 7293000; omega⟩) hP hD hS hA (fun rt ut H locs hrt hP hD hS => ?_)
  refine W.widen (k := cl + 5) (n := sl + 30) (by show cl + 5 + 0 ≤ cl + 5; omega) (by show sl + 30 + 0 ≤ sl + 30; omega) ?_
  have hP : va_P D ncl (((w_M am cA um.1 um.2.1 um.2.2.1 um.2.2.2)) ++ ((w_P a cA Pp.1 Pp.2.1 Pp.2.2.1 Pp.2.2.2 bd) ++ (w_B (bb n) cA u9.1 (Bl n) (Bj n) (Bk n)) ++ ([(oA, .inl (cA 1, 1, .inr (.inl u9.2)))]) ++ (w_S sb cA Sp.1 Sp.2.1 Sp.2.2.1 Sp.2.2.2) ++ (w_Y yA cA Yp.1 Yp.2.1 Yp.2.2.1 Yp.2.2.2) ++ (w_B (bb (pn n 0)) cA (Bi (pn n 0)) (Bl (pn n 0)) (Bj (pn n 0)) (Bk (pn n 0))) ++ (w_B (bb (pn n 1)) cA (Bi (pn n 1)) (Bl (pn n 1)) (Bj (pn n 1)) (Bk (pn n 1))) ++ (w_B (bb (pn n 2)) cA (Bi (pn n 2)) (Bl (pn n 2)) (Bj (pn n 2)) (Bk (pn n 2))))) H := hP
  have hD : va_D (fun q => s.heap.size ≤ q) (((w_M am cA um.1 um.2.1 um.2.2.1 um.2.2.2)) ++ ((w_P a cA Pp.1 Pp.2.1 Pp.2.2.1 Pp.2.2.2 bd) ++ (w_B (bb n) cA u9.1 (Bl n) (Bj n) (Bk n)) ++ ([(oA, .inl (cA 1, 1, .inr (.inl u9.2)))]) ++ (w_S sb cA Sp.1 Sp.2.1 Sp.2.2.1 Sp.2.2.2) ++ (w_Y yA cA Yp.1 Yp.2.1 Yp.2.2.1 Yp.2.2.2) ++ (w_B (bb (pn n 0)) cA (Bi (pn n 0)) (Bl (pn n 0)) (Bj (pn n 0)) (Bk (pn n 0))) ++ (w_B (bb (pn n 1)) cA (Bi (pn n 1)) (Bl (pn n 1)) (Bj (pn n 1)) (Bk (pn n 1))) ++ (w_B (bb (pn n 2)) cA (Bi (pn n 2)) (Bl (pn n 2)) (Bj (pn n 2)) (Bk (pn n 2))))) := hD
  subst hrt
  refine lv_iload hx hb d_L_law_1426 (lv_at hl 1 rfl) ?_
  refine lv_icmp_eq (tgt := 1433) hx hb d_L_law_1428 (by decide) (fun _ => ?_) (fun k9 => by first | exact absurd (show um.1 0 = kx from t1) k9 | exact absurd k9 (show um.1 0 = kx from t1))
  refine lv_iload hx hb d_L_law_1433 (lv_at hl 1 rfl) ?_
  have hpm : List.Perm (((w_M am cA um.1 um.2.1 um.2.2.1 um.2.2.2)) ++ ((w_P a cA Pp.1 Pp.2.1 Pp.2.2.1 Pp.2.2.2 bd) ++ (w_B (bb n) cA u9.1 (Bl n) (Bj n) (Bk n)) ++ ([(oA, .inl (cA 1, 1, .inr (.inl u9.2)))]) ++ (w_S sb cA Sp.1 Sp.2.1 Sp.2.2.1 Sp.2.2.2) ++ (w_Y yA cA Yp.1 Yp.2.1 Yp.2.2.1 Yp.2.2.2) ++ (w_B (bb (pn n 0)) cA (Bi (pn n 0)) (Bl (pn n 0)) (Bj (pn n 0)) (Bk (pn n 0))) ++ (w_B (bb (pn n 1)) cA (Bi (pn n 1)) (Bl (pn n 1)) (Bj (pn n 1)) (Bk (pn n 1))) ++ (w_B (bb (pn n 2)) cA (Bi (pn n 2)) (Bl (pn n 2)) (Bj (pn n 2)) (Bk (pn n 2))))) (([(oA, .inl (cA 1, 1, .inr (.inl u9.2)))]) ++ (w_P a cA Pp.1 Pp.2.1 Pp.2.2.1 Pp.2.2.2 bd) ++ (w_S sb cA Sp.1 Sp.2.1 Sp.2.2.1 Sp.2.2.2) ++ (w_Y yA cA Yp.1 Yp.2.1 Yp.2.2.1 Yp.2.2.2) ++ (w_M am cA um.1 um.2.1 um.2.2.1 um.2.2.2) ++ (w_B (bb n) cA u9.1 (Bl n) (Bj n) (Bk n)) ++ (w_B (bb (pn n 0)) cA (Bi (pn n 0)) (Bl (pn n 0)) (Bj (pn n 0)) (Bk (pn n 0))) ++ (w_B (bb (pn n 1)) cA (Bi (pn n 1)) (Bl (pn n 1)) (Bj (pn n 1)) (Bk (pn n 1))) ++ (w_B (bb (pn n 2)) cA (Bi (pn n 2)) (Bl (pn n 2)) (Bj (pn n 2)) (Bk (pn n 2)))) := by simp only [List.append_assoc]; exact (((List.Perm.append_left _ ((List.Perm.append_left _ (List.perm_append_comm_assoc _ _ _)).trans (List.perm_append_comm_assoc _ _ _))).trans (List.perm_append_comm_assoc _ _ _)).trans (List.Perm.append_left _ ((List.perm_append_comm_assoc _ _ _).trans (List.Perm.append_left _ (((List.Perm.append_left _ (List.perm_append_comm_assoc _ _ _)).trans (List.perm_append_comm_assoc _ _ _)).trans (List.Perm.append_left _ ((List.Perm.append_left _ (List.perm_append_comm_assoc _ _ _)).trans (List.perm_append_comm_assoc _ _ _))))))))
  have hP := vP_perm hpm hP
  have hD := vD_perm hpm hD
  clear hpm
  obtain ⟨hP, hD⟩ := bq_upd (X := ([(oA, .inl (cA 1, 1, .inr (.inl u9.2)))]) ++ (w_P a cA Pp.1 Pp.2.1 Pp.2.2.1 Pp.2.2.2 bd) ++ (w_S sb cA Sp.1 Sp.2.1 Sp.2.2.1 Sp.2.2.2) ++ (w_Y yA cA Yp.1 Yp.2.1 Yp.2.2.1 Yp.2.2.2) ++ (w_M am cA um.1 um.2.1 um.2.2.1 um.2.2.2)) (n := n) ((u9.1, Bl n, Bj n, Bk n) : St) hn4 hP hD
  have hP : va_P D ncl (([(oA, .inl (cA 1, 1, .inr (.inl u9.2)))]) ++ (w_P a cA Pp.1 Pp.2.1 Pp.2.2.1 Pp.2.2.2 bd) ++ (w_S sb cA Sp.1 Sp.2.1 Sp.2.2.1 Sp.2.2.2) ++ (w_Y yA cA Yp.1 Yp.2.1 Yp.2.2.1 Yp.2.2.2) ++ (w_M am cA um.1 um.2.1 um.2.2.1 um.2.2.2) ++ (w_B (bb 0) cA ((va_up Bi n u9.1) 0) ((va_up Bl n (Bl n)) 0) ((va_up Bj n (Bj n)) 0) ((va_up Bk n (Bk n)) 0)) ++ (w_B (bb 1) cA ((va_up Bi n u9.1) 1) ((va_up Bl n (Bl n)) 1) ((va_up Bj n (Bj n)) 1) ((va_up Bk n (Bk n)) 1)) ++ (w_B (bb 2) cA ((va_up Bi n u9.1) 2) ((va_up Bl n (Bl n)) 2) ((va_up Bj n (Bj n)) 2) ((va_up Bk n (Bk n)) 2)) ++ (w_B (bb 3) cA ((va_up Bi n u9.1) 3) ((va_up Bl n (Bl n)) 3) ((va_up Bj n (Bj n)) 3) ((va_up Bk n (Bk n)) 3))) H := hP
  have hD : va_D (fun q => s.heap.size ≤ q) (([(oA, .inl (cA 1, 1, .inr (.inl u9.2)))]) ++ (w_P a cA Pp.1 Pp.2.1 Pp.2.2.1 Pp.2.2.2 bd) ++ (w_S sb cA Sp.1 Sp.2.1 Sp.2.2.1 Sp.2.2.2) ++ (w_Y yA cA Yp.1 Yp.2.1 Yp.2.2.1 Yp.2.2.2) ++ (w_M am cA um.1 um.2.1 um.2.2.1 um.2.2.2) ++ (w_B (bb 0) cA ((va_up Bi n u9.1) 0) ((va_up Bl n (Bl n)) 0) ((va_up Bj n (Bj n)) 0) ((va_up Bk n (Bk n)) 0)) ++ (w_B (bb 1) cA ((va_up Bi n u9.1) 1) ((va_up Bl n (Bl n)) 1) ((va_up Bj n (Bj n)) 1) ((va_up Bk n (Bk n)) 1)) ++ (w_B (bb 2) cA ((va_up Bi n u9.1) 2) ((va_up Bl n (Bl n)) 2) ((va_up Bj n (Bj n)) 2) ((va_up Bk n (Bk n)) 2)) ++ (w_B (bb 3) cA ((va_up Bi n u9.1) 3) ((va_up Bl n (Bl n)) 3) ((va_up Bj n (Bj n)) 3) ((va_up Bk n (Bk n)) 3))) := hD
  rw [up_eq Bl n, up_eq Bj n, up_eq Bk n] at hP hD
  refine lv_if_ne (tgt := 1457) hx hb d_L_law_1435 (by decide) (fun d10 => ?_) (fun d10 => ?_)
  · refine lv_goto (tgt := 1460) hx hb d_L_law_1457 (by decide) ?_
    exact kk Pp Sp Yp um (va_up Bi n u9.1) Bl Bj Bk u9.2 _ _ hP hD hS t3 ls (lv_sub hl [2, 3, 4, 5, 6] rfl)
  · have t4 := t2 (show kx = 0 from d10)
    refine lv_aload_n hx hb d_L_law_1438 rfl (lv_at hl 5 rfl) ?_
    refine lv_iconst (v := 0) hx hb d_L_law_1439 (by decide) ?_
    refine va_lald hx hb hK hP 0 1 rfl rfl (by unfold vp_in; decide) d_L_law_1440 ?_
    refine lv_topl (fun z11 ez11 => ?_)
    obtain rfl : z11 = (u9.2 0) := by rw [ez11]; rfl
    refine lv_iload hx hb d_L_law_1441 (lv_at hl 0 rfl) ?_
    refine lv_if_eq (tgt := 1450) hx hb d_L_law_1443 (by decide) (fun f12 => ?_) (fun f12 => ?_)
    · refine lv_lconst (v := 0) hx hb d_L_law_1450 (by decide) ?_
      refine W.lcmp hx hb d_L_law_1451 ?_
      refine lv_if_eq (tgt := 1457) hx hb d_L_law_1452 (by decide) (fun _ => ?_) (fun k13 => by first | exact absurd ((lg_cmp_eq _ _).mpr (t4.trans (if_pos f12))) k13 | exact absurd k13 ((lg_cmp_eq _ _).mpr (t4.trans (if_pos f12))))
      refine lv_goto (tgt := 1460) hx hb d_L_law_1457 (by decide) ?_
      exact kk Pp Sp Yp um (va_up Bi n u9.1) Bl Bj Bk u9.2 _ _ hP hD hS t3 ls (lv_sub hl [2, 3, 4, 5, 6] rfl)
    · refine lv_lconst (v := 1) hx hb d_L_law_1446 (by decide) ?_
      refine lv_goto (tgt := 1451) hx hb d_L_law_1447 (by decide) ?_
      refine W.lcmp hx hb d_L_law_1451 ?_
      refine lv_if_eq (tgt := 1457) hx hb d_L_law_1452 (by decide) (fun _ => ?_) (fun k14 => by first | exact absurd ((lg_cmp_eq _ _).mpr (t4.trans (if_neg f12))) k14 | exact absurd k14 ((lg_cmp_eq _ _).mpr (t4.trans (if_neg f12))))
      refine lv_goto (tgt := 1460) hx hb d_L_law_1457 (by decide) ?_
      exact kk Pp Sp Yp um (va_up Bi n u9.1) Bl Bj Bk u9.2 _ _ hP hD hS t3 ls (lv_sub hl [2, 3, 4, 5, 6] rfl)
